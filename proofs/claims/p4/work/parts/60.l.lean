section
/-! texts, deeds, kept rooms: both calls -/
section
variable {b : Nat × Nat} {g g' : Nat → Nat → Int32} {l : Nat → Nat → Int64} {G T m : Nat} {Lw : Nat → Nat} {x y z i j v : Int32}

theorem xIc_f2 (h : xIc b g G T Lw m) (e : ∀ a, (b.1 ≤ a ∧ a ≤ b.1 + 3) ∨ a = 4 ∨ a = 5 ∨ (43 ≤ a ∧ a < 73) → g' a = g a) (hZ : ∀ r, r < 6 → xsz (g' (23 + 2 * r) 1) 40) (hY : ∀ r, r < 4 → xsz (g' (35 + 2 * r) 1) 60) : xIc b g' G T Lw m := by
  obtain ⟨hb, hp, hR, hx, ⟨hs, hm⟩, hD, hK, _, _⟩ := h
  have e1 : g' (b.1 + 1) = g (b.1 + 1) := e _ (by omega)
  have e3 : g' (b.1 + 3) = g (b.1 + 3) := e _ (by omega)
  refine ⟨hb, xpn_fr (fun i h1 h2 => e i (by omega)) hp, xRm_fr (fun i h1 h2 => e i (by omega)) hR, by rw [e3]; exact hx, ⟨by rw [e 4 (by omega)]; exact hs, hm⟩, by rw [e1, e3]; exact xDk_fr (e 5 (by omega)) hD, fun k hk => ?_, hZ, hY⟩
  rw [e (67 + 2 * k) (by omega), e1, e3]
  rcases hK k hk with z | ⟨n, z1, z2, z3⟩
  · exact Or.inl z
  · exact Or.inr ⟨n, z1, z2, xDk_fr (e (67 + 2 * k + 1) (by omega)) z3⟩
theorem xIr_f2 (h : xIr b g G T Lw m) (e : ∀ a, (b.1 ≤ a ∧ a ≤ b.1 + 3) ∨ a = 5 ∨ (67 ≤ a ∧ a < 73) ∨ (81 ≤ a ∧ a < 89) → g' a = g a) (e73 : g' 73 10 = g 73 10 ∧ g' 73 12 = g 73 12 ∧ g' 73 14 = g 73 14) (hZ : (∀ r, r < 6 → g' 74 r = g' (23 + 2 * r) 1 ∧ ∀ n, n ≤ 40 → g' (23 + 2 * r) 1 = nI n → ∀ i, i < n → g' 75 (40 * r + i) = g' (23 + 2 * r + 1) i)) (hY : ∀ t, t < 4 → g' 76 t = g' (35 + 2 * t) 1 ∧ ∀ n, n ≤ 60 → g' (35 + 2 * t) 1 = nI n → ∀ i, i < n → g' 77 (60 * t + i) = g' (35 + 2 * t + 1) i) : xIr b g' G T Lw m := by
  obtain ⟨hR, hs, hD, hK, _, _⟩ := h
  have e1 : g' (b.1 + 1) = g (b.1 + 1) := e _ (by omega)
  have e3 : g' (b.1 + 3) = g (b.1 + 3) := e _ (by omega)
  have e5 : g' 5 = g 5 := e _ (by omega)
  refine ⟨by rw [e1, e3]; exact xRr_fr e73.1 e73.2.1 (e _ (by omega)) (e _ (by omega)) (e _ (by omega)) hR, by rw [e73.2.2]; exact hs, by rw [e1, e3, e5]; exact xDr_fr (e _ (by omega)) (e _ (by omega)) hD, fun k hk => ?_, hZ, hY⟩
  rw [e 86 (by omega), e 87 (by omega), e 88 (by omega), e (67 + 2 * k) (by omega), e (67 + 2 * k + 1) (by omega)]
  exact hK k hk
theorem xDr_mk {h tx F4 : Nat → Int32} {n : Nat} (hV : xFv h tx T G Lw F4 n) (h8 : ∀ d, d < n → g 84 d = F4 (4 * d) ∧ g 85 d = F4 (4 * d + 1)) : xDr g h tx T G Lw F4 n := fun d hd => by
  obtain ⟨s, k, q1, q2, q3, q4, q5, q6⟩ := hV d hd
  exact ⟨s, k, q1, q2, q3, q4, q5, q6, (h8 d hd).1.trans q3, (h8 d hd).2.trans q4⟩
theorem xDr_8 {h tx F4 : Nat → Int32} {n : Nat} (hD : xDr g h tx T G Lw F4 n) : ∀ d, d < n → g 84 d = F4 (4 * d) ∧ g 85 d = F4 (4 * d + 1) := fun d hd => by
  obtain ⟨s, k, q1, q2, q3, q4, q5, q6, q7, q8⟩ := hD d hd
  exact ⟨q7.trans q3.symm, q8.trans q4.symm⟩
theorem xDk_Fv {h tx : Nat → Int32} {a n : Nat} (hD : xDk g h tx T G Lw a n) : xFv h tx T G Lw (g a) n := hD
theorem xFv_le {h tx F4 : Nat → Int32} {n n' : Nat} (hV : xFv h tx T G Lw F4 n) (hn : n' ≤ n) : xFv h tx T G Lw F4 n' := fun d hd => hV d (by omega)
theorem xFv_cp {h tx F4 F4' : Nat → Int32} {n : Nat} (hV : xFv h tx T G Lw F4 n) (he : ∀ i, i < 4 * n → F4' i = F4 i) : xFv h tx T G Lw F4' n := fun d hd => by
  obtain ⟨s, k, q1, q2, q3, q4, q5, q6⟩ := hV d hd
  have e : xshw h (Lw k / 4) (Lw k % 4) (fun i => xN (F4' (4 * i))) d = xshw h (Lw k / 4) (Lw k % 4) (fun i => xN (F4 (4 * i))) d := xshw_c (fun j hj => by show xN (F4' (4 * j)) = xN (F4 (4 * j)); rw [he (4 * j) (by omega)])
  exact ⟨s, k, q1, q2, by rw [he _ (by omega)]; exact q3, by rw [he _ (by omega)]; exact q4, by rw [he _ (by omega), e]; exact q5, by rw [he _ (by omega), e]; exact q6⟩
theorem xDk_of {h tx : Nat → Int32} {a n : Nat} (hV : xFv h tx T G Lw (g a) n) : xDk g h tx T G Lw a n := hV
theorem xJ2.mk {mc mr : Nat} {as : List Value} {b1 b2 : Nat × Nat} {g1 g2 : Nat → Nat → Int32} {l1 l2 : Nat → Nat → Int64} {α : Type} {kv : α → Value} {v v' : α} {eq : Prop} (h : xT 10 mc (.ref 0 :: as) (xH b g l) (fun r M => M = xH b1 g1 l1 ∧ r = some (kv v))) (h2 : xT 10 mr (.ref 73 :: as) (xH b1 g1 l1) (fun r M => M = xH b2 g2 l2 ∧ r = some (kv v'))) (hJ : xJ b2 g2) (he : eq → v' = v) : xJ2 kv eq mc mr as b g l := h.weak (fun r M z => ⟨v, b1, g1, l1, z.2, z.1, h2.weak (fun r' M' w => ⟨v', b2, g2, l2, w.2, w.1, hJ, he⟩)⟩)
theorem m1n {n : Nat} (h : n < 2 ^ 31) : ¬ (-1 : Int32) = nI n := fun z => nI_nm1 h z.symm

theorem j_text (hJ : xJ b g) : xJ2 Value.int True 84 166 [.int x, .int y] b g l := by
  have hJ1 := hJ
  obtain ⟨G, T, Lw, m, hI, hJr⟩ := hJ
  have hI0 := hI
  have hJ0 := hJr
  obtain ⟨hb, hp, hR, htx, ⟨hs, hm⟩, hD, hK, hZ, hY⟩ := hI
  obtain ⟨hRr, hsr, hDr, hKr, hZr, hYr⟩ := hJr
  obtain ⟨hb1, hb2⟩ := xro_b hb
  have hq := xb2 hb
  have hbv : b.1 = 7 ∨ b.1 = 11 := by omega
  have hbw : b.2 = 7 ∨ b.2 = 11 := by omega
  have eG : g b.1 2 = nI G := hR.1.1
  have hG6 : G ≤ 6 := hR.1.2
  have eGr : g 73 10 = nI G := hRr.1.1
  by_cases hx : (0 ≤ x ∧ x < 4) ∧ y ≤ 60
  · obtain ⟨t, ht, rfl⟩ := xin (n := 4) (by omega) hx.1
    by_cases hy : y < 0
    · exact xJ2.mk (c_X11_text_neg ht hy) (c_X12_text_neg ht hy) (xJ_ag (xAg_t (xAg_C hbw _) (xAg_R _)) hJ1) (fun _ => rfl)
    · obtain ⟨n, hn, rfl⟩ := xinl (n := 60) (by omega) ⟨Int32.not_lt.mp hy, hx.2⟩
      refine xJ2.mk (c_X11_text_ok ht hn) (c_X12_text_ok ht hn) ⟨G, T, Lw, m, ?_⟩ (fun _ => rfl)
      have e0 : ∀ a, a ≠ 76 → a ≠ 77 → a ≠ 35 + 2 * t → a ≠ 35 + 2 * t + 1 → gseg (up (gfill (up g (35 + 2 * t) 1 (nI n)) (35 + 2 * t + 1) n 32) 76 t (nI n)) 77 (60 * t) n (fun _ => 32) a = g a := fun a h1 h2 h3 h4 => by rw [gseg_na h2, up_na h1, gfill_na h4, up_na h3]
      have z1 : gseg (up (gfill (up g (35 + 2 * t) 1 (nI n)) (35 + 2 * t + 1) n 32) 76 t (nI n)) 77 (60 * t) n (fun _ => 32) (35 + 2 * t) 1 = nI n := by rw [gseg_na (by omega), up_na (by omega), gfill_na (by omega), up_same]
      refine ⟨xIc_f2 hI0 (fun a ha => e0 a (by omega) (by omega) (by omega) (by omega)) (fun r hr => by rw [e0 _ (by omega) (by omega) (by omega) (by omega)]; exact hZ r hr) (fun r hr => ?_), xIr_f2 hJ0 (fun a ha => e0 a (by omega) (by omega) (by omega) (by omega)) (⟨by rw [e0 73 (by decide) (by decide) (by omega) (by omega)], by rw [e0 73 (by decide) (by decide) (by omega) (by omega)], by rw [e0 73 (by decide) (by decide) (by omega) (by omega)]⟩) (fun r hr => by rw [e0 74 (by omega) (by omega) (by omega) (by omega), e0 75 (by omega) (by omega) (by omega) (by omega), e0 (23 + 2 * r) (by omega) (by omega) (by omega) (by omega), e0 (23 + 2 * r + 1) (by omega) (by omega) (by omega) (by omega)]; exact hZr r hr) (fun r hr => ?_)⟩
      · by_cases e : r = t
        · rw [e, z1]; exact xsz_nI hn
        · rw [e0 _ (by omega) (by omega) (by omega) (by omega)]; exact hY r hr
      · by_cases e : r = t
        · subst e
          rw [z1]
          refine ⟨by rw [gseg_na (by decide), up_same], fun n' hn' en i hi => ?_⟩
          have e2 := nI_inj (by omega) (by omega) en
          subst e2
          rw [gseg_in hi, gseg_na (by omega), up_na (by omega), gfill_in hi]
        · rw [e0 (35 + 2 * r) (by omega) (by omega) (by omega) (by omega), e0 (35 + 2 * r + 1) (by omega) (by omega) (by omega) (by omega)]
          refine ⟨by rw [gseg_na (by decide), up_ne (Or.inr e), gfill_na (by omega), up_na (by omega)]; exact (hYr r hr).1, fun n' hn' en i hi => ?_⟩
          rw [gseg_out (by omega), up_na (by decide), gfill_na (by omega), up_na (by omega)]
          exact (hYr r hr).2 n' hn' en i hi
  · exact xJ2.mk (c_X11_text_bad hx) (c_X12_text_bad hx) (hJ1) (fun _ => rfl)

theorem j_put (hJ : xJ b g) : xJ2 Value.int True 85 167 [.int x, .int i, .int v] b g l := by
  have hJ1 := hJ
  obtain ⟨G, T, Lw, m, hI, hJr⟩ := hJ
  have hI0 := hI
  have hJ0 := hJr
  obtain ⟨hb, hp, hR, htx, ⟨hs, hm⟩, hD, hK, hZ, hY⟩ := hI
  obtain ⟨hRr, hsr, hDr, hKr, hZr, hYr⟩ := hJr
  obtain ⟨hb1, hb2⟩ := xro_b hb
  have hq := xb2 hb
  have hbv : b.1 = 7 ∨ b.1 = 11 := by omega
  have hbw : b.2 = 7 ∨ b.2 = 11 := by omega
  have eG : g b.1 2 = nI G := hR.1.1
  have hG6 : G ≤ 6 := hR.1.2
  have eGr : g 73 10 = nI G := hRr.1.1
  by_cases hx : 0 ≤ x ∧ x < 4
  · obtain ⟨t, ht, rfl⟩ := xin (n := 4) (by omega) hx
    rcases hY t ht with e | ⟨n, hn, e⟩
    · exact xJ2.mk (c_X11_put_no ht e) (c_X12_put_no ht (by unfold xfC; rw [up_na (by decide), up_na (by decide), (hYr t ht).1]; exact e)) (xJ_ag (xAg_t (xAg_C hbw _) (xAg_R _)) hJ1) (fun _ => rfl)
    have er : g 76 t = nI n := by rw [(hYr t ht).1]; exact e
    by_cases hi : 0 ≤ i ∧ i < nI n
    · obtain ⟨p, hp1, rfl⟩ := xin (n := n) (by omega) hi
      refine xJ2.mk (c_X11_put_ok ht e hn hp1) (c_X12_put_ok ht (by rw [up_na (by omega)]; exact er) hn hp1) ⟨G, T, Lw, m, ?_⟩ (fun _ => by rw [up_na (by omega), (hYr t ht).2 n hn e p hp1])
      have e0 : ∀ a, a ≠ 77 → a ≠ 35 + 2 * t + 1 → up (up g ((35 + 2 * t) + 1) p v.toInt8.toInt32) 77 (60 * t + p) v.toInt8.toInt32 a = g a := fun a h1 h2 => by rw [up_na h1, up_na h2]
      refine ⟨xIc_f2 hI0 (fun a ha => e0 a (by omega) (by omega)) (fun r hr => by rw [e0 _ (by omega) (by omega)]; exact hZ r hr) (fun r hr => by rw [e0 _ (by omega) (by omega)]; exact hY r hr), xIr_f2 hJ0 (fun a ha => e0 a (by omega) (by omega)) (⟨by rw [e0 73 (by decide) (by omega)], by rw [e0 73 (by decide) (by omega)], by rw [e0 73 (by decide) (by omega)]⟩) (fun r hr => by rw [e0 74 (by omega) (by omega), e0 75 (by omega) (by omega), e0 (23 + 2 * r) (by omega) (by omega), e0 (23 + 2 * r + 1) (by omega) (by omega)]; exact hZr r hr) (fun r hr => ?_)⟩
      rw [e0 (35 + 2 * r) (by omega) (by omega), e0 76 (by decide) (by omega)]
      refine ⟨(hYr r hr).1, fun n' hn' en q hq1 => ?_⟩
      have z := (hYr r hr).2 n' hn' en q hq1
      by_cases e1 : r = t
      · subst e1
        by_cases e2 : q = p
        · subst e2
          rw [up_same, up_na (by omega), up_same]
        · rw [up_ne (Or.inr (by omega)), up_na (by omega), up_na (by omega), up_ne (Or.inr e2)]
          exact z
      · rw [up_ne (Or.inr (by omega)), up_na (by omega), up_na (by omega), up_na (by omega)]
        exact z
    · exact xJ2.mk (c_X11_put_bey ht e hn hi) (c_X12_put_bey ht (by unfold xfC; rw [up_na (by decide), up_na (by decide)]; exact er) hn hi) (xJ_ag (xAg_t (xAg_C hbw _) (xAg_R _)) hJ1) (fun _ => rfl)
  · exact xJ2.mk (c_X11_put_bad hx) (c_X12_put_bad hx) (hJ1) (fun _ => rfl)

theorem j_undo (hJ : xJ b g) : xJ2 Value.int True 95 196 [.int x] b g l := by
  have hJ1 := hJ
  obtain ⟨G, T, Lw, m, hI, hJr⟩ := hJ
  have hI0 := hI
  have hJ0 := hJr
  obtain ⟨hb, hp, hR, htx, ⟨hs, hm⟩, hD, hK, hZ, hY⟩ := hI
  obtain ⟨hRr, hsr, hDr, hKr, hZr, hYr⟩ := hJr
  obtain ⟨hb1, hb2⟩ := xro_b hb
  have hq := xb2 hb
  have hbv : b.1 = 7 ∨ b.1 = 11 := by omega
  have hbw : b.2 = 7 ∨ b.2 = 11 := by omega
  have eG : g b.1 2 = nI G := hR.1.1
  have hG6 : G ≤ 6 := hR.1.2
  have eGr : g 73 10 = nI G := hRr.1.1
  by_cases hx : 0 ≤ x ∧ x ≤ g 4 1
  · obtain ⟨t, ht, rfl⟩ := xinl (n := m) (by omega) ⟨hx.1, by rw [← hs]; exact hx.2⟩
    refine xJ2.mk (c_X11_undo_ok hs hm ht) (c_X12_undo_ok (by rw [up_na (by decide)]; exact hsr) hm ht) ⟨G, T, Lw, t, ?_⟩ (fun _ => rfl)
    have e0 : ∀ a, a ≠ 73 → a ≠ 4 → up (up g 4 1 (nI t)) 73 14 (nI t) a = g a := fun a h1 h2 => by rw [up_na h1, up_na h2]
    have e1 : up (up g 4 1 (nI t)) 73 14 (nI t) (b.1 + 1) = g (b.1 + 1) := e0 _ (by omega) (by omega)
    have e3 : up (up g 4 1 (nI t)) 73 14 (nI t) (b.1 + 3) = g (b.1 + 3) := e0 _ (by omega) (by omega)
    have e5 : up (up g 4 1 (nI t)) 73 14 (nI t) 5 = g 5 := e0 _ (by omega) (by omega)
    refine ⟨⟨hb, xpn_fr (fun i h1 h2 => e0 i (by omega) (by omega)) hp, xRm_fr (fun i h1 h2 => e0 i (by omega) (by omega)) hR, by rw [e3]; exact htx, ⟨by rw [up_na (by decide), up_same], by omega⟩, by rw [e1, e3]; exact xDk_fr e5 (xDk_of (xFv_le (xDk_Fv hD) ht)), fun k hk => ?_, fun r hr => by rw [e0 _ (by omega) (by omega)]; exact hZ r hr, fun r hr => by rw [e0 _ (by omega) (by omega)]; exact hY r hr⟩, ⟨by rw [e1, e3]; exact xRr_fr (by rw [up_ne (Or.inr (by decide)), up_na (by decide)]) (by rw [up_ne (Or.inr (by decide)), up_na (by decide)]) (e0 _ (by decide) (by decide)) (e0 _ (by decide) (by decide)) (e0 _ (by decide) (by decide)) hRr, by rw [up_same], by rw [e1, e3, e5]; exact xDr_fr (e0 _ (by decide) (by decide)) (e0 _ (by decide) (by decide)) (fun d hd => hDr d (by omega)), fun k hk => ?_, fun r hr => by rw [e0 74 (by omega) (by omega), e0 75 (by omega) (by omega), e0 (23 + 2 * r) (by omega) (by omega), e0 (23 + 2 * r + 1) (by omega) (by omega)]; exact hZr r hr, fun r hr => ?_⟩⟩
    · rw [e0 (67 + 2 * k) (by omega) (by omega), e1, e3]
      rcases hK k hk with z | ⟨n, z1, z2, z3⟩
      · exact Or.inl z
      · exact Or.inr ⟨n, z1, z2, xDk_fr (e0 (67 + 2 * k + 1) (by omega) (by omega)) z3⟩
    · rw [e0 86 (by decide) (by decide), e0 87 (by decide) (by decide), e0 88 (by decide) (by decide), e0 (67 + 2 * k) (by omega) (by omega), e0 (67 + 2 * k + 1) (by omega) (by omega)]
      exact hKr k hk
    · rw [e0 76 (by decide) (by decide), e0 77 (by decide) (by decide), e0 (35 + 2 * r) (by omega) (by omega), e0 (35 + 2 * r + 1) (by omega) (by omega)]
      exact hYr r hr
  · exact xJ2.mk (c_X11_undo_bad hx) (c_X12_undo_bad (by rw [hsr, ← hs]; exact hx)) (hJ1) (fun _ => rfl)

end
end
section
/-! step, keep, on, lots: both calls -/
section
variable {b : Nat × Nat} {g g' : Nat → Nat → Int32} {l : Nat → Nat → Int64} {G T m : Nat} {Lw : Nat → Nat} {x y z i j v : Int32}

theorem xJ_de (hI : xIc b g G T Lw m) (hJ : xIr b g G T Lw m) {n : Nat} (hn : n ≤ 40) (e0 : ∀ a, a ≠ 4 → a ≠ 5 → a ≠ 73 → a ≠ 84 → a ≠ 85 → g' a = g a) (h4 : g' 4 1 = nI n) (e73 : ∀ i, i ≠ 14 → g' 73 i = g 73 i) (h14 : g' 73 14 = nI n) (hV : xFv (g (b.1 + 1)) (g (b.1 + 3)) T G Lw (g' 5) n) (h8 : ∀ d, d < n → g' 84 d = g' 5 (4 * d) ∧ g' 85 d = g' 5 (4 * d + 1)) : xJ b g' := by
  obtain ⟨hb, hp, hR, htx, ⟨hs, hm⟩, hD, hK, hZ, hY⟩ := hI
  obtain ⟨hRr, hsr, hDr, hKr, hZr, hYr⟩ := hJ
  have hq := xb2 hb
  have e1 : g' (b.1 + 1) = g (b.1 + 1) := e0 _ (by omega) (by omega) (by omega) (by omega) (by omega)
  have e3 : g' (b.1 + 3) = g (b.1 + 3) := e0 _ (by omega) (by omega) (by omega) (by omega) (by omega)
  have ez : ∀ a, (23 ≤ a ∧ a < 73) ∨ (74 ≤ a ∧ a < 84) ∨ 86 ≤ a → g' a = g a := fun a ha => e0 a (by omega) (by omega) (by omega) (by omega) (by omega)
  refine ⟨G, T, Lw, n, ⟨hb, xpn_fr (fun i h1 h2 => ez i (by omega)) hp, xRm_fr (fun i h1 h2 => e0 i (by omega) (by omega) (by omega) (by omega) (by omega)) hR, by rw [e3]; exact htx, ⟨h4, hn⟩, by rw [e1, e3]; exact xDk_of hV, fun k hk => ?_, fun r hr => by rw [ez _ (by omega)]; exact hZ r hr, fun r hr => by rw [ez _ (by omega)]; exact hY r hr⟩, ⟨by rw [e1, e3]; exact xRr_fr (e73 _ (by decide)) (e73 _ (by decide)) (ez _ (by omega)) (ez _ (by omega)) (ez _ (by omega)) hRr, h14, by rw [e1, e3]; exact xDr_mk hV h8, fun k hk => ?_, fun r hr => by rw [ez 74 (by omega), ez 75 (by omega), ez (23 + 2 * r) (by omega), ez (23 + 2 * r + 1) (by omega)]; exact hZr r hr, fun r hr => ?_⟩⟩
  · rw [ez (67 + 2 * k) (by omega), e1, e3]
    rcases hK k hk with z | ⟨n, z1, z2, z3⟩
    · exact Or.inl z
    · exact Or.inr ⟨n, z1, z2, xDk_fr (ez (67 + 2 * k + 1) (by omega)) z3⟩
  · rw [ez 86 (by omega), ez 87 (by omega), ez 88 (by omega), ez (67 + 2 * k) (by omega), ez (67 + 2 * k + 1) (by omega)]
    exact hKr k hk
  · rw [ez 76 (by omega), ez 77 (by omega), ez (35 + 2 * r) (by omega), ez (35 + 2 * r + 1) (by omega)]
    exact hYr r hr

theorem j_step (hJ : xJ b g) : xJ2 Value.int True 92 192 [.int x, .int y] b g l := by
  have hJ1 := hJ
  obtain ⟨G, T, Lw, m, hI, hJr⟩ := hJ
  have hI0 := hI
  have hJ0 := hJr
  obtain ⟨hb, hp, hR, htx, ⟨hs, hm⟩, hD, hK, hZ, hY⟩ := hI
  obtain ⟨hRr, hsr, hDr, hKr, hZr, hYr⟩ := hJr
  obtain ⟨hb1, hb2⟩ := xro_b hb
  have hq := xb2 hb
  have hbv : b.1 = 7 ∨ b.1 = 11 := by omega
  have hbw : b.2 = 7 ∨ b.2 = 11 := by omega
  have eG : g b.1 2 = nI G := hR.1.1
  have hG6 : G ≤ 6 := hR.1.2
  have eGr : g 73 10 = nI G := hRr.1.1
  by_cases hx : (0 ≤ x ∧ x < g b.1 2) ∧ 0 ≤ y ∧ y < 6
  · obtain ⟨t, hk, rfl⟩ := xin (n := G) (by omega) ⟨hx.1.1, by rw [← eG]; exact hx.1.2⟩
    obtain ⟨s, hs6, rfl⟩ := xin (n := 6) (by omega) hx.2
    by_cases h40 : m = 40
    · subst h40
      exact xJ2.mk (c_X11_step_full hb1 hR hp hs hk hs6) (c_X12_step_full hRr hsr hk hs6) (hJ1) (fun _ => rfl)
    have hm4 : m < 40 := by omega
    have hx5 := xDk_x hD
    have hdo := xDk_do hD hs6 hk
    generalize ev : xshw (g (b.1 + 1)) (Lw t / 4) (Lw t % 4) (fun i => if i = m then s else xN (g 5 (4 * i))) m = w at hdo
    generalize ez : xfI (xfb (g (b.1 + 3)) T (nI s) w) = q at hdo
    have hc := c_X11_step_ok (k := 4) (l := l) hb1 hR hp hbv hs hm4 hx5 hk hs6
    rw [ev, ez] at hc
    have hd5 := @xdo_5 g m (nI s) (nI t) w q
    have hna : ∀ a, a ≠ 4 → a ≠ 5 → xdo g m (nI s) (nI t) w q a = g a := fun a h4 h5 => xdo_na h4 h5
    have hV : xFv (g (b.1 + 1)) (g (b.1 + 3)) T G Lw (xdo g m (nI s) (nI t) w q 5) (m + 1) := xDk_Fv hdo
    have hDm : xDr (xdo g m (nI s) (nI t) w q) (g (b.1 + 1)) (g (b.1 + 3)) T G Lw (xdo g m (nI s) (nI t) w q 5) m := xDr_mk (xFv_le hV (by omega)) (fun d hd => by
      rw [hna 84 (by decide) (by decide), hna 85 (by decide) (by decide), xdo_o (by omega), xdo_o (by omega)]
      exact xDr_8 hDr d hd)
    have hRx : xRr (xdo g m (nI s) (nI t) w q) (g (b.1 + 1)) (g (b.1 + 3)) G T Lw := xRr_fr (by rw [hna 73 (by decide) (by decide)]) (by rw [hna 73 (by decide) (by decide)]) (hna _ (by decide) (by decide)) (hna _ (by decide) (by decide)) (hna _ (by decide) (by decide)) hRr
    refine xJ2.mk hc (c_X12_step_ok hRx (by rw [hna 73 (by decide) (by decide)]; exact hsr) hm4 hDm hk hs6) (xJ_de hI0 hJ0 (n := m + 1) (by omega) (fun a h1 h2 h3 h4 h5 => by rw [up_na h3, up_na h5, up_na h4]; exact hna a h1 h2) (by rw [up_na (by decide), up_na (by decide), up_na (by decide)]; exact xdo_41) (fun i hi => by rw [up_ne (Or.inr hi), up_na (by decide), up_na (by decide), hna 73 (by decide) (by decide)]) (by rw [up_same]) (by rw [up_na (by decide), up_na (by decide), up_na (by decide)]; exact hV) (fun d hd => ?_)) (fun _ => ?_)
    · have k5 : up (up (up (xdo g m (nI s) (nI t) w q) 84 m (nI s)) 85 m (nI t)) 73 14 (nI (m + 1)) 5 = xdo g m (nI s) (nI t) w q 5 := by rw [up_na (by decide), up_na (by decide), up_na (by decide)]
      rw [k5]
      by_cases e : d = m
      · subst e
        exact ⟨by rw [up_na (by decide), up_na (by decide), up_same, hd5.1], by rw [up_na (by decide), up_same, hd5.2.1]⟩
      · have z := xDr_8 hDm d (by omega)
        exact ⟨by rw [up_na (by decide), up_na (by decide), up_ne (Or.inr e)]; exact z.1, by rw [up_na (by decide), up_ne (Or.inr e), up_na (by decide)]; exact z.2⟩
    · refine Eq.trans (xshw_c (F' := fun i => if i = m then s else xN (g 5 (4 * i))) (fun j hj => ?_)) ev
      show (if j = m then s else xN (xdo g m (nI s) (nI t) w q 5 (4 * j))) = (if j = m then s else xN (g 5 (4 * j)))
      by_cases e : j = m
      · rw [if_pos e, if_pos e]
      · rw [if_neg e, if_neg e, xdo_o (by omega)]
  · exact xJ2.mk (c_X11_step_bad hb1 hx) (c_X12_step_bad hRr (by rw [← eG]; exact hx)) (hJ1) (fun _ => rfl)

theorem j_on (hJ : xJ b g) : xJ2 Value.int True 97 198 [.int x] b g l := by
  have hJ1 := hJ
  obtain ⟨G, T, Lw, m, hI, hJr⟩ := hJ
  have hI0 := hI
  have hJ0 := hJr
  obtain ⟨hb, hp, hR, htx, ⟨hs, hm⟩, hD, hK, hZ, hY⟩ := hI
  obtain ⟨hRr, hsr, hDr, hKr, hZr, hYr⟩ := hJr
  obtain ⟨hb1, hb2⟩ := xro_b hb
  have hq := xb2 hb
  have hbv : b.1 = 7 ∨ b.1 = 11 := by omega
  have hbw : b.2 = 7 ∨ b.2 = 11 := by omega
  have eG : g b.1 2 = nI G := hR.1.1
  have hG6 : G ≤ 6 := hR.1.2
  have eGr : g 73 10 = nI G := hRr.1.1
  by_cases hx : 0 ≤ x ∧ x < 3
  · obtain ⟨t, ht, rfl⟩ := xin (n := 3) (by omega) hx
    rcases hK t ht with e | ⟨n, hn, e, hDn⟩
    · exact xJ2.mk (c_X11_on_no ht e) (c_X12_on_no ht (by unfold xfC; rw [up_na (by decide), up_na (by decide), (hKr t ht).1]; exact e)) (xJ_ag (xAg_t (xAg_C hbw _) (xAg_R _)) hJ1) (fun _ => rfl)
    have c0 : ∀ a, a ≠ 4 → a ≠ 5 → gcopy (up g 4 1 (nI n)) (67 + 2 * t + 1) 0 5 0 (4 * n) a = g a := fun a h1 h2 => by rw [gcopy_na h2, up_na h1]
    have c5 : ∀ i, i < 4 * n → gcopy (up g 4 1 (nI n)) (67 + 2 * t + 1) 0 5 0 (4 * n) 5 i = g (67 + 2 * t + 1) i := fun i hi => by
      have z := gcopy_in (g := up g 4 1 (nI n)) (sa := 67 + 2 * t + 1) (si := 0) (da := 5) (di := 0) hi
      rw [Nat.zero_add] at z
      rw [z, up_na (by omega)]
    have c41 : gcopy (up g 4 1 (nI n)) (67 + 2 * t + 1) 0 5 0 (4 * n) 4 1 = nI n := by rw [gcopy_na (by decide), up_same]
    have hc := c_X11_on_ok (k := 8) (b := b) (l := l) ht e hn
    generalize gcopy (up g 4 1 (nI n)) (67 + 2 * t + 1) 0 5 0 (4 * n) = g1 at c0 c5 c41 hc
    refine xJ2.mk hc (c_X12_on_ok (m := n) ht (by rw [c0 86 (by decide) (by decide), (hKr t ht).1]; exact e) hn) (xJ_de hI0 hJ0 hn (fun a h1 h2 h3 h4 h5 => by rw [gset_na h5, gset_na h4, up_na h3]; exact c0 a h1 h2) (by rw [gset_na (by decide), gset_na (by decide), up_na (by decide)]; exact c41) (fun i hi => by rw [gset_na (by decide), gset_na (by decide), up_ne (Or.inr hi), c0 73 (by decide) (by decide)]) (by rw [gset_na (by decide), gset_na (by decide), up_same]) (by rw [gset_na (by decide), gset_na (by decide), up_na (by decide)]; exact xFv_cp (xDk_Fv hDn) c5) (fun d hd => ?_)) (fun _ => rfl)
    have z := (hKr t ht).2 n hn e d hd
    rw [gset_in hd, gset_na (by decide), gset_in hd, gset_na (by decide), gset_na (by decide), up_na (by decide), c5 _ (by omega), c5 _ (by omega), c0 87 (by decide) (by decide), c0 88 (by decide) (by decide)]
    exact z
  · exact xJ2.mk (c_X11_on_bad hx) (c_X12_on_bad hx) (hJ1) (fun _ => rfl)

theorem j_keep (hJ : xJ b g) : xJ2 Value.int True 96 197 [.int x] b g l := by
  have hJ1 := hJ
  obtain ⟨G, T, Lw, m, hI, hJr⟩ := hJ
  have hI0 := hI
  have hJ0 := hJr
  obtain ⟨hb, hp, hR, htx, ⟨hs, hm⟩, hD, hK, hZ, hY⟩ := hI
  obtain ⟨hRr, hsr, hDr, hKr, hZr, hYr⟩ := hJr
  obtain ⟨hb1, hb2⟩ := xro_b hb
  have hq := xb2 hb
  have hbv : b.1 = 7 ∨ b.1 = 11 := by omega
  have hbw : b.2 = 7 ∨ b.2 = 11 := by omega
  have eG : g b.1 2 = nI G := hR.1.1
  have hG6 : G ≤ 6 := hR.1.2
  have eGr : g 73 10 = nI G := hRr.1.1
  by_cases hx : 0 ≤ x ∧ x < 3
  · obtain ⟨t, ht, rfl⟩ := xin (n := 3) (by omega) hx
    by_cases hg : g b.1 2 = 0
    · exact xJ2.mk (c_X11_keep_state hb1 ht hg) (c_X12_keep_state ht (by rw [eGr, ← eG]; exact hg)) (hJ1) (fun _ => rfl)
    have c0 : ∀ a, a ≠ 67 + 2 * t → a ≠ 67 + 2 * t + 1 → gcopy (up g (67 + 2 * t) 1 (nI m)) 5 0 (67 + 2 * t + 1) 0 (4 * m) a = g a := fun a h1 h2 => by rw [gcopy_na h2, up_na h1]
    have c5 : ∀ i, i < 4 * m → gcopy (up g (67 + 2 * t) 1 (nI m)) 5 0 (67 + 2 * t + 1) 0 (4 * m) (67 + 2 * t + 1) i = g 5 i := fun i hi => by
      have z := gcopy_in (g := up g (67 + 2 * t) 1 (nI m)) (sa := 5) (si := 0) (da := 67 + 2 * t + 1) (di := 0) hi
      rw [Nat.zero_add] at z
      rw [z, up_na (by omega)]
    have c41 : gcopy (up g (67 + 2 * t) 1 (nI m)) 5 0 (67 + 2 * t + 1) 0 (4 * m) (67 + 2 * t) 1 = nI m := by rw [gcopy_na (by omega), up_same]
    have hc := c_X11_keep_ok (k := 8) (l := l) hb1 ht hg hs hm
    generalize gcopy (up g (67 + 2 * t) 1 (nI m)) 5 0 (67 + 2 * t + 1) 0 (4 * m) = g1 at c0 c5 c41 hc
    refine xJ2.mk hc (c_X12_keep_ok ht (by rw [c0 73 (by omega) (by omega), eGr, ← eG]; exact hg) (by rw [c0 73 (by omega) (by omega)]; exact hsr) hm) ?_ (fun _ => rfl)
    have e0 : ∀ a, a ≠ 86 → a ≠ 87 → a ≠ 88 → gseg (gseg (up g1 86 t (nI m)) 87 (40 * t) m (g1 84)) 88 (40 * t) m (g1 85) a = g1 a := fun a h1 h2 h3 => by rw [gseg_na h3, gseg_na h2, up_na h1]
    have e86 : ∀ k, gseg (gseg (up g1 86 t (nI m)) 87 (40 * t) m (g1 84)) 88 (40 * t) m (g1 85) 86 k = if k = t then nI m else g 86 k := fun k => by
      rw [gseg_na (by decide), gseg_na (by decide)]
      by_cases e : k = t
      · rw [if_pos e, e, up_same]
      · rw [if_neg e, up_ne (Or.inr e), c0 86 (by omega) (by omega)]
    have e87 : ∀ k d, k < 3 → d < 40 → (k = t → d < m) → gseg (gseg (up g1 86 t (nI m)) 87 (40 * t) m (g1 84)) 88 (40 * t) m (g1 85) 87 (40 * k + d) = if k = t then g 84 d else g 87 (40 * k + d) := fun k d h1 h2 h3 => by
      rw [gseg_na (by decide)]
      by_cases e : k = t
      · rw [if_pos e, e, gseg_in (h3 e), c0 84 (by omega) (by omega)]
      · rw [if_neg e, gseg_out (by omega), up_na (by decide), c0 87 (by omega) (by omega)]
    have e88 : ∀ k d, k < 3 → d < 40 → (k = t → d < m) → gseg (gseg (up g1 86 t (nI m)) 87 (40 * t) m (g1 84)) 88 (40 * t) m (g1 85) 88 (40 * k + d) = if k = t then g 85 d else g 88 (40 * k + d) := fun k d h1 h2 h3 => by
      by_cases e : k = t
      · rw [if_pos e, e, gseg_in (h3 e), c0 85 (by omega) (by omega)]
      · rw [if_neg e, gseg_out (by omega), gseg_na (by decide), up_na (by decide), c0 88 (by omega) (by omega)]
    generalize gseg (gseg (up g1 86 t (nI m)) 87 (40 * t) m (g1 84)) 88 (40 * t) m (g1 85) = g2 at e0 e86 e87 e88
    have ea : ∀ a, a ≠ 67 + 2 * t → a ≠ 67 + 2 * t + 1 → a ≠ 86 → a ≠ 87 → a ≠ 88 → g2 a = g a := fun a h1 h2 h3 h4 h5 => by rw [e0 a h3 h4 h5, c0 a h1 h2]
    have e1 : g2 (b.1 + 1) = g (b.1 + 1) := ea _ (by omega) (by omega) (by omega) (by omega) (by omega)
    have e3 : g2 (b.1 + 3) = g (b.1 + 3) := ea _ (by omega) (by omega) (by omega) (by omega) (by omega)
    have e5 : g2 5 = g 5 := ea _ (by omega) (by omega) (by omega) (by omega) (by omega)
    have ek : ∀ k, k < 3 → k ≠ t → g2 (67 + 2 * k) = g (67 + 2 * k) ∧ g2 (67 + 2 * k + 1) = g (67 + 2 * k + 1) := fun k h1 h2 => ⟨ea _ (by omega) (by omega) (by omega) (by omega) (by omega), ea _ (by omega) (by omega) (by omega) (by omega) (by omega)⟩
    have et : g2 (67 + 2 * t) 1 = nI m := by rw [e0 _ (by omega) (by omega) (by omega)]; exact c41
    have et5 : ∀ i, i < 4 * m → g2 (67 + 2 * t + 1) i = g 5 i := fun i hi => by rw [e0 _ (by omega) (by omega) (by omega)]; exact c5 i hi
    refine ⟨G, T, Lw, m, ⟨hb, xpn_fr (fun i h1 h2 => ea i (by omega) (by omega) (by omega) (by omega) (by omega)) hp, xRm_fr (fun i h1 h2 => ea i (by omega) (by omega) (by omega) (by omega) (by omega)) hR, by rw [e3]; exact htx, ⟨by rw [ea 4 (by omega) (by omega) (by omega) (by omega) (by omega)]; exact hs, hm⟩, by rw [e1, e3]; exact xDk_fr e5 hD, fun k hk => ?_, fun r hr => by rw [ea _ (by omega) (by omega) (by omega) (by omega) (by omega)]; exact hZ r hr, fun r hr => by rw [ea _ (by omega) (by omega) (by omega) (by omega) (by omega)]; exact hY r hr⟩, ⟨by rw [e1, e3]; exact xRr_fr (by rw [ea 73 (by omega) (by omega) (by omega) (by omega) (by omega)]) (by rw [ea 73 (by omega) (by omega) (by omega) (by omega) (by omega)]) (ea _ (by omega) (by omega) (by omega) (by omega) (by omega)) (ea _ (by omega) (by omega) (by omega) (by omega) (by omega)) (ea _ (by omega) (by omega) (by omega) (by omega) (by omega)) hRr, by rw [ea 73 (by omega) (by omega) (by omega) (by omega) (by omega)]; exact hsr, by rw [e1, e3, e5]; exact xDr_fr (ea _ (by omega) (by omega) (by omega) (by omega) (by omega)) (ea _ (by omega) (by omega) (by omega) (by omega) (by omega)) hDr, fun k hk => ?_, fun r hr => by rw [ea 74 (by omega) (by omega) (by omega) (by omega) (by omega), ea 75 (by omega) (by omega) (by omega) (by omega) (by omega), ea (23 + 2 * r) (by omega) (by omega) (by omega) (by omega) (by omega), ea (23 + 2 * r + 1) (by omega) (by omega) (by omega) (by omega) (by omega)]; exact hZr r hr, fun r hr => ?_⟩⟩
    · rw [e1, e3]
      by_cases e : k = t
      · subst e
        exact Or.inr ⟨m, hm, et, xDk_of (xFv_cp (xDk_Fv hD) et5)⟩
      · rw [(ek k hk e).1]
        rcases hK k hk with z | ⟨n, z1, z2, z3⟩
        · exact Or.inl z
        · exact Or.inr ⟨n, z1, z2, xDk_fr (ek k hk e).2 z3⟩
    · by_cases e : k = t
      · subst e
        rw [et, e86, if_pos rfl]
        refine ⟨rfl, fun n hn en d hd => ?_⟩
        have e9 := nI_inj (by omega) (by omega) en
        subst e9
        rw [e87 k d hk (by omega) (fun _ => hd), e88 k d hk (by omega) (fun _ => hd), if_pos rfl, if_pos rfl, et5 _ (by omega), et5 _ (by omega)]
        exact xDr_8 hDr d hd
      · rw [(ek k hk e).1, (ek k hk e).2, e86, if_neg e]
        refine ⟨(hKr k hk).1, fun n hn en d hd => ?_⟩
        rw [e87 k d hk (by omega) (fun z => absurd z e), e88 k d hk (by omega) (fun z => absurd z e), if_neg e, if_neg e]
        exact (hKr k hk).2 n hn en d hd
    · rw [ea 76 (by omega) (by omega) (by omega) (by omega) (by omega), ea 77 (by omega) (by omega) (by omega) (by omega) (by omega), ea (35 + 2 * r) (by omega) (by omega) (by omega) (by omega) (by omega), ea (35 + 2 * r + 1) (by omega) (by omega) (by omega) (by omega) (by omega)]
      exact hYr r hr
  · exact xJ2.mk (c_X11_keep_bad hx) (c_X12_keep_bad hx) (hJ1) (fun _ => rfl)

theorem j_lots (hJ : xJ b g) : xJ2 Value.int True 114 227 [.int x, .int y] b g l := by
  have hJ1 := hJ
  obtain ⟨G, T, Lw, m, hI, hJr⟩ := hJ
  have hI0 := hI
  have hJ0 := hJr
  obtain ⟨hb, hp, hR, htx, ⟨hs, hm⟩, hD, hK, hZ, hY⟩ := hI
  obtain ⟨hRr, hsr, hDr, hKr, hZr, hYr⟩ := hJr
  obtain ⟨hb1, hb2⟩ := xro_b hb
  have hq := xb2 hb
  have hbv : b.1 = 7 ∨ b.1 = 11 := by omega
  have hbw : b.2 = 7 ∨ b.2 = 11 := by omega
  have eG : g b.1 2 = nI G := hR.1.1
  have hG6 : G ≤ 6 := hR.1.2
  have eGr : g 73 10 = nI G := hRr.1.1
  by_cases hx : (1 ≤ x ∧ x ≤ 20) ∧ 1 ≤ y ∧ y ≤ 2147483646
  · obtain ⟨n, hn, rfl⟩ := xinl (n := 20) (by omega) ⟨Int32.le_trans (by decide) hx.1.1, hx.1.2⟩
    have hn1 : 1 ≤ n := (nI_leI (a := 1) (by omega) (by omega)).mp hx.1.1
    obtain ⟨q1, hq2, rfl⟩ := xinl (n := 2147483646) (by omega) ⟨Int32.le_trans (by decide) hx.2.1, hx.2.2⟩
    have hq1 : 1 ≤ q1 := (nI_leI (a := 1) (by omega) (by omega)).mp hx.2.1
    by_cases hg : G = 0
    · exact xJ2.mk (c_X11_lots_state hn1 hn hq1 (by omega) hb1 (by rw [eG, hg]; rfl)) (c_X12_lots_state hn1 hn hq1 (by omega) (by rw [eGr, hg]; rfl)) (hJ1) (fun _ => rfl)
    by_cases hmn : m + n ≤ 40
    · refine (c_X11_lots_ok (k := 4) (l := l) hn1 hn hq1 (by omega) hb1 hR hp hbv hs hm (by omega) hmn hD).weak (fun r M w => ?_)
      obtain ⟨S, ⟨f1, f2, f3, f4, f5⟩, e1, e2⟩ := w
      have hV : xFv (g (b.1 + 1)) (g (b.1 + 3)) T G Lw (S 5) (m + n) := xDk_Fv f3
      have hDm : xDr S (g (b.1 + 1)) (g (b.1 + 3)) T G Lw (S 5) m := xDr_mk (xFv_le hV (by omega)) (fun d hd => by
        rw [f1 84 (by decide) (by decide), f1 85 (by decide) (by decide), f4 _ (by omega), f4 _ (by omega)]
        exact xDr_8 hDr d hd)
      have hRx : xRr S (g (b.1 + 1)) (g (b.1 + 3)) G T Lw := xRr_fr (by rw [f1 73 (by decide) (by decide)]) (by rw [f1 73 (by decide) (by decide)]) (f1 _ (by decide) (by decide)) (f1 _ (by decide) (by decide)) (f1 _ (by decide) (by decide)) hRr
      refine ⟨_, b, S, l, e2, e1, (c_X12_lots_ok (k := 4) hn1 hn hq1 (by omega) hRx (by omega) (by rw [f1 73 (by decide) (by decide)]; exact hsr) hmn hDm hV f5).weak (fun r' M' w => ?_)⟩
      obtain ⟨S2, ⟨h1, h2, h3, h4⟩, h5, h6⟩ := w
      refine ⟨_, b, S2, l, h6, h5, xJ_de hI0 hJ0 (n := m + n) hmn (fun a z1 z2 z3 z4 z5 => by rw [h1 a z3 z4 z5, f1 a z1 z2]) (by rw [h1 4 (by decide) (by decide) (by decide)]; exact f2) (fun i hi => by rw [h2 i hi, f1 73 (by decide) (by decide)]) h3 (by rw [h1 5 (by decide) (by decide) (by decide)]; exact hV) (by rw [h1 5 (by decide) (by decide) (by decide)]; exact xDr_8 h4), fun _ => rfl⟩
    · exact xJ2.mk (c_X11_lots_full hn1 hn hq1 (by omega) hb1 hR hp hs hm (by omega) (by omega)) (c_X12_lots_full hn1 hn hq1 (by omega) (by rw [eGr]; exact fun z => hg (nI_inj (b := 0) (by omega) (by omega) z)) hsr hm (by omega)) (hJ1) (fun _ => rfl)
  · refine xJ2.mk (c_X11_lots_bad (fun w => hx ⟨w.1, w.2.1, ?_⟩)) (c_X12_lots_bad hx) hJ1 (fun _ => rfl)
    obtain ⟨q1, hq1, rfl⟩ := nI_of (x := y) (Int32.not_lt.mpr (Int32.le_trans (by decide) w.2.1))
    have hlt := w.2.2
    by_cases e : q1 = 2147483647
    · subst e
      exact absurd hlt (by decide)
    · exact nI_le (b := 2147483646) (by omega) (by omega)

end
end
section
/-! room: both calls -/
theorem xpi_b {f : Nat → Int32} {n : Nat} : ∀ (u i G T : Nat) (Lw : Nat → Nat) (tx : Nat → Int32), i ≤ n → ∀ d, (xpi f n u i G T Lw tx).1 = some d → d ≤ n + 2
  | 0, i, G, T, Lw, tx, hi, d, e => by
    have e1 : i = d := Option.some.inj e
    omega
  | u + 1, i, G, T, Lw, tx, hi, d, e => by
    by_cases h : i < n
    · by_cases hc : f i = 110
      · by_cases hb : G = 0 ∨ T = 8
        · rw [xpi_t0 h hc hb] at e
          have e1 : i = d := Option.some.inj e
          omega
        · by_cases h1 : xfg f n (i + 1) 6
          · by_cases h2 : xfg f n (i + 2) 6
            · rw [xpi_t3 h hc hb h1 h2] at e
              exact xpi_b u _ _ _ _ _ (xab_le (by have := h2.1; omega)).1 d e
            · rw [xpi_t2 h hc hb h1 h2] at e
              have e1 : i + 2 = d := Option.some.inj e
              omega
          · rw [xpi_t1 h hc hb h1] at e
            have e1 : i + 1 = d := Option.some.inj e
            omega
      · by_cases hb : xkd (f i) = none ∨ 0 < T ∨ G = 6
        · rw [xpi_g0 h hc hb] at e
          have e1 : i = d := Option.some.inj e
          omega
        · by_cases h1 : xfg f n (i + 1) 4
          · rw [xpi_g2 h hc hb h1] at e
            exact xpi_b u _ _ _ _ _ (xab_le (by have := h1.1; omega)).1 d e
          · rw [xpi_g1 h hc hb h1] at e
            have e1 : i + 1 = d := Option.some.inj e
            omega
    · rw [xpi_e h] at e
      by_cases hg : G = 0
      · have e0 : (if G = 0 then some n else none) = some d := e
        rw [if_pos hg] at e0
        have e1 : n = d := Option.some.inj e0
        omega
      · have e0 : (if G = 0 then some n else none) = some d := e
        rw [if_neg hg] at e0
        cases e0
theorem xprs_b {f : Nat → Int32} {n d : Nat} (h : (xprs f n).1 = some d) : d ≤ n + 8 := by
  have h0 := xab_le (f := f) (n := n) (i := 0) (by omega)
  by_cases hq : xab f n 0 < n ∧ f (xab f n 0) = 104
  · cases hs : xfst (fun s => !xfgb f n (xab f n 0 + 1 + s) 6) 6 with
    | some s =>
      rw [xprs_1 hq hs] at h
      have e1 : xab f n 0 + 1 + s = d := Option.some.inj h
      have := (xfst_lt hs).1
      omega
    | none =>
      rw [xprs_2 hq hs] at h
      have q5 := xfgb_i (f := f) (n := n) (i := xab f n 0 + 1 + 5) (q := 6) (by have := xfst_none.mp hs 5 (by decide); revert this; cases xfgb f n (xab f n 0 + 1 + 5) 6 <;> simp)
      have := xpi_b _ _ _ _ _ _ (xab_le (f := f) (n := n) (i := xab f n 0 + 7) (by have := q5.1; omega)).1 d h
      omega
  · rw [xprs_0 hq] at h
    have e1 : xab f n 0 = d := Option.some.inj h
    omega

section
variable {b : Nat × Nat} {g g' : Nat → Nat → Int32} {l : Nat → Nat → Int64} {G T m : Nat} {Lw : Nat → Nat} {x y z i j v : Int32}

theorem j_room (hJ : xJ b g) : xJ2 Value.int True 87 177 [.int x] b g l := by
  have hJ1 := hJ
  obtain ⟨G, T, Lw, m, hI, hJr⟩ := hJ
  have hI0 := hI
  have hJ0 := hJr
  obtain ⟨hb, hp, hR, htx, ⟨hs, hm⟩, hD, hK, hZ, hY⟩ := hI
  obtain ⟨hRr, hsr, hDr, hKr, hZr, hYr⟩ := hJr
  obtain ⟨hb1, hb2⟩ := xro_b hb
  have hq := xb2 hb
  have hbv : b.1 = 7 ∨ b.1 = 11 := by omega
  have hbw : b.2 = 7 ∨ b.2 = 11 := by omega
  have eG : g b.1 2 = nI G := hR.1.1
  have hG6 : G ≤ 6 := hR.1.2
  have eGr : g 73 10 = nI G := hRr.1.1
  by_cases hx : 0 ≤ x ∧ x < 4
  · obtain ⟨t, ht, rfl⟩ := xin (n := 4) (by omega) hx
    rcases hY t ht with e | ⟨n, hn, e⟩
    · exact xJ2.mk (c_X11_room_no ht e) (c_X12_room_no ht (by unfold xfC; rw [up_na (by decide), up_na (by decide), (hYr t ht).1]; exact e)) (xJ_ag (xAg_t (xAg_C hbw _) (xAg_R _)) hJ1) (fun _ => rfl)
    have er : g 76 t = nI n := by rw [(hYr t ht).1]; exact e
    have hfv : ∀ i, i < n → g 77 (60 * t + i) = g (35 + 2 * t + 1) i := (hYr t ht).2 n hn e
    by_cases hPR : (xprs (g (35 + 2 * t + 1)) n).1 = none
    · refine (c_X11_room_ok (k := 3) (b := b) (l := l) ht e hn rfl hb2 (by omega) hPR hs hm (by omega)).weak (fun r M w => ?_)
      obtain ⟨g1, e1, f1, e2, hv1, hh1⟩ := w
      have hRR : xprs (g (35 + 2 * t + 1)) n = (none, (xprs (g (35 + 2 * t + 1)) n).2.1, (xprs (g (35 + 2 * t + 1)) n).2.2.1, (xprs (g (35 + 2 * t + 1)) n).2.2.2.1, (xprs (g (35 + 2 * t + 1)) n).2.2.2.2) := by rw [← hPR]
      generalize (xprs (g (35 + 2 * t + 1)) n).2.1 = G' at hRR e2 hv1
      generalize (xprs (g (35 + 2 * t + 1)) n).2.2.1 = T' at hRR hv1
      generalize (xprs (g (35 + 2 * t + 1)) n).2.2.2.1 = Lw' at hRR hv1
      generalize (xprs (g (35 + 2 * t + 1)) n).2.2.2.2 = tx' at hRR hv1
      have k0 : ∀ a, a ≠ 4 → a ≠ 67 → a ≠ 69 → a ≠ 71 → up (up (up (up g1 4 1 (nI 0)) (67 + 2 * 0) 1 (-1)) (67 + 2 * 1) 1 (-1)) (67 + 2 * 2) 1 (-1) a = g1 a := fun a h1 h2 h3 h4 => by rw [up_na (by omega), up_na (by omega), up_na (by omega), up_na h1]
      have k4 : up (up (up (up g1 4 1 (nI 0)) (67 + 2 * 0) 1 (-1)) (67 + 2 * 1) 1 (-1)) (67 + 2 * 2) 1 (-1) 4 1 = nI 0 := by rw [up_na (by decide), up_na (by decide), up_na (by decide), up_same]
      have kk : ∀ k, k < 3 → up (up (up (up g1 4 1 (nI 0)) (67 + 2 * 0) 1 (-1)) (67 + 2 * 1) 1 (-1)) (67 + 2 * 2) 1 (-1) (67 + 2 * k) 1 = -1 := fun k hk => by
        rcases (show k = 0 ∨ k = 1 ∨ k = 2 by omega) with rfl | rfl | rfl
        · rw [up_na (by decide), up_na (by decide), up_same]
        · rw [up_na (by decide), up_same]
        · rw [up_same]
      generalize up (up (up (up g1 4 1 (nI 0)) (67 + 2 * 0) 1 (-1)) (67 + 2 * 1) 1 (-1)) (67 + 2 * 2) 1 (-1) = g2 at k0 k4 kk e1
      have ka : ∀ a, a ≠ 4 → a ≠ 67 → a ≠ 69 → a ≠ 71 → (a < b.2 ∨ b.2 + 3 < a) → g2 a = g a := fun a h1 h2 h3 h4 h5 => by rw [k0 a h1 h2 h3 h4, f1 a (by omega) (by omega) (by omega) (by omega)]
      refine ⟨_, (b.2, b.1), g2, l, e2, e1, (c_X12_room_ok (k := 5) (f := g (35 + 2 * t + 1)) (n := n) ht (by rw [ka 76 (by omega) (by omega) (by omega) (by omega) (by omega)]; exact er) hn (fun i hi => by rw [ka 77 (by omega) (by omega) (by omega) (by omega) (by omega)]; exact hfv i hi) hRR).weak (fun r' M' w => ?_)⟩
      obtain ⟨g3, e3, f3, e4, hw3, hh3⟩ := w
      have l0 : ∀ a, a ≠ 73 → a ≠ 81 → a ≠ 82 → a ≠ 83 → a ≠ 86 → gset (gset (gset (gset (up (up (up g3 73 10 (nI G')) 73 12 (nI T')) 73 14 0) 81 6 (g3 78)) 82 (2 * G') (g3 79)) 83 (2 * T') (g3 80)) 86 3 (fun _ => -1) a = g3 a := fun a h1 h2 h3 h4 h5 => by rw [gset_na h5, gset_na h4, gset_na h3, gset_na h2, up_na h1, up_na h1, up_na h1]
      have l10 : gset (gset (gset (gset (up (up (up g3 73 10 (nI G')) 73 12 (nI T')) 73 14 0) 81 6 (g3 78)) 82 (2 * G') (g3 79)) 83 (2 * T') (g3 80)) 86 3 (fun _ => -1) 73 10 = nI G' := by rw [gset_na (by decide), gset_na (by decide), gset_na (by decide), gset_na (by decide), up_ne (Or.inr (by decide)), up_ne (Or.inr (by decide)), up_same]
      have l12 : gset (gset (gset (gset (up (up (up g3 73 10 (nI G')) 73 12 (nI T')) 73 14 0) 81 6 (g3 78)) 82 (2 * G') (g3 79)) 83 (2 * T') (g3 80)) 86 3 (fun _ => -1) 73 12 = nI T' := by rw [gset_na (by decide), gset_na (by decide), gset_na (by decide), gset_na (by decide), up_ne (Or.inr (by decide)), up_same]
      have l14 : gset (gset (gset (gset (up (up (up g3 73 10 (nI G')) 73 12 (nI T')) 73 14 0) 81 6 (g3 78)) 82 (2 * G') (g3 79)) 83 (2 * T') (g3 80)) 86 3 (fun _ => -1) 73 14 = nI 0 := by rw [gset_na (by decide), gset_na (by decide), gset_na (by decide), gset_na (by decide), up_same]; rfl
      have l81 : ∀ s, s < 6 → gset (gset (gset (gset (up (up (up g3 73 10 (nI G')) 73 12 (nI T')) 73 14 0) 81 6 (g3 78)) 82 (2 * G') (g3 79)) 83 (2 * T') (g3 80)) 86 3 (fun _ => -1) 81 s = g3 78 s := fun s hs => by rw [gset_na (by decide), gset_na (by decide), gset_na (by decide), gset_in hs]
      have l82 : ∀ s, s < 2 * G' → gset (gset (gset (gset (up (up (up g3 73 10 (nI G')) 73 12 (nI T')) 73 14 0) 81 6 (g3 78)) 82 (2 * G') (g3 79)) 83 (2 * T') (g3 80)) 86 3 (fun _ => -1) 82 s = g3 79 s := fun s hs => by rw [gset_na (by decide), gset_na (by decide), gset_in hs]
      have l83 : ∀ s, s < 2 * T' → gset (gset (gset (gset (up (up (up g3 73 10 (nI G')) 73 12 (nI T')) 73 14 0) 81 6 (g3 78)) 82 (2 * G') (g3 79)) 83 (2 * T') (g3 80)) 86 3 (fun _ => -1) 83 s = g3 80 s := fun s hs => by rw [gset_na (by decide), gset_in hs]
      have l86 : ∀ s, s < 3 → gset (gset (gset (gset (up (up (up g3 73 10 (nI G')) 73 12 (nI T')) 73 14 0) 81 6 (g3 78)) 82 (2 * G') (g3 79)) 83 (2 * T') (g3 80)) 86 3 (fun _ => -1) 86 s = -1 := fun s hs => by rw [gset_in hs]
      generalize gset (gset (gset (gset (up (up (up g3 73 10 (nI G')) 73 12 (nI T')) 73 14 0) 81 6 (g3 78)) 82 (2 * G') (g3 79)) 83 (2 * T') (g3 80)) 86 3 (fun _ => -1) = g4 at l0 l10 l12 l14 l81 l82 l83 l86 e3
      refine ⟨_, (b.2, b.1), g4, l, e4, e3, ?_, fun _ => rfl⟩
      have la : ∀ a, a ≠ 73 → (a < 78 ∨ 80 < a) → a ≠ 81 → a ≠ 82 → a ≠ 83 → a ≠ 86 → g4 a = g2 a := fun a h1 h2 h3 h4 h5 h6 => by rw [l0 a h1 h3 h4 h5 h6, f3.1 a h1 (by omega) (by omega) (by omega)]
      have lc : ∀ a, a < 73 → g4 a = g2 a := fun a h => la a (by omega) (by omega) (by omega) (by omega) (by omega) (by omega)
      have lb : ∀ a, b.2 ≤ a → a ≤ b.2 + 3 → g4 a = g1 a := fun a h1 h2 => by rw [lc a (by omega), k0 a (by omega) (by omega) (by omega) (by omega)]
      have eh : g4 (b.2 + 1) = g1 (b.2 + 1) := lb _ (by omega) (by omega)
      have ex : g4 (b.2 + 3) = g1 (b.2 + 3) := lb _ (by omega) (by omega)
      have el : g4 (b.2 + 2) = g1 (b.2 + 2) := lb _ (by omega) (by omega)
      have e20 : g4 b.2 = g1 b.2 := lb _ (by omega) (by omega)
      have hbb : (b.2, b.1) = (7, 11) ∨ (b.2, b.1) = (11, 7) := by
        rcases hq with ⟨z1, z2⟩ | ⟨z1, z2⟩
        · rw [z1, z2]; exact Or.inr rfl
        · rw [z1, z2]; exact Or.inl rfl
      refine ⟨G', T', Lw', 0, ⟨hbb, xpn_fr (fun i h1 h2 => by rw [lc i (by omega), ka i (by omega) (by omega) (by omega) (by omega) (by omega)]) hp, ?_, ?_, ⟨by rw [lc 4 (by decide)]; exact k4, by decide⟩, fun d hd => absurd hd (by omega), fun k hk => Or.inl (by rw [lc _ (by omega)]; exact kk k hk), fun r hr => by rw [lc _ (by omega), ka _ (by omega) (by omega) (by omega) (by omega) (by omega)]; exact hZ r hr, fun r hr => by rw [lc _ (by omega), ka _ (by omega) (by omega) (by omega) (by omega) (by omega)]; exact hY r hr⟩, ⟨?_, l14, fun d hd => absurd hd (by omega), fun k hk => ⟨by rw [l86 k hk, lc _ (by omega), kk k hk], fun n' hn' en => by rw [lc _ (by omega), kk k hk] at en; exact absurd en (m1n (by omega))⟩, fun r hr => by rw [la 74 (by decide) (by decide) (by decide) (by decide) (by decide) (by decide), la 75 (by decide) (by decide) (by decide) (by decide) (by decide) (by decide), lc (23 + 2 * r) (by omega), lc (23 + 2 * r + 1) (by omega), ka 74 (by omega) (by omega) (by omega) (by omega) (by omega), ka 75 (by omega) (by omega) (by omega) (by omega) (by omega), ka (23 + 2 * r) (by omega) (by omega) (by omega) (by omega) (by omega), ka (23 + 2 * r + 1) (by omega) (by omega) (by omega) (by omega) (by omega)]; exact hZr r hr, fun r hr => ?_⟩⟩
      · show xRm g4 b.2 G' T' Lw'
        exact ⟨⟨by rw [e20]; exact hv1.1.1, hv1.1.2⟩, ⟨by rw [e20]; exact hv1.2.1.1, hv1.2.1.2⟩, fun k hk => by rw [el]; exact hv1.2.2.1 k hk, fun s hs => by rw [eh, (hh1 s hs).1]; exact ⟨_, (hh1 s hs).2, rfl⟩⟩
      · show ∀ i, i < 2 * T' → xstp (g4 (b.2 + 3) i)
        intro i hi
        rw [ex, (hv1.2.2.2 i hi).1]
        exact (hv1.2.2.2 i hi).2
      · show xRr g4 (g4 (b.2 + 1)) (g4 (b.2 + 3)) G' T' Lw'
        refine ⟨⟨l10, hv1.1.2⟩, ⟨l12, hv1.2.1.2⟩, fun k hk => ?_, fun s hs => ?_, fun i hi => ?_⟩
        · rw [l82 _ (by omega), l82 _ (by omega)]
          exact hw3.2.2.1 k hk
        · rw [l81 s hs, eh, (hh1 s hs).1, (hh3 s hs).1]
          exact ⟨rfl, _, (hh1 s hs).2, rfl⟩
        · rw [l83 i hi, ex, (hv1.2.2.2 i hi).1]
          exact (hw3.2.2.2 i hi).1
      · rw [la 76 (by decide) (by decide) (by decide) (by decide) (by decide) (by decide), la 77 (by decide) (by decide) (by decide) (by decide) (by decide) (by decide), lc (35 + 2 * r) (by omega), lc (35 + 2 * r + 1) (by omega), ka 76 (by omega) (by omega) (by omega) (by omega) (by omega), ka 77 (by omega) (by omega) (by omega) (by omega) (by omega), ka (35 + 2 * r) (by omega) (by omega) (by omega) (by omega) (by omega), ka (35 + 2 * r + 1) (by omega) (by omega) (by omega) (by omega) (by omega)]
        exact hYr r hr
    · refine (c_X11_room_st (k := 3) (b := b) (l := l) ht e hn rfl hb2 (by omega) hPR (fun d hd => by have := xprs_b hd; omega)).weak (fun r M w => ?_)
      obtain ⟨g1, e1, f1, e2⟩ := w
      have hA1 : xAg b g g1 := xAg_s hbw (fun a ha => f1 a (by unfold xSc at ha; omega) (by unfold xSc at ha; omega) (by unfold xSc at ha; omega) (by unfold xSc at ha; omega))
      refine ⟨_, b, g1, l, e2, e1, (c_X12_room_st (k := 5) (f := g (35 + 2 * t + 1)) (n := n) ht (by rw [f1 76 (by omega) (by omega) (by omega) (by omega)]; exact er) hn (fun i hi => by rw [f1 77 (by omega) (by omega) (by omega) (by omega)]; exact hfv i hi) hPR).weak (fun r' M' w => ?_)⟩
      obtain ⟨g2, e3, f2, e4⟩ := w
      exact ⟨_, b, g2, l, e4, e3, xJ_ag (xAg_t hA1 (xAg_Fp f2)) hJ1, fun _ => rfl⟩
  · exact xJ2.mk (c_X11_room_bad hx) (c_X12_room_bad hx) (hJ1) (fun _ => rfl)

end
end
section
/-! rows that change: both calls -/
section
variable {b : Nat × Nat} {g g' : Nat → Nat → Int32} {l : Nat → Nat → Int64} {G T m : Nat} {Lw : Nat → Nat} {x y z i j v : Int32}

theorem xfos_c {S : Int32} {f f' : Nat → Int32} {most : Nat} (hz : xsz S 40) (hf : ∀ n, n ≤ 40 → S = nI n → ∀ i, i < n → f' i = f i) : xfos S f' most = xfos S f most := by
  rcases hz with e | ⟨n, hn, e⟩
  · unfold xfos
    rw [if_pos e, if_pos e]
  · have h1 : xfst (xnst f') (xN S) = xfst (xnst f) (xN S) := xfst_congr (fun i hi => by
      rw [e, xN_nI (by omega)] at hi
      unfold xnst
      rw [hf n hn e i hi])
    unfold xfos
    rw [h1]
theorem xfop_c {S S' : Int32} {f f' h h' : Nat → Int32} {most : Nat} (hz : xsz S 40) (hz' : xsz S' 40) (hf : ∀ n, n ≤ 40 → S = nI n → ∀ i, i < n → f' i = f i) (hh : ∀ n, n ≤ 40 → S' = nI n → ∀ i, i < n → h' i = h i) : xfop S f' S' h' most = xfop S f S' h most := by
  unfold xfop
  rw [xfos_c hz hf, xfos_c hz' hh]
theorem xJ_rw (hI : xIc b g G T Lw m) (hJ : xIr b g G T Lw m) (e : ∀ a, (b.1 ≤ a ∧ a ≤ b.1 + 3) ∨ a = 4 ∨ a = 5 ∨ (35 ≤ a ∧ a < 73) ∨ (76 ≤ a ∧ a < 78) ∨ (81 ≤ a ∧ a < 89) → g' a = g a) (e73 : g' 73 10 = g 73 10 ∧ g' 73 12 = g 73 12 ∧ g' 73 14 = g 73 14) (hZ : ∀ r, r < 6 → xsz (g' (23 + 2 * r) 1) 40) (hQ : ∀ r, r < 6 → g' 74 r = g' (23 + 2 * r) 1 ∧ ∀ n, n ≤ 40 → g' (23 + 2 * r) 1 = nI n → ∀ i, i < n → g' 75 (40 * r + i) = g' (23 + 2 * r + 1) i) : xJ b g' := by
  have hY := hI.2.2.2.2.2.2.2.2
  have hYr := hJ.2.2.2.2.2
  refine ⟨G, T, Lw, m, xIc_f2 hI (fun a ha => e a (by omega)) hZ (fun r hr => by rw [e _ (by omega)]; exact hY r hr), xIr_f2 hJ (fun a ha => e a (by omega)) e73 hQ (fun t ht => ?_)⟩
  rw [e 76 (by omega), e 77 (by omega), e (35 + 2 * t) (by omega), e (35 + 2 * t + 1) (by omega)]
  exact hYr t ht

theorem j_row (hJ : xJ b g) : xJ2 Value.int True 78 158 [.int x, .int y] b g l := by
  have hJ1 := hJ
  obtain ⟨G, T, Lw, m, hI, hJr⟩ := hJ
  have hI0 := hI
  have hJ0 := hJr
  obtain ⟨hb, hp, hR, htx, ⟨hs, hm⟩, hD, hK, hZ, hY⟩ := hI
  obtain ⟨hRr, hsr, hDr, hKr, hZr, hYr⟩ := hJr
  obtain ⟨hb1, hb2⟩ := xro_b hb
  have hq := xb2 hb
  have hbv : b.1 = 7 ∨ b.1 = 11 := by omega
  have hbw : b.2 = 7 ∨ b.2 = 11 := by omega
  have eG : g b.1 2 = nI G := hR.1.1
  have hG6 : G ≤ 6 := hR.1.2
  have eGr : g 73 10 = nI G := hRr.1.1
  by_cases hx : (0 ≤ x ∧ x < 6) ∧ y ≤ 40
  · obtain ⟨t, ht, rfl⟩ := xin (n := 6) (by omega) hx.1
    by_cases hy : y < 0
    · exact xJ2.mk (c_X11_row_neg ht hy) (c_X12_row_neg ht hy) (xJ_ag (xAg_t (xAg_C hbw _) (xAg_R _)) hJ1) (fun _ => rfl)
    · obtain ⟨n, hn, rfl⟩ := xinl (n := 40) (by omega) ⟨Int32.not_lt.mp hy, hx.2⟩
      have e0 : ∀ a, a ≠ 74 → a ≠ 75 → a ≠ 23 + 2 * t → a ≠ 23 + 2 * t + 1 → gseg (up (gfill (up g (23 + 2 * t) 1 (nI n)) (23 + 2 * t + 1) n 0) 74 t (nI n)) 75 (40 * t) n (fun _ => 0) a = g a := fun a h1 h2 h3 h4 => by rw [gseg_na h2, up_na h1, gfill_na h4, up_na h3]
      have z1 : gseg (up (gfill (up g (23 + 2 * t) 1 (nI n)) (23 + 2 * t + 1) n 0) 74 t (nI n)) 75 (40 * t) n (fun _ => 0) (23 + 2 * t) 1 = nI n := by rw [gseg_na (by omega), up_na (by omega), gfill_na (by omega), up_same]
      have e73 := e0 73 (by decide) (by decide) (by omega) (by omega)
      refine xJ2.mk (c_X11_row_ok ht hn) (c_X12_row_ok ht hn) (xJ_rw hI0 hJ0 (fun a ha => e0 a (by omega) (by omega) (by omega) (by omega)) (by rw [e73]; exact ⟨rfl, rfl, rfl⟩) (fun r hr => ?_) (fun r hr => ?_)) (fun _ => rfl)
      · by_cases e : r = t
        · rw [e, z1]; exact xsz_nI hn
        · rw [e0 _ (by omega) (by omega) (by omega) (by omega)]; exact hZ r hr
      · by_cases e : r = t
        · subst e
          rw [z1]
          refine ⟨by rw [gseg_na (by decide), up_same], fun n' hn' en i hi => ?_⟩
          have e2 := nI_inj (by omega) (by omega) en
          subst e2
          rw [gseg_in hi, gseg_na (by omega), up_na (by omega), gfill_in hi]
        · rw [e0 (23 + 2 * r) (by omega) (by omega) (by omega) (by omega), e0 (23 + 2 * r + 1) (by omega) (by omega) (by omega) (by omega)]
          refine ⟨by rw [gseg_na (by decide), up_ne (Or.inr e), gfill_na (by omega), up_na (by omega)]; exact (hZr r hr).1, fun n' hn' en i hi => ?_⟩
          rw [gseg_out (by omega), up_na (by decide), gfill_na (by omega), up_na (by omega)]
          exact (hZr r hr).2 n' hn' en i hi
  · exact xJ2.mk (c_X11_row_bad hx) (c_X12_row_bad hx) (hJ1) (fun _ => rfl)

theorem j_lay (hJ : xJ b g) : xJ2 Value.int True 79 160 [.int x, .int i, .int v] b g l := by
  have hJ1 := hJ
  obtain ⟨G, T, Lw, m, hI, hJr⟩ := hJ
  have hI0 := hI
  have hJ0 := hJr
  obtain ⟨hb, hp, hR, htx, ⟨hs, hm⟩, hD, hK, hZ, hY⟩ := hI
  obtain ⟨hRr, hsr, hDr, hKr, hZr, hYr⟩ := hJr
  obtain ⟨hb1, hb2⟩ := xro_b hb
  have hq := xb2 hb
  have hbv : b.1 = 7 ∨ b.1 = 11 := by omega
  have hbw : b.2 = 7 ∨ b.2 = 11 := by omega
  have eG : g b.1 2 = nI G := hR.1.1
  have hG6 : G ≤ 6 := hR.1.2
  have eGr : g 73 10 = nI G := hRr.1.1
  by_cases hx : 0 ≤ x ∧ x < 6
  · obtain ⟨p, hp1, rfl⟩ := xin (n := 6) (by omega) hx
    rcases hZ p hp1 with e | ⟨n, hn, e⟩
    · exact xJ2.mk (c_X11_lay_no hp1 e) (c_X12_lay_no hp1 (by unfold xfC; rw [up_na (by decide), up_na (by decide), (hZr p hp1).1]; exact e)) (xJ_ag (xAg_t (xAg_C hbw _) (xAg_R _)) hJ1) (fun _ => rfl)
    have er : g 74 p = nI n := by rw [(hZr p hp1).1]; exact e
    by_cases hi : 0 ≤ i ∧ i < nI n
    · obtain ⟨t, ht, rfl⟩ := xin (n := n) (by omega) hi
      have e0 : ∀ a, a ≠ 0 → a ≠ 73 → a ≠ 75 → a ≠ 23 + 2 * p + 1 → up (up (up (up g 0 11 (g ((23 + 2 * p) + 1) t)) ((23 + 2 * p) + 1) t v) 75 (40 * p + t) v) 73 20 (up (up g 0 11 (g ((23 + 2 * p) + 1) t)) ((23 + 2 * p) + 1) t v 75 (40 * p + t)) a = g a := fun a h1 h2 h3 h4 => by rw [up_na h2, up_na h3, up_na h4, up_na h1]
      refine xJ2.mk (c_X11_lay_ok hp1 e hn ht) (c_X12_lay_ok hp1 (by rw [up_na (by omega), up_na (by omega)]; exact er) hn ht) (xJ_rw hI0 hJ0 (fun a ha => e0 a (by omega) (by omega) (by omega) (by omega)) ⟨by rw [up_ne (Or.inr (by decide)), up_na (by decide), up_na (by omega), up_na (by decide)], by rw [up_ne (Or.inr (by decide)), up_na (by decide), up_na (by omega), up_na (by decide)], by rw [up_ne (Or.inr (by decide)), up_na (by decide), up_na (by omega), up_na (by decide)]⟩ (fun r hr => by rw [e0 _ (by omega) (by omega) (by omega) (by omega)]; exact hZ r hr) (fun r hr => ?_)) (fun _ => rfl)
      rw [e0 (23 + 2 * r) (by omega) (by omega) (by omega) (by omega), e0 74 (by decide) (by decide) (by decide) (by omega)]
      refine ⟨(hZr r hr).1, fun n' hn' en q hq1 => ?_⟩
      have z := (hZr r hr).2 n' hn' en q hq1
      rw [up_na (by decide)]
      by_cases e1 : r = p
      · subst e1
        by_cases e2 : q = t
        · subst e2
          rw [up_same, up_na (by omega), up_na (by omega), up_same]
        · rw [up_ne (Or.inr (by omega)), up_na (by omega), up_na (by decide), up_na (by omega), up_na (by omega), up_ne (Or.inr e2), up_na (by omega)]
          exact z
      · rw [e0 (23 + 2 * r + 1) (by omega) (by omega) (by omega) (by omega), up_ne (Or.inr (by omega)), up_na (by omega), up_na (by decide)]
        exact z
    · exact xJ2.mk (c_X11_lay_bey hp1 e hn hi) (c_X12_lay_bey hp1 (by unfold xfC; rw [up_na (by decide), up_na (by decide)]; exact er) hn hi) (xJ_ag (xAg_t (xAg_C hbw _) (xAg_R _)) hJ1) (fun _ => rfl)
  · exact xJ2.mk (c_X11_lay_bad hx) (c_X12_lay_bad hx) (hJ1) (fun _ => rfl)

theorem j_tear (hJ : xJ b g) : xJ2 Value.int True 81 162 [.int x] b g l := by
  have hJ1 := hJ
  obtain ⟨G, T, Lw, m, hI, hJr⟩ := hJ
  have hI0 := hI
  have hJ0 := hJr
  obtain ⟨hb, hp, hR, htx, ⟨hs, hm⟩, hD, hK, hZ, hY⟩ := hI
  obtain ⟨hRr, hsr, hDr, hKr, hZr, hYr⟩ := hJr
  obtain ⟨hb1, hb2⟩ := xro_b hb
  have hq := xb2 hb
  have hbv : b.1 = 7 ∨ b.1 = 11 := by omega
  have hbw : b.2 = 7 ∨ b.2 = 11 := by omega
  have eG : g b.1 2 = nI G := hR.1.1
  have hG6 : G ≤ 6 := hR.1.2
  have eGr : g 73 10 = nI G := hRr.1.1
  by_cases hx : 0 ≤ x ∧ x < 6
  · obtain ⟨p, hp1, rfl⟩ := xin (n := 6) (by omega) hx
    rcases hZ p hp1 with e | ⟨n, hn, e⟩
    · exact xJ2.mk (c_X11_tear_no hp1 e) (c_X12_tear_no hp1 (by unfold xfC; rw [up_na (by decide), up_na (by decide), (hZr p hp1).1]; exact e)) (xJ_ag (xAg_t (xAg_C hbw _) (xAg_R _)) hJ1) (fun _ => rfl)
    have e0 : ∀ a, a ≠ 74 → a ≠ 23 + 2 * p → up (up g (23 + 2 * p) 1 (-1)) 74 p (-1) a = g a := fun a h1 h2 => by rw [up_na h1, up_na h2]
    have e73 := e0 73 (by decide) (by omega)
    refine xJ2.mk (c_X11_tear_ok hp1 (by rw [e]; exact nI_nm1 (by omega))) (c_X12_tear_ok (m := n) hp1 (by rw [up_na (by omega), (hZr p hp1).1]; exact e) hn) (xJ_rw hI0 hJ0 (fun a ha => e0 a (by omega) (by omega)) (by rw [e73]; exact ⟨rfl, rfl, rfl⟩) (fun r hr => ?_) (fun r hr => ?_)) (fun _ => rfl)
    · by_cases e1 : r = p
      · rw [e1, up_na (by omega), up_same]; exact Or.inl rfl
      · rw [e0 _ (by omega) (by omega)]; exact hZ r hr
    · by_cases e1 : r = p
      · subst e1
        rw [up_same, up_na (by omega), up_same]
        exact ⟨rfl, fun n' hn' en => absurd en (m1n (by omega))⟩
      · rw [up_ne (Or.inr e1), up_na (by omega), e0 (23 + 2 * r) (by omega) (by omega), e0 75 (by decide) (by omega), e0 (23 + 2 * r + 1) (by omega) (by omega)]
        exact hZr r hr
  · exact xJ2.mk (c_X11_tear_bad hx) (c_X12_tear_bad hx) (hJ1) (fun _ => rfl)

theorem j_copy (hJ : xJ b g) : xJ2 Value.int True 82 164 [.int x, .int i, .int y, .int j, .int z] b g l := by
  have hJ1 := hJ
  obtain ⟨G, T, Lw, m, hI, hJr⟩ := hJ
  have hI0 := hI
  have hJ0 := hJr
  obtain ⟨hb, hp, hR, htx, ⟨hs, hm⟩, hD, hK, hZ, hY⟩ := hI
  obtain ⟨hRr, hsr, hDr, hKr, hZr, hYr⟩ := hJr
  obtain ⟨hb1, hb2⟩ := xro_b hb
  have hq := xb2 hb
  have hbv : b.1 = 7 ∨ b.1 = 11 := by omega
  have hbw : b.2 = 7 ∨ b.2 = 11 := by omega
  have eG : g b.1 2 = nI G := hR.1.1
  have hG6 : G ≤ 6 := hR.1.2
  have eGr : g 73 10 = nI G := hRr.1.1
  by_cases hx : (0 ≤ x ∧ x < 6) ∧ 0 ≤ y ∧ y < 6
  · obtain ⟨p, hp1, rfl⟩ := xin (n := 6) (by omega) hx.1
    obtain ⟨s, hs1, rfl⟩ := xin (n := 6) (by omega) hx.2
    by_cases hz : z < 0
    · exact xJ2.mk (c_X11_copy_neg hp1 hs1 hz) (c_X12_copy_neg hp1 hs1 hz) (xJ_ag (xAg_t (xAg_C hbw _) (xAg_R _)) hJ1) (fun _ => rfl)
    obtain ⟨n, hn, rfl⟩ := nI_of hz
    rcases hZ p hp1 with e | ⟨m1, hm1, e⟩
    · have er : g 74 p = -1 := by rw [(hZr p hp1).1]; exact e
      exact xJ2.mk (c_X11_copy_no hp1 hs1 hn (Or.inl e)) (c_X12_copy_no hp1 hs1 hn (Or.inl (by unfold xfC; rw [up_na (by decide), up_na (by decide)]; exact er))) (xJ_ag (xAg_t (xAg_C hbw _) (xAg_R _)) hJ1) (fun _ => rfl)
    rcases hZ s hs1 with e' | ⟨m2, hm2, e'⟩
    · have er : g 74 s = -1 := by rw [(hZr s hs1).1]; exact e'
      exact xJ2.mk (c_X11_copy_no hp1 hs1 hn (Or.inr e')) (c_X12_copy_no hp1 hs1 hn (Or.inr (by unfold xfC; rw [up_na (by decide), up_na (by decide)]; exact er))) (xJ_ag (xAg_t (xAg_C hbw _) (xAg_R _)) hJ1) (fun _ => rfl)
    have er : g 74 p = nI m1 := by rw [(hZr p hp1).1]; exact e
    have er' : g 74 s = nI m2 := by rw [(hZr s hs1).1]; exact e'
    by_cases hq2 : xpl i n m1 ∧ xpl j n m2
    · obtain ⟨i1, rfl, h1⟩ := xpl_ok (by omega) hn hq2.1
      obtain ⟨j1, rfl, h2⟩ := xpl_ok (by omega) hn hq2.2
      have e0 : ∀ a, a ≠ 75 → a ≠ 23 + 2 * s + 1 → gseg (gcopy g (23 + 2 * p + 1) i1 (23 + 2 * s + 1) j1 n) 75 (40 * s + j1) n (fun q => gcopy g (23 + 2 * p + 1) i1 (23 + 2 * s + 1) j1 n 75 (40 * p + i1 + q)) a = g a := fun a h1 h2 => by rw [gseg_na h1, gcopy_na h2]
      have e73 := e0 73 (by decide) (by omega)
      refine xJ2.mk (c_X11_copy_ok hp1 hs1 e hm1 e' hm2 h1 h2) (c_X12_copy_ok hp1 hs1 (by rw [gcopy_na (by omega)]; exact er) hm1 (by rw [gcopy_na (by omega)]; exact er') hm2 h1 h2) (xJ_rw hI0 hJ0 (fun a ha => e0 a (by omega) (by omega)) (by rw [e73]; exact ⟨rfl, rfl, rfl⟩) (fun r hr => by rw [e0 _ (by omega) (by omega)]; exact hZ r hr) (fun r hr => ?_)) (fun _ => rfl)
      rw [e0 (23 + 2 * r) (by omega) (by omega), e0 74 (by decide) (by omega)]
      refine ⟨(hZr r hr).1, fun n' hn' en q hq1 => ?_⟩
      have zq := (hZr r hr).2 n' hn' en q hq1
      by_cases e1 : r = s
      · subst e1
        have en2 := nI_inj (by omega) (by omega) (en.symm.trans e')
        by_cases e2 : j1 ≤ q ∧ q < j1 + n
        · obtain ⟨u, rfl⟩ : ∃ u, q = j1 + u := ⟨q - j1, by omega⟩
          rw [show 40 * r + (j1 + u) = 40 * r + j1 + u by omega, gseg_in (by omega), gcopy_na (by omega), gseg_na (by omega), gcopy_in (by omega), show 40 * p + i1 + u = 40 * p + (i1 + u) by omega]
          exact (hZr p hp1).2 m1 hm1 e (i1 + u) (by omega)
        · rw [gseg_out (by omega), gcopy_na (by omega), gseg_na (by omega)]
          rw [show gcopy g (23 + 2 * p + 1) i1 (23 + 2 * r + 1) j1 n (23 + 2 * r + 1) q = g (23 + 2 * r + 1) q from if_neg (fun z => e2 z.2)]
          exact zq
      · rw [e0 (23 + 2 * r + 1) (by omega) (by omega), gseg_out (by omega), gcopy_na (by omega)]
        exact zq
    · exact xJ2.mk (c_X11_copy_bey hp1 hs1 hn e hm1 e' hm2 hq2) (c_X12_copy_bey hp1 hs1 hn (by unfold xfC; rw [up_na (by decide), up_na (by decide)]; exact er) hm1 (by unfold xfC; rw [up_na (by decide), up_na (by decide)]; exact er') hm2 hq2) (xJ_ag (xAg_t (xAg_C hbw _) (xAg_R _)) hJ1) (fun _ => rfl)
  · exact xJ2.mk (c_X11_copy_bad hx) (c_X12_copy_bad hx) (hJ1) (fun _ => rfl)

theorem j_show (hJ : xJ b g) : xJ2 Value.int True 98 202 [.int x, .int y, .int z] b g l := by
  have hJ1 := hJ
  obtain ⟨G, T, Lw, m, hI, hJr⟩ := hJ
  have hI0 := hI
  have hJ0 := hJr
  obtain ⟨hb, hp, hR, htx, ⟨hs, hm⟩, hD, hK, hZ, hY⟩ := hI
  obtain ⟨hRr, hsr, hDr, hKr, hZr, hYr⟩ := hJr
  obtain ⟨hb1, hb2⟩ := xro_b hb
  have hq := xb2 hb
  have hbv : b.1 = 7 ∨ b.1 = 11 := by omega
  have hbw : b.2 = 7 ∨ b.2 = 11 := by omega
  have eG : g b.1 2 = nI G := hR.1.1
  have hG6 : G ≤ 6 := hR.1.2
  have eGr : g 73 10 = nI G := hRr.1.1
  by_cases hx : (0 ≤ x ∧ x < g b.1 2) ∧ (0 ≤ y ∧ y < 6) ∧ 0 ≤ z ∧ z < 6
  · obtain ⟨s, hk, rfl⟩ := xin (n := G) (by omega) ⟨hx.1.1, by rw [← eG]; exact hx.1.2⟩
    obtain ⟨t, ht, rfl⟩ := xin (n := 6) (by omega) hx.2.1
    obtain ⟨p, hp1, rfl⟩ := xin (n := 6) (by omega) hx.2.2
    have hzt : xsz (g 74 t) 40 := by rw [(hZr t ht).1]; exact hZ t ht
    have hfe : xfos (g 74 t) (fun i => g 75 (40 * t + i)) 12 = xfos (g (23 + 2 * t) 1) (g (23 + 2 * t + 1)) 12 := by
      rw [(hZr t ht).1]
      exact xfos_c (hZ t ht) (fun n hn en i hi => (hZr t ht).2 n hn en i hi)
    by_cases hf : xfos (g (23 + 2 * t) 1) (g (23 + 2 * t + 1)) 12 = 0
    · obtain ⟨m1, e, h12, h40, hxs⟩ := xfos_0 (hZ t ht) (by decide) (by decide) hf
      have er : g 74 t = nI m1 := by rw [(hZr t ht).1]; exact e
      have hrow : ∀ i, i < m1 → g 75 (40 * t + i) = g (23 + 2 * t + 1) i := (hZr t ht).2 m1 h40 e
      have c0 : ∀ a, a ≠ 15 → a ≠ 16 → a ≠ 17 → a ≠ 23 + 2 * p → a ≠ 23 + 2 * p + 1 → (gset (gfill (up (gcopy (up g 15 1 (nI m1)) (23 + 2 * t + 1) 0 (15 + 1) 0 m1) (23 + 2 * p) 1 (nI m1)) (23 + 2 * p + 1) m1 0) (23 + 2 * p + 1) m1 (xshw (g (b.1 + 1)) (Lw s / 4) (Lw s % 4) (fun i => xN (g (23 + 2 * t + 1) i)))) a = g a := fun a h1 h2 h3 h4 h5 => by rw [gset_na h5, gfill_na h5, up_na h4, gcopy_na h2, up_na h1]
      have cs : (gset (gfill (up (gcopy (up g 15 1 (nI m1)) (23 + 2 * t + 1) 0 (15 + 1) 0 m1) (23 + 2 * p) 1 (nI m1)) (23 + 2 * p + 1) m1 0) (23 + 2 * p + 1) m1 (xshw (g (b.1 + 1)) (Lw s / 4) (Lw s % 4) (fun i => xN (g (23 + 2 * t + 1) i)))) (23 + 2 * p) 1 = nI m1 := by rw [gset_na (by omega), gfill_na (by omega), up_same]
      have cv : ∀ i, i < m1 → (gset (gfill (up (gcopy (up g 15 1 (nI m1)) (23 + 2 * t + 1) 0 (15 + 1) 0 m1) (23 + 2 * p) 1 (nI m1)) (23 + 2 * p + 1) m1 0) (23 + 2 * p + 1) m1 (xshw (g (b.1 + 1)) (Lw s / 4) (Lw s % 4) (fun i => xN (g (23 + 2 * t + 1) i)))) (23 + 2 * p + 1) i = (xshw (g (b.1 + 1)) (Lw s / 4) (Lw s % 4) (fun i => xN (g (23 + 2 * t + 1) i))) i := fun i hi => by rw [gset_in hi]
      have hc := c_X11_show_ok (k := 5) (l := l) hb1 hR hp hbv hk ht hp1 e h12 hf hxs
      generalize gset (gfill (up (gcopy (up g 15 1 (nI m1)) (23 + 2 * t + 1) 0 (15 + 1) 0 m1) (23 + 2 * p) 1 (nI m1)) (23 + 2 * p + 1) m1 0) (23 + 2 * p + 1) m1 (xshw (g (b.1 + 1)) (Lw s / 4) (Lw s % 4) (fun i => xN (g (23 + 2 * t + 1) i))) = g1 at c0 cs cv hc
      refine hc.weak (fun r M w => ⟨_, b, g1, l, w.2, w.1, (c_X12_show_ok (k := 6) (xRr_fr (by rw [c0 73 (by omega) (by omega) (by omega) (by omega) (by omega)]) (by rw [c0 73 (by omega) (by omega) (by omega) (by omega) (by omega)]) (c0 _ (by omega) (by omega) (by omega) (by omega) (by omega)) (c0 _ (by omega) (by omega) (by omega) (by omega) (by omega)) (c0 _ (by omega) (by omega) (by omega) (by omega) (by omega)) hRr) hk hp1 ht (by rw [c0 74 (by omega) (by omega) (by omega) (by omega) (by omega)]; exact er) h12 (by rw [c0 74 (by omega) (by omega) (by omega) (by omega) (by omega), c0 75 (by omega) (by omega) (by omega) (by omega) (by omega), hfe]; exact hf) (fun i hi => by rw [c0 75 (by omega) (by omega) (by omega) (by omega) (by omega), hrow i hi]; exact hxs i hi)).weak (fun r' M' w' => ?_)⟩)
      · skip
        obtain ⟨g0, hF, e1, e2⟩ := w'
        have f0 : ∀ a, a < 89 → a ≠ 73 → a ≠ 74 → a ≠ 75 → gseg (up g0 74 p (nI m1)) 75 (40 * p) m1 (xshw (g (b.1 + 1)) (Lw s / 4) (Lw s % 4) (fun i => xN (g1 75 (40 * t + i)))) a = g1 a := fun a h1 h2 h3 h4 => by rw [gseg_na h4, up_na h3, hF.1 a h1 h2]
        have f74 : ∀ r, r < 6 → gseg (up g0 74 p (nI m1)) 75 (40 * p) m1 (xshw (g (b.1 + 1)) (Lw s / 4) (Lw s % 4) (fun i => xN (g1 75 (40 * t + i)))) 74 r = if r = p then nI m1 else g 74 r := fun r hr => by
          rw [gseg_na (by decide)]
          by_cases e9 : r = p
          · rw [if_pos e9, e9, up_same]
          · rw [if_neg e9, up_ne (Or.inr e9), hF.1 74 (by decide) (by decide), c0 74 (by omega) (by omega) (by omega) (by omega) (by omega)]
        refine ⟨_, b, _, l, e2, e1, xJ_rw hI0 hJ0 (fun a ha => by rw [f0 a (by omega) (by omega) (by omega) (by omega)]; exact c0 a (by omega) (by omega) (by omega) (by omega) (by omega)) ⟨by rw [gseg_na (by decide), up_na (by decide), hF.2 10 (by decide), c0 73 (by omega) (by omega) (by omega) (by omega) (by omega)], by rw [gseg_na (by decide), up_na (by decide), hF.2 12 (by decide), c0 73 (by omega) (by omega) (by omega) (by omega) (by omega)], by rw [gseg_na (by decide), up_na (by decide), hF.2 14 (by decide), c0 73 (by omega) (by omega) (by omega) (by omega) (by omega)]⟩ (fun r hr => ?_) (fun r hr => ?_), fun _ => rfl⟩
        · rw [f0 _ (by omega) (by omega) (by omega) (by omega)]
          by_cases e9 : r = p
          · rw [e9, cs]; exact xsz_nI h40
          · rw [c0 _ (by omega) (by omega) (by omega) (by omega) (by omega)]; exact hZ r hr
        · rw [f74 r hr, f0 (23 + 2 * r) (by omega) (by omega) (by omega) (by omega), f0 (23 + 2 * r + 1) (by omega) (by omega) (by omega) (by omega)]
          by_cases e9 : r = p
          · subst e9
            rw [if_pos rfl, cs]
            refine ⟨rfl, fun n' hn' en i hi => ?_⟩
            have e8 := nI_inj (by omega) (by omega) en
            subst e8
            rw [gseg_in hi, cv i hi]
            exact xshw_c (fun j hj => by show xN (g1 75 (40 * t + j)) = xN (g (23 + 2 * t + 1) j); rw [c0 75 (by omega) (by omega) (by omega) (by omega) (by omega), hrow j (by omega)])
          · rw [if_neg e9, c0 (23 + 2 * r) (by omega) (by omega) (by omega) (by omega) (by omega), c0 (23 + 2 * r + 1) (by omega) (by omega) (by omega) (by omega) (by omega)]
            refine ⟨(hZr r hr).1, fun n' hn' en i hi => ?_⟩
            rw [gseg_out (by omega), up_na (by decide), hF.1 75 (by decide) (by decide), c0 75 (by omega) (by omega) (by omega) (by omega) (by omega)]
            exact (hZr r hr).2 n' hn' en i hi
    · refine (c_X11_show_ref (k := 5) (b := b) (l := l) hb1 hR hk ht (hZ t ht) hp1 hf).weak (fun r M w => ?_)
      have c73 : ∀ a, a ≠ 0 → a ≠ 22 → xfC g (xfos (g (23 + 2 * t) 1) (g (23 + 2 * t + 1)) 12) a = g a := fun a h1 h2 => by unfold xfC; rw [up_na h2, up_na h1]
      have hA := xAg_C (b := b) (g := g) hbw (xfos (g (23 + 2 * t) 1) (g (23 + 2 * t + 1)) 12)
      refine ⟨_, b, _, l, w.2, w.1, (c_X12_show_ref (k := 6) (xRr_fr (by rw [c73 73 (by decide) (by decide)]) (by rw [c73 73 (by decide) (by decide)]) (c73 _ (by decide) (by decide)) (c73 _ (by decide) (by decide)) (c73 _ (by decide) (by decide)) hRr) hk ht hp1 (by rw [c73 74 (by decide) (by decide)]; exact hzt) (by rw [c73 74 (by decide) (by decide), c73 75 (by decide) (by decide), hfe]; exact hf)).weak (fun r' M' w' => ?_)⟩
      obtain ⟨g0, hF, e1, e2⟩ := w'
      exact ⟨_, b, g0, l, e2, e1, xJ_ag (xAg_t hA (xAg_Fr hF)) hJ1, fun _ => rfl⟩
  · exact xJ2.mk (c_X11_show_bad hb1 hx) (c_X12_show_bad hRr (by rw [← eG]; exact hx)) (hJ1) (fun _ => rfl)

theorem j_first (hJ : xJ b g) : xJ2 Value.int True 103 211 [.int x, .int y, .int z] b g l := by
  have hJ1 := hJ
  obtain ⟨G, T, Lw, m, hI, hJr⟩ := hJ
  have hI0 := hI
  have hJ0 := hJr
  obtain ⟨hb, hp, hR, htx, ⟨hs, hm⟩, hD, hK, hZ, hY⟩ := hI
  obtain ⟨hRr, hsr, hDr, hKr, hZr, hYr⟩ := hJr
  obtain ⟨hb1, hb2⟩ := xro_b hb
  have hq := xb2 hb
  have hbv : b.1 = 7 ∨ b.1 = 11 := by omega
  have hbw : b.2 = 7 ∨ b.2 = 11 := by omega
  have eG : g b.1 2 = nI G := hR.1.1
  have hG6 : G ≤ 6 := hR.1.2
  have eGr : g 73 10 = nI G := hRr.1.1
  by_cases hx : (0 ≤ x ∧ x < g b.1 2) ∧ (0 ≤ y ∧ y < 6) ∧ 0 ≤ z ∧ z < 6
  · obtain ⟨s, hk, rfl⟩ := xin (n := G) (by omega) ⟨hx.1.1, by rw [← eG]; exact hx.1.2⟩
    obtain ⟨t, ht, rfl⟩ := xin (n := 6) (by omega) hx.2.1
    obtain ⟨p, hp1, rfl⟩ := xin (n := 6) (by omega) hx.2.2
    have hzt : xsz (g 74 t) 40 := by rw [(hZr t ht).1]; exact hZ t ht
    have hfe : xfos (g 74 t) (fun i => g 75 (40 * t + i)) 6 = xfos (g (23 + 2 * t) 1) (g (23 + 2 * t + 1)) 6 := by
      rw [(hZr t ht).1]
      exact xfos_c (hZ t ht) (fun n hn en i hi => (hZr t ht).2 n hn en i hi)
    by_cases hf : xfos (g (23 + 2 * t) 1) (g (23 + 2 * t + 1)) 6 = 0
    · obtain ⟨m1, e, h12, h40, hxs⟩ := xfos_0 (hZ t ht) (by decide) (by decide) hf
      have er : g 74 t = nI m1 := by rw [(hZr t ht).1]; exact e
      have hrow : ∀ i, i < m1 → g 75 (40 * t + i) = g (23 + 2 * t + 1) i := (hZr t ht).2 m1 h40 e
      cases hnz : (xnz (xst (Lw s / 4) (Lw s % 4) (xB (g (b.1 + 1)) (Lw s / 4) (g (23 + 2 * t + 1))) m1) m1 (xps (Lw s / 4) (Lw s % 4) (g (23 + 2 * t + 1)) m1)) with
      | true =>
        have c0 : ∀ a, a ≠ 15 → a ≠ 16 → a ≠ 17 → a ≠ 23 + 2 * p → a ≠ 23 + 2 * p + 1 → (gset (gfill (up (gset g 17 m1 (xst (Lw s / 4) (Lw s % 4) (xB (g (b.1 + 1)) (Lw s / 4) (g (23 + 2 * t + 1))) m1)) (23 + 2 * p) 1 (nI m1)) (23 + 2 * p + 1) m1 0) (23 + 2 * p + 1) m1 (fun i => nI (xlst ((xst (Lw s / 4) (Lw s % 4) (xB (g (b.1 + 1)) (Lw s / 4) (g (23 + 2 * t + 1))) m1) i)))) a = g a := fun a h1 h2 h3 h4 h5 => by rw [gset_na h5, gfill_na h5, up_na h4, gset_na h3]
        have cs : (gset (gfill (up (gset g 17 m1 (xst (Lw s / 4) (Lw s % 4) (xB (g (b.1 + 1)) (Lw s / 4) (g (23 + 2 * t + 1))) m1)) (23 + 2 * p) 1 (nI m1)) (23 + 2 * p + 1) m1 0) (23 + 2 * p + 1) m1 (fun i => nI (xlst ((xst (Lw s / 4) (Lw s % 4) (xB (g (b.1 + 1)) (Lw s / 4) (g (23 + 2 * t + 1))) m1) i)))) (23 + 2 * p) 1 = nI m1 := by rw [gset_na (by omega), gfill_na (by omega), up_same]
        have cv : ∀ i, i < m1 → (gset (gfill (up (gset g 17 m1 (xst (Lw s / 4) (Lw s % 4) (xB (g (b.1 + 1)) (Lw s / 4) (g (23 + 2 * t + 1))) m1)) (23 + 2 * p) 1 (nI m1)) (23 + 2 * p + 1) m1 0) (23 + 2 * p + 1) m1 (fun i => nI (xlst ((xst (Lw s / 4) (Lw s % 4) (xB (g (b.1 + 1)) (Lw s / 4) (g (23 + 2 * t + 1))) m1) i)))) (23 + 2 * p + 1) i = nI (xlst ((xst (Lw s / 4) (Lw s % 4) (xB (g (b.1 + 1)) (Lw s / 4) (g (23 + 2 * t + 1))) m1) i)) := fun i hi => by rw [gset_in hi]
        have hc := c_X11_first_ok (k := 4) (l := l) hb1 hR hp hbv hk ht hp1 e h12 hf hxs hnz
        generalize gset (gfill (up (gset g 17 m1 (xst (Lw s / 4) (Lw s % 4) (xB (g (b.1 + 1)) (Lw s / 4) (g (23 + 2 * t + 1))) m1)) (23 + 2 * p) 1 (nI m1)) (23 + 2 * p + 1) m1 0) (23 + 2 * p + 1) m1 (fun i => nI (xlst ((xst (Lw s / 4) (Lw s % 4) (xB (g (b.1 + 1)) (Lw s / 4) (g (23 + 2 * t + 1))) m1) i))) = g1 at c0 cs cv hc
        have hcc : xfst (fun c => decide (xfst (fun i => !decide (xshw (g (b.1 + 1)) (Lw s / 4) (Lw s % 4) (xd6 m1 c) i = g1 75 (40 * t + i))) m1 = none)) (6 ^ m1) = xfst (fun c => decide (xfst (fun i => !decide (xshw (g (b.1 + 1)) (Lw s / 4) (Lw s % 4) (xd6 m1 c) i = g (23 + 2 * t + 1) i)) m1 = none)) (6 ^ m1) := xfst_congr (fun c _ => by
          have hin : xfst (fun i => !decide (xshw (g (b.1 + 1)) (Lw s / 4) (Lw s % 4) (xd6 m1 c) i = g1 75 (40 * t + i))) m1 = xfst (fun i => !decide (xshw (g (b.1 + 1)) (Lw s / 4) (Lw s % 4) (xd6 m1 c) i = g (23 + 2 * t + 1) i)) m1 := xfst_congr (fun i hi => by rw [c0 75 (by omega) (by omega) (by omega) (by omega) (by omega), hrow i hi])
          rw [hin])
        obtain ⟨c, hcs⟩ : ∃ c, xfst (fun c => decide (xfst (fun i => !decide (xshw (g (b.1 + 1)) (Lw s / 4) (Lw s % 4) (xd6 m1 c) i = g (23 + 2 * t + 1) i)) m1 = none)) (6 ^ m1) = some c := by
          cases hh : xfst (fun c => decide (xfst (fun i => !decide (xshw (g (b.1 + 1)) (Lw s / 4) (Lw s % 4) (xd6 m1 c) i = g (23 + 2 * t + 1) i)) m1 = none)) (6 ^ m1) with
          | none => exact absurd hh (xany.mp hnz)
          | some c => exact ⟨c, rfl⟩
        have hfi := xfirst hcs
        refine hc.weak (fun r M w => ⟨_, b, g1, l, w.2, w.1, (c_X12_first_ok (k := 5) (c := c) (xRr_fr (by rw [c0 73 (by omega) (by omega) (by omega) (by omega) (by omega)]) (by rw [c0 73 (by omega) (by omega) (by omega) (by omega) (by omega)]) (c0 _ (by omega) (by omega) (by omega) (by omega) (by omega)) (c0 _ (by omega) (by omega) (by omega) (by omega) (by omega)) (c0 _ (by omega) (by omega) (by omega) (by omega) (by omega)) hRr) hk hp1 ht (by rw [c0 74 (by omega) (by omega) (by omega) (by omega) (by omega)]; exact er) h12 (by rw [c0 74 (by omega) (by omega) (by omega) (by omega) (by omega), c0 75 (by omega) (by omega) (by omega) (by omega) (by omega), hfe]; exact hf) (fun i hi => by rw [c0 75 (by omega) (by omega) (by omega) (by omega) (by omega), hrow i hi]; exact hxs i hi) (hcc.trans hcs)).weak (fun r' M' w' => ?_)⟩)
        obtain ⟨g0, hF, e1, e2⟩ := w'
        have f0 : ∀ a, a < 89 → a ≠ 73 → a ≠ 74 → a ≠ 75 → gseg (up g0 74 p (nI m1)) 75 (40 * p) m1 (fun i => nI (xd6 m1 c i)) a = g1 a := fun a h1 h2 h3 h4 => by rw [gseg_na h4, up_na h3, hF.1 a h1 h2]
        have f74 : ∀ r, r < 6 → gseg (up g0 74 p (nI m1)) 75 (40 * p) m1 (fun i => nI (xd6 m1 c i)) 74 r = if r = p then nI m1 else g 74 r := fun r hr => by
          rw [gseg_na (by decide)]
          by_cases e9 : r = p
          · rw [if_pos e9, e9, up_same]
          · rw [if_neg e9, up_ne (Or.inr e9), hF.1 74 (by decide) (by decide), c0 74 (by omega) (by omega) (by omega) (by omega) (by omega)]
        refine ⟨_, b, _, l, e2, e1, xJ_rw hI0 hJ0 (fun a ha => by rw [f0 a (by omega) (by omega) (by omega) (by omega)]; exact c0 a (by omega) (by omega) (by omega) (by omega) (by omega)) ⟨by rw [gseg_na (by decide), up_na (by decide), hF.2 10 (by decide), c0 73 (by omega) (by omega) (by omega) (by omega) (by omega)], by rw [gseg_na (by decide), up_na (by decide), hF.2 12 (by decide), c0 73 (by omega) (by omega) (by omega) (by omega) (by omega)], by rw [gseg_na (by decide), up_na (by decide), hF.2 14 (by decide), c0 73 (by omega) (by omega) (by omega) (by omega) (by omega)]⟩ (fun r hr => ?_) (fun r hr => ?_), fun _ => rfl⟩
        · rw [f0 _ (by omega) (by omega) (by omega) (by omega)]
          by_cases e9 : r = p
          · rw [e9, cs]; exact xsz_nI h40
          · rw [c0 _ (by omega) (by omega) (by omega) (by omega) (by omega)]; exact hZ r hr
        · rw [f74 r hr, f0 (23 + 2 * r) (by omega) (by omega) (by omega) (by omega), f0 (23 + 2 * r + 1) (by omega) (by omega) (by omega) (by omega)]
          by_cases e9 : r = p
          · subst e9
            rw [if_pos rfl, cs]
            refine ⟨rfl, fun n' hn' en i hi => ?_⟩
            have e8 := nI_inj (by omega) (by omega) en
            subst e8
            rw [gseg_in hi, cv i hi]
            rw [hfi i hi]
          · rw [if_neg e9, c0 (23 + 2 * r) (by omega) (by omega) (by omega) (by omega) (by omega), c0 (23 + 2 * r + 1) (by omega) (by omega) (by omega) (by omega) (by omega)]
            refine ⟨(hZr r hr).1, fun n' hn' en i hi => ?_⟩
            rw [gseg_out (by omega), up_na (by decide), hF.1 75 (by decide) (by decide), c0 75 (by omega) (by omega) (by omega) (by omega) (by omega)]
            exact (hZr r hr).2 n' hn' en i hi
      | false =>
        have hc := c_X11_first_none (k := 4) (l := l) hb1 hR hp hbv hk ht hp1 e h12 hf hxs hnz
        have c0 : ∀ a, a ≠ 15 → a ≠ 16 → a ≠ 17 → a ≠ 23 + 2 * p → a ≠ 23 + 2 * p + 1 → gset g 17 m1 (xst (Lw s / 4) (Lw s % 4) (xB (g (b.1 + 1)) (Lw s / 4) (g (23 + 2 * t + 1))) m1) a = g a := fun a _ _ h3 _ _ => gset_na h3
        have hA1 : xAg b g (gset g 17 m1 (xst (Lw s / 4) (Lw s % 4) (xB (g (b.1 + 1)) (Lw s / 4) (g (23 + 2 * t + 1))) m1)) := xAg_gs hbw (by unfold xSc; omega)
        generalize gset g 17 m1 (xst (Lw s / 4) (Lw s % 4) (xB (g (b.1 + 1)) (Lw s / 4) (g (23 + 2 * t + 1))) m1) = g1 at c0 hc hA1
        have hcc : xfst (fun c => decide (xfst (fun i => !decide (xshw (g (b.1 + 1)) (Lw s / 4) (Lw s % 4) (xd6 m1 c) i = g1 75 (40 * t + i))) m1 = none)) (6 ^ m1) = xfst (fun c => decide (xfst (fun i => !decide (xshw (g (b.1 + 1)) (Lw s / 4) (Lw s % 4) (xd6 m1 c) i = g (23 + 2 * t + 1) i)) m1 = none)) (6 ^ m1) := xfst_congr (fun c _ => by
          have hin : xfst (fun i => !decide (xshw (g (b.1 + 1)) (Lw s / 4) (Lw s % 4) (xd6 m1 c) i = g1 75 (40 * t + i))) m1 = xfst (fun i => !decide (xshw (g (b.1 + 1)) (Lw s / 4) (Lw s % 4) (xd6 m1 c) i = g (23 + 2 * t + 1) i)) m1 := xfst_congr (fun i hi => by rw [c0 75 (by omega) (by omega) (by omega) (by omega) (by omega), hrow i hi])
          rw [hin])
        have hcn : xfst (fun c => decide (xfst (fun i => !decide (xshw (g (b.1 + 1)) (Lw s / 4) (Lw s % 4) (xd6 m1 c) i = g (23 + 2 * t + 1) i)) m1 = none)) (6 ^ m1) = none := by
          cases hh : xfst (fun c => decide (xfst (fun i => !decide (xshw (g (b.1 + 1)) (Lw s / 4) (Lw s % 4) (xd6 m1 c) i = g (23 + 2 * t + 1) i)) m1 = none)) (6 ^ m1) with
          | none => rfl
          | some c =>
            have := xany.mpr (by rw [hh]; exact fun z => by cases z)
            rw [hnz] at this
            cases this
        refine hc.weak (fun r M w => ⟨_, b, g1, l, w.2, w.1, (c_X12_first_none (k := 5) (xRr_fr (by rw [c0 73 (by omega) (by omega) (by omega) (by omega) (by omega)]) (by rw [c0 73 (by omega) (by omega) (by omega) (by omega) (by omega)]) (c0 _ (by omega) (by omega) (by omega) (by omega) (by omega)) (c0 _ (by omega) (by omega) (by omega) (by omega) (by omega)) (c0 _ (by omega) (by omega) (by omega) (by omega) (by omega)) hRr) hk hp1 ht (by rw [c0 74 (by omega) (by omega) (by omega) (by omega) (by omega)]; exact er) h12 (by rw [c0 74 (by omega) (by omega) (by omega) (by omega) (by omega), c0 75 (by omega) (by omega) (by omega) (by omega) (by omega), hfe]; exact hf) (fun i hi => by rw [c0 75 (by omega) (by omega) (by omega) (by omega) (by omega), hrow i hi]; exact hxs i hi) (hcc.trans hcn)).weak (fun r' M' w' => ?_)⟩)
        obtain ⟨g0, hF, e1, e2⟩ := w'
        exact ⟨_, b, g0, l, e2, e1, xJ_ag (xAg_t hA1 (xAg_Fr hF)) hJ1, fun _ => rfl⟩
    · refine (c_X11_first_ref (k := 4) (b := b) (l := l) hb1 hR hk ht (hZ t ht) hp1 hf).weak (fun r M w => ?_)
      have c73 : ∀ a, a ≠ 0 → a ≠ 22 → xfC g (xfos (g (23 + 2 * t) 1) (g (23 + 2 * t + 1)) 6) a = g a := fun a h1 h2 => by unfold xfC; rw [up_na h2, up_na h1]
      have hA := xAg_C (b := b) (g := g) hbw (xfos (g (23 + 2 * t) 1) (g (23 + 2 * t + 1)) 6)
      refine ⟨_, b, _, l, w.2, w.1, (c_X12_first_ref (k := 5) (xRr_fr (by rw [c73 73 (by decide) (by decide)]) (by rw [c73 73 (by decide) (by decide)]) (c73 _ (by decide) (by decide)) (c73 _ (by decide) (by decide)) (c73 _ (by decide) (by decide)) hRr) hk ht hp1 (by rw [c73 74 (by decide) (by decide)]; exact hzt) (by rw [c73 74 (by decide) (by decide), c73 75 (by decide) (by decide), hfe]; exact hf)).weak (fun r' M' w' => ?_)⟩
      obtain ⟨g0, hF, e1, e2⟩ := w'
      exact ⟨_, b, g0, l, e2, e1, xJ_ag (xAg_t hA (xAg_Fr hF)) hJ1, fun _ => rfl⟩
  · exact xJ2.mk (c_X11_first_bad hb1 hx) (c_X12_first_bad hRr (by rw [← eG]; exact hx)) (hJ1) (fun _ => rfl)

end
end
section
/-! both calls, op by op -/
theorem xT.and {k mn : Nat} {as : List Value} {M : xM} {P Q : Option Value → xM → Prop} (h1 : xT k mn as M P) (h2 : xT k mn as M Q) : xT k mn as M (fun r M' => P r M' ∧ Q r M') := by
  obtain ⟨r1, M1, p1, f1, H1⟩ := h1
  obtain ⟨r2, M2, p2, f2, H2⟩ := h2
  have e1 := H1 (f1 + f2) k (by omega) (Nat.le_refl k)
  have e2 := H2 (f1 + f2) k (by omega) (Nat.le_refl k)
  rw [e1] at e2
  have e3 := Option.some.inj e2
  have e4 : r1 = r2 := congrArg Prod.fst e3
  have e5 : M1 = M2 := congrArg (fun q => q.2.1) e3
  exact ⟨r1, M1, ⟨p1, by rw [e4, e5]; exact p2⟩, f1, H1⟩
theorem xJ2.lightE {b : Nat × Nat} {g : Nat → Nat → Int32} {l : Nat → Nat → Int64} {mc mr : Nat} {as : List Value} {A : Int32} (hJ : xJ b g) (hc : xCo Value.int mc as b g l) (hr : ∀ g1 l1, xJ b g1 → xRo Value.int mr as b g1 l1) (ha : xT 10 mc (.ref 0 :: as) (xH b g l) (fun r _ => r = some (.int A))) (hb : ∀ g1 l1, xAg b g g1 → xT 10 mr (.ref 73 :: as) (xH b g1 l1) (fun r _ => r = some (.int A))) : xJ2 Value.int True mc mr as b g l := by
  refine (xT.and hc ha).weak (fun r M z => ?_)
  obtain ⟨⟨v, g1, l1, e1, e2, hA⟩, ea⟩ := z
  have h1 := xJ_ag hA hJ
  refine ⟨v, b, g1, l1, e1, e2, (xT.and (hr g1 l1 h1) (hb g1 l1 hA)).weak (fun r' M' w => ?_)⟩
  obtain ⟨⟨v', g2, l2, f1, f2, hB⟩, eb⟩ := w
  refine ⟨v', b, g2, l2, f1, f2, xJ_ag hB h1, fun _ => ?_⟩
  rw [f1] at eb
  rw [e1] at ea
  have z1 := Option.some.inj eb
  have z2 := Option.some.inj ea
  have z3 := z1.trans z2.symm
  cases z3
  rfl
theorem xdl_c {f f' : Nat → Int32} {h : Int64} : ∀ n, (∀ i, i < n → f i = f' i) → xdl f h n = xdl f' h n
  | 0, _ => rfl
  | n + 1, hh => by
    show xdg (xdl f h n) (f n) = xdg (xdl f' h n) (f' n)
    rw [xdl_c n (fun i hi => hh i (by omega)), hh n (by omega)]
theorem xda_c {S S' : Nat → Int32} {F F' : Nat → Nat → Int32} {h : Int64} : ∀ n, (∀ r, r < n → S r = S' r ∧ ∀ i, i < xN (S' r) → F r i = F' r i) → xda S F h n = xda S' F' h n
  | 0, _ => rfl
  | n + 1, hh => by
    show xdr (S n) (F n) (xda S F h n) = xdr (S' n) (F' n) (xda S' F' h n)
    unfold xdr
    rw [xda_c n (fun r hr => hh r (by omega)), (hh n (by omega)).1]
    exact xdl_c _ (hh n (by omega)).2
theorem xdG_c {f f' : Nat → Nat → Int32} {w : Nat} {h : Int64} : ∀ n, (∀ k, k < n → ∀ i, i < w → f k i = f' k i) → xdG f w h n = xdG f' w h n
  | 0, _ => rfl
  | n + 1, hh => by
    show xdl (f n) (xdG f w h n) w = xdl (f' n) (xdG f' w h n) w
    rw [xdG_c n (fun k hk => hh k (by omega))]
    exact xdl_c w (hh n (by omega))
theorem xsz_i {S : Int32} {N i : Nat} (hz : xsz S N) (hN : N < 2 ^ 31) (hi : i < xN S) : ∃ n, n ≤ N ∧ S = nI n ∧ i < n := by
  rcases hz with e | ⟨n, h1, e⟩
  · rw [e] at hi
    exact absurd hi (by rw [xN_m1]; omega)
  · rw [e, xN_nI (by omega)] at hi
    exact ⟨n, h1, e, hi⟩
theorem xJ2.lightL {b : Nat × Nat} {g : Nat → Nat → Int32} {l : Nat → Nat → Int64} {mc mr : Nat} {as : List Value} {A : Int64} (hJ : xJ b g) (hc : xCo Value.long mc as b g l) (hr : ∀ g1 l1, xJ b g1 → xRo Value.long mr as b g1 l1) (ha : xT 10 mc (.ref 0 :: as) (xH b g l) (fun r _ => r = some (.long A))) (hb : ∀ g1 l1, xAg b g g1 → xT 10 mr (.ref 73 :: as) (xH b g1 l1) (fun r _ => r = some (.long A))) : xJ2 Value.long True mc mr as b g l := by
  refine (xT.and hc ha).weak (fun r M z => ?_)
  obtain ⟨⟨v, g1, l1, e1, e2, hA⟩, ea⟩ := z
  have h1 := xJ_ag hA hJ
  refine ⟨v, b, g1, l1, e1, e2, (xT.and (hr g1 l1 h1) (hb g1 l1 hA)).weak (fun r' M' w => ?_)⟩
  obtain ⟨⟨v', g2, l2, f1, f2, hB⟩, eb⟩ := w
  refine ⟨v', b, g2, l2, f1, f2, xJ_ag hB h1, fun _ => ?_⟩
  rw [f1] at eb
  rw [e1] at ea
  have z1 := Option.some.inj eb
  have z2 := Option.some.inj ea
  have z3 := z1.trans z2.symm
  cases z3
  rfl
theorem xN_lt {n : Nat} {x : Int32} (hn : n < 2 ^ 31) (h : 0 ≤ x ∧ x < nI n) : xN x < n := by
  obtain ⟨t, ht, rfl⟩ := xin hn h
  rw [xN_nI (by omega)]
  exact ht
theorem xcan {h f : Nat → Int32} {κ δ n d : Nat} (hd : d < n) : xorf (fun c => decide (xfst (fun i => !decide (xshw h κ δ (xd6 n c) i = f i)) n = none)) (fun c => xd6 n c d) (6 ^ n) = if xnz (xst κ δ (xB h κ f) n) n (xps κ δ f n) = true then xst κ δ (xB h κ f) n d else 0 := by
  rw [show (fun c => decide (xfst (fun i => !decide (xshw h κ δ (xd6 n c) i = f i)) n = none)) = fun c => xps κ δ f n && xall (xal h f κ δ n) n c from funext (fun c => xmatch_all), xst_al]
  have hany := xany (h := h) (f := f) (κ := κ) (δ := δ) (n := n)
  rw [show (fun c => decide (xfst (fun i => !decide (xshw h κ δ (xd6 n c) i = f i)) n = none)) = fun c => xps κ δ f n && xall (xal h f κ δ n) n c from funext (fun c => xmatch_all)] at hany
  cases hp : xps κ δ f n with
  | false =>
    rw [hp] at hany
    rw [if_neg (fun z => (hany.mp z) (xfst_none.mpr (fun c _ => rfl)))]
    have h0 : ∀ N, xorf (fun c => false && xall (xal h f κ δ n) n c) (fun c => xd6 n c d) N = 0 := fun N => by
      induction N with
      | zero => rfl
      | succ N ih => rw [xorf_s, ih]; rfl
    exact h0 _
  | true =>
    rw [hp] at hany
    rw [show (fun c => true && xall (xal h f κ δ n) n c) = xall (xal h f κ δ n) n from funext (fun c => Bool.true_and _)] at hany ⊢
    rw [xall_or hd]
    by_cases z : xfst (xall (xal h f κ δ n) n) (6 ^ n) = none
    · rw [if_pos z, if_neg (fun w => hany.mp w z)]
    · rw [if_neg z, if_pos (hany.mpr z)]
theorem xbc_6 (p : Nat → Bool) : xbc (xbits p 6) = nI (xcnt p 6) := by
  have h : ∀ a b c d e f : Bool, xbc (xbits (fun s => match s with | 0 => a | 1 => b | 2 => c | 3 => d | 4 => e | _ => f) 6) = nI (xcnt (fun s => match s with | 0 => a | 1 => b | 2 => c | 3 => d | 4 => e | _ => f) 6) := by decide +kernel
  exact h (p 0) (p 1) (p 2) (p 3) (p 4) (p 5)
theorem xmir_0 {x : Int32} (h : xstp x) : xmir x = 0 ↔ x = 0 := by
  obtain ⟨v, hv, rfl⟩ := h
  rcases (show v = 0 ∨ v = 1 ∨ v = 2 ∨ v = 3 ∨ v = 4 ∨ v = 5 by omega) with rfl | rfl | rfl | rfl | rfl | rfl <;> decide
section
variable {b : Nat × Nat} {g g1 : Nat → Nat → Int32} {l : Nat → Nat → Int64} {G T m : Nat} {Lw : Nat → Nat} {x y z i j v : Int32}
theorem ea_at (hI : xIc b g G T Lw m) : xT 10 80 [.ref 0, .int x, .int i] (xH b g l) (fun r _ => r = some (.int (if 0 ≤ x ∧ x < 6 then (if g (23 + 2 * xN x) 1 = -1 then (-3 : Int32) else if 0 ≤ i ∧ i < g (23 + 2 * xN x) 1 then 1 else -3) else -1))) := by
  obtain ⟨hb, hp, hR, htx, ⟨hs, hm⟩, hD, hK, hZ, hY⟩ := hI
  obtain ⟨hb1, hb2⟩ := xro_b hb
  have hq := xb2 hb
  have hbv : b.1 = 7 ∨ b.1 = 11 := by omega
  have hbw : b.2 = 7 ∨ b.2 = 11 := by omega
  have eG : g b.1 2 = nI G := hR.1.1
  have hG6 : G ≤ 6 := hR.1.2
  have eT : g b.1 4 = nI T := hR.2.1.1
  have hT8 : T ≤ 8 := hR.2.1.2
  by_cases hx : 0 ≤ x ∧ x < 6
  · rw [if_pos hx]
    obtain ⟨p, hp1, rfl⟩ := xin (n := 6) (by omega) hx
    rw [xN_nI (by omega)]
    rcases hZ p hp1 with e | ⟨m1, hm1, e⟩
    · rw [if_pos e]
      exact (c_X11_at_no hp1 e).weak (fun r M w => w.2)
    · rw [e, if_neg (nI_nm1 (by omega))]
      by_cases hi : 0 ≤ i ∧ i < nI m1
      · rw [if_pos hi]
        obtain ⟨t, ht, rfl⟩ := xin (n := m1) (by omega) hi
        exact (c_X11_at_ok hp1 e hm1 ht).weak (fun r M w => w.2)
      · rw [if_neg hi]
        exact (c_X11_at_bey hp1 e hm1 hi).weak (fun r M w => w.2)
  · rw [if_neg hx]
    exact (c_X11_at_bad hx).weak (fun r M w => w.2)
theorem eb_at (hI : xIc b g G T Lw m) (hJ : xIr b g G T Lw m) : xT 10 161 [.ref 73, .int x, .int i] (xH b g l) (fun r _ => r = some (.int (if 0 ≤ x ∧ x < 6 then (if g (23 + 2 * xN x) 1 = -1 then (-3 : Int32) else if 0 ≤ i ∧ i < g (23 + 2 * xN x) 1 then 1 else -3) else -1))) := by
  obtain ⟨hb, hp, hRm, htx, ⟨_, hm⟩, hDk, hK, hZc, hY⟩ := hI
  obtain ⟨hR, hs, hD, hKr, hQ, hYr⟩ := hJ
  have hZ : ∀ r, r < 6 → xsz (g 74 r) 40 := fun r h => by rw [(hQ r h).1]; exact hZc r h
  have eG : g 73 10 = nI G := hR.1.1
  have hG6 : G ≤ 6 := hR.1.2
  have hT8 : T ≤ 8 := hR.2.1.2
  have hZ6 : ∀ q, q < 6 → xsz (g 74 q) 60 := fun q h => (hZ q h).elim Or.inl (fun ⟨n, a1, a2⟩ => Or.inr ⟨n, by omega, a2⟩)
  have hY6 : ∀ q, q < 4 → xsz (g 76 q) 60 := fun q h => by rw [(hYr q h).1]; exact hY q h
  have hK6 : ∀ q, q < 3 → xsz (g 86 q) 60 := fun q h => by
    rw [(hKr q h).1]
    rcases hK q h with z | ⟨n, z1, z2, _⟩
    · exact Or.inl z
    · exact Or.inr ⟨n, by omega, z2⟩
  by_cases hx : 0 ≤ x ∧ x < 6
  · rw [if_pos hx]
    obtain ⟨p, hp1, rfl⟩ := xin (n := 6) (by omega) hx
    rw [xN_nI (by omega)]
    rcases hZc p hp1 with e | ⟨m1, hm1, e⟩
    · rw [if_pos e]
      exact (c_X12_at_no hp1 (by rw [(hQ p hp1).1]; exact e)).weak (fun r M w => w.2)
    · rw [e, if_neg (nI_nm1 (by omega))]
      by_cases hi : 0 ≤ i ∧ i < nI m1
      · rw [if_pos hi]
        obtain ⟨t, ht, rfl⟩ := xin (n := m1) (by omega) hi
        exact (c_X12_at_ok hp1 (by rw [(hQ p hp1).1]; exact e) hm1 ht).weak (fun r M w => w.2)
      · rw [if_neg hi]
        exact (c_X12_at_bey hp1 (by rw [(hQ p hp1).1]; exact e) hm1 hi).weak (fun r M w => w.2)
  · rw [if_neg hx]
    exact (c_X12_at_bad hx).weak (fun r M w => w.2)
theorem ea_mean (hI : xIc b g G T Lw m) : xT 10 83 [.ref 0, .int x] (xH b g l) (fun r _ => r = some (.int (if 0 ≤ x ∧ x < 6 then (if g (23 + 2 * xN x) 1 = -1 then (-3 : Int32) else if g (23 + 2 * xN x) 1 = nI 0 then -3 else 1) else -1))) := by
  obtain ⟨hb, hp, hR, htx, ⟨hs, hm⟩, hD, hK, hZ, hY⟩ := hI
  obtain ⟨hb1, hb2⟩ := xro_b hb
  have hq := xb2 hb
  have hbv : b.1 = 7 ∨ b.1 = 11 := by omega
  have hbw : b.2 = 7 ∨ b.2 = 11 := by omega
  have eG : g b.1 2 = nI G := hR.1.1
  have hG6 : G ≤ 6 := hR.1.2
  have eT : g b.1 4 = nI T := hR.2.1.1
  have hT8 : T ≤ 8 := hR.2.1.2
  by_cases hx : 0 ≤ x ∧ x < 6
  · rw [if_pos hx]
    obtain ⟨p, hp1, rfl⟩ := xin (n := 6) (by omega) hx
    rw [xN_nI (by omega)]
    rcases hZ p hp1 with e | ⟨m1, hm1, e⟩
    · rw [if_pos e]
      exact (c_X11_mean_no hp1 e).weak (fun r M w => w.2)
    · rw [if_neg (by rw [e]; exact nI_nm1 (by omega))]
      by_cases h0 : m1 = 0
      · subst h0
        rw [if_pos e]
        exact (c_X11_mean_nought hp1 e).weak (fun r M w => w.2)
      · rw [if_neg (by rw [e]; exact fun z => h0 (nI_inj (by omega) (by omega) z))]
        exact (c_X11_mean_ok hp1 e hm1 (by omega)).weak (fun r M w => w.2)
  · rw [if_neg hx]
    exact (c_X11_mean_bad hx).weak (fun r M w => w.2)
theorem eb_mean (hI : xIc b g G T Lw m) (hJ : xIr b g G T Lw m) : xT 10 165 [.ref 73, .int x] (xH b g l) (fun r _ => r = some (.int (if 0 ≤ x ∧ x < 6 then (if g (23 + 2 * xN x) 1 = -1 then (-3 : Int32) else if g (23 + 2 * xN x) 1 = nI 0 then -3 else 1) else -1))) := by
  obtain ⟨hb, hp, hRm, htx, ⟨_, hm⟩, hDk, hK, hZc, hY⟩ := hI
  obtain ⟨hR, hs, hD, hKr, hQ, hYr⟩ := hJ
  have hZ : ∀ r, r < 6 → xsz (g 74 r) 40 := fun r h => by rw [(hQ r h).1]; exact hZc r h
  have eG : g 73 10 = nI G := hR.1.1
  have hG6 : G ≤ 6 := hR.1.2
  have hT8 : T ≤ 8 := hR.2.1.2
  have hZ6 : ∀ q, q < 6 → xsz (g 74 q) 60 := fun q h => (hZ q h).elim Or.inl (fun ⟨n, a1, a2⟩ => Or.inr ⟨n, by omega, a2⟩)
  have hY6 : ∀ q, q < 4 → xsz (g 76 q) 60 := fun q h => by rw [(hYr q h).1]; exact hY q h
  have hK6 : ∀ q, q < 3 → xsz (g 86 q) 60 := fun q h => by
    rw [(hKr q h).1]
    rcases hK q h with z | ⟨n, z1, z2, _⟩
    · exact Or.inl z
    · exact Or.inr ⟨n, by omega, z2⟩
  by_cases hx : 0 ≤ x ∧ x < 6
  · rw [if_pos hx]
    obtain ⟨p, hp1, rfl⟩ := xin (n := 6) (by omega) hx
    rw [xN_nI (by omega)]
    rcases hZc p hp1 with e | ⟨m1, hm1, e⟩
    · rw [if_pos e]
      exact (c_X12_mean_no hp1 (by rw [(hQ p hp1).1]; exact e)).weak (fun r M w => w.2)
    · rw [if_neg (by rw [e]; exact nI_nm1 (by omega))]
      by_cases h0 : m1 = 0
      · subst h0
        rw [if_pos e]
        exact (c_X12_mean_nought hp1 (by rw [(hQ p hp1).1]; exact e)).weak (fun r M w => w.2)
      · rw [if_neg (by rw [e]; exact fun z => h0 (nI_inj (by omega) (by omega) z))]
        exact (c_X12_mean_ok hp1 (by rw [(hQ p hp1).1]; exact e) hm1 (by omega)).weak (fun r M w => w.2)
  · rw [if_neg hx]
    exact (c_X12_mean_bad hx).weak (fun r M w => w.2)
theorem ea_ways (hI : xIc b g G T Lw m) : xT 10 102 [.ref 0, .int x, .int y] (xH b g l) (fun r _ => r = some (.int (if (0 ≤ x ∧ x < nI G) ∧ 0 ≤ y ∧ y < 6 then (if xfos (g (23 + 2 * xN y) 1) (g (23 + 2 * xN y + 1)) 6 = 0 then (1 : Int32) else -3) else -1))) := by
  obtain ⟨hb, hp, hR, htx, ⟨hs, hm⟩, hD, hK, hZ, hY⟩ := hI
  obtain ⟨hb1, hb2⟩ := xro_b hb
  have hq := xb2 hb
  have hbv : b.1 = 7 ∨ b.1 = 11 := by omega
  have hbw : b.2 = 7 ∨ b.2 = 11 := by omega
  have eG : g b.1 2 = nI G := hR.1.1
  have hG6 : G ≤ 6 := hR.1.2
  have eT : g b.1 4 = nI T := hR.2.1.1
  have hT8 : T ≤ 8 := hR.2.1.2
  by_cases hx : (0 ≤ x ∧ x < nI G) ∧ 0 ≤ y ∧ y < 6
  · rw [if_pos hx]
    obtain ⟨s, hk, rfl⟩ := xin (n := G) (by omega) hx.1
    obtain ⟨t, ht, rfl⟩ := xin (n := 6) (by omega) hx.2
    simp only [xN_nI (show s < 2 ^ 31 by omega), xN_nI (show t < 2 ^ 31 by omega)]
    by_cases hf : xfos (g (23 + 2 * t) 1) (g (23 + 2 * t + 1)) 6 = 0
    · rw [if_pos hf]
      obtain ⟨m1, e, h12, h40, hxs⟩ := xfos_0 (hZ t ht) (by decide) (by decide) hf
      try rw [show xN (g (23 + 2 * t) 1) = m1 from by rw [e]; exact xN_nI (by omega)]
      exact (c_X11_ways_ok hb1 hR hp hbv hk ht e h12 hf hxs).weak (fun r M w => w.2)
    · rw [if_neg hf]
      exact (c_X11_ways_ref hb1 hR hk ht (hZ t ht) hf).weak (fun r M w => w.2)
  · rw [if_neg hx]
    exact (c_X11_ways_bad hb1 (by rw [eG]; exact hx)).weak (fun r M w => w.2)
theorem eb_ways (hI : xIc b g G T Lw m) (hJ : xIr b g G T Lw m) : xT 10 210 [.ref 73, .int x, .int y] (xH b g l) (fun r _ => r = some (.int (if (0 ≤ x ∧ x < nI G) ∧ 0 ≤ y ∧ y < 6 then (if xfos (g (23 + 2 * xN y) 1) (g (23 + 2 * xN y + 1)) 6 = 0 then (1 : Int32) else -3) else -1))) := by
  obtain ⟨hb, hp, hRm, htx, ⟨_, hm⟩, hDk, hK, hZc, hY⟩ := hI
  obtain ⟨hR, hs, hD, hKr, hQ, hYr⟩ := hJ
  have hZ : ∀ r, r < 6 → xsz (g 74 r) 40 := fun r h => by rw [(hQ r h).1]; exact hZc r h
  have eG : g 73 10 = nI G := hR.1.1
  have hG6 : G ≤ 6 := hR.1.2
  have hT8 : T ≤ 8 := hR.2.1.2
  have hZ6 : ∀ q, q < 6 → xsz (g 74 q) 60 := fun q h => (hZ q h).elim Or.inl (fun ⟨n, a1, a2⟩ => Or.inr ⟨n, by omega, a2⟩)
  have hY6 : ∀ q, q < 4 → xsz (g 76 q) 60 := fun q h => by rw [(hYr q h).1]; exact hY q h
  have hK6 : ∀ q, q < 3 → xsz (g 86 q) 60 := fun q h => by
    rw [(hKr q h).1]
    rcases hK q h with z | ⟨n, z1, z2, _⟩
    · exact Or.inl z
    · exact Or.inr ⟨n, by omega, z2⟩
  by_cases hx : (0 ≤ x ∧ x < nI G) ∧ 0 ≤ y ∧ y < 6
  · rw [if_pos hx]
    obtain ⟨s, hk, rfl⟩ := xin (n := G) (by omega) hx.1
    obtain ⟨p, hp1, rfl⟩ := xin (n := 6) (by omega) hx.2
    simp only [xN_nI (show s < 2 ^ 31 by omega), xN_nI (show p < 2 ^ 31 by omega)]
    have eS : g 74 p = g (23 + 2 * p) 1 := (hQ p hp1).1
    have eF : xfos (g 74 p) (fun i => g 75 (40 * p + i)) 6 = xfos (g (23 + 2 * p) 1) (g (23 + 2 * p + 1)) 6 := by
      rw [eS]
      exact xfos_c (hZc p hp1) (fun n hn en i hi => (hQ p hp1).2 n hn en i hi)
    by_cases hf : xfos (g (23 + 2 * p) 1) (g (23 + 2 * p + 1)) 6 = 0
    · rw [if_pos hf]
      obtain ⟨m1, e, h12, h40, hxs⟩ := xfos_0 (hZc p hp1) (by decide) (by decide) hf
      try rw [show xN (g (23 + 2 * p) 1) = m1 from by rw [e]; exact xN_nI (by omega)]
      have er : g 74 p = nI m1 := by rw [eS]; exact e
      have hrow : ∀ i, i < m1 → g 75 (40 * p + i) = g (23 + 2 * p + 1) i := (hQ p hp1).2 m1 h40 e
      have hf2 : xfos (g 74 p) (fun i => g 75 (40 * p + i)) 6 = 0 := by rw [eF]; exact hf
      have hxs2 : ∀ i, i < m1 → xstp (g 75 (40 * p + i)) := fun i hi => by rw [hrow i hi]; exact hxs i hi
      exact (c_X12_ways_ok hR hk hp1 er h12 hf2 hxs2).weak (fun r M w => by obtain ⟨_, _, _, e3⟩ := w; exact e3)
    · rw [if_neg hf]
      exact (c_X12_ways_ref hR hk hp1 (hZ p hp1) (by rw [eF]; exact hf)).weak (fun r M w => by obtain ⟨_, _, _, e3⟩ := w; exact e3)
  · rw [if_neg hx]
    exact (c_X12_ways_bad hR hx).weak (fun r M w => w.2)
theorem ea_odds (hI : xIc b g G T Lw m) : xT 10 112 [.ref 0, .int x, .int y, .int z] (xH b g l) (fun r _ => r = some (.int (if (0 ≤ x ∧ x < nI G) ∧ (0 ≤ y ∧ y < 6) ∧ 0 ≤ z ∧ z ≤ 12 then (if xfos (g (23 + 2 * xN y) 1) (g (23 + 2 * xN y + 1)) 12 = 0 then (1 : Int32) else -3) else -1))) := by
  obtain ⟨hb, hp, hR, htx, ⟨hs, hm⟩, hD, hK, hZ, hY⟩ := hI
  obtain ⟨hb1, hb2⟩ := xro_b hb
  have hq := xb2 hb
  have hbv : b.1 = 7 ∨ b.1 = 11 := by omega
  have hbw : b.2 = 7 ∨ b.2 = 11 := by omega
  have eG : g b.1 2 = nI G := hR.1.1
  have hG6 : G ≤ 6 := hR.1.2
  have eT : g b.1 4 = nI T := hR.2.1.1
  have hT8 : T ≤ 8 := hR.2.1.2
  by_cases hx : (0 ≤ x ∧ x < nI G) ∧ (0 ≤ y ∧ y < 6) ∧ 0 ≤ z ∧ z ≤ 12
  · rw [if_pos hx]
    obtain ⟨s, hk, rfl⟩ := xin (n := G) (by omega) hx.1
    obtain ⟨t, ht, rfl⟩ := xin (n := 6) (by omega) hx.2.1
    obtain ⟨e1, he, rfl⟩ := xinl (n := 12) (by omega) hx.2.2
    simp only [xN_nI (show s < 2 ^ 31 by omega), xN_nI (show t < 2 ^ 31 by omega)]
    by_cases hf : xfos (g (23 + 2 * t) 1) (g (23 + 2 * t + 1)) 12 = 0
    · rw [if_pos hf]
      obtain ⟨m1, e, h12, h40, hxs⟩ := xfos_0 (hZ t ht) (by decide) (by decide) hf
      try rw [show xN (g (23 + 2 * t) 1) = m1 from by rw [e]; exact xN_nI (by omega)]
      exact (c_X11_odds_ok hb1 hR hp hk ht he e h12 hf hxs).weak (fun r M w => w.2)
    · rw [if_neg hf]
      exact (c_X11_odds_ref hb1 hR hk ht (hZ t ht) he hf).weak (fun r M w => w.2)
  · rw [if_neg hx]
    exact (c_X11_odds_bad hb1 (by rw [eG]; exact hx)).weak (fun r M w => w.2)
theorem eb_odds (hI : xIc b g G T Lw m) (hJ : xIr b g G T Lw m) : xT 10 225 [.ref 73, .int x, .int y, .int z] (xH b g l) (fun r _ => r = some (.int (if (0 ≤ x ∧ x < nI G) ∧ (0 ≤ y ∧ y < 6) ∧ 0 ≤ z ∧ z ≤ 12 then (if xfos (g (23 + 2 * xN y) 1) (g (23 + 2 * xN y + 1)) 12 = 0 then (1 : Int32) else -3) else -1))) := by
  obtain ⟨hb, hp, hRm, htx, ⟨_, hm⟩, hDk, hK, hZc, hY⟩ := hI
  obtain ⟨hR, hs, hD, hKr, hQ, hYr⟩ := hJ
  have hZ : ∀ r, r < 6 → xsz (g 74 r) 40 := fun r h => by rw [(hQ r h).1]; exact hZc r h
  have eG : g 73 10 = nI G := hR.1.1
  have hG6 : G ≤ 6 := hR.1.2
  have hT8 : T ≤ 8 := hR.2.1.2
  have hZ6 : ∀ q, q < 6 → xsz (g 74 q) 60 := fun q h => (hZ q h).elim Or.inl (fun ⟨n, a1, a2⟩ => Or.inr ⟨n, by omega, a2⟩)
  have hY6 : ∀ q, q < 4 → xsz (g 76 q) 60 := fun q h => by rw [(hYr q h).1]; exact hY q h
  have hK6 : ∀ q, q < 3 → xsz (g 86 q) 60 := fun q h => by
    rw [(hKr q h).1]
    rcases hK q h with z | ⟨n, z1, z2, _⟩
    · exact Or.inl z
    · exact Or.inr ⟨n, by omega, z2⟩
  by_cases hx : (0 ≤ x ∧ x < nI G) ∧ (0 ≤ y ∧ y < 6) ∧ 0 ≤ z ∧ z ≤ 12
  · rw [if_pos hx]
    obtain ⟨s, hk, rfl⟩ := xin (n := G) (by omega) hx.1
    obtain ⟨p, hp1, rfl⟩ := xin (n := 6) (by omega) hx.2.1
    obtain ⟨e1, he, rfl⟩ := xinl (n := 12) (by omega) hx.2.2
    simp only [xN_nI (show s < 2 ^ 31 by omega), xN_nI (show p < 2 ^ 31 by omega)]
    have eS : g 74 p = g (23 + 2 * p) 1 := (hQ p hp1).1
    have eF : xfos (g 74 p) (fun i => g 75 (40 * p + i)) 12 = xfos (g (23 + 2 * p) 1) (g (23 + 2 * p + 1)) 12 := by
      rw [eS]
      exact xfos_c (hZc p hp1) (fun n hn en i hi => (hQ p hp1).2 n hn en i hi)
    by_cases hf : xfos (g (23 + 2 * p) 1) (g (23 + 2 * p + 1)) 12 = 0
    · rw [if_pos hf]
      obtain ⟨m1, e, h12, h40, hxs⟩ := xfos_0 (hZc p hp1) (by decide) (by decide) hf
      try rw [show xN (g (23 + 2 * p) 1) = m1 from by rw [e]; exact xN_nI (by omega)]
      have er : g 74 p = nI m1 := by rw [eS]; exact e
      have hrow : ∀ i, i < m1 → g 75 (40 * p + i) = g (23 + 2 * p + 1) i := (hQ p hp1).2 m1 h40 e
      have hf2 : xfos (g 74 p) (fun i => g 75 (40 * p + i)) 12 = 0 := by rw [eF]; exact hf
      have hxs2 : ∀ i, i < m1 → xstp (g 75 (40 * p + i)) := fun i hi => by rw [hrow i hi]; exact hxs i hi
      exact (c_X12_odds_ok hR hk he hp1 er h12 hf2 hxs2).weak (fun r M w => by obtain ⟨_, _, _, e3⟩ := w; exact e3)
    · rw [if_neg hf]
      exact (c_X12_odds_ref hR hk hp1 he (hZ p hp1) (by rw [eF]; exact hf)).weak (fun r M w => by obtain ⟨_, _, _, e3⟩ := w; exact e3)
  · rw [if_neg hx]
    exact (c_X12_odds_bad hR hx).weak (fun r M w => w.2)
theorem ea_mid (hI : xIc b g G T Lw m) : xT 10 113 [.ref 0, .int x, .int y, .int z] (xH b g l) (fun r _ => r = some (.int (if (0 ≤ x ∧ x < nI G) ∧ (0 ≤ y ∧ y < 6) ∧ 0 ≤ z ∧ z ≤ 12 then (if xfos (g (23 + 2 * xN y) 1) (g (23 + 2 * xN y + 1)) 12 = 0 then (1 : Int32) else -3) else -1))) := by
  obtain ⟨hb, hp, hR, htx, ⟨hs, hm⟩, hD, hK, hZ, hY⟩ := hI
  obtain ⟨hb1, hb2⟩ := xro_b hb
  have hq := xb2 hb
  have hbv : b.1 = 7 ∨ b.1 = 11 := by omega
  have hbw : b.2 = 7 ∨ b.2 = 11 := by omega
  have eG : g b.1 2 = nI G := hR.1.1
  have hG6 : G ≤ 6 := hR.1.2
  have eT : g b.1 4 = nI T := hR.2.1.1
  have hT8 : T ≤ 8 := hR.2.1.2
  by_cases hx : (0 ≤ x ∧ x < nI G) ∧ (0 ≤ y ∧ y < 6) ∧ 0 ≤ z ∧ z ≤ 12
  · rw [if_pos hx]
    obtain ⟨s, hk, rfl⟩ := xin (n := G) (by omega) hx.1
    obtain ⟨t, ht, rfl⟩ := xin (n := 6) (by omega) hx.2.1
    obtain ⟨e1, he, rfl⟩ := xinl (n := 12) (by omega) hx.2.2
    simp only [xN_nI (show s < 2 ^ 31 by omega), xN_nI (show t < 2 ^ 31 by omega)]
    by_cases hf : xfos (g (23 + 2 * t) 1) (g (23 + 2 * t + 1)) 12 = 0
    · rw [if_pos hf]
      obtain ⟨m1, e, h12, h40, hxs⟩ := xfos_0 (hZ t ht) (by decide) (by decide) hf
      try rw [show xN (g (23 + 2 * t) 1) = m1 from by rw [e]; exact xN_nI (by omega)]
      exact (c_X11_mid_ok hb1 hR hp hk ht he e h12 hf hxs).weak (fun r M w => w.2)
    · rw [if_neg hf]
      exact (c_X11_mid_ref hb1 hR hk ht (hZ t ht) he hf).weak (fun r M w => w.2)
  · rw [if_neg hx]
    exact (c_X11_mid_bad hb1 (by rw [eG]; exact hx)).weak (fun r M w => w.2)
theorem eb_mid (hI : xIc b g G T Lw m) (hJ : xIr b g G T Lw m) : xT 10 226 [.ref 73, .int x, .int y, .int z] (xH b g l) (fun r _ => r = some (.int (if (0 ≤ x ∧ x < nI G) ∧ (0 ≤ y ∧ y < 6) ∧ 0 ≤ z ∧ z ≤ 12 then (if xfos (g (23 + 2 * xN y) 1) (g (23 + 2 * xN y + 1)) 12 = 0 then (1 : Int32) else -3) else -1))) := by
  obtain ⟨hb, hp, hRm, htx, ⟨_, hm⟩, hDk, hK, hZc, hY⟩ := hI
  obtain ⟨hR, hs, hD, hKr, hQ, hYr⟩ := hJ
  have hZ : ∀ r, r < 6 → xsz (g 74 r) 40 := fun r h => by rw [(hQ r h).1]; exact hZc r h
  have eG : g 73 10 = nI G := hR.1.1
  have hG6 : G ≤ 6 := hR.1.2
  have hT8 : T ≤ 8 := hR.2.1.2
  have hZ6 : ∀ q, q < 6 → xsz (g 74 q) 60 := fun q h => (hZ q h).elim Or.inl (fun ⟨n, a1, a2⟩ => Or.inr ⟨n, by omega, a2⟩)
  have hY6 : ∀ q, q < 4 → xsz (g 76 q) 60 := fun q h => by rw [(hYr q h).1]; exact hY q h
  have hK6 : ∀ q, q < 3 → xsz (g 86 q) 60 := fun q h => by
    rw [(hKr q h).1]
    rcases hK q h with z | ⟨n, z1, z2, _⟩
    · exact Or.inl z
    · exact Or.inr ⟨n, by omega, z2⟩
  by_cases hx : (0 ≤ x ∧ x < nI G) ∧ (0 ≤ y ∧ y < 6) ∧ 0 ≤ z ∧ z ≤ 12
  · rw [if_pos hx]
    obtain ⟨s, hk, rfl⟩ := xin (n := G) (by omega) hx.1
    obtain ⟨p, hp1, rfl⟩ := xin (n := 6) (by omega) hx.2.1
    obtain ⟨e1, he, rfl⟩ := xinl (n := 12) (by omega) hx.2.2
    simp only [xN_nI (show s < 2 ^ 31 by omega), xN_nI (show p < 2 ^ 31 by omega)]
    have eS : g 74 p = g (23 + 2 * p) 1 := (hQ p hp1).1
    have eF : xfos (g 74 p) (fun i => g 75 (40 * p + i)) 12 = xfos (g (23 + 2 * p) 1) (g (23 + 2 * p + 1)) 12 := by
      rw [eS]
      exact xfos_c (hZc p hp1) (fun n hn en i hi => (hQ p hp1).2 n hn en i hi)
    by_cases hf : xfos (g (23 + 2 * p) 1) (g (23 + 2 * p + 1)) 12 = 0
    · rw [if_pos hf]
      obtain ⟨m1, e, h12, h40, hxs⟩ := xfos_0 (hZc p hp1) (by decide) (by decide) hf
      try rw [show xN (g (23 + 2 * p) 1) = m1 from by rw [e]; exact xN_nI (by omega)]
      have er : g 74 p = nI m1 := by rw [eS]; exact e
      have hrow : ∀ i, i < m1 → g 75 (40 * p + i) = g (23 + 2 * p + 1) i := (hQ p hp1).2 m1 h40 e
      have hf2 : xfos (g 74 p) (fun i => g 75 (40 * p + i)) 12 = 0 := by rw [eF]; exact hf
      have hxs2 : ∀ i, i < m1 → xstp (g 75 (40 * p + i)) := fun i hi => by rw [hrow i hi]; exact hxs i hi
      exact (c_X12_mid_ok hR hk he hp1 er h12 hf2 hxs2).weak (fun r M w => by obtain ⟨_, _, _, e3⟩ := w; exact e3)
    · rw [if_neg hf]
      exact (c_X12_mid_ref hR hk hp1 he (hZ p hp1) (by rw [eF]; exact hf)).weak (fun r M w => by obtain ⟨_, _, _, e3⟩ := w; exact e3)
  · rw [if_neg hx]
    exact (c_X12_mid_bad hR hx).weak (fun r M w => w.2)
theorem ea_breaks (hI : xIc b g G T Lw m) : xT 10 99 [.ref 0, .int x, .int y] (xH b g l) (fun r _ => r = some (.int (if (0 ≤ x ∧ x < nI G) ∧ 0 ≤ y ∧ y < 6 then (if xfos (g (23 + 2 * xN y) 1) (g (23 + 2 * xN y + 1)) 12 = 0 then xfI (xfst (fun i => !decide (xfb (g (b.1 + 3)) T (g (23 + 2 * xN y + 1) i) (xshw (g (b.1 + 1)) (Lw (xN x) / 4) (Lw (xN x) % 4) (fun i => xN (g (23 + 2 * xN y + 1) i)) i) = none)) (xN (g (23 + 2 * xN y) 1))) else -3) else -1))) := by
  obtain ⟨hb, hp, hR, htx, ⟨hs, hm⟩, hD, hK, hZ, hY⟩ := hI
  obtain ⟨hb1, hb2⟩ := xro_b hb
  have hq := xb2 hb
  have hbv : b.1 = 7 ∨ b.1 = 11 := by omega
  have hbw : b.2 = 7 ∨ b.2 = 11 := by omega
  have eG : g b.1 2 = nI G := hR.1.1
  have hG6 : G ≤ 6 := hR.1.2
  have eT : g b.1 4 = nI T := hR.2.1.1
  have hT8 : T ≤ 8 := hR.2.1.2
  by_cases hx : (0 ≤ x ∧ x < nI G) ∧ 0 ≤ y ∧ y < 6
  · rw [if_pos hx]
    obtain ⟨s, hk, rfl⟩ := xin (n := G) (by omega) hx.1
    obtain ⟨t, ht, rfl⟩ := xin (n := 6) (by omega) hx.2
    simp only [xN_nI (show s < 2 ^ 31 by omega), xN_nI (show t < 2 ^ 31 by omega)]
    by_cases hf : xfos (g (23 + 2 * t) 1) (g (23 + 2 * t + 1)) 12 = 0
    · rw [if_pos hf]
      obtain ⟨m1, e, h12, h40, hxs⟩ := xfos_0 (hZ t ht) (by decide) (by decide) hf
      try rw [show xN (g (23 + 2 * t) 1) = m1 from by rw [e]; exact xN_nI (by omega)]
      exact (c_X11_breaks_ok hb1 hR hp hk ht e h12 hf hxs).weak (fun r M w => w.2)
    · rw [if_neg hf]
      exact (c_X11_breaks_ref hb1 hR hk ht (hZ t ht) hf).weak (fun r M w => w.2)
  · rw [if_neg hx]
    exact (c_X11_breaks_bad hb1 (by rw [eG]; exact hx)).weak (fun r M w => w.2)
theorem eb_breaks (hI : xIc b g G T Lw m) (hJ : xIr b g G T Lw m) : xT 10 204 [.ref 73, .int x, .int y] (xH b g l) (fun r _ => r = some (.int (if (0 ≤ x ∧ x < nI G) ∧ 0 ≤ y ∧ y < 6 then (if xfos (g (23 + 2 * xN y) 1) (g (23 + 2 * xN y + 1)) 12 = 0 then xfI (xfst (fun i => !decide (xfb (g (b.1 + 3)) T (g (23 + 2 * xN y + 1) i) (xshw (g (b.1 + 1)) (Lw (xN x) / 4) (Lw (xN x) % 4) (fun i => xN (g (23 + 2 * xN y + 1) i)) i) = none)) (xN (g (23 + 2 * xN y) 1))) else -3) else -1))) := by
  obtain ⟨hb, hp, hRm, htx, ⟨_, hm⟩, hDk, hK, hZc, hY⟩ := hI
  obtain ⟨hR, hs, hD, hKr, hQ, hYr⟩ := hJ
  have hZ : ∀ r, r < 6 → xsz (g 74 r) 40 := fun r h => by rw [(hQ r h).1]; exact hZc r h
  have eG : g 73 10 = nI G := hR.1.1
  have hG6 : G ≤ 6 := hR.1.2
  have hT8 : T ≤ 8 := hR.2.1.2
  have hZ6 : ∀ q, q < 6 → xsz (g 74 q) 60 := fun q h => (hZ q h).elim Or.inl (fun ⟨n, a1, a2⟩ => Or.inr ⟨n, by omega, a2⟩)
  have hY6 : ∀ q, q < 4 → xsz (g 76 q) 60 := fun q h => by rw [(hYr q h).1]; exact hY q h
  have hK6 : ∀ q, q < 3 → xsz (g 86 q) 60 := fun q h => by
    rw [(hKr q h).1]
    rcases hK q h with z | ⟨n, z1, z2, _⟩
    · exact Or.inl z
    · exact Or.inr ⟨n, by omega, z2⟩
  by_cases hx : (0 ≤ x ∧ x < nI G) ∧ 0 ≤ y ∧ y < 6
  · rw [if_pos hx]
    obtain ⟨s, hk, rfl⟩ := xin (n := G) (by omega) hx.1
    obtain ⟨p, hp1, rfl⟩ := xin (n := 6) (by omega) hx.2
    simp only [xN_nI (show s < 2 ^ 31 by omega), xN_nI (show p < 2 ^ 31 by omega)]
    have eS : g 74 p = g (23 + 2 * p) 1 := (hQ p hp1).1
    have eF : xfos (g 74 p) (fun i => g 75 (40 * p + i)) 12 = xfos (g (23 + 2 * p) 1) (g (23 + 2 * p + 1)) 12 := by
      rw [eS]
      exact xfos_c (hZc p hp1) (fun n hn en i hi => (hQ p hp1).2 n hn en i hi)
    by_cases hf : xfos (g (23 + 2 * p) 1) (g (23 + 2 * p + 1)) 12 = 0
    · rw [if_pos hf]
      obtain ⟨m1, e, h12, h40, hxs⟩ := xfos_0 (hZc p hp1) (by decide) (by decide) hf
      try rw [show xN (g (23 + 2 * p) 1) = m1 from by rw [e]; exact xN_nI (by omega)]
      have er : g 74 p = nI m1 := by rw [eS]; exact e
      have hrow : ∀ i, i < m1 → g 75 (40 * p + i) = g (23 + 2 * p + 1) i := (hQ p hp1).2 m1 h40 e
      have hf2 : xfos (g 74 p) (fun i => g 75 (40 * p + i)) 12 = 0 := by rw [eF]; exact hf
      have hxs2 : ∀ i, i < m1 → xstp (g 75 (40 * p + i)) := fun i hi => by rw [hrow i hi]; exact hxs i hi
      have e8 : ∀ i, i < m1 → xshw (g (b.1 + 1)) (Lw s / 4) (Lw s % 4) (fun i => xN (g 75 (40 * p + i))) i = xshw (g (b.1 + 1)) (Lw s / 4) (Lw s % 4) (fun i => xN (g (23 + 2 * p + 1) i)) i := fun i hi => xshw_c (fun j hj => by show xN (g 75 (40 * p + j)) = xN (g (23 + 2 * p + 1) j); rw [hrow j (by omega)])
      refine (c_X12_breaks_ok hR hk hp1 er h12 hf2 hxs2).weak (fun r M w => ?_)
      obtain ⟨_, _, _, e3⟩ := w
      rw [e3]
      congr 3
      refine xfst_congr (fun i hi => ?_)
      have e7 : nI (xN (g 75 (40 * p + i))) = g (23 + 2 * p + 1) i := by
        rw [hrow i hi]
        obtain ⟨v, hv, ev⟩ := hxs i hi
        rw [ev, xN_nI (by omega)]
      dsimp only
      rw [e7, e8 i hi]
    · rw [if_neg hf]
      exact (c_X12_breaks_ref hR hk hp1 (hZ p hp1) (by rw [eF]; exact hf)).weak (fun r M w => by obtain ⟨_, _, _, e3⟩ := w; exact e3)
  · rw [if_neg hx]
    exact (c_X12_breaks_bad hR hx).weak (fun r M w => w.2)
theorem ea_alike (hI : xIc b g G T Lw m) : xT 10 100 [.ref 0, .int x, .int y] (xH b g l) (fun r _ => r = some (.int (if (0 ≤ x ∧ x < nI G) ∧ 0 ≤ y ∧ y < 6 then (if xfos (g (23 + 2 * xN y) 1) (g (23 + 2 * xN y + 1)) 12 = 0 then nI (xcnt (fun i => decide (g (23 + 2 * xN y + 1) i = xshw (g (b.1 + 1)) (Lw (xN x) / 4) (Lw (xN x) % 4) (fun i => xN (g (23 + 2 * xN y + 1) i)) i)) (xN (g (23 + 2 * xN y) 1))) else -3) else -1))) := by
  obtain ⟨hb, hp, hR, htx, ⟨hs, hm⟩, hD, hK, hZ, hY⟩ := hI
  obtain ⟨hb1, hb2⟩ := xro_b hb
  have hq := xb2 hb
  have hbv : b.1 = 7 ∨ b.1 = 11 := by omega
  have hbw : b.2 = 7 ∨ b.2 = 11 := by omega
  have eG : g b.1 2 = nI G := hR.1.1
  have hG6 : G ≤ 6 := hR.1.2
  have eT : g b.1 4 = nI T := hR.2.1.1
  have hT8 : T ≤ 8 := hR.2.1.2
  by_cases hx : (0 ≤ x ∧ x < nI G) ∧ 0 ≤ y ∧ y < 6
  · rw [if_pos hx]
    obtain ⟨s, hk, rfl⟩ := xin (n := G) (by omega) hx.1
    obtain ⟨t, ht, rfl⟩ := xin (n := 6) (by omega) hx.2
    simp only [xN_nI (show s < 2 ^ 31 by omega), xN_nI (show t < 2 ^ 31 by omega)]
    by_cases hf : xfos (g (23 + 2 * t) 1) (g (23 + 2 * t + 1)) 12 = 0
    · rw [if_pos hf]
      obtain ⟨m1, e, h12, h40, hxs⟩ := xfos_0 (hZ t ht) (by decide) (by decide) hf
      try rw [show xN (g (23 + 2 * t) 1) = m1 from by rw [e]; exact xN_nI (by omega)]
      exact (c_X11_alike_ok hb1 hR hp hk ht e h12 hf hxs).weak (fun r M w => w.2)
    · rw [if_neg hf]
      exact (c_X11_alike_ref hb1 hR hk ht (hZ t ht) hf).weak (fun r M w => w.2)
  · rw [if_neg hx]
    exact (c_X11_alike_bad hb1 (by rw [eG]; exact hx)).weak (fun r M w => w.2)
theorem eb_alike (hI : xIc b g G T Lw m) (hJ : xIr b g G T Lw m) : xT 10 205 [.ref 73, .int x, .int y] (xH b g l) (fun r _ => r = some (.int (if (0 ≤ x ∧ x < nI G) ∧ 0 ≤ y ∧ y < 6 then (if xfos (g (23 + 2 * xN y) 1) (g (23 + 2 * xN y + 1)) 12 = 0 then nI (xcnt (fun i => decide (g (23 + 2 * xN y + 1) i = xshw (g (b.1 + 1)) (Lw (xN x) / 4) (Lw (xN x) % 4) (fun i => xN (g (23 + 2 * xN y + 1) i)) i)) (xN (g (23 + 2 * xN y) 1))) else -3) else -1))) := by
  obtain ⟨hb, hp, hRm, htx, ⟨_, hm⟩, hDk, hK, hZc, hY⟩ := hI
  obtain ⟨hR, hs, hD, hKr, hQ, hYr⟩ := hJ
  have hZ : ∀ r, r < 6 → xsz (g 74 r) 40 := fun r h => by rw [(hQ r h).1]; exact hZc r h
  have eG : g 73 10 = nI G := hR.1.1
  have hG6 : G ≤ 6 := hR.1.2
  have hT8 : T ≤ 8 := hR.2.1.2
  have hZ6 : ∀ q, q < 6 → xsz (g 74 q) 60 := fun q h => (hZ q h).elim Or.inl (fun ⟨n, a1, a2⟩ => Or.inr ⟨n, by omega, a2⟩)
  have hY6 : ∀ q, q < 4 → xsz (g 76 q) 60 := fun q h => by rw [(hYr q h).1]; exact hY q h
  have hK6 : ∀ q, q < 3 → xsz (g 86 q) 60 := fun q h => by
    rw [(hKr q h).1]
    rcases hK q h with z | ⟨n, z1, z2, _⟩
    · exact Or.inl z
    · exact Or.inr ⟨n, by omega, z2⟩
  by_cases hx : (0 ≤ x ∧ x < nI G) ∧ 0 ≤ y ∧ y < 6
  · rw [if_pos hx]
    obtain ⟨s, hk, rfl⟩ := xin (n := G) (by omega) hx.1
    obtain ⟨p, hp1, rfl⟩ := xin (n := 6) (by omega) hx.2
    simp only [xN_nI (show s < 2 ^ 31 by omega), xN_nI (show p < 2 ^ 31 by omega)]
    have eS : g 74 p = g (23 + 2 * p) 1 := (hQ p hp1).1
    have eF : xfos (g 74 p) (fun i => g 75 (40 * p + i)) 12 = xfos (g (23 + 2 * p) 1) (g (23 + 2 * p + 1)) 12 := by
      rw [eS]
      exact xfos_c (hZc p hp1) (fun n hn en i hi => (hQ p hp1).2 n hn en i hi)
    by_cases hf : xfos (g (23 + 2 * p) 1) (g (23 + 2 * p + 1)) 12 = 0
    · rw [if_pos hf]
      obtain ⟨m1, e, h12, h40, hxs⟩ := xfos_0 (hZc p hp1) (by decide) (by decide) hf
      try rw [show xN (g (23 + 2 * p) 1) = m1 from by rw [e]; exact xN_nI (by omega)]
      have er : g 74 p = nI m1 := by rw [eS]; exact e
      have hrow : ∀ i, i < m1 → g 75 (40 * p + i) = g (23 + 2 * p + 1) i := (hQ p hp1).2 m1 h40 e
      have hf2 : xfos (g 74 p) (fun i => g 75 (40 * p + i)) 12 = 0 := by rw [eF]; exact hf
      have hxs2 : ∀ i, i < m1 → xstp (g 75 (40 * p + i)) := fun i hi => by rw [hrow i hi]; exact hxs i hi
      have e8 : ∀ i, i < m1 → xshw (g (b.1 + 1)) (Lw s / 4) (Lw s % 4) (fun i => xN (g 75 (40 * p + i))) i = xshw (g (b.1 + 1)) (Lw s / 4) (Lw s % 4) (fun i => xN (g (23 + 2 * p + 1) i)) i := fun i hi => xshw_c (fun j hj => by show xN (g 75 (40 * p + j)) = xN (g (23 + 2 * p + 1) j); rw [hrow j (by omega)])
      refine (c_X12_alike_ok hR hk hp1 er h12 hf2 hxs2).weak (fun r M w => ?_)
      obtain ⟨_, _, _, e3⟩ := w
      rw [e3]
      congr 3
      refine xcnt_congr (fun i hi => ?_)
      rw [e8 i hi, hrow i hi]
      exact decide_eq_decide.mpr eq_comm
    · rw [if_neg hf]
      exact (c_X12_alike_ref hR hk hp1 (hZ p hp1) (by rw [eF]; exact hf)).weak (fun r M w => by obtain ⟨_, _, _, e3⟩ := w; exact e3)
  · rw [if_neg hx]
    exact (c_X12_alike_bad hR hx).weak (fun r M w => w.2)
theorem ea_can (hI : xIc b g G T Lw m) : xT 10 104 [.ref 0, .int x, .int y, .int z] (xH b g l) (fun r _ => r = some (.int (if (0 ≤ x ∧ x < nI G) ∧ (0 ≤ y ∧ y < 6) ∧ 0 ≤ z then (if xfos (g (23 + 2 * xN y) 1) (g (23 + 2 * xN y + 1)) 6 = 0 then (if (xN z) < (xN (g (23 + 2 * xN y) 1)) then (if xnz (xst (Lw (xN x) / 4) (Lw (xN x) % 4) (xB (g (b.1 + 1)) (Lw (xN x) / 4) (g (23 + 2 * xN y + 1))) (xN (g (23 + 2 * xN y) 1))) (xN (g (23 + 2 * xN y) 1)) (xps (Lw (xN x) / 4) (Lw (xN x) % 4) (g (23 + 2 * xN y + 1)) (xN (g (23 + 2 * xN y) 1))) = true then (xst (Lw (xN x) / 4) (Lw (xN x) % 4) (xB (g (b.1 + 1)) (Lw (xN x) / 4) (g (23 + 2 * xN y + 1))) (xN (g (23 + 2 * xN y) 1))) (xN z) else 0) else -1) else -3) else -1))) := by
  obtain ⟨hb, hp, hR, htx, ⟨hs, hm⟩, hD, hK, hZ, hY⟩ := hI
  obtain ⟨hb1, hb2⟩ := xro_b hb
  have hq := xb2 hb
  have hbv : b.1 = 7 ∨ b.1 = 11 := by omega
  have hbw : b.2 = 7 ∨ b.2 = 11 := by omega
  have eG : g b.1 2 = nI G := hR.1.1
  have hG6 : G ≤ 6 := hR.1.2
  have eT : g b.1 4 = nI T := hR.2.1.1
  have hT8 : T ≤ 8 := hR.2.1.2
  by_cases hx : (0 ≤ x ∧ x < nI G) ∧ (0 ≤ y ∧ y < 6) ∧ 0 ≤ z
  · rw [if_pos hx]
    obtain ⟨s, hk, rfl⟩ := xin (n := G) (by omega) hx.1
    obtain ⟨t, ht, rfl⟩ := xin (n := 6) (by omega) hx.2.1
    obtain ⟨d, hd31, rfl⟩ := nI_of (Int32.not_lt.mpr hx.2.2)
    simp only [xN_nI (show s < 2 ^ 31 by omega), xN_nI (show t < 2 ^ 31 by omega), xN_nI hd31]
    by_cases hf : xfos (g (23 + 2 * t) 1) (g (23 + 2 * t + 1)) 6 = 0
    · rw [if_pos hf]
      obtain ⟨m1, e, h12, h40, hxs⟩ := xfos_0 (hZ t ht) (by decide) (by decide) hf
      try rw [show xN (g (23 + 2 * t) 1) = m1 from by rw [e]; exact xN_nI (by omega)]
      by_cases hd : d < m1
      · rw [if_pos hd]
        exact (c_X11_can_ok hb1 hR hp hbv hk ht e h12 hf hxs hd).weak (fun r M w => w.2)
      · rw [if_neg hd]
        exact (c_X11_can_bad2 hb1 hR hk ht e h12 hf hxs hd31 hd).weak (fun r M w => w.2)
    · rw [if_neg hf]
      exact (c_X11_can_ref hb1 hR hk ht (hZ t ht) hd31 hf).weak (fun r M w => w.2)
  · rw [if_neg hx]
    exact (c_X11_can_bad hb1 (by rw [eG]; exact hx)).weak (fun r M w => w.2)
theorem eb_can (hI : xIc b g G T Lw m) (hJ : xIr b g G T Lw m) : xT 10 212 [.ref 73, .int x, .int y, .int z] (xH b g l) (fun r _ => r = some (.int (if (0 ≤ x ∧ x < nI G) ∧ (0 ≤ y ∧ y < 6) ∧ 0 ≤ z then (if xfos (g (23 + 2 * xN y) 1) (g (23 + 2 * xN y + 1)) 6 = 0 then (if (xN z) < (xN (g (23 + 2 * xN y) 1)) then (if xnz (xst (Lw (xN x) / 4) (Lw (xN x) % 4) (xB (g (b.1 + 1)) (Lw (xN x) / 4) (g (23 + 2 * xN y + 1))) (xN (g (23 + 2 * xN y) 1))) (xN (g (23 + 2 * xN y) 1)) (xps (Lw (xN x) / 4) (Lw (xN x) % 4) (g (23 + 2 * xN y + 1)) (xN (g (23 + 2 * xN y) 1))) = true then (xst (Lw (xN x) / 4) (Lw (xN x) % 4) (xB (g (b.1 + 1)) (Lw (xN x) / 4) (g (23 + 2 * xN y + 1))) (xN (g (23 + 2 * xN y) 1))) (xN z) else 0) else -1) else -3) else -1))) := by
  obtain ⟨hb, hp, hRm, htx, ⟨_, hm⟩, hDk, hK, hZc, hY⟩ := hI
  obtain ⟨hR, hs, hD, hKr, hQ, hYr⟩ := hJ
  have hZ : ∀ r, r < 6 → xsz (g 74 r) 40 := fun r h => by rw [(hQ r h).1]; exact hZc r h
  have eG : g 73 10 = nI G := hR.1.1
  have hG6 : G ≤ 6 := hR.1.2
  have hT8 : T ≤ 8 := hR.2.1.2
  have hZ6 : ∀ q, q < 6 → xsz (g 74 q) 60 := fun q h => (hZ q h).elim Or.inl (fun ⟨n, a1, a2⟩ => Or.inr ⟨n, by omega, a2⟩)
  have hY6 : ∀ q, q < 4 → xsz (g 76 q) 60 := fun q h => by rw [(hYr q h).1]; exact hY q h
  have hK6 : ∀ q, q < 3 → xsz (g 86 q) 60 := fun q h => by
    rw [(hKr q h).1]
    rcases hK q h with z | ⟨n, z1, z2, _⟩
    · exact Or.inl z
    · exact Or.inr ⟨n, by omega, z2⟩
  by_cases hx : (0 ≤ x ∧ x < nI G) ∧ (0 ≤ y ∧ y < 6) ∧ 0 ≤ z
  · rw [if_pos hx]
    obtain ⟨s, hk, rfl⟩ := xin (n := G) (by omega) hx.1
    obtain ⟨p, hp1, rfl⟩ := xin (n := 6) (by omega) hx.2.1
    obtain ⟨d, hd31, rfl⟩ := nI_of (Int32.not_lt.mpr hx.2.2)
    simp only [xN_nI (show s < 2 ^ 31 by omega), xN_nI (show p < 2 ^ 31 by omega), xN_nI hd31]
    have eS : g 74 p = g (23 + 2 * p) 1 := (hQ p hp1).1
    have eF : xfos (g 74 p) (fun i => g 75 (40 * p + i)) 6 = xfos (g (23 + 2 * p) 1) (g (23 + 2 * p + 1)) 6 := by
      rw [eS]
      exact xfos_c (hZc p hp1) (fun n hn en i hi => (hQ p hp1).2 n hn en i hi)
    by_cases hf : xfos (g (23 + 2 * p) 1) (g (23 + 2 * p + 1)) 6 = 0
    · rw [if_pos hf]
      obtain ⟨m1, e, h12, h40, hxs⟩ := xfos_0 (hZc p hp1) (by decide) (by decide) hf
      try rw [show xN (g (23 + 2 * p) 1) = m1 from by rw [e]; exact xN_nI (by omega)]
      have er : g 74 p = nI m1 := by rw [eS]; exact e
      have hrow : ∀ i, i < m1 → g 75 (40 * p + i) = g (23 + 2 * p + 1) i := (hQ p hp1).2 m1 h40 e
      have hf2 : xfos (g 74 p) (fun i => g 75 (40 * p + i)) 6 = 0 := by rw [eF]; exact hf
      have hxs2 : ∀ i, i < m1 → xstp (g 75 (40 * p + i)) := fun i hi => by rw [hrow i hi]; exact hxs i hi
      by_cases hd : d < m1
      · rw [if_pos hd]
        refine (c_X12_can_ok hR hk hp1 er h12 hf2 hxs2 hd).weak (fun r M w => ?_)
        obtain ⟨_, _, _, e3⟩ := w
        rw [e3, ← xcan hd]
        congr 2
        have hP : ∀ c, decide (xfst (fun i => !decide (xshw (g (b.1 + 1)) (Lw s / 4) (Lw s % 4) (xd6 m1 c) i = g 75 (40 * p + i))) m1 = none) = decide (xfst (fun i => !decide (xshw (g (b.1 + 1)) (Lw s / 4) (Lw s % 4) (xd6 m1 c) i = g (23 + 2 * p + 1) i)) m1 = none) := fun c => by
          rw [xfst_congr (p := fun i => !decide (xshw (g (b.1 + 1)) (Lw s / 4) (Lw s % 4) (xd6 m1 c) i = g 75 (40 * p + i))) (p' := fun i => !decide (xshw (g (b.1 + 1)) (Lw s / 4) (Lw s % 4) (xd6 m1 c) i = g (23 + 2 * p + 1) i)) (fun i hi => by rw [hrow i hi])]
        rw [show (fun c => decide (xfst (fun i => !decide (xshw (g (b.1 + 1)) (Lw s / 4) (Lw s % 4) (xd6 m1 c) i = g 75 (40 * p + i))) m1 = none)) = (fun c => decide (xfst (fun i => !decide (xshw (g (b.1 + 1)) (Lw s / 4) (Lw s % 4) (xd6 m1 c) i = g (23 + 2 * p + 1) i)) m1 = none)) from funext hP]
      · rw [if_neg hd]
        exact (c_X12_can_bad2 hR hk hp1 er h12 hf2 hxs2 hd31 hd).weak (fun r M w => by obtain ⟨_, _, _, e3⟩ := w; exact e3)
    · rw [if_neg hf]
      exact (c_X12_can_ref hR hk hp1 hd31 (hZ p hp1) (by rw [eF]; exact hf)).weak (fun r M w => by obtain ⟨_, _, _, e3⟩ := w; exact e3)
  · rw [if_neg hx]
    exact (c_X12_can_bad hR hx).weak (fun r M w => w.2)
theorem ea_fit (hI : xIc b g G T Lw m) : xT 10 101 [.ref 0, .int x, .int y] (xH b g l) (fun r _ => r = some (.int (if (0 ≤ x ∧ x < 6) ∧ 0 ≤ y ∧ y < 6 then (if xfop (g (23 + 2 * xN x) 1) (g (23 + 2 * xN x + 1)) (g (23 + 2 * xN y) 1) (g (23 + 2 * xN y + 1)) 12 = 0 then nI (xcnt (fun i => !decide (g (23 + 2 * xN x + 1) i = g (23 + 2 * xN y + 1) i)) (xN (g (23 + 2 * xN x) 1))) else -3) else -1))) := by
  obtain ⟨hb, hp, hR, htx, ⟨hs, hm⟩, hD, hK, hZ, hY⟩ := hI
  obtain ⟨hb1, hb2⟩ := xro_b hb
  have hq := xb2 hb
  have hbv : b.1 = 7 ∨ b.1 = 11 := by omega
  have hbw : b.2 = 7 ∨ b.2 = 11 := by omega
  have eG : g b.1 2 = nI G := hR.1.1
  have hG6 : G ≤ 6 := hR.1.2
  have eT : g b.1 4 = nI T := hR.2.1.1
  have hT8 : T ≤ 8 := hR.2.1.2
  by_cases hx : (0 ≤ x ∧ x < 6) ∧ 0 ≤ y ∧ y < 6
  · rw [if_pos hx]
    obtain ⟨t, ht, rfl⟩ := xin (n := 6) (by omega) hx.1
    obtain ⟨p, hp1, rfl⟩ := xin (n := 6) (by omega) hx.2
    simp only [xN_nI (show t < 2 ^ 31 by omega), xN_nI (show p < 2 ^ 31 by omega)]
    by_cases hf : xfop (g (23 + 2 * t) 1) (g (23 + 2 * t + 1)) (g (23 + 2 * p) 1) (g (23 + 2 * p + 1)) 12 = 0
    · rw [if_pos hf]
      obtain ⟨f1, f2, f3⟩ := xfop_0 hf
      obtain ⟨m1, e, h12, h40, hxs⟩ := xfos_0 (hZ t ht) (by decide) (by decide) f1
      obtain ⟨m2, e2, _, h402, hxs2⟩ := xfos_0 (hZ p hp1) (by decide) (by decide) f2
      obtain rfl : m1 = m2 := nI_inj (by omega) (by omega) (by rw [← e, f3, e2])
      rw [show xN (g (23 + 2 * t) 1) = m1 from by rw [e]; exact xN_nI (by omega)]
      exact (c_X11_fit_ok ht hp1 e e2 h12 hf hxs hxs2).weak (fun r M w => w.2)
    · rw [if_neg hf]
      exact (c_X11_fit_ref ht (hZ t ht) hp1 (hZ p hp1) hf).weak (fun r M w => w.2)
  · rw [if_neg hx]
    exact (c_X11_fit_bad hx).weak (fun r M w => w.2)
theorem eb_fit (hI : xIc b g G T Lw m) (hJ : xIr b g G T Lw m) : xT 10 206 [.ref 73, .int x, .int y] (xH b g l) (fun r _ => r = some (.int (if (0 ≤ x ∧ x < 6) ∧ 0 ≤ y ∧ y < 6 then (if xfop (g (23 + 2 * xN x) 1) (g (23 + 2 * xN x + 1)) (g (23 + 2 * xN y) 1) (g (23 + 2 * xN y + 1)) 12 = 0 then nI (xcnt (fun i => !decide (g (23 + 2 * xN x + 1) i = g (23 + 2 * xN y + 1) i)) (xN (g (23 + 2 * xN x) 1))) else -3) else -1))) := by
  obtain ⟨hb, hp, hRm, htx, ⟨_, hm⟩, hDk, hK, hZc, hY⟩ := hI
  obtain ⟨hR, hs, hD, hKr, hQ, hYr⟩ := hJ
  have hZ : ∀ r, r < 6 → xsz (g 74 r) 40 := fun r h => by rw [(hQ r h).1]; exact hZc r h
  have eG : g 73 10 = nI G := hR.1.1
  have hG6 : G ≤ 6 := hR.1.2
  have hT8 : T ≤ 8 := hR.2.1.2
  have hZ6 : ∀ q, q < 6 → xsz (g 74 q) 60 := fun q h => (hZ q h).elim Or.inl (fun ⟨n, a1, a2⟩ => Or.inr ⟨n, by omega, a2⟩)
  have hY6 : ∀ q, q < 4 → xsz (g 76 q) 60 := fun q h => by rw [(hYr q h).1]; exact hY q h
  have hK6 : ∀ q, q < 3 → xsz (g 86 q) 60 := fun q h => by
    rw [(hKr q h).1]
    rcases hK q h with z | ⟨n, z1, z2, _⟩
    · exact Or.inl z
    · exact Or.inr ⟨n, by omega, z2⟩
  by_cases hx : (0 ≤ x ∧ x < 6) ∧ 0 ≤ y ∧ y < 6
  · rw [if_pos hx]
    obtain ⟨p, hp1, rfl⟩ := xin (n := 6) (by omega) hx.1
    obtain ⟨s, hs1, rfl⟩ := xin (n := 6) (by omega) hx.2
    simp only [xN_nI (show p < 2 ^ 31 by omega), xN_nI (show s < 2 ^ 31 by omega)]
    have eF : xfop (g 74 p) (fun i => g 75 (40 * p + i)) (g 74 s) (fun i => g 75 (40 * s + i)) 12 = xfop (g (23 + 2 * p) 1) (g (23 + 2 * p + 1)) (g (23 + 2 * s) 1) (g (23 + 2 * s + 1)) 12 := by
      rw [(hQ p hp1).1, (hQ s hs1).1]
      exact xfop_c (hZc p hp1) (hZc s hs1) (fun n hn en i hi => (hQ p hp1).2 n hn en i hi) (fun n hn en i hi => (hQ s hs1).2 n hn en i hi)
    by_cases hf : xfop (g (23 + 2 * p) 1) (g (23 + 2 * p + 1)) (g (23 + 2 * s) 1) (g (23 + 2 * s + 1)) 12 = 0
    · rw [if_pos hf]
      obtain ⟨f1, f2, f3⟩ := xfop_0 hf
      obtain ⟨m1, e, h12, h40, hxs⟩ := xfos_0 (hZc p hp1) (by decide) (by decide) f1
      obtain ⟨m2, e2, _, h402, hxs2⟩ := xfos_0 (hZc s hs1) (by decide) (by decide) f2
      obtain rfl : m1 = m2 := nI_inj (by omega) (by omega) (by rw [← e, f3, e2])
      rw [show xN (g (23 + 2 * p) 1) = m1 from by rw [e]; exact xN_nI (by omega)]
      have er : g 74 p = nI m1 := by rw [(hQ p hp1).1]; exact e
      have er2 : g 74 s = nI m1 := by rw [(hQ s hs1).1]; exact e2
      have hrow : ∀ i, i < m1 → g 75 (40 * p + i) = g (23 + 2 * p + 1) i := (hQ p hp1).2 m1 h40 e
      have hrow2 : ∀ i, i < m1 → g 75 (40 * s + i) = g (23 + 2 * s + 1) i := (hQ s hs1).2 m1 h40 e2
      have hg := xfop_0 (eF.trans hf)
      have hy1 : ∀ i, i < m1 → xstp (g 75 (40 * p + i)) := fun i hi => by rw [hrow i hi]; exact hxs i hi
      have hy2 : ∀ i, i < m1 → xstp (g 75 (40 * s + i)) := fun i hi => by rw [hrow2 i hi]; exact hxs2 i hi
      refine (c_X12_fit_ok hp1 hs1 er er2 h12 hg.1 hg.2.1 hy1 hy2).weak (fun r M w => ?_)
      obtain ⟨_, _, _, e3⟩ := w
      rw [e3]
      congr 3
      exact xcnt_congr (fun i hi => by rw [hrow i hi, hrow2 i hi])
    · rw [if_neg hf]
      exact (c_X12_fit_ref hp1 (hZ p hp1) hs1 (hZ s hs1) (by rw [eF]; exact hf)).weak (fun r M w => by obtain ⟨_, _, _, e3⟩ := w; exact e3)
  · rw [if_neg hx]
    exact (c_X12_fit_bad hx).weak (fun r M w => w.2)
theorem ea_laws (hI : xIc b g G T Lw m) : xT 10 105 [.ref 0, .int x, .int y] (xH b g l) (fun r _ => r = some (.int (if (0 ≤ x ∧ x < 6) ∧ 0 ≤ y ∧ y < 6 then (if xfop (g (23 + 2 * xN x) 1) (g (23 + 2 * xN x + 1)) (g (23 + 2 * xN y) 1) (g (23 + 2 * xN y + 1)) 12 = 0 then xbits (fun q => decide (xfst (fun i => !decide (xshw (g (b.1 + 1)) (q / 4) (q % 4) (fun i => xN (g (23 + 2 * xN x + 1) i)) i = g (23 + 2 * xN y + 1) i)) (xN (g (23 + 2 * xN x) 1)) = none)) 24 else -3) else -1))) := by
  obtain ⟨hb, hp, hR, htx, ⟨hs, hm⟩, hD, hK, hZ, hY⟩ := hI
  obtain ⟨hb1, hb2⟩ := xro_b hb
  have hq := xb2 hb
  have hbv : b.1 = 7 ∨ b.1 = 11 := by omega
  have hbw : b.2 = 7 ∨ b.2 = 11 := by omega
  have eG : g b.1 2 = nI G := hR.1.1
  have hG6 : G ≤ 6 := hR.1.2
  have eT : g b.1 4 = nI T := hR.2.1.1
  have hT8 : T ≤ 8 := hR.2.1.2
  by_cases hx : (0 ≤ x ∧ x < 6) ∧ 0 ≤ y ∧ y < 6
  · rw [if_pos hx]
    obtain ⟨t, ht, rfl⟩ := xin (n := 6) (by omega) hx.1
    obtain ⟨p, hp1, rfl⟩ := xin (n := 6) (by omega) hx.2
    simp only [xN_nI (show t < 2 ^ 31 by omega), xN_nI (show p < 2 ^ 31 by omega)]
    by_cases hf : xfop (g (23 + 2 * t) 1) (g (23 + 2 * t + 1)) (g (23 + 2 * p) 1) (g (23 + 2 * p + 1)) 12 = 0
    · rw [if_pos hf]
      obtain ⟨f1, f2, f3⟩ := xfop_0 hf
      obtain ⟨m1, e, h12, h40, hxs⟩ := xfos_0 (hZ t ht) (by decide) (by decide) f1
      obtain ⟨m2, e2, _, h402, hxs2⟩ := xfos_0 (hZ p hp1) (by decide) (by decide) f2
      obtain rfl : m1 = m2 := nI_inj (by omega) (by omega) (by rw [← e, f3, e2])
      rw [show xN (g (23 + 2 * t) 1) = m1 from by rw [e]; exact xN_nI (by omega)]
      exact (c_X11_laws_ok hb1 hR hp ht hp1 e e2 h12 hf hxs hxs2).weak (fun r M w => w.2)
    · rw [if_neg hf]
      exact (c_X11_laws_ref ht (hZ t ht) hp1 (hZ p hp1) hf).weak (fun r M w => w.2)
  · rw [if_neg hx]
    exact (c_X11_laws_bad hx).weak (fun r M w => w.2)
theorem eb_laws (hI : xIc b g G T Lw m) (hJ : xIr b g G T Lw m) : xT 10 214 [.ref 73, .int x, .int y] (xH b g l) (fun r _ => r = some (.int (if (0 ≤ x ∧ x < 6) ∧ 0 ≤ y ∧ y < 6 then (if xfop (g (23 + 2 * xN x) 1) (g (23 + 2 * xN x + 1)) (g (23 + 2 * xN y) 1) (g (23 + 2 * xN y + 1)) 12 = 0 then xbits (fun q => decide (xfst (fun i => !decide (xshw (g (b.1 + 1)) (q / 4) (q % 4) (fun i => xN (g (23 + 2 * xN x + 1) i)) i = g (23 + 2 * xN y + 1) i)) (xN (g (23 + 2 * xN x) 1)) = none)) 24 else -3) else -1))) := by
  obtain ⟨hb, hp, hRm, htx, ⟨_, hm⟩, hDk, hK, hZc, hY⟩ := hI
  obtain ⟨hR, hs, hD, hKr, hQ, hYr⟩ := hJ
  have hZ : ∀ r, r < 6 → xsz (g 74 r) 40 := fun r h => by rw [(hQ r h).1]; exact hZc r h
  have eG : g 73 10 = nI G := hR.1.1
  have hG6 : G ≤ 6 := hR.1.2
  have hT8 : T ≤ 8 := hR.2.1.2
  have hZ6 : ∀ q, q < 6 → xsz (g 74 q) 60 := fun q h => (hZ q h).elim Or.inl (fun ⟨n, a1, a2⟩ => Or.inr ⟨n, by omega, a2⟩)
  have hY6 : ∀ q, q < 4 → xsz (g 76 q) 60 := fun q h => by rw [(hYr q h).1]; exact hY q h
  have hK6 : ∀ q, q < 3 → xsz (g 86 q) 60 := fun q h => by
    rw [(hKr q h).1]
    rcases hK q h with z | ⟨n, z1, z2, _⟩
    · exact Or.inl z
    · exact Or.inr ⟨n, by omega, z2⟩
  by_cases hx : (0 ≤ x ∧ x < 6) ∧ 0 ≤ y ∧ y < 6
  · rw [if_pos hx]
    obtain ⟨p, hp1, rfl⟩ := xin (n := 6) (by omega) hx.1
    obtain ⟨s, hs1, rfl⟩ := xin (n := 6) (by omega) hx.2
    simp only [xN_nI (show p < 2 ^ 31 by omega), xN_nI (show s < 2 ^ 31 by omega)]
    have eF : xfop (g 74 p) (fun i => g 75 (40 * p + i)) (g 74 s) (fun i => g 75 (40 * s + i)) 12 = xfop (g (23 + 2 * p) 1) (g (23 + 2 * p + 1)) (g (23 + 2 * s) 1) (g (23 + 2 * s + 1)) 12 := by
      rw [(hQ p hp1).1, (hQ s hs1).1]
      exact xfop_c (hZc p hp1) (hZc s hs1) (fun n hn en i hi => (hQ p hp1).2 n hn en i hi) (fun n hn en i hi => (hQ s hs1).2 n hn en i hi)
    by_cases hf : xfop (g (23 + 2 * p) 1) (g (23 + 2 * p + 1)) (g (23 + 2 * s) 1) (g (23 + 2 * s + 1)) 12 = 0
    · rw [if_pos hf]
      obtain ⟨f1, f2, f3⟩ := xfop_0 hf
      obtain ⟨m1, e, h12, h40, hxs⟩ := xfos_0 (hZc p hp1) (by decide) (by decide) f1
      obtain ⟨m2, e2, _, h402, hxs2⟩ := xfos_0 (hZc s hs1) (by decide) (by decide) f2
      obtain rfl : m1 = m2 := nI_inj (by omega) (by omega) (by rw [← e, f3, e2])
      rw [show xN (g (23 + 2 * p) 1) = m1 from by rw [e]; exact xN_nI (by omega)]
      have er : g 74 p = nI m1 := by rw [(hQ p hp1).1]; exact e
      have er2 : g 74 s = nI m1 := by rw [(hQ s hs1).1]; exact e2
      have hrow : ∀ i, i < m1 → g 75 (40 * p + i) = g (23 + 2 * p + 1) i := (hQ p hp1).2 m1 h40 e
      have hrow2 : ∀ i, i < m1 → g 75 (40 * s + i) = g (23 + 2 * s + 1) i := (hQ s hs1).2 m1 h40 e2
      have hg := xfop_0 (eF.trans hf)
      have hy1 : ∀ i, i < m1 → xstp (g 75 (40 * p + i)) := fun i hi => by rw [hrow i hi]; exact hxs i hi
      have hy2 : ∀ i, i < m1 → xstp (g 75 (40 * s + i)) := fun i hi => by rw [hrow2 i hi]; exact hxs2 i hi
      refine (c_X12_laws_ok hR hp1 hs1 er er2 h12 hg.1 hg.2.1 hy1 hy2).weak (fun r M w => ?_)
      obtain ⟨_, _, _, e3⟩ := w
      rw [e3]
      congr 2
      refine xbits_c 24 (fun q _ => ?_)
      have e8 : xfst (fun i => !decide (xshw (g (b.1 + 1)) (q / 4) (q % 4) (fun i => xN (g 75 (40 * p + i))) i = g 75 (40 * s + i))) m1 = xfst (fun i => !decide (xshw (g (b.1 + 1)) (q / 4) (q % 4) (fun i => xN (g (23 + 2 * p + 1) i)) i = g (23 + 2 * s + 1) i)) m1 := xfst_congr (fun i hi => by
        rw [hrow2 i hi, show xshw (g (b.1 + 1)) (q / 4) (q % 4) (fun i => xN (g 75 (40 * p + i))) i = xshw (g (b.1 + 1)) (q / 4) (q % 4) (fun i => xN (g (23 + 2 * p + 1) i)) i from xshw_c (fun j hj => by show xN (g 75 (40 * p + j)) = xN (g (23 + 2 * p + 1) j); rw [hrow j (by omega)])])
      rw [e8]
    · rw [if_neg hf]
      exact (c_X12_laws_ref hp1 (hZ p hp1) hs1 (hZ s hs1) (by rw [eF]; exact hf)).weak (fun r M w => by obtain ⟨_, _, _, e3⟩ := w; exact e3)
  · rw [if_neg hx]
    exact (c_X12_laws_bad hx).weak (fun r M w => w.2)
theorem ea_he (hI : xIc b g G T Lw m) : xT 10 107 [.ref 0, .int x, .int y, .int z] (xH b g l) (fun r _ => r = some (.int (if (0 ≤ x ∧ x < nI G) ∧ (0 ≤ y ∧ y < 6) ∧ 0 ≤ z ∧ z < 6 then (if xfop (g (23 + 2 * xN y) 1) (g (23 + 2 * xN y + 1)) (g (23 + 2 * xN z) 1) (g (23 + 2 * xN z + 1)) 12 = 0 then xhr (xfst (fun i => !decide (xshw (g (b.1 + 1)) (Lw (xN x) / 4) (Lw (xN x) % 4) (fun i => xN (g (23 + 2 * xN y + 1) i)) i = g (23 + 2 * xN z + 1) i)) (xN (g (23 + 2 * xN y) 1))) (xfst (fun i => !decide (xshw (g (b.1 + 1)) (Lw (xN x) / 4) (Lw (xN x) % 4) (fun i => xN (g (23 + 2 * xN z + 1) i)) i = g (23 + 2 * xN y + 1) i)) (xN (g (23 + 2 * xN y) 1))) else -3) else -1))) := by
  obtain ⟨hb, hp, hR, htx, ⟨hs, hm⟩, hD, hK, hZ, hY⟩ := hI
  obtain ⟨hb1, hb2⟩ := xro_b hb
  have hq := xb2 hb
  have hbv : b.1 = 7 ∨ b.1 = 11 := by omega
  have hbw : b.2 = 7 ∨ b.2 = 11 := by omega
  have eG : g b.1 2 = nI G := hR.1.1
  have hG6 : G ≤ 6 := hR.1.2
  have eT : g b.1 4 = nI T := hR.2.1.1
  have hT8 : T ≤ 8 := hR.2.1.2
  by_cases hx : (0 ≤ x ∧ x < nI G) ∧ (0 ≤ y ∧ y < 6) ∧ 0 ≤ z ∧ z < 6
  · rw [if_pos hx]
    obtain ⟨s, hk, rfl⟩ := xin (n := G) (by omega) hx.1
    obtain ⟨t, ht, rfl⟩ := xin (n := 6) (by omega) hx.2.1
    obtain ⟨p, hp1, rfl⟩ := xin (n := 6) (by omega) hx.2.2
    simp only [xN_nI (show s < 2 ^ 31 by omega), xN_nI (show t < 2 ^ 31 by omega), xN_nI (show p < 2 ^ 31 by omega)]
    by_cases hf : xfop (g (23 + 2 * t) 1) (g (23 + 2 * t + 1)) (g (23 + 2 * p) 1) (g (23 + 2 * p + 1)) 12 = 0
    · rw [if_pos hf]
      obtain ⟨f1, f2, f3⟩ := xfop_0 hf
      obtain ⟨m1, e, h12, h40, hxs⟩ := xfos_0 (hZ t ht) (by decide) (by decide) f1
      obtain ⟨m2, e2, _, h402, hxs2⟩ := xfos_0 (hZ p hp1) (by decide) (by decide) f2
      obtain rfl : m1 = m2 := nI_inj (by omega) (by omega) (by rw [← e, f3, e2])
      rw [show xN (g (23 + 2 * t) 1) = m1 from by rw [e]; exact xN_nI (by omega)]
      exact (c_X11_he_ok hb1 hR hp hk ht hp1 e e2 h12 hf hxs hxs2).weak (fun r M w => w.2)
    · rw [if_neg hf]
      exact (c_X11_he_ref hb1 hR hk ht (hZ t ht) hp1 (hZ p hp1) hf).weak (fun r M w => w.2)
  · rw [if_neg hx]
    exact (c_X11_he_bad hb1 (by rw [eG]; exact hx)).weak (fun r M w => w.2)
theorem eb_he (hI : xIc b g G T Lw m) (hJ : xIr b g G T Lw m) : xT 10 217 [.ref 73, .int x, .int y, .int z] (xH b g l) (fun r _ => r = some (.int (if (0 ≤ x ∧ x < nI G) ∧ (0 ≤ y ∧ y < 6) ∧ 0 ≤ z ∧ z < 6 then (if xfop (g (23 + 2 * xN y) 1) (g (23 + 2 * xN y + 1)) (g (23 + 2 * xN z) 1) (g (23 + 2 * xN z + 1)) 12 = 0 then xhr (xfst (fun i => !decide (xshw (g (b.1 + 1)) (Lw (xN x) / 4) (Lw (xN x) % 4) (fun i => xN (g (23 + 2 * xN y + 1) i)) i = g (23 + 2 * xN z + 1) i)) (xN (g (23 + 2 * xN y) 1))) (xfst (fun i => !decide (xshw (g (b.1 + 1)) (Lw (xN x) / 4) (Lw (xN x) % 4) (fun i => xN (g (23 + 2 * xN z + 1) i)) i = g (23 + 2 * xN y + 1) i)) (xN (g (23 + 2 * xN y) 1))) else -3) else -1))) := by
  obtain ⟨hb, hp, hRm, htx, ⟨_, hm⟩, hDk, hK, hZc, hY⟩ := hI
  obtain ⟨hR, hs, hD, hKr, hQ, hYr⟩ := hJ
  have hZ : ∀ r, r < 6 → xsz (g 74 r) 40 := fun r h => by rw [(hQ r h).1]; exact hZc r h
  have eG : g 73 10 = nI G := hR.1.1
  have hG6 : G ≤ 6 := hR.1.2
  have hT8 : T ≤ 8 := hR.2.1.2
  have hZ6 : ∀ q, q < 6 → xsz (g 74 q) 60 := fun q h => (hZ q h).elim Or.inl (fun ⟨n, a1, a2⟩ => Or.inr ⟨n, by omega, a2⟩)
  have hY6 : ∀ q, q < 4 → xsz (g 76 q) 60 := fun q h => by rw [(hYr q h).1]; exact hY q h
  have hK6 : ∀ q, q < 3 → xsz (g 86 q) 60 := fun q h => by
    rw [(hKr q h).1]
    rcases hK q h with z | ⟨n, z1, z2, _⟩
    · exact Or.inl z
    · exact Or.inr ⟨n, by omega, z2⟩
  by_cases hx : (0 ≤ x ∧ x < nI G) ∧ (0 ≤ y ∧ y < 6) ∧ 0 ≤ z ∧ z < 6
  · rw [if_pos hx]
    obtain ⟨t, hk, rfl⟩ := xin (n := G) (by omega) hx.1
    obtain ⟨p, hp1, rfl⟩ := xin (n := 6) (by omega) hx.2.1
    obtain ⟨s, hs1, rfl⟩ := xin (n := 6) (by omega) hx.2.2
    simp only [xN_nI (show t < 2 ^ 31 by omega), xN_nI (show p < 2 ^ 31 by omega), xN_nI (show s < 2 ^ 31 by omega)]
    have eF : xfop (g 74 p) (fun i => g 75 (40 * p + i)) (g 74 s) (fun i => g 75 (40 * s + i)) 12 = xfop (g (23 + 2 * p) 1) (g (23 + 2 * p + 1)) (g (23 + 2 * s) 1) (g (23 + 2 * s + 1)) 12 := by
      rw [(hQ p hp1).1, (hQ s hs1).1]
      exact xfop_c (hZc p hp1) (hZc s hs1) (fun n hn en i hi => (hQ p hp1).2 n hn en i hi) (fun n hn en i hi => (hQ s hs1).2 n hn en i hi)
    by_cases hf : xfop (g (23 + 2 * p) 1) (g (23 + 2 * p + 1)) (g (23 + 2 * s) 1) (g (23 + 2 * s + 1)) 12 = 0
    · rw [if_pos hf]
      obtain ⟨f1, f2, f3⟩ := xfop_0 hf
      obtain ⟨m1, e, h12, h40, hxs⟩ := xfos_0 (hZc p hp1) (by decide) (by decide) f1
      obtain ⟨m2, e2, _, h402, hxs2⟩ := xfos_0 (hZc s hs1) (by decide) (by decide) f2
      obtain rfl : m1 = m2 := nI_inj (by omega) (by omega) (by rw [← e, f3, e2])
      rw [show xN (g (23 + 2 * p) 1) = m1 from by rw [e]; exact xN_nI (by omega)]
      have er : g 74 p = nI m1 := by rw [(hQ p hp1).1]; exact e
      have er2 : g 74 s = nI m1 := by rw [(hQ s hs1).1]; exact e2
      have hrow : ∀ i, i < m1 → g 75 (40 * p + i) = g (23 + 2 * p + 1) i := (hQ p hp1).2 m1 h40 e
      have hrow2 : ∀ i, i < m1 → g 75 (40 * s + i) = g (23 + 2 * s + 1) i := (hQ s hs1).2 m1 h40 e2
      have hg := xfop_0 (eF.trans hf)
      have hy1 : ∀ i, i < m1 → xstp (g 75 (40 * p + i)) := fun i hi => by rw [hrow i hi]; exact hxs i hi
      have hy2 : ∀ i, i < m1 → xstp (g 75 (40 * s + i)) := fun i hi => by rw [hrow2 i hi]; exact hxs2 i hi
      refine (c_X12_he_ok hR hk hp1 hs1 er er2 h12 hg.1 hg.2.1 hy1 hy2).weak (fun r M w => ?_)
      obtain ⟨_, _, _, e3⟩ := w
      rw [e3]
      have e8 : xfst (fun i => !decide (xshw (g (b.1 + 1)) (Lw t / 4) (Lw t % 4) (fun i => xN (g 75 (40 * p + i))) i = g 75 (40 * s + i))) m1 = xfst (fun i => !decide (xshw (g (b.1 + 1)) (Lw t / 4) (Lw t % 4) (fun i => xN (g (23 + 2 * p + 1) i)) i = g (23 + 2 * s + 1) i)) m1 := xfst_congr (fun i hi => by
        rw [hrow2 i hi, show xshw (g (b.1 + 1)) (Lw t / 4) (Lw t % 4) (fun i => xN (g 75 (40 * p + i))) i = xshw (g (b.1 + 1)) (Lw t / 4) (Lw t % 4) (fun i => xN (g (23 + 2 * p + 1) i)) i from xshw_c (fun j hj => by show xN (g 75 (40 * p + j)) = xN (g (23 + 2 * p + 1) j); rw [hrow j (by omega)])])
      have e9 : xfst (fun i => !decide (xshw (g (b.1 + 1)) (Lw t / 4) (Lw t % 4) (fun i => xN (g 75 (40 * s + i))) i = g 75 (40 * p + i))) m1 = xfst (fun i => !decide (xshw (g (b.1 + 1)) (Lw t / 4) (Lw t % 4) (fun i => xN (g (23 + 2 * s + 1) i)) i = g (23 + 2 * p + 1) i)) m1 := xfst_congr (fun i hi => by
        rw [hrow i hi, show xshw (g (b.1 + 1)) (Lw t / 4) (Lw t % 4) (fun i => xN (g 75 (40 * s + i))) i = xshw (g (b.1 + 1)) (Lw t / 4) (Lw t % 4) (fun i => xN (g (23 + 2 * s + 1) i)) i from xshw_c (fun j hj => by show xN (g 75 (40 * s + j)) = xN (g (23 + 2 * s + 1) j); rw [hrow2 j (by omega)])])
      rw [e8, e9]
    · rw [if_neg hf]
      exact (c_X12_he_ref hR hk hp1 (hZ p hp1) hs1 (hZ s hs1) (by rw [eF]; exact hf)).weak (fun r M w => by obtain ⟨_, _, _, e3⟩ := w; exact e3)
  · rw [if_neg hx]
    exact (c_X12_he_bad hR hx).weak (fun r M w => w.2)
theorem ea_count (hI : xIc b g G T Lw m) : xT 10 118 [.ref 0, .int x] (xH b g l) (fun r _ => r = some (.int (if 0 ≤ x ∧ x < 9 then xct g G T m Lw (xN x) else -1))) := by
  obtain ⟨hb, hp, hR, htx, ⟨hs, hm⟩, hD, hK, hZ, hY⟩ := hI
  obtain ⟨hb1, hb2⟩ := xro_b hb
  have hq := xb2 hb
  have hbv : b.1 = 7 ∨ b.1 = 11 := by omega
  have hbw : b.2 = 7 ∨ b.2 = 11 := by omega
  have eG : g b.1 2 = nI G := hR.1.1
  have hG6 : G ≤ 6 := hR.1.2
  have eT : g b.1 4 = nI T := hR.2.1.1
  have hT8 : T ≤ 8 := hR.2.1.2
  by_cases hx : 0 ≤ x ∧ x < 9
  · rw [if_pos hx]
    obtain ⟨t, ht, rfl⟩ := xin (n := 9) (by omega) hx
    rw [xN_nI (by omega)]
    exact (c_X11_count hb1 hR hp hs hm ht).weak (fun r M w => w.2)
  · rw [if_neg hx]
    exact (c_X11_count_bad hx).weak (fun r M w => w.2)
theorem eb_count (hI : xIc b g G T Lw m) (hJ : xIr b g G T Lw m) : xT 10 234 [.ref 73, .int x] (xH b g l) (fun r _ => r = some (.int (if 0 ≤ x ∧ x < 9 then xct g G T m Lw (xN x) else -1))) := by
  obtain ⟨hb, hp, hRm, htx, ⟨_, hm⟩, hDk, hK, hZc, hY⟩ := hI
  obtain ⟨hR, hs, hD, hKr, hQ, hYr⟩ := hJ
  have hZ : ∀ r, r < 6 → xsz (g 74 r) 40 := fun r h => by rw [(hQ r h).1]; exact hZc r h
  have eG : g 73 10 = nI G := hR.1.1
  have hG6 : G ≤ 6 := hR.1.2
  have hT8 : T ≤ 8 := hR.2.1.2
  have hZ6 : ∀ q, q < 6 → xsz (g 74 q) 60 := fun q h => (hZ q h).elim Or.inl (fun ⟨n, a1, a2⟩ => Or.inr ⟨n, by omega, a2⟩)
  have hY6 : ∀ q, q < 4 → xsz (g 76 q) 60 := fun q h => by rw [(hYr q h).1]; exact hY q h
  have hK6 : ∀ q, q < 3 → xsz (g 86 q) 60 := fun q h => by
    rw [(hKr q h).1]
    rcases hK q h with z | ⟨n, z1, z2, _⟩
    · exact Or.inl z
    · exact Or.inr ⟨n, by omega, z2⟩
  by_cases hx : 0 ≤ x ∧ x < 9
  · rw [if_pos hx]
    obtain ⟨t, ht, rfl⟩ := xin (n := 9) (by omega) hx
    rw [xN_nI (by omega), show xct g G T m Lw t = xctr g (g 5) G T m Lw t from ?_]
    · exact (c_X12_count_ok hR hD hm hs hZ6 hY6 hK6 ht).weak (fun r M w => w.2)
    · unfold xct xctr
      rw [xcnt_congr (p := fun k => !decide (g (23 + 2 * k) 1 = -1)) (p' := fun q => !decide (g 74 q = -1)) (n := 6) (fun q hq => by rw [(hQ q hq).1]), xcnt_congr (p := fun k => !decide (g (35 + 2 * k) 1 = -1)) (p' := fun q => !decide (g 76 q = -1)) (n := 4) (fun q hq => by rw [(hYr q hq).1]), xcnt_congr (p := fun k => !decide (g (67 + 2 * k) 1 = -1)) (p' := fun q => !decide (g 86 q = -1)) (n := 3) (fun q hq => by rw [(hKr q hq).1])]
  · rw [if_neg hx]
    exact (c_X12_count_bad hx).weak (fun r M w => w.2)
theorem ea_fault (hI : xIc b g G T Lw m) : xT 10 86 [.ref 0, .int x] (xH b g l) (fun r _ => r = some (.int (if 0 ≤ x ∧ x < 4 then (if g (35 + 2 * xN x) 1 = -1 then (-3 : Int32) else xfI (xprs (g (35 + 2 * xN x + 1)) (xN (g (35 + 2 * xN x) 1))).1) else -1))) := by
  obtain ⟨hb, hp, hR, htx, ⟨hs, hm⟩, hD, hK, hZ, hY⟩ := hI
  obtain ⟨hb1, hb2⟩ := xro_b hb
  have hq := xb2 hb
  have hbv : b.1 = 7 ∨ b.1 = 11 := by omega
  have hbw : b.2 = 7 ∨ b.2 = 11 := by omega
  have eG : g b.1 2 = nI G := hR.1.1
  have hG6 : G ≤ 6 := hR.1.2
  have eT : g b.1 4 = nI T := hR.2.1.1
  have hT8 : T ≤ 8 := hR.2.1.2
  by_cases hx : 0 ≤ x ∧ x < 4
  · rw [if_pos hx]
    obtain ⟨t, ht, rfl⟩ := xin (n := 4) (by omega) hx
    rw [xN_nI (by omega)]
    rcases hY t ht with e | ⟨m1, hm1, e⟩
    · rw [if_pos e]
      exact (c_X11_fault_no ht e).weak (fun r M w => w.2)
    · rw [e, if_neg (nI_nm1 (by omega)), xN_nI (by omega)]
      exact (c_X11_fault_ok ht e hm1 rfl hb2 (by omega)).weak (fun r M w => by obtain ⟨_, _, _, e3⟩ := w; exact e3)
  · rw [if_neg hx]
    exact (c_X11_fault_bad hx).weak (fun r M w => w.2)
theorem eb_fault (hI : xIc b g G T Lw m) (hJ : xIr b g G T Lw m) : xT 10 176 [.ref 73, .int x] (xH b g l) (fun r _ => r = some (.int (if 0 ≤ x ∧ x < 4 then (if g (35 + 2 * xN x) 1 = -1 then (-3 : Int32) else xfI (xprs (g (35 + 2 * xN x + 1)) (xN (g (35 + 2 * xN x) 1))).1) else -1))) := by
  obtain ⟨hb, hp, hRm, htx, ⟨_, hm⟩, hDk, hK, hZc, hY⟩ := hI
  obtain ⟨hR, hs, hD, hKr, hQ, hYr⟩ := hJ
  have hZ : ∀ r, r < 6 → xsz (g 74 r) 40 := fun r h => by rw [(hQ r h).1]; exact hZc r h
  have eG : g 73 10 = nI G := hR.1.1
  have hG6 : G ≤ 6 := hR.1.2
  have hT8 : T ≤ 8 := hR.2.1.2
  have hZ6 : ∀ q, q < 6 → xsz (g 74 q) 60 := fun q h => (hZ q h).elim Or.inl (fun ⟨n, a1, a2⟩ => Or.inr ⟨n, by omega, a2⟩)
  have hY6 : ∀ q, q < 4 → xsz (g 76 q) 60 := fun q h => by rw [(hYr q h).1]; exact hY q h
  have hK6 : ∀ q, q < 3 → xsz (g 86 q) 60 := fun q h => by
    rw [(hKr q h).1]
    rcases hK q h with z | ⟨n, z1, z2, _⟩
    · exact Or.inl z
    · exact Or.inr ⟨n, by omega, z2⟩
  by_cases hx : 0 ≤ x ∧ x < 4
  · rw [if_pos hx]
    obtain ⟨t, ht, rfl⟩ := xin (n := 4) (by omega) hx
    rw [xN_nI (by omega)]
    rcases hY t ht with e | ⟨m1, hm1, e⟩
    · rw [if_pos e]
      exact (c_X12_fault_no ht (by rw [(hYr t ht).1]; exact e)).weak (fun r M w => w.2)
    · rw [e, if_neg (nI_nm1 (by omega)), xN_nI (by omega)]
      exact (c_X12_fault_ok (f := g (35 + 2 * t + 1)) ht (by rw [(hYr t ht).1]; exact e) hm1 ((hYr t ht).2 m1 hm1 e)).weak (fun r M w => by obtain ⟨_, _, _, e3⟩ := w; exact e3)
  · rw [if_neg hx]
    exact (c_X12_fault_bad hx).weak (fun r M w => w.2)
theorem ea_glass (hI : xIc b g G T Lw m) : xT 10 88 [.ref 0, .int x, .int y] (xH b g l) (fun r _ => r = some (.int (if (0 ≤ x ∧ x < nI G) ∧ 0 ≤ y ∧ y ≤ 3 then (1 : Int32) else -1))) := by
  obtain ⟨hb, hp, hR, htx, ⟨hs, hm⟩, hD, hK, hZ, hY⟩ := hI
  obtain ⟨hb1, hb2⟩ := xro_b hb
  have hq := xb2 hb
  have hbv : b.1 = 7 ∨ b.1 = 11 := by omega
  have hbw : b.2 = 7 ∨ b.2 = 11 := by omega
  have eG : g b.1 2 = nI G := hR.1.1
  have hG6 : G ≤ 6 := hR.1.2
  have eT : g b.1 4 = nI T := hR.2.1.1
  have hT8 : T ≤ 8 := hR.2.1.2
  by_cases hx : (0 ≤ x ∧ x < nI G) ∧ 0 ≤ y ∧ y ≤ 3
  · rw [if_pos hx]
    obtain ⟨s, hk, rfl⟩ := xin (n := G) (by omega) hx.1
    obtain ⟨t, ht, rfl⟩ := xinl (n := 3) (by omega) hx.2
    exact (c_X11_glass_ok hb1 hR hp hs hm hk (by omega)).weak (fun r M w => w.2)
  · rw [if_neg hx]
    exact (c_X11_glass_bad hb1 (by rw [eG]; exact hx)).weak (fun r M w => w.2)
theorem eb_glass (hI : xIc b g G T Lw m) (hJ : xIr b g G T Lw m) : xT 10 187 [.ref 73, .int x, .int y] (xH b g l) (fun r _ => r = some (.int (if (0 ≤ x ∧ x < nI G) ∧ 0 ≤ y ∧ y ≤ 3 then (1 : Int32) else -1))) := by
  obtain ⟨hb, hp, hRm, htx, ⟨_, hm⟩, hDk, hK, hZc, hY⟩ := hI
  obtain ⟨hR, hs, hD, hKr, hQ, hYr⟩ := hJ
  have hZ : ∀ r, r < 6 → xsz (g 74 r) 40 := fun r h => by rw [(hQ r h).1]; exact hZc r h
  have eG : g 73 10 = nI G := hR.1.1
  have hG6 : G ≤ 6 := hR.1.2
  have hT8 : T ≤ 8 := hR.2.1.2
  have hZ6 : ∀ q, q < 6 → xsz (g 74 q) 60 := fun q h => (hZ q h).elim Or.inl (fun ⟨n, a1, a2⟩ => Or.inr ⟨n, by omega, a2⟩)
  have hY6 : ∀ q, q < 4 → xsz (g 76 q) 60 := fun q h => by rw [(hYr q h).1]; exact hY q h
  have hK6 : ∀ q, q < 3 → xsz (g 86 q) 60 := fun q h => by
    rw [(hKr q h).1]
    rcases hK q h with z | ⟨n, z1, z2, _⟩
    · exact Or.inl z
    · exact Or.inr ⟨n, by omega, z2⟩
  by_cases hx : (0 ≤ x ∧ x < nI G) ∧ 0 ≤ y ∧ y ≤ 3
  · rw [if_pos hx]
    obtain ⟨s, hk, rfl⟩ := xin (n := G) (by omega) hx.1
    obtain ⟨t, ht, rfl⟩ := xinl (n := 3) (by omega) hx.2
    rcases (show t = 0 ∨ t = 1 ∨ t = 2 ∨ t = 3 by omega) with rfl | rfl | rfl | rfl
    · exact (c_X12_glass_0 hR hk hD hm hs).weak (fun r M w => w.2)
    · exact (c_X12_glass_1 hR hk hD hm hs).weak (fun r M w => w.2)
    · exact (c_X12_glass_2 hR hk hD hm hs).weak (fun r M w => w.2)
    · exact (c_X12_glass_3 hR hk hD hm hs).weak (fun r M w => w.2)
  · rw [if_neg hx]
    exact (c_X12_glass_bad hR hx).weak (fun r M w => w.2)
theorem ea_habit (hI : xIc b g G T Lw m) : xT 10 90 [.ref 0, .int x] (xH b g l) (fun r _ => r = some (.int (if 0 ≤ x ∧ x < 6 then g (b.1 + 1) (xN x) else -1))) := by
  obtain ⟨hb, hp, hR, htx, ⟨hs, hm⟩, hD, hK, hZ, hY⟩ := hI
  obtain ⟨hb1, hb2⟩ := xro_b hb
  have hq := xb2 hb
  have hbv : b.1 = 7 ∨ b.1 = 11 := by omega
  have hbw : b.2 = 7 ∨ b.2 = 11 := by omega
  have eG : g b.1 2 = nI G := hR.1.1
  have hG6 : G ≤ 6 := hR.1.2
  have eT : g b.1 4 = nI T := hR.2.1.1
  have hT8 : T ≤ 8 := hR.2.1.2
  by_cases hx : 0 ≤ x ∧ x < 6
  · rw [if_pos hx]
    obtain ⟨t, ht, rfl⟩ := xin (n := 6) (by omega) hx
    rw [xN_nI (by omega)]
    exact (c_X11_habit_ok hb1 ht).weak (fun r M w => w.2)
  · rw [if_neg hx]
    exact (c_X11_habit_bad hx).weak (fun r M w => w.2)
theorem eb_habit (hI : xIc b g G T Lw m) (hJ : xIr b g G T Lw m) : xT 10 189 [.ref 73, .int x] (xH b g l) (fun r _ => r = some (.int (if 0 ≤ x ∧ x < 6 then g (b.1 + 1) (xN x) else -1))) := by
  obtain ⟨hb, hp, hRm, htx, ⟨_, hm⟩, hDk, hK, hZc, hY⟩ := hI
  obtain ⟨hR, hs, hD, hKr, hQ, hYr⟩ := hJ
  have hZ : ∀ r, r < 6 → xsz (g 74 r) 40 := fun r h => by rw [(hQ r h).1]; exact hZc r h
  have eG : g 73 10 = nI G := hR.1.1
  have hG6 : G ≤ 6 := hR.1.2
  have hT8 : T ≤ 8 := hR.2.1.2
  have hZ6 : ∀ q, q < 6 → xsz (g 74 q) 60 := fun q h => (hZ q h).elim Or.inl (fun ⟨n, a1, a2⟩ => Or.inr ⟨n, by omega, a2⟩)
  have hY6 : ∀ q, q < 4 → xsz (g 76 q) 60 := fun q h => by rw [(hYr q h).1]; exact hY q h
  have hK6 : ∀ q, q < 3 → xsz (g 86 q) 60 := fun q h => by
    rw [(hKr q h).1]
    rcases hK q h with z | ⟨n, z1, z2, _⟩
    · exact Or.inl z
    · exact Or.inr ⟨n, by omega, z2⟩
  by_cases hx : 0 ≤ x ∧ x < 6
  · rw [if_pos hx]
    obtain ⟨t, ht, rfl⟩ := xin (n := 6) (by omega) hx
    rw [xN_nI (by omega)]
    exact (c_X12_habit_ok hR ht).weak (fun r M w => w.2)
  · rw [if_neg hx]
    exact (c_X12_habit_bad hx).weak (fun r M w => w.2)
theorem ea_term (hI : xIc b g G T Lw m) : xT 10 91 [.ref 0, .int x, .int y] (xH b g l) (fun r _ => r = some (.int (if (0 ≤ x ∧ x < nI T) ∧ 0 ≤ y ∧ y ≤ 1 then g (b.1 + 3) (2 * xN x + xN y) else -1))) := by
  obtain ⟨hb, hp, hR, htx, ⟨hs, hm⟩, hD, hK, hZ, hY⟩ := hI
  obtain ⟨hb1, hb2⟩ := xro_b hb
  have hq := xb2 hb
  have hbv : b.1 = 7 ∨ b.1 = 11 := by omega
  have hbw : b.2 = 7 ∨ b.2 = 11 := by omega
  have eG : g b.1 2 = nI G := hR.1.1
  have hG6 : G ≤ 6 := hR.1.2
  have eT : g b.1 4 = nI T := hR.2.1.1
  have hT8 : T ≤ 8 := hR.2.1.2
  by_cases hx : (0 ≤ x ∧ x < nI T) ∧ 0 ≤ y ∧ y ≤ 1
  · rw [if_pos hx]
    obtain ⟨d, hd, rfl⟩ := xin (n := T) (by omega) hx.1
    obtain ⟨t, ht, rfl⟩ := xinl (n := 1) (by omega) hx.2
    rw [xN_nI (by omega), xN_nI (by omega)]
    exact (c_X11_term_ok hb1 hR hp hd (by omega)).weak (fun r M w => w.2)
  · rw [if_neg hx]
    exact (c_X11_term_bad hb1 (by rw [eT]; exact hx)).weak (fun r M w => w.2)
theorem eb_term (hI : xIc b g G T Lw m) (hJ : xIr b g G T Lw m) : xT 10 190 [.ref 73, .int x, .int y] (xH b g l) (fun r _ => r = some (.int (if (0 ≤ x ∧ x < nI T) ∧ 0 ≤ y ∧ y ≤ 1 then g (b.1 + 3) (2 * xN x + xN y) else -1))) := by
  obtain ⟨hb, hp, hRm, htx, ⟨_, hm⟩, hDk, hK, hZc, hY⟩ := hI
  obtain ⟨hR, hs, hD, hKr, hQ, hYr⟩ := hJ
  have hZ : ∀ r, r < 6 → xsz (g 74 r) 40 := fun r h => by rw [(hQ r h).1]; exact hZc r h
  have eG : g 73 10 = nI G := hR.1.1
  have hG6 : G ≤ 6 := hR.1.2
  have hT8 : T ≤ 8 := hR.2.1.2
  have hZ6 : ∀ q, q < 6 → xsz (g 74 q) 60 := fun q h => (hZ q h).elim Or.inl (fun ⟨n, a1, a2⟩ => Or.inr ⟨n, by omega, a2⟩)
  have hY6 : ∀ q, q < 4 → xsz (g 76 q) 60 := fun q h => by rw [(hYr q h).1]; exact hY q h
  have hK6 : ∀ q, q < 3 → xsz (g 86 q) 60 := fun q h => by
    rw [(hKr q h).1]
    rcases hK q h with z | ⟨n, z1, z2, _⟩
    · exact Or.inl z
    · exact Or.inr ⟨n, by omega, z2⟩
  by_cases hx : (0 ≤ x ∧ x < nI T) ∧ 0 ≤ y ∧ y ≤ 1
  · rw [if_pos hx]
    obtain ⟨d, hd, rfl⟩ := xin (n := T) (by omega) hx.1
    obtain ⟨t, ht, rfl⟩ := xinl (n := 1) (by omega) hx.2
    rw [xN_nI (by omega), xN_nI (by omega)]
    exact (c_X12_term_ok hR hd (by omega)).weak (fun r M w => w.2)
  · rw [if_neg hx]
    exact (c_X12_term_bad hR hx).weak (fun r M w => w.2)
theorem ea_deed (hI : xIc b g G T Lw m) : xT 10 93 [.ref 0, .int x, .int y] (xH b g l) (fun r _ => r = some (.int (if (0 ≤ x ∧ x < nI m) ∧ 0 ≤ y ∧ y ≤ 3 then (1 : Int32) else -1))) := by
  obtain ⟨hb, hp, hR, htx, ⟨hs, hm⟩, hD, hK, hZ, hY⟩ := hI
  obtain ⟨hb1, hb2⟩ := xro_b hb
  have hq := xb2 hb
  have hbv : b.1 = 7 ∨ b.1 = 11 := by omega
  have hbw : b.2 = 7 ∨ b.2 = 11 := by omega
  have eG : g b.1 2 = nI G := hR.1.1
  have hG6 : G ≤ 6 := hR.1.2
  have eT : g b.1 4 = nI T := hR.2.1.1
  have hT8 : T ≤ 8 := hR.2.1.2
  by_cases hx : (0 ≤ x ∧ x < nI m) ∧ 0 ≤ y ∧ y ≤ 3
  · rw [if_pos hx]
    obtain ⟨d, hd, rfl⟩ := xin (n := m) (by omega) hx.1
    obtain ⟨t, ht, rfl⟩ := xinl (n := 3) (by omega) hx.2
    exact (c_X11_deed_ok hs hm hd (by omega)).weak (fun r M w => w.2)
  · rw [if_neg hx]
    exact (c_X11_deed_bad (by rw [hs]; exact hx)).weak (fun r M w => w.2)
theorem eb_deed (hI : xIc b g G T Lw m) (hJ : xIr b g G T Lw m) : xT 10 193 [.ref 73, .int x, .int y] (xH b g l) (fun r _ => r = some (.int (if (0 ≤ x ∧ x < nI m) ∧ 0 ≤ y ∧ y ≤ 3 then (1 : Int32) else -1))) := by
  obtain ⟨hb, hp, hRm, htx, ⟨_, hm⟩, hDk, hK, hZc, hY⟩ := hI
  obtain ⟨hR, hs, hD, hKr, hQ, hYr⟩ := hJ
  have hZ : ∀ r, r < 6 → xsz (g 74 r) 40 := fun r h => by rw [(hQ r h).1]; exact hZc r h
  have eG : g 73 10 = nI G := hR.1.1
  have hG6 : G ≤ 6 := hR.1.2
  have hT8 : T ≤ 8 := hR.2.1.2
  have hZ6 : ∀ q, q < 6 → xsz (g 74 q) 60 := fun q h => (hZ q h).elim Or.inl (fun ⟨n, a1, a2⟩ => Or.inr ⟨n, by omega, a2⟩)
  have hY6 : ∀ q, q < 4 → xsz (g 76 q) 60 := fun q h => by rw [(hYr q h).1]; exact hY q h
  have hK6 : ∀ q, q < 3 → xsz (g 86 q) 60 := fun q h => by
    rw [(hKr q h).1]
    rcases hK q h with z | ⟨n, z1, z2, _⟩
    · exact Or.inl z
    · exact Or.inr ⟨n, by omega, z2⟩
  by_cases hx : (0 ≤ x ∧ x < nI m) ∧ 0 ≤ y ∧ y ≤ 3
  · rw [if_pos hx]
    obtain ⟨d, hd, rfl⟩ := xin (n := m) (by omega) hx.1
    obtain ⟨t, ht, rfl⟩ := xinl (n := 3) (by omega) hx.2
    rcases (show t = 0 ∨ t = 1 ∨ t = 2 ∨ t = 3 by omega) with rfl | rfl | rfl | rfl
    · exact (c_X12_deed_0 hR hD hm hs hd).weak (fun r M w => w.2)
    · exact (c_X12_deed_1 hR hD hm hs hd).weak (fun r M w => w.2)
    · exact (c_X12_deed_2 hR hD hm hs hd).weak (fun r M w => w.2)
    · exact (c_X12_deed_3 hR hD hm hs hd).weak (fun r M w => w.2)
  · rw [if_neg hx]
    exact (c_X12_deed_bad hs hm hx).weak (fun r M w => w.2)
theorem ea_broken (hI : xIc b g G T Lw m) : xT 10 94 [.ref 0] (xH b g l) (fun r _ => r = some (.int (nI (xcnt (fun d => !decide (g 5 (4 * d + 3) = -9)) m)))) := by
  obtain ⟨hb, hp, hR, htx, ⟨hs, hm⟩, hD, hK, hZ, hY⟩ := hI
  obtain ⟨hb1, hb2⟩ := xro_b hb
  have hq := xb2 hb
  have hbv : b.1 = 7 ∨ b.1 = 11 := by omega
  have hbw : b.2 = 7 ∨ b.2 = 11 := by omega
  have eG : g b.1 2 = nI G := hR.1.1
  have hG6 : G ≤ 6 := hR.1.2
  have eT : g b.1 4 = nI T := hR.2.1.1
  have hT8 : T ≤ 8 := hR.2.1.2
  exact (c_X11_broken_ok hs hm).weak (fun r M w => w.2)
theorem eb_broken (hI : xIc b g G T Lw m) (hJ : xIr b g G T Lw m) : xT 10 195 [.ref 73] (xH b g l) (fun r _ => r = some (.int (nI (xcnt (fun d => !decide (g 5 (4 * d + 3) = -9)) m)))) := by
  obtain ⟨hb, hp, hRm, htx, ⟨_, hm⟩, hDk, hK, hZc, hY⟩ := hI
  obtain ⟨hR, hs, hD, hKr, hQ, hYr⟩ := hJ
  have hZ : ∀ r, r < 6 → xsz (g 74 r) 40 := fun r h => by rw [(hQ r h).1]; exact hZc r h
  have eG : g 73 10 = nI G := hR.1.1
  have hG6 : G ≤ 6 := hR.1.2
  have hT8 : T ≤ 8 := hR.2.1.2
  have hZ6 : ∀ q, q < 6 → xsz (g 74 q) 60 := fun q h => (hZ q h).elim Or.inl (fun ⟨n, a1, a2⟩ => Or.inr ⟨n, by omega, a2⟩)
  have hY6 : ∀ q, q < 4 → xsz (g 76 q) 60 := fun q h => by rw [(hYr q h).1]; exact hY q h
  have hK6 : ∀ q, q < 3 → xsz (g 86 q) 60 := fun q h => by
    rw [(hKr q h).1]
    rcases hK q h with z | ⟨n, z1, z2, _⟩
    · exact Or.inl z
    · exact Or.inr ⟨n, by omega, z2⟩
  exact (c_X12_broken hR hD hm hs).weak (fun r M w => w.2)
theorem ea_keeps (hI : xIc b g G T Lw m) : xT 10 108 [.ref 0, .int x, .int y] (xH b g l) (fun r _ => r = some (.int (if (0 ≤ x ∧ x < nI G) ∧ 0 ≤ y ∧ y ≤ 5 then (1 : Int32) else -1))) := by
  obtain ⟨hb, hp, hR, htx, ⟨hs, hm⟩, hD, hK, hZ, hY⟩ := hI
  obtain ⟨hb1, hb2⟩ := xro_b hb
  have hq := xb2 hb
  have hbv : b.1 = 7 ∨ b.1 = 11 := by omega
  have hbw : b.2 = 7 ∨ b.2 = 11 := by omega
  have eG : g b.1 2 = nI G := hR.1.1
  have hG6 : G ≤ 6 := hR.1.2
  have eT : g b.1 4 = nI T := hR.2.1.1
  have hT8 : T ≤ 8 := hR.2.1.2
  by_cases hx : (0 ≤ x ∧ x < nI G) ∧ 0 ≤ y ∧ y ≤ 5
  · rw [if_pos hx]
    obtain ⟨s, hk, rfl⟩ := xin (n := G) (by omega) hx.1
    obtain ⟨n, hn, rfl⟩ := xinl (n := 5) (by omega) hx.2
    exact (c_X11_keeps_ok hb1 (by omega) hR hp hk hn).weak (fun r M w => by obtain ⟨_, _, _, e3⟩ := w; exact e3)
  · rw [if_neg hx]
    exact (c_X11_keeps_bad hb1 hR hx).weak (fun r M w => w.2)
theorem eb_keeps (hI : xIc b g G T Lw m) (hJ : xIr b g G T Lw m) : xT 10 219 [.ref 73, .int x, .int y] (xH b g l) (fun r _ => r = some (.int (if (0 ≤ x ∧ x < nI G) ∧ 0 ≤ y ∧ y ≤ 5 then (1 : Int32) else -1))) := by
  obtain ⟨hb, hp, hRm, htx, ⟨_, hm⟩, hDk, hK, hZc, hY⟩ := hI
  obtain ⟨hR, hs, hD, hKr, hQ, hYr⟩ := hJ
  have hZ : ∀ r, r < 6 → xsz (g 74 r) 40 := fun r h => by rw [(hQ r h).1]; exact hZc r h
  have eG : g 73 10 = nI G := hR.1.1
  have hG6 : G ≤ 6 := hR.1.2
  have hT8 : T ≤ 8 := hR.2.1.2
  have hZ6 : ∀ q, q < 6 → xsz (g 74 q) 60 := fun q h => (hZ q h).elim Or.inl (fun ⟨n, a1, a2⟩ => Or.inr ⟨n, by omega, a2⟩)
  have hY6 : ∀ q, q < 4 → xsz (g 76 q) 60 := fun q h => by rw [(hYr q h).1]; exact hY q h
  have hK6 : ∀ q, q < 3 → xsz (g 86 q) 60 := fun q h => by
    rw [(hKr q h).1]
    rcases hK q h with z | ⟨n, z1, z2, _⟩
    · exact Or.inl z
    · exact Or.inr ⟨n, by omega, z2⟩
  by_cases hx : (0 ≤ x ∧ x < nI G) ∧ 0 ≤ y ∧ y ≤ 5
  · rw [if_pos hx]
    obtain ⟨s, hk, rfl⟩ := xin (n := G) (by omega) hx.1
    obtain ⟨n, hn, rfl⟩ := xinl (n := 5) (by omega) hx.2
    by_cases h0 : n = 0
    · exact (c_X12_keeps_0 hR hk hn h0).weak (fun r M w => by obtain ⟨_, _, _, e3⟩ := w; exact e3)
    · exact (c_X12_keeps_ok hR hk hn (by omega)).weak (fun r M w => by obtain ⟨_, _, _, e3⟩ := w; exact e3)
  · rw [if_neg hx]
    exact (c_X12_keeps_bad hR hx).weak (fun r M w => w.2)
theorem ea_mark (hI : xIc b g G T Lw m) : xT 10 89 [.ref 0, .int x, .int y] (xH b g l) (fun r _ => r = some (.int (if (0 ≤ x ∧ x < nI G) ∧ 1 ≤ y ∧ y ≤ 5 then (if xiso (Lw (xN x) / 4) y = false then (-3 : Int32) else (if xN y = 1 then (if Lw (xN x) % 4 = 0 then (-9 : Int32) else (xshw (g (b.1 + 1)) (Lw (xN x) / 4) (Lw (xN x) % 4) (fun i => xN (g 5 (4 * i)))) m) else if xN y = 2 then nI (xcnt (fun i => decide ((xshw (g (b.1 + 1)) (Lw (xN x) / 4) (Lw (xN x) % 4) (fun i => xN (g 5 (4 * i)))) i = 0)) m) else if xN y = 3 then nI (xcnt (fun q => decide (g (b.1 + 1) q = 0)) 6) else if xN y = 4 then 2 - nI (m % 3) else (if m % 2 = 1 then xmir (g (b.1 + 1) 0) else 0))) else -1))) := by
  obtain ⟨hb, hp, hR, htx, ⟨hs, hm⟩, hD, hK, hZ, hY⟩ := hI
  obtain ⟨hb1, hb2⟩ := xro_b hb
  have hq := xb2 hb
  have hbv : b.1 = 7 ∨ b.1 = 11 := by omega
  have hbw : b.2 = 7 ∨ b.2 = 11 := by omega
  have eG : g b.1 2 = nI G := hR.1.1
  have hG6 : G ≤ 6 := hR.1.2
  have eT : g b.1 4 = nI T := hR.2.1.1
  have hT8 : T ≤ 8 := hR.2.1.2
  by_cases hx : (0 ≤ x ∧ x < nI G) ∧ 1 ≤ y ∧ y ≤ 5
  · rw [if_pos hx]
    obtain ⟨s, hk, rfl⟩ := xin (n := G) (by omega) hx.1
    obtain ⟨t, ht1, ht, rfl⟩ := nI_1le hx.2
    rw [xN_nI (by omega), xN_nI (by omega)]
    cases hi : xiso (Lw s / 4) (nI t) with
    | false =>
      rw [if_pos rfl]
      exact (c_X11_mark_ref hb1 hR hp hs hm hk ht1 ht hi).weak (fun r M w => w.2)
    | true =>
      rw [if_neg (by decide)]
      rcases (show t = 1 ∨ t = 2 ∨ t = 3 ∨ t = 4 ∨ t = 5 by omega) with rfl | rfl | rfl | rfl | rfl
      · rw [if_pos rfl]
        exact (c_X11_mark_1 hb1 hR hp hs hm (xDk_x hD) hk hi).weak (fun r M w => w.2)
      · rw [if_neg (by decide), if_pos rfl]
        exact (c_X11_mark_2 hb1 hR hp hs hm (xDk_x hD) hk hi).weak (fun r M w => w.2)
      · rw [if_neg (by decide), if_neg (by decide), if_pos rfl]
        have k3 : Lw s / 4 = 3 := by
          have h24 := (hR.2.2.1 s hk).2
          rcases (show Lw s / 4 = 0 ∨ Lw s / 4 = 1 ∨ Lw s / 4 = 2 ∨ Lw s / 4 = 3 ∨ Lw s / 4 = 4 ∨ Lw s / 4 = 5 by omega) with z | z | z | z | z | z <;> rw [z] at hi <;> first | exact z | exact absurd hi (by decide)
        have e6 : nI (xcnt (fun q => decide (g (b.1 + 1) q = 0)) 6) = xbc (xbits (fun q => decide (xseen (g (b.1 + 1)) (Lw s / 4) m q = 0)) 6) := by
          rw [xbc_6, xcnt_congr (p := fun q => decide (g (b.1 + 1) q = 0)) (p' := fun q => decide (xseen (g (b.1 + 1)) (Lw s / 4) m q = 0)) (fun q hq => ?_)]
          rw [k3]
          show decide (g (b.1 + 1) q = 0) = decide (xmir (g (b.1 + 1) q) = 0)
          exact decide_eq_decide.mpr (xmir_0 (hR.2.2.2 q hq)).symm
        rw [e6]
        exact (c_X11_mark_3 hb1 hR hp hs hm (xDk_x hD) hk hi).weak (fun r M w => w.2)
      · rw [if_neg (by decide), if_neg (by decide), if_neg (by decide), if_pos rfl]
        exact (c_X11_mark_4 hb1 hR hp hs hm (xDk_x hD) hk hi).weak (fun r M w => w.2)
      · rw [if_neg (by decide), if_neg (by decide), if_neg (by decide), if_neg (by decide)]
        have k5 : Lw s / 4 = 5 := by
          have h24 := (hR.2.2.1 s hk).2
          rcases (show Lw s / 4 = 0 ∨ Lw s / 4 = 1 ∨ Lw s / 4 = 2 ∨ Lw s / 4 = 3 ∨ Lw s / 4 = 4 ∨ Lw s / 4 = 5 by omega) with z | z | z | z | z | z <;> rw [z] at hi <;> first | exact z | exact absurd hi (by decide)
        have e6 : (if m % 2 = 1 then xmir (g (b.1 + 1) 0) else 0) = xseen (g (b.1 + 1)) (Lw s / 4) m 0 := by
          rw [k5]
          unfold xseen xth
          by_cases e : m % 2 = 1
          · rw [if_pos e, decide_eq_true e]
            rfl
          · rw [if_neg e, decide_eq_false e]
            rfl
        rw [e6]
        exact (c_X11_mark_5 hb1 hR hp hs hm (xDk_x hD) hk hi).weak (fun r M w => w.2)
  · rw [if_neg hx]
    exact (c_X11_mark_bad hb1 (by rw [eG]; exact hx)).weak (fun r M w => w.2)
theorem eb_mark (hI : xIc b g G T Lw m) (hJ : xIr b g G T Lw m) : xT 10 188 [.ref 73, .int x, .int y] (xH b g l) (fun r _ => r = some (.int (if (0 ≤ x ∧ x < nI G) ∧ 1 ≤ y ∧ y ≤ 5 then (if xiso (Lw (xN x) / 4) y = false then (-3 : Int32) else (if xN y = 1 then (if Lw (xN x) % 4 = 0 then (-9 : Int32) else (xshw (g (b.1 + 1)) (Lw (xN x) / 4) (Lw (xN x) % 4) (fun i => xN (g 5 (4 * i)))) m) else if xN y = 2 then nI (xcnt (fun i => decide ((xshw (g (b.1 + 1)) (Lw (xN x) / 4) (Lw (xN x) % 4) (fun i => xN (g 5 (4 * i)))) i = 0)) m) else if xN y = 3 then nI (xcnt (fun q => decide (g (b.1 + 1) q = 0)) 6) else if xN y = 4 then 2 - nI (m % 3) else (if m % 2 = 1 then xmir (g (b.1 + 1) 0) else 0))) else -1))) := by
  obtain ⟨hb, hp, hRm, htx, ⟨_, hm⟩, hDk, hK, hZc, hY⟩ := hI
  obtain ⟨hR, hs, hD, hKr, hQ, hYr⟩ := hJ
  have hZ : ∀ r, r < 6 → xsz (g 74 r) 40 := fun r h => by rw [(hQ r h).1]; exact hZc r h
  have eG : g 73 10 = nI G := hR.1.1
  have hG6 : G ≤ 6 := hR.1.2
  have hT8 : T ≤ 8 := hR.2.1.2
  have hZ6 : ∀ q, q < 6 → xsz (g 74 q) 60 := fun q h => (hZ q h).elim Or.inl (fun ⟨n, a1, a2⟩ => Or.inr ⟨n, by omega, a2⟩)
  have hY6 : ∀ q, q < 4 → xsz (g 76 q) 60 := fun q h => by rw [(hYr q h).1]; exact hY q h
  have hK6 : ∀ q, q < 3 → xsz (g 86 q) 60 := fun q h => by
    rw [(hKr q h).1]
    rcases hK q h with z | ⟨n, z1, z2, _⟩
    · exact Or.inl z
    · exact Or.inr ⟨n, by omega, z2⟩
  by_cases hx : (0 ≤ x ∧ x < nI G) ∧ 1 ≤ y ∧ y ≤ 5
  · rw [if_pos hx]
    obtain ⟨s, hk, rfl⟩ := xin (n := G) (by omega) hx.1
    obtain ⟨t, ht1, ht, rfl⟩ := nI_1le hx.2
    rw [xN_nI (by omega), xN_nI (by omega)]
    cases hi : xiso (Lw s / 4) (nI t) with
    | false =>
      rw [if_pos rfl]
      exact (c_X12_mark_ref hR hk ht1 ht hi).weak (fun r M w => w.2)
    | true =>
      rw [if_neg (by decide)]
      rcases (show t = 1 ∨ t = 2 ∨ t = 3 ∨ t = 4 ∨ t = 5 by omega) with rfl | rfl | rfl | rfl | rfl
      · rw [if_pos rfl]
        exact (c_X12_mark_1 hR hD hm hs hk hi).weak (fun r M w => w.2)
      · rw [if_neg (by decide), if_pos rfl]
        exact (c_X12_mark_2 hR hD hm hs hk hi).weak (fun r M w => w.2)
      · rw [if_neg (by decide), if_neg (by decide), if_pos rfl]
        exact (c_X12_mark_3 hR hD hm hs hk hi).weak (fun r M w => w.2)
      · rw [if_neg (by decide), if_neg (by decide), if_neg (by decide), if_pos rfl]
        exact (c_X12_mark_4 hR hD hm hs hk hi).weak (fun r M w => w.2)
      · rw [if_neg (by decide), if_neg (by decide), if_neg (by decide), if_neg (by decide)]
        exact (c_X12_mark_5 hR hD hm hs hk hi).weak (fun r M w => w.2)
  · rw [if_neg hx]
    exact (c_X12_mark_bad hR hx).weak (fun r M w => w.2)
theorem ea_still (hI : xIc b g G T Lw m) : xT 10 109 [.ref 0, .int x, .int y] (xH b g l) (fun r _ => r = some (.int (if (0 ≤ x ∧ x < nI G) ∧ 0 ≤ y ∧ y ≤ 5 then xfI (xfw (xnbc (g (b.1 + 1)) (g (b.1 + 3)) T (Lw (xN x) / 4) (Lw (xN x) % 4) (xN y)) (fun c => xcnt (fun i => decide (xd6 (xN y) c i = 0)) (xN y)) (6 ^ (xN y))) else -1))) := by
  obtain ⟨hb, hp, hR, htx, ⟨hs, hm⟩, hD, hK, hZ, hY⟩ := hI
  obtain ⟨hb1, hb2⟩ := xro_b hb
  have hq := xb2 hb
  have hbv : b.1 = 7 ∨ b.1 = 11 := by omega
  have hbw : b.2 = 7 ∨ b.2 = 11 := by omega
  have eG : g b.1 2 = nI G := hR.1.1
  have hG6 : G ≤ 6 := hR.1.2
  have eT : g b.1 4 = nI T := hR.2.1.1
  have hT8 : T ≤ 8 := hR.2.1.2
  by_cases hx : (0 ≤ x ∧ x < nI G) ∧ 0 ≤ y ∧ y ≤ 5
  · rw [if_pos hx]
    obtain ⟨s, hk, rfl⟩ := xin (n := G) (by omega) hx.1
    obtain ⟨n, hn, rfl⟩ := xinl (n := 5) (by omega) hx.2
    rw [xN_nI (by omega), xN_nI (by omega)]
    refine (c_X11_still_ok hb1 (by omega) hR hp hk hn).weak (fun r M w => ?_)
    obtain ⟨_, _, _, e3⟩ := w
    rw [e3, ← xFw_still hn]
    by_cases z : xPr (Lw s / 4) (Lw s % 4) n (xW (g (b.1 + 1)) (g (b.1 + 3)) T (Lw s / 4) (Lw s % 4) n (n + 2)) n = 0
    · rw [if_pos z, if_pos z]
      rfl
    · rw [if_neg z, if_neg z]
      rfl
  · rw [if_neg hx]
    exact (c_X11_still_bad hb1 hR hx).weak (fun r M w => w.2)
theorem eb_still (hI : xIc b g G T Lw m) (hJ : xIr b g G T Lw m) : xT 10 220 [.ref 73, .int x, .int y] (xH b g l) (fun r _ => r = some (.int (if (0 ≤ x ∧ x < nI G) ∧ 0 ≤ y ∧ y ≤ 5 then xfI (xfw (xnbc (g (b.1 + 1)) (g (b.1 + 3)) T (Lw (xN x) / 4) (Lw (xN x) % 4) (xN y)) (fun c => xcnt (fun i => decide (xd6 (xN y) c i = 0)) (xN y)) (6 ^ (xN y))) else -1))) := by
  obtain ⟨hb, hp, hRm, htx, ⟨_, hm⟩, hDk, hK, hZc, hY⟩ := hI
  obtain ⟨hR, hs, hD, hKr, hQ, hYr⟩ := hJ
  have hZ : ∀ r, r < 6 → xsz (g 74 r) 40 := fun r h => by rw [(hQ r h).1]; exact hZc r h
  have eG : g 73 10 = nI G := hR.1.1
  have hG6 : G ≤ 6 := hR.1.2
  have hT8 : T ≤ 8 := hR.2.1.2
  have hZ6 : ∀ q, q < 6 → xsz (g 74 q) 60 := fun q h => (hZ q h).elim Or.inl (fun ⟨n, a1, a2⟩ => Or.inr ⟨n, by omega, a2⟩)
  have hY6 : ∀ q, q < 4 → xsz (g 76 q) 60 := fun q h => by rw [(hYr q h).1]; exact hY q h
  have hK6 : ∀ q, q < 3 → xsz (g 86 q) 60 := fun q h => by
    rw [(hKr q h).1]
    rcases hK q h with z | ⟨n, z1, z2, _⟩
    · exact Or.inl z
    · exact Or.inr ⟨n, by omega, z2⟩
  by_cases hx : (0 ≤ x ∧ x < nI G) ∧ 0 ≤ y ∧ y ≤ 5
  · rw [if_pos hx]
    obtain ⟨s, hk, rfl⟩ := xin (n := G) (by omega) hx.1
    obtain ⟨n, hn, rfl⟩ := xinl (n := 5) (by omega) hx.2
    rw [xN_nI (by omega), xN_nI (by omega)]
    exact (c_X12_still_ok hR hk hn).weak (fun r M w => by obtain ⟨_, _, _, e3⟩ := w; exact e3)
  · rw [if_neg hx]
    exact (c_X12_still_bad hR hx).weak (fun r M w => w.2)
theorem ea_game (hI : xIc b g G T Lw m) : xT 10 110 [.ref 0, .int x] (xH b g l) (fun r _ => r = some (.int (if 0 ≤ x ∧ x ≤ 3 then (if G = 0 then (-4 : Int32) else if (xfst (fun c => decide (xfst (fun i => !xsafe (g (b.1 + 1)) (g (b.1 + 3)) T G Lw (xd6 (xN x) c) i) (xN x) = none)) (6 ^ (xN x))) = none then 0 else 1) else -1))) := by
  obtain ⟨hb, hp, hR, htx, ⟨hs, hm⟩, hD, hK, hZ, hY⟩ := hI
  obtain ⟨hb1, hb2⟩ := xro_b hb
  have hq := xb2 hb
  have hbv : b.1 = 7 ∨ b.1 = 11 := by omega
  have hbw : b.2 = 7 ∨ b.2 = 11 := by omega
  have eG : g b.1 2 = nI G := hR.1.1
  have hG6 : G ≤ 6 := hR.1.2
  have eT : g b.1 4 = nI T := hR.2.1.1
  have hT8 : T ≤ 8 := hR.2.1.2
  by_cases hx : 0 ≤ x ∧ x ≤ 3
  · rw [if_pos hx]
    obtain ⟨n, hn, rfl⟩ := xinl (n := 3) (by omega) hx
    rw [xN_nI (by omega)]
    by_cases hg : G = 0
    · rw [if_pos hg]
      exact (c_X11_game_state hb1 hn (by rw [eG, hg]; rfl)).weak (fun r M w => w.2)
    · rw [if_neg hg]
      have hgg : ¬ g b.1 2 = 0 := fun z => hg (nI_inj (b := 0) (by omega) (by omega) (eG.symm.trans z))
      by_cases h0 : n = 0
      · subst h0
        rw [show (xfst (fun c => decide (xfst (fun i => !xsafe (g (b.1 + 1)) (g (b.1 + 3)) T G Lw (xd6 0 c) i) 0 = none)) (6 ^ 0)) = some 0 from rfl, if_neg (by intro z; cases z)]
        exact (c_X11_game_zero hb1 hgg).weak (fun r M w => w.2)
      · refine (c_X11_game_ok hb1 hR hp hbv hn (by omega) hgg).weak (fun r M w => ?_)
        obtain ⟨_, _, _, e3⟩ := w
        rw [e3, xlp_code (by omega) hn]
        cases (xfst (fun c => decide (xfst (fun i => !xsafe (g (b.1 + 1)) (g (b.1 + 3)) T G Lw (xd6 n c) i) n = none)) (6 ^ n)) <;> rfl
  · rw [if_neg hx]
    exact (c_X11_game_bad hx).weak (fun r M w => w.2)
theorem eb_game (hI : xIc b g G T Lw m) (hJ : xIr b g G T Lw m) : xT 10 223 [.ref 73, .int x] (xH b g l) (fun r _ => r = some (.int (if 0 ≤ x ∧ x ≤ 3 then (if G = 0 then (-4 : Int32) else if (xfst (fun c => decide (xfst (fun i => !xsafe (g (b.1 + 1)) (g (b.1 + 3)) T G Lw (xd6 (xN x) c) i) (xN x) = none)) (6 ^ (xN x))) = none then 0 else 1) else -1))) := by
  obtain ⟨hb, hp, hRm, htx, ⟨_, hm⟩, hDk, hK, hZc, hY⟩ := hI
  obtain ⟨hR, hs, hD, hKr, hQ, hYr⟩ := hJ
  have hZ : ∀ r, r < 6 → xsz (g 74 r) 40 := fun r h => by rw [(hQ r h).1]; exact hZc r h
  have eG : g 73 10 = nI G := hR.1.1
  have hG6 : G ≤ 6 := hR.1.2
  have hT8 : T ≤ 8 := hR.2.1.2
  have hZ6 : ∀ q, q < 6 → xsz (g 74 q) 60 := fun q h => (hZ q h).elim Or.inl (fun ⟨n, a1, a2⟩ => Or.inr ⟨n, by omega, a2⟩)
  have hY6 : ∀ q, q < 4 → xsz (g 76 q) 60 := fun q h => by rw [(hYr q h).1]; exact hY q h
  have hK6 : ∀ q, q < 3 → xsz (g 86 q) 60 := fun q h => by
    rw [(hKr q h).1]
    rcases hK q h with z | ⟨n, z1, z2, _⟩
    · exact Or.inl z
    · exact Or.inr ⟨n, by omega, z2⟩
  by_cases hx : 0 ≤ x ∧ x ≤ 3
  · rw [if_pos hx]
    obtain ⟨n, hn, rfl⟩ := xinl (n := 3) (by omega) hx
    rw [xN_nI (by omega)]
    by_cases hg : G = 0
    · rw [if_pos hg]
      exact (c_X12_game_state hn (by rw [eG, hg]; rfl)).weak (fun r M w => w.2)
    · rw [if_neg hg]
      exact (c_X12_game_ok hR hn (by rw [eG]; exact fun z => hg (nI_inj (b := 0) (by omega) (by omega) z))).weak (fun r M w => by obtain ⟨_, _, _, e3⟩ := w; exact e3)
  · rw [if_neg hx]
    exact (c_X12_game_bad hx).weak (fun r M w => w.2)
theorem ea_picks (hI : xIc b g G T Lw m) : xT 10 111 [.ref 0, .int x] (xH b g l) (fun r _ => r = some (.int (if 1 ≤ x ∧ x ≤ 3 then (if G = 0 then (-4 : Int32) else match (xfst (fun c => decide (xfst (fun i => !xsafe (g (b.1 + 1)) (g (b.1 + 3)) T G Lw (xd6 (xN x) c) i) (xN x) = none)) (6 ^ (xN x))) with | none => -9 | some c => nI (xd6 (xN x) c 0)) else -1))) := by
  obtain ⟨hb, hp, hR, htx, ⟨hs, hm⟩, hD, hK, hZ, hY⟩ := hI
  obtain ⟨hb1, hb2⟩ := xro_b hb
  have hq := xb2 hb
  have hbv : b.1 = 7 ∨ b.1 = 11 := by omega
  have hbw : b.2 = 7 ∨ b.2 = 11 := by omega
  have eG : g b.1 2 = nI G := hR.1.1
  have hG6 : G ≤ 6 := hR.1.2
  have eT : g b.1 4 = nI T := hR.2.1.1
  have hT8 : T ≤ 8 := hR.2.1.2
  by_cases hx : 1 ≤ x ∧ x ≤ 3
  · rw [if_pos hx]
    obtain ⟨n, hn, rfl⟩ := xinl (n := 3) (by omega) ⟨Int32.le_trans (by decide) hx.1, hx.2⟩
    have h0 : 0 < n := (nI_leI (a := 1) (by omega) (by omega)).mp hx.1
    rw [xN_nI (by omega)]
    by_cases hg : G = 0
    · rw [if_pos hg]
      exact (c_X11_picks_state hb1 hn h0 (by rw [eG, hg]; rfl)).weak (fun r M w => w.2)
    · rw [if_neg hg]
      have hgg : ¬ g b.1 2 = 0 := fun z => hg (nI_inj (b := 0) (by omega) (by omega) (eG.symm.trans z))
      refine (c_X11_picks_ok hb1 hR hp hbv hn h0 hgg).weak (fun r M w => ?_)
      obtain ⟨_, _, _, e3⟩ := w
      rw [e3, xlp_code h0 hn]
      cases (xfst (fun c => decide (xfst (fun i => !xsafe (g (b.1 + 1)) (g (b.1 + 3)) T G Lw (xd6 n c) i) n = none)) (6 ^ n)) <;> rfl
  · rw [if_neg hx]
    exact (c_X11_picks_bad hx).weak (fun r M w => w.2)
theorem eb_picks (hI : xIc b g G T Lw m) (hJ : xIr b g G T Lw m) : xT 10 224 [.ref 73, .int x] (xH b g l) (fun r _ => r = some (.int (if 1 ≤ x ∧ x ≤ 3 then (if G = 0 then (-4 : Int32) else match (xfst (fun c => decide (xfst (fun i => !xsafe (g (b.1 + 1)) (g (b.1 + 3)) T G Lw (xd6 (xN x) c) i) (xN x) = none)) (6 ^ (xN x))) with | none => -9 | some c => nI (xd6 (xN x) c 0)) else -1))) := by
  obtain ⟨hb, hp, hRm, htx, ⟨_, hm⟩, hDk, hK, hZc, hY⟩ := hI
  obtain ⟨hR, hs, hD, hKr, hQ, hYr⟩ := hJ
  have hZ : ∀ r, r < 6 → xsz (g 74 r) 40 := fun r h => by rw [(hQ r h).1]; exact hZc r h
  have eG : g 73 10 = nI G := hR.1.1
  have hG6 : G ≤ 6 := hR.1.2
  have hT8 : T ≤ 8 := hR.2.1.2
  have hZ6 : ∀ q, q < 6 → xsz (g 74 q) 60 := fun q h => (hZ q h).elim Or.inl (fun ⟨n, a1, a2⟩ => Or.inr ⟨n, by omega, a2⟩)
  have hY6 : ∀ q, q < 4 → xsz (g 76 q) 60 := fun q h => by rw [(hYr q h).1]; exact hY q h
  have hK6 : ∀ q, q < 3 → xsz (g 86 q) 60 := fun q h => by
    rw [(hKr q h).1]
    rcases hK q h with z | ⟨n, z1, z2, _⟩
    · exact Or.inl z
    · exact Or.inr ⟨n, by omega, z2⟩
  by_cases hx : 1 ≤ x ∧ x ≤ 3
  · rw [if_pos hx]
    obtain ⟨n, hn, rfl⟩ := xinl (n := 3) (by omega) ⟨Int32.le_trans (by decide) hx.1, hx.2⟩
    have h0 : 0 < n := (nI_leI (a := 1) (by omega) (by omega)).mp hx.1
    rw [xN_nI (by omega)]
    by_cases hg : G = 0
    · rw [if_pos hg]
      exact (c_X12_picks_state hn h0 (by rw [eG, hg]; rfl)).weak (fun r M w => w.2)
    · rw [if_neg hg]
      exact (c_X12_picks_ok hR hn h0 (by rw [eG]; exact fun z => hg (nI_inj (b := 0) (by omega) (by omega) z))).weak (fun r M w => by obtain ⟨_, _, _, e3⟩ := w; exact e3)
  · rw [if_neg hx]
    exact (c_X12_picks_bad hx).weak (fun r M w => w.2)
theorem ea_digest (hI : xIc b g G T Lw m) : xT 10 121 [.ref 0] (xH b g l) (fun r _ => r = some (.long (xda (fun r => g (35 + 2 * r) 1) (fun r => g (35 + 2 * r + 1)) (xda (fun r => g (23 + 2 * r) 1) (fun r => g (23 + 2 * r + 1)) (xdl (fun k => g (67 + 2 * k) 1) (xdl (g 5) (xdl (g (b.1 + 3)) (xdG (xgf g Lw m) 4 (xdl (g (b.1 + 1)) (xdl (xct g G T m Lw) 17 9) 6) G) (2 * T)) (4 * m)) 3) 6) 4))) := by
  obtain ⟨hb, hp, hR, htx, ⟨hs, hm⟩, hD, hK, hZ, hY⟩ := hI
  obtain ⟨hb1, hb2⟩ := xro_b hb
  have hq := xb2 hb
  have hbv : b.1 = 7 ∨ b.1 = 11 := by omega
  have hbw : b.2 = 7 ∨ b.2 = 11 := by omega
  have eG : g b.1 2 = nI G := hR.1.1
  have hG6 : G ≤ 6 := hR.1.2
  have eT : g b.1 4 = nI T := hR.2.1.1
  have hT8 : T ≤ 8 := hR.2.1.2
  exact (c_X11_digest hb1 hR hp hs hm hZ hY).weak (fun r M w => w.2)
theorem eb_digest (hI : xIc b g G T Lw m) (hJ : xIr b g G T Lw m) : xT 10 238 [.ref 73] (xH b g l) (fun r _ => r = some (.long (xda (fun r => g (35 + 2 * r) 1) (fun r => g (35 + 2 * r + 1)) (xda (fun r => g (23 + 2 * r) 1) (fun r => g (23 + 2 * r + 1)) (xdl (fun k => g (67 + 2 * k) 1) (xdl (g 5) (xdl (g (b.1 + 3)) (xdG (xgf g Lw m) 4 (xdl (g (b.1 + 1)) (xdl (xct g G T m Lw) 17 9) 6) G) (2 * T)) (4 * m)) 3) 6) 4))) := by
  obtain ⟨hb, hp, hRm, htx, ⟨_, hm⟩, hDk, hK, hZc, hY⟩ := hI
  obtain ⟨hR, hs, hD, hKr, hQ, hYr⟩ := hJ
  have hZ : ∀ r, r < 6 → xsz (g 74 r) 40 := fun r h => by rw [(hQ r h).1]; exact hZc r h
  have eG : g 73 10 = nI G := hR.1.1
  have hG6 : G ≤ 6 := hR.1.2
  have hT8 : T ≤ 8 := hR.2.1.2
  have hZ6 : ∀ q, q < 6 → xsz (g 74 q) 60 := fun q h => (hZ q h).elim Or.inl (fun ⟨n, a1, a2⟩ => Or.inr ⟨n, by omega, a2⟩)
  have hY6 : ∀ q, q < 4 → xsz (g 76 q) 60 := fun q h => by rw [(hYr q h).1]; exact hY q h
  have hK6 : ∀ q, q < 3 → xsz (g 86 q) 60 := fun q h => by
    rw [(hKr q h).1]
    rcases hK q h with z | ⟨n, z1, z2, _⟩
    · exact Or.inl z
    · exact Or.inr ⟨n, by omega, z2⟩
  have ec : xct g G T m Lw = xctr g (g 5) G T m Lw := funext (fun t => by
    unfold xct xctr
    rw [xcnt_congr (p := fun k => !decide (g (23 + 2 * k) 1 = -1)) (p' := fun q => !decide (g 74 q = -1)) (n := 6) (fun q hq => by rw [(hQ q hq).1]), xcnt_congr (p := fun k => !decide (g (35 + 2 * k) 1 = -1)) (p' := fun q => !decide (g 76 q = -1)) (n := 4) (fun q hq => by rw [(hYr q hq).1]), xcnt_congr (p := fun k => !decide (g (67 + 2 * k) 1 = -1)) (p' := fun q => !decide (g 86 q = -1)) (n := 3) (fun q hq => by rw [(hKr q hq).1])])
  refine (c_X12_digest hR hD hm hs hZ6 hY6 hK6 hZ).weak (fun r M w => ?_)
  rw [w.2, ec, xdl_c (f := fun k => g (67 + 2 * k) 1) (f' := g 86) 3 (fun k hk => (hKr k hk).1.symm), xda_c (S := fun r => g (23 + 2 * r) 1) (F := fun r => g (23 + 2 * r + 1)) (S' := g 74) (F' := fun r i => g 75 (40 * r + i)) 6 (fun r hr => ⟨(hQ r hr).1.symm, fun i hi => ?_⟩), xda_c (S := fun r => g (35 + 2 * r) 1) (F := fun r => g (35 + 2 * r + 1)) (S' := g 76) (F' := fun r i => g 77 (60 * r + i)) 4 (fun r hr => ⟨(hYr r hr).1.symm, fun i hi => ?_⟩)]
  · rfl
  · obtain ⟨n, h1, h2, h3⟩ := xsz_i (hY6 r hr) (by decide) hi
    exact ((hYr r hr).2 n h1 ((hYr r hr).1.symm.trans h2) i h3).symm
  · obtain ⟨n, h1, h2, h3⟩ := xsz_i (hZ r hr) (by decide) hi
    exact ((hQ r hr).2 n h1 ((hQ r hr).1.symm.trans h2) i h3).symm
theorem j_at (hJ : xJ b g) : xJ2 Value.int True 80 161 [.int x, .int i] b g l := by
  have hJ0 := hJ
  obtain ⟨G, T, Lw, m, hI, hr⟩ := hJ
  have hq := xb2 hI.1
  refine xJ2.lightE hJ0 (k_at hI) (fun g1 l1 h => ?_) (ea_at hI) (fun g1 l1 hA => ?_)
  · obtain ⟨G, T, Lw, m, h1, h2⟩ := h
    exact q_at h1 h2
  · have hc : ∀ a, ¬ xSc b a → a ≠ 73 → g1 a = g a := hA.1
    have e := eb_at (x := x) (i := i) (l := l1) (xIc_ag hA hI) (xIr_ag hI.1 hA hr)
    refine e.weak (fun r _ w => ?_)
    rw [w]
    congr 2
    by_cases hx : 0 ≤ x ∧ x < 6
    · rw [if_pos hx, if_pos hx]
      have h_x : xN x < 6 := xN_lt (n := 6) (by omega) hx
      try rw [hc (23 + 2 * xN x) (by unfold xSc; omega) (by omega)]
      try rw [hc (23 + 2 * xN x + 1) (by unfold xSc; omega) (by omega)]
      try rfl
    · rw [if_neg hx, if_neg hx]
theorem j_mean (hJ : xJ b g) : xJ2 Value.int True 83 165 [.int x] b g l := by
  have hJ0 := hJ
  obtain ⟨G, T, Lw, m, hI, hr⟩ := hJ
  have hq := xb2 hI.1
  refine xJ2.lightE hJ0 (k_mean hI) (fun g1 l1 h => ?_) (ea_mean hI) (fun g1 l1 hA => ?_)
  · obtain ⟨G, T, Lw, m, h1, h2⟩ := h
    exact q_mean h1 h2
  · have hc : ∀ a, ¬ xSc b a → a ≠ 73 → g1 a = g a := hA.1
    have e := eb_mean (x := x) (l := l1) (xIc_ag hA hI) (xIr_ag hI.1 hA hr)
    refine e.weak (fun r _ w => ?_)
    rw [w]
    congr 2
    by_cases hx : 0 ≤ x ∧ x < 6
    · rw [if_pos hx, if_pos hx]
      have h_x : xN x < 6 := xN_lt (n := 6) (by omega) hx
      try rw [hc (23 + 2 * xN x) (by unfold xSc; omega) (by omega)]
      try rw [hc (23 + 2 * xN x + 1) (by unfold xSc; omega) (by omega)]
      try rfl
    · rw [if_neg hx, if_neg hx]
theorem j_fault (hJ : xJ b g) : xJ2 Value.int True 86 176 [.int x] b g l := by
  have hJ0 := hJ
  obtain ⟨G, T, Lw, m, hI, hr⟩ := hJ
  have hq := xb2 hI.1
  refine xJ2.lightE hJ0 (k_fault hI) (fun g1 l1 h => ?_) (ea_fault hI) (fun g1 l1 hA => ?_)
  · obtain ⟨G, T, Lw, m, h1, h2⟩ := h
    exact q_fault h1 h2
  · have hc : ∀ a, ¬ xSc b a → a ≠ 73 → g1 a = g a := hA.1
    have e := eb_fault (x := x) (l := l1) (xIc_ag hA hI) (xIr_ag hI.1 hA hr)
    refine e.weak (fun r _ w => ?_)
    rw [w]
    congr 2
    by_cases hx : 0 ≤ x ∧ x < 4
    · rw [if_pos hx, if_pos hx]
      have h_x : xN x < 4 := xN_lt (n := 4) (by omega) hx
      try rw [hc (35 + 2 * xN x) (by unfold xSc; omega) (by omega)]
      try rw [hc (35 + 2 * xN x + 1) (by unfold xSc; omega) (by omega)]
      try rfl
    · rw [if_neg hx, if_neg hx]
theorem j_glass (hJ : xJ b g) : xJ2 Value.int True 88 187 [.int x, .int y] b g l := by
  have hJ0 := hJ
  obtain ⟨G, T, Lw, m, hI, hr⟩ := hJ
  have hq := xb2 hI.1
  refine xJ2.lightE hJ0 (k_glass hI) (fun g1 l1 h => ?_) (ea_glass hI) (fun g1 l1 hA => ?_)
  · obtain ⟨G, T, Lw, m, h1, h2⟩ := h
    exact q_glass h1 h2
  · have hc : ∀ a, ¬ xSc b a → a ≠ 73 → g1 a = g a := hA.1
    have e := eb_glass (x := x) (y := y) (l := l1) (xIc_ag hA hI) (xIr_ag hI.1 hA hr)
    exact e
theorem j_mark (hJ : xJ b g) : xJ2 Value.int True 89 188 [.int x, .int y] b g l := by
  have hJ0 := hJ
  obtain ⟨G, T, Lw, m, hI, hr⟩ := hJ
  have hq := xb2 hI.1
  refine xJ2.lightE hJ0 (k_mark hI) (fun g1 l1 h => ?_) (ea_mark hI) (fun g1 l1 hA => ?_)
  · obtain ⟨G, T, Lw, m, h1, h2⟩ := h
    exact q_mark h1 h2
  · have hc : ∀ a, ¬ xSc b a → a ≠ 73 → g1 a = g a := hA.1
    have e := eb_mark (x := x) (y := y) (l := l1) (xIc_ag hA hI) (xIr_ag hI.1 hA hr)
    refine e.weak (fun r _ w => ?_)
    rw [w]
    congr 2
    rw [hc (b.1 + 1) (by unfold xSc; omega) (by omega), hc (5) (by unfold xSc; omega) (by omega)]
theorem j_habit (hJ : xJ b g) : xJ2 Value.int True 90 189 [.int x] b g l := by
  have hJ0 := hJ
  obtain ⟨G, T, Lw, m, hI, hr⟩ := hJ
  have hq := xb2 hI.1
  refine xJ2.lightE hJ0 (k_habit hI) (fun g1 l1 h => ?_) (ea_habit hI) (fun g1 l1 hA => ?_)
  · obtain ⟨G, T, Lw, m, h1, h2⟩ := h
    exact q_habit h1 h2
  · have hc : ∀ a, ¬ xSc b a → a ≠ 73 → g1 a = g a := hA.1
    have e := eb_habit (x := x) (l := l1) (xIc_ag hA hI) (xIr_ag hI.1 hA hr)
    refine e.weak (fun r _ w => ?_)
    rw [w]
    congr 2
    rw [hc (b.1 + 1) (by unfold xSc; omega) (by omega)]
theorem j_term (hJ : xJ b g) : xJ2 Value.int True 91 190 [.int x, .int y] b g l := by
  have hJ0 := hJ
  obtain ⟨G, T, Lw, m, hI, hr⟩ := hJ
  have hq := xb2 hI.1
  refine xJ2.lightE hJ0 (k_term hI) (fun g1 l1 h => ?_) (ea_term hI) (fun g1 l1 hA => ?_)
  · obtain ⟨G, T, Lw, m, h1, h2⟩ := h
    exact q_term h1 h2
  · have hc : ∀ a, ¬ xSc b a → a ≠ 73 → g1 a = g a := hA.1
    have e := eb_term (x := x) (y := y) (l := l1) (xIc_ag hA hI) (xIr_ag hI.1 hA hr)
    refine e.weak (fun r _ w => ?_)
    rw [w]
    congr 2
    rw [hc (b.1 + 3) (by unfold xSc; omega) (by omega)]
theorem j_deed (hJ : xJ b g) : xJ2 Value.int True 93 193 [.int x, .int y] b g l := by
  have hJ0 := hJ
  obtain ⟨G, T, Lw, m, hI, hr⟩ := hJ
  have hq := xb2 hI.1
  refine xJ2.lightE hJ0 (k_deed hI) (fun g1 l1 h => ?_) (ea_deed hI) (fun g1 l1 hA => ?_)
  · obtain ⟨G, T, Lw, m, h1, h2⟩ := h
    exact q_deed h1 h2
  · have hc : ∀ a, ¬ xSc b a → a ≠ 73 → g1 a = g a := hA.1
    have e := eb_deed (x := x) (y := y) (l := l1) (xIc_ag hA hI) (xIr_ag hI.1 hA hr)
    exact e
theorem j_broken (hJ : xJ b g) : xJ2 Value.int True 94 195 [] b g l := by
  have hJ0 := hJ
  obtain ⟨G, T, Lw, m, hI, hr⟩ := hJ
  have hq := xb2 hI.1
  refine xJ2.lightE hJ0 (k_broken hI) (fun g1 l1 h => ?_) (ea_broken hI) (fun g1 l1 hA => ?_)
  · obtain ⟨G, T, Lw, m, h1, h2⟩ := h
    exact q_broken h1 h2
  · have hc : ∀ a, ¬ xSc b a → a ≠ 73 → g1 a = g a := hA.1
    have e := eb_broken (l := l1) (xIc_ag hA hI) (xIr_ag hI.1 hA hr)
    refine e.weak (fun r _ w => ?_)
    rw [w]
    congr 2
    rw [hc (5) (by unfold xSc; omega) (by omega)]
theorem j_breaks (hJ : xJ b g) : xJ2 Value.int True 99 204 [.int x, .int y] b g l := by
  have hJ0 := hJ
  obtain ⟨G, T, Lw, m, hI, hr⟩ := hJ
  have hq := xb2 hI.1
  refine xJ2.lightE hJ0 (k_breaks hI) (fun g1 l1 h => ?_) (ea_breaks hI) (fun g1 l1 hA => ?_)
  · obtain ⟨G, T, Lw, m, h1, h2⟩ := h
    exact q_breaks h1 h2
  · have hc : ∀ a, ¬ xSc b a → a ≠ 73 → g1 a = g a := hA.1
    have e := eb_breaks (x := x) (y := y) (l := l1) (xIc_ag hA hI) (xIr_ag hI.1 hA hr)
    refine e.weak (fun r _ w => ?_)
    rw [w]
    congr 2
    by_cases hx : (0 ≤ x ∧ x < nI G) ∧ 0 ≤ y ∧ y < 6
    · rw [if_pos hx, if_pos hx]
      have h_y : xN y < 6 := xN_lt (n := 6) (by omega) hx.2
      try rw [hc (23 + 2 * xN y) (by unfold xSc; omega) (by omega)]
      try rw [hc (23 + 2 * xN y + 1) (by unfold xSc; omega) (by omega)]
      try rw [hc (b.1 + 1) (by unfold xSc; omega) (by omega)]
      try rw [hc (b.1 + 3) (by unfold xSc; omega) (by omega)]
      try rfl
    · rw [if_neg hx, if_neg hx]
theorem j_alike (hJ : xJ b g) : xJ2 Value.int True 100 205 [.int x, .int y] b g l := by
  have hJ0 := hJ
  obtain ⟨G, T, Lw, m, hI, hr⟩ := hJ
  have hq := xb2 hI.1
  refine xJ2.lightE hJ0 (k_alike hI) (fun g1 l1 h => ?_) (ea_alike hI) (fun g1 l1 hA => ?_)
  · obtain ⟨G, T, Lw, m, h1, h2⟩ := h
    exact q_alike h1 h2
  · have hc : ∀ a, ¬ xSc b a → a ≠ 73 → g1 a = g a := hA.1
    have e := eb_alike (x := x) (y := y) (l := l1) (xIc_ag hA hI) (xIr_ag hI.1 hA hr)
    refine e.weak (fun r _ w => ?_)
    rw [w]
    congr 2
    by_cases hx : (0 ≤ x ∧ x < nI G) ∧ 0 ≤ y ∧ y < 6
    · rw [if_pos hx, if_pos hx]
      have h_y : xN y < 6 := xN_lt (n := 6) (by omega) hx.2
      try rw [hc (23 + 2 * xN y) (by unfold xSc; omega) (by omega)]
      try rw [hc (23 + 2 * xN y + 1) (by unfold xSc; omega) (by omega)]
      try rw [hc (b.1 + 1) (by unfold xSc; omega) (by omega)]
      try rw [hc (b.1 + 3) (by unfold xSc; omega) (by omega)]
      try rfl
    · rw [if_neg hx, if_neg hx]
theorem j_fit (hJ : xJ b g) : xJ2 Value.int True 101 206 [.int x, .int y] b g l := by
  have hJ0 := hJ
  obtain ⟨G, T, Lw, m, hI, hr⟩ := hJ
  have hq := xb2 hI.1
  refine xJ2.lightE hJ0 (k_fit hI) (fun g1 l1 h => ?_) (ea_fit hI) (fun g1 l1 hA => ?_)
  · obtain ⟨G, T, Lw, m, h1, h2⟩ := h
    exact q_fit h1 h2
  · have hc : ∀ a, ¬ xSc b a → a ≠ 73 → g1 a = g a := hA.1
    have e := eb_fit (x := x) (y := y) (l := l1) (xIc_ag hA hI) (xIr_ag hI.1 hA hr)
    refine e.weak (fun r _ w => ?_)
    rw [w]
    congr 2
    by_cases hx : (0 ≤ x ∧ x < 6) ∧ 0 ≤ y ∧ y < 6
    · rw [if_pos hx, if_pos hx]
      have h_x : xN x < 6 := xN_lt (n := 6) (by omega) hx.1
      have h_y : xN y < 6 := xN_lt (n := 6) (by omega) hx.2
      try rw [hc (23 + 2 * xN x) (by unfold xSc; omega) (by omega)]
      try rw [hc (23 + 2 * xN x + 1) (by unfold xSc; omega) (by omega)]
      try rw [hc (23 + 2 * xN y) (by unfold xSc; omega) (by omega)]
      try rw [hc (23 + 2 * xN y + 1) (by unfold xSc; omega) (by omega)]
      try rw [hc (b.1 + 1) (by unfold xSc; omega) (by omega)]
      try rw [hc (b.1 + 3) (by unfold xSc; omega) (by omega)]
      try rfl
    · rw [if_neg hx, if_neg hx]
theorem j_ways (hJ : xJ b g) : xJ2 Value.int True 102 210 [.int x, .int y] b g l := by
  have hJ0 := hJ
  obtain ⟨G, T, Lw, m, hI, hr⟩ := hJ
  have hq := xb2 hI.1
  refine xJ2.lightE hJ0 (k_ways hI) (fun g1 l1 h => ?_) (ea_ways hI) (fun g1 l1 hA => ?_)
  · obtain ⟨G, T, Lw, m, h1, h2⟩ := h
    exact q_ways h1 h2
  · have hc : ∀ a, ¬ xSc b a → a ≠ 73 → g1 a = g a := hA.1
    have e := eb_ways (x := x) (y := y) (l := l1) (xIc_ag hA hI) (xIr_ag hI.1 hA hr)
    refine e.weak (fun r _ w => ?_)
    rw [w]
    congr 2
    by_cases hx : (0 ≤ x ∧ x < nI G) ∧ 0 ≤ y ∧ y < 6
    · rw [if_pos hx, if_pos hx]
      have h_y : xN y < 6 := xN_lt (n := 6) (by omega) hx.2
      try rw [hc (23 + 2 * xN y) (by unfold xSc; omega) (by omega)]
      try rw [hc (23 + 2 * xN y + 1) (by unfold xSc; omega) (by omega)]
      try rw [hc (b.1 + 1) (by unfold xSc; omega) (by omega)]
      try rw [hc (b.1 + 3) (by unfold xSc; omega) (by omega)]
      try rfl
    · rw [if_neg hx, if_neg hx]
theorem j_can (hJ : xJ b g) : xJ2 Value.int True 104 212 [.int x, .int y, .int z] b g l := by
  have hJ0 := hJ
  obtain ⟨G, T, Lw, m, hI, hr⟩ := hJ
  have hq := xb2 hI.1
  refine xJ2.lightE hJ0 (k_can hI) (fun g1 l1 h => ?_) (ea_can hI) (fun g1 l1 hA => ?_)
  · obtain ⟨G, T, Lw, m, h1, h2⟩ := h
    exact q_can h1 h2
  · have hc : ∀ a, ¬ xSc b a → a ≠ 73 → g1 a = g a := hA.1
    have e := eb_can (x := x) (y := y) (z := z) (l := l1) (xIc_ag hA hI) (xIr_ag hI.1 hA hr)
    refine e.weak (fun r _ w => ?_)
    rw [w]
    congr 2
    by_cases hx : (0 ≤ x ∧ x < nI G) ∧ (0 ≤ y ∧ y < 6) ∧ 0 ≤ z
    · rw [if_pos hx, if_pos hx]
      have h_y : xN y < 6 := xN_lt (n := 6) (by omega) hx.2.1
      try rw [hc (23 + 2 * xN y) (by unfold xSc; omega) (by omega)]
      try rw [hc (23 + 2 * xN y + 1) (by unfold xSc; omega) (by omega)]
      try rw [hc (b.1 + 1) (by unfold xSc; omega) (by omega)]
      try rw [hc (b.1 + 3) (by unfold xSc; omega) (by omega)]
      try rfl
    · rw [if_neg hx, if_neg hx]
theorem j_laws (hJ : xJ b g) : xJ2 Value.int True 105 214 [.int x, .int y] b g l := by
  have hJ0 := hJ
  obtain ⟨G, T, Lw, m, hI, hr⟩ := hJ
  have hq := xb2 hI.1
  refine xJ2.lightE hJ0 (k_laws hI) (fun g1 l1 h => ?_) (ea_laws hI) (fun g1 l1 hA => ?_)
  · obtain ⟨G, T, Lw, m, h1, h2⟩ := h
    exact q_laws h1 h2
  · have hc : ∀ a, ¬ xSc b a → a ≠ 73 → g1 a = g a := hA.1
    have e := eb_laws (x := x) (y := y) (l := l1) (xIc_ag hA hI) (xIr_ag hI.1 hA hr)
    refine e.weak (fun r _ w => ?_)
    rw [w]
    congr 2
    by_cases hx : (0 ≤ x ∧ x < 6) ∧ 0 ≤ y ∧ y < 6
    · rw [if_pos hx, if_pos hx]
      have h_x : xN x < 6 := xN_lt (n := 6) (by omega) hx.1
      have h_y : xN y < 6 := xN_lt (n := 6) (by omega) hx.2
      try rw [hc (23 + 2 * xN x) (by unfold xSc; omega) (by omega)]
      try rw [hc (23 + 2 * xN x + 1) (by unfold xSc; omega) (by omega)]
      try rw [hc (23 + 2 * xN y) (by unfold xSc; omega) (by omega)]
      try rw [hc (23 + 2 * xN y + 1) (by unfold xSc; omega) (by omega)]
      try rw [hc (b.1 + 1) (by unfold xSc; omega) (by omega)]
      try rw [hc (b.1 + 3) (by unfold xSc; omega) (by omega)]
      try rfl
    · rw [if_neg hx, if_neg hx]
theorem j_next (hJ : xJ b g) : xJ2 Value.int False 106 216 [.int x, .int y] b g l := by
  refine xJ2.light hJ ?_ (fun g1 l1 h => ?_)
  · obtain ⟨G, T, Lw, m, h1, _⟩ := hJ
    exact k_next h1
  · obtain ⟨G, T, Lw, m, h1, h2⟩ := h
    exact q_next h1 h2
theorem j_he (hJ : xJ b g) : xJ2 Value.int True 107 217 [.int x, .int y, .int z] b g l := by
  have hJ0 := hJ
  obtain ⟨G, T, Lw, m, hI, hr⟩ := hJ
  have hq := xb2 hI.1
  refine xJ2.lightE hJ0 (k_he hI) (fun g1 l1 h => ?_) (ea_he hI) (fun g1 l1 hA => ?_)
  · obtain ⟨G, T, Lw, m, h1, h2⟩ := h
    exact q_he h1 h2
  · have hc : ∀ a, ¬ xSc b a → a ≠ 73 → g1 a = g a := hA.1
    have e := eb_he (x := x) (y := y) (z := z) (l := l1) (xIc_ag hA hI) (xIr_ag hI.1 hA hr)
    refine e.weak (fun r _ w => ?_)
    rw [w]
    congr 2
    by_cases hx : (0 ≤ x ∧ x < nI G) ∧ (0 ≤ y ∧ y < 6) ∧ 0 ≤ z ∧ z < 6
    · rw [if_pos hx, if_pos hx]
      have h_y : xN y < 6 := xN_lt (n := 6) (by omega) hx.2.1
      have h_z : xN z < 6 := xN_lt (n := 6) (by omega) hx.2.2
      try rw [hc (23 + 2 * xN y) (by unfold xSc; omega) (by omega)]
      try rw [hc (23 + 2 * xN y + 1) (by unfold xSc; omega) (by omega)]
      try rw [hc (23 + 2 * xN z) (by unfold xSc; omega) (by omega)]
      try rw [hc (23 + 2 * xN z + 1) (by unfold xSc; omega) (by omega)]
      try rw [hc (b.1 + 1) (by unfold xSc; omega) (by omega)]
      try rw [hc (b.1 + 3) (by unfold xSc; omega) (by omega)]
      try rfl
    · rw [if_neg hx, if_neg hx]
theorem j_keeps (hJ : xJ b g) : xJ2 Value.int True 108 219 [.int x, .int y] b g l := by
  have hJ0 := hJ
  obtain ⟨G, T, Lw, m, hI, hr⟩ := hJ
  have hq := xb2 hI.1
  refine xJ2.lightE hJ0 (k_keeps hI) (fun g1 l1 h => ?_) (ea_keeps hI) (fun g1 l1 hA => ?_)
  · obtain ⟨G, T, Lw, m, h1, h2⟩ := h
    exact q_keeps h1 h2
  · have hc : ∀ a, ¬ xSc b a → a ≠ 73 → g1 a = g a := hA.1
    have e := eb_keeps (x := x) (y := y) (l := l1) (xIc_ag hA hI) (xIr_ag hI.1 hA hr)
    exact e
theorem j_still (hJ : xJ b g) : xJ2 Value.int True 109 220 [.int x, .int y] b g l := by
  have hJ0 := hJ
  obtain ⟨G, T, Lw, m, hI, hr⟩ := hJ
  have hq := xb2 hI.1
  refine xJ2.lightE hJ0 (k_still hI) (fun g1 l1 h => ?_) (ea_still hI) (fun g1 l1 hA => ?_)
  · obtain ⟨G, T, Lw, m, h1, h2⟩ := h
    exact q_still h1 h2
  · have hc : ∀ a, ¬ xSc b a → a ≠ 73 → g1 a = g a := hA.1
    have e := eb_still (x := x) (y := y) (l := l1) (xIc_ag hA hI) (xIr_ag hI.1 hA hr)
    refine e.weak (fun r _ w => ?_)
    rw [w]
    congr 2
    rw [hc (b.1 + 1) (by unfold xSc; omega) (by omega), hc (b.1 + 3) (by unfold xSc; omega) (by omega)]
theorem j_game (hJ : xJ b g) : xJ2 Value.int True 110 223 [.int x] b g l := by
  have hJ0 := hJ
  obtain ⟨G, T, Lw, m, hI, hr⟩ := hJ
  have hq := xb2 hI.1
  refine xJ2.lightE hJ0 (k_game hI) (fun g1 l1 h => ?_) (ea_game hI) (fun g1 l1 hA => ?_)
  · obtain ⟨G, T, Lw, m, h1, h2⟩ := h
    exact q_game h1 h2
  · have hc : ∀ a, ¬ xSc b a → a ≠ 73 → g1 a = g a := hA.1
    have e := eb_game (x := x) (l := l1) (xIc_ag hA hI) (xIr_ag hI.1 hA hr)
    refine e.weak (fun r _ w => ?_)
    rw [w]
    congr 2
    rw [hc (b.1 + 1) (by unfold xSc; omega) (by omega), hc (b.1 + 3) (by unfold xSc; omega) (by omega)]
theorem j_picks (hJ : xJ b g) : xJ2 Value.int True 111 224 [.int x] b g l := by
  have hJ0 := hJ
  obtain ⟨G, T, Lw, m, hI, hr⟩ := hJ
  have hq := xb2 hI.1
  refine xJ2.lightE hJ0 (k_picks hI) (fun g1 l1 h => ?_) (ea_picks hI) (fun g1 l1 hA => ?_)
  · obtain ⟨G, T, Lw, m, h1, h2⟩ := h
    exact q_picks h1 h2
  · have hc : ∀ a, ¬ xSc b a → a ≠ 73 → g1 a = g a := hA.1
    have e := eb_picks (x := x) (l := l1) (xIc_ag hA hI) (xIr_ag hI.1 hA hr)
    refine e.weak (fun r _ w => ?_)
    rw [w]
    congr 2
    rw [hc (b.1 + 1) (by unfold xSc; omega) (by omega), hc (b.1 + 3) (by unfold xSc; omega) (by omega)]
theorem j_odds (hJ : xJ b g) : xJ2 Value.int True 112 225 [.int x, .int y, .int z] b g l := by
  have hJ0 := hJ
  obtain ⟨G, T, Lw, m, hI, hr⟩ := hJ
  have hq := xb2 hI.1
  refine xJ2.lightE hJ0 (k_odds hI) (fun g1 l1 h => ?_) (ea_odds hI) (fun g1 l1 hA => ?_)
  · obtain ⟨G, T, Lw, m, h1, h2⟩ := h
    exact q_odds h1 h2
  · have hc : ∀ a, ¬ xSc b a → a ≠ 73 → g1 a = g a := hA.1
    have e := eb_odds (x := x) (y := y) (z := z) (l := l1) (xIc_ag hA hI) (xIr_ag hI.1 hA hr)
    refine e.weak (fun r _ w => ?_)
    rw [w]
    congr 2
    by_cases hx : (0 ≤ x ∧ x < nI G) ∧ (0 ≤ y ∧ y < 6) ∧ 0 ≤ z ∧ z ≤ 12
    · rw [if_pos hx, if_pos hx]
      have h_y : xN y < 6 := xN_lt (n := 6) (by omega) hx.2.1
      try rw [hc (23 + 2 * xN y) (by unfold xSc; omega) (by omega)]
      try rw [hc (23 + 2 * xN y + 1) (by unfold xSc; omega) (by omega)]
      try rw [hc (b.1 + 1) (by unfold xSc; omega) (by omega)]
      try rw [hc (b.1 + 3) (by unfold xSc; omega) (by omega)]
      try rfl
    · rw [if_neg hx, if_neg hx]
theorem j_mid (hJ : xJ b g) : xJ2 Value.int True 113 226 [.int x, .int y, .int z] b g l := by
  have hJ0 := hJ
  obtain ⟨G, T, Lw, m, hI, hr⟩ := hJ
  have hq := xb2 hI.1
  refine xJ2.lightE hJ0 (k_mid hI) (fun g1 l1 h => ?_) (ea_mid hI) (fun g1 l1 hA => ?_)
  · obtain ⟨G, T, Lw, m, h1, h2⟩ := h
    exact q_mid h1 h2
  · have hc : ∀ a, ¬ xSc b a → a ≠ 73 → g1 a = g a := hA.1
    have e := eb_mid (x := x) (y := y) (z := z) (l := l1) (xIc_ag hA hI) (xIr_ag hI.1 hA hr)
    refine e.weak (fun r _ w => ?_)
    rw [w]
    congr 2
    by_cases hx : (0 ≤ x ∧ x < nI G) ∧ (0 ≤ y ∧ y < 6) ∧ 0 ≤ z ∧ z ≤ 12
    · rw [if_pos hx, if_pos hx]
      have h_y : xN y < 6 := xN_lt (n := 6) (by omega) hx.2.1
      try rw [hc (23 + 2 * xN y) (by unfold xSc; omega) (by omega)]
      try rw [hc (23 + 2 * xN y + 1) (by unfold xSc; omega) (by omega)]
      try rw [hc (b.1 + 1) (by unfold xSc; omega) (by omega)]
      try rw [hc (b.1 + 3) (by unfold xSc; omega) (by omega)]
      try rfl
    · rw [if_neg hx, if_neg hx]
theorem j_asked (hJ : xJ b g) : xJ2 Value.int False 115 228 [] b g l := by
  refine xJ2.light hJ ?_ (fun g1 l1 h => ?_)
  · obtain ⟨G, T, Lw, m, h1, _⟩ := hJ
    exact k_asked h1
  · obtain ⟨G, T, Lw, m, h1, h2⟩ := h
    exact q_asked h1 h2
theorem j_upper (hJ : xJ b g) : xJ2 Value.long False 116 229 [] b g l := by
  refine xJ2.light hJ ?_ (fun g1 l1 h => ?_)
  · obtain ⟨G, T, Lw, m, h1, _⟩ := hJ
    exact k_upper h1
  · obtain ⟨G, T, Lw, m, h1, h2⟩ := h
    exact q_upper h1 h2
theorem j_lower (hJ : xJ b g) : xJ2 Value.long False 117 230 [] b g l := by
  refine xJ2.light hJ ?_ (fun g1 l1 h => ?_)
  · obtain ⟨G, T, Lw, m, h1, _⟩ := hJ
    exact k_lower h1
  · obtain ⟨G, T, Lw, m, h1, h2⟩ := h
    exact q_lower h1 h2
theorem j_count (hJ : xJ b g) : xJ2 Value.int True 118 234 [.int x] b g l := by
  have hJ0 := hJ
  obtain ⟨G, T, Lw, m, hI, hr⟩ := hJ
  have hq := xb2 hI.1
  refine xJ2.lightE hJ0 (k_count hI) (fun g1 l1 h => ?_) (ea_count hI) (fun g1 l1 hA => ?_)
  · obtain ⟨G, T, Lw, m, h1, h2⟩ := h
    exact q_count h1 h2
  · have hc : ∀ a, ¬ xSc b a → a ≠ 73 → g1 a = g a := hA.1
    have e := eb_count (x := x) (l := l1) (xIc_ag hA hI) (xIr_ag hI.1 hA hr)
    refine e.weak (fun r _ w => ?_)
    rw [w]
    congr 2
    unfold xct
    rw [hc (5) (by unfold xSc; omega) (by omega), xcnt_congr (p := fun k => !decide (g1 (23 + 2 * k) 1 = -1)) (p' := fun k => !decide (g (23 + 2 * k) 1 = -1)) (n := 6) (fun q hq => by rw [hc (23 + 2 * q) (by unfold xSc; omega) (by omega)]), xcnt_congr (p := fun k => !decide (g1 (35 + 2 * k) 1 = -1)) (p' := fun k => !decide (g (35 + 2 * k) 1 = -1)) (n := 4) (fun q hq => by rw [hc (35 + 2 * q) (by unfold xSc; omega) (by omega)]), xcnt_congr (p := fun k => !decide (g1 (67 + 2 * k) 1 = -1)) (p' := fun k => !decide (g (67 + 2 * k) 1 = -1)) (n := 3) (fun q hq => by rw [hc (67 + 2 * q) (by unfold xSc; omega) (by omega)])]
theorem j_finding (hJ : xJ b g) : xJ2 Value.int False 119 235 [] b g l := by
  refine xJ2.light hJ ?_ (fun g1 l1 h => ?_)
  · obtain ⟨G, T, Lw, m, h1, _⟩ := hJ
    exact k_finding h1
  · obtain ⟨G, T, Lw, m, h1, h2⟩ := h
    exact q_finding h1 h2
theorem j_findings (hJ : xJ b g) : xJ2 Value.int False 120 236 [.int x] b g l := by
  refine xJ2.light hJ ?_ (fun g1 l1 h => ?_)
  · obtain ⟨G, T, Lw, m, h1, _⟩ := hJ
    exact k_findings h1
  · obtain ⟨G, T, Lw, m, h1, h2⟩ := h
    exact q_findings h1 h2
theorem j_digest (hJ : xJ b g) : xJ2 Value.long True 121 238 [] b g l := by
  have hJ0 := hJ
  obtain ⟨G, T, Lw, m, hI, hr⟩ := hJ
  have hq := xb2 hI.1
  refine xJ2.lightL hJ0 (k_digest hI) (fun g1 l1 h => ?_) (ea_digest hI) (fun g1 l1 hA => ?_)
  · obtain ⟨G, T, Lw, m, h1, h2⟩ := h
    exact q_digest h1 h2
  · have hc : ∀ a, ¬ xSc b a → a ≠ 73 → g1 a = g a := hA.1
    have e := eb_digest (l := l1) (xIc_ag hA hI) (xIr_ag hI.1 hA hr)
    refine e.weak (fun r _ w => ?_)
    have e5 := hc 5 (by unfold xSc; omega) (by omega)
    have ec : xct g1 G T m Lw = xct g G T m Lw := funext (fun t => by
      unfold xct
      rw [e5, xcnt_congr (p := fun k => !decide (g1 (23 + 2 * k) 1 = -1)) (p' := fun k => !decide (g (23 + 2 * k) 1 = -1)) (n := 6) (fun q hq => by rw [hc (23 + 2 * q) (by unfold xSc; omega) (by omega)]), xcnt_congr (p := fun k => !decide (g1 (35 + 2 * k) 1 = -1)) (p' := fun k => !decide (g (35 + 2 * k) 1 = -1)) (n := 4) (fun q hq => by rw [hc (35 + 2 * q) (by unfold xSc; omega) (by omega)]), xcnt_congr (p := fun k => !decide (g1 (67 + 2 * k) 1 = -1)) (p' := fun k => !decide (g (67 + 2 * k) 1 = -1)) (n := 3) (fun q hq => by rw [hc (67 + 2 * q) (by unfold xSc; omega) (by omega)])])
    have eg : xgf g1 Lw m = xgf g Lw m := funext (fun s => funext (fun w => by unfold xgf; rw [e5]))
    rw [w, ec, eg, e5, hc (b.1 + 1) (by unfold xSc; omega) (by omega), hc (b.1 + 3) (by unfold xSc; omega) (by omega), xdl_c (f := fun k => g1 (67 + 2 * k) 1) (f' := fun k => g (67 + 2 * k) 1) 3 (fun k hk => by rw [hc (67 + 2 * k) (by unfold xSc; omega) (by omega)]), xda_c (S := fun r => g1 (23 + 2 * r) 1) (F := fun r => g1 (23 + 2 * r + 1)) (S' := fun r => g (23 + 2 * r) 1) (F' := fun r => g (23 + 2 * r + 1)) 6 (fun r hr => ⟨by rw [hc (23 + 2 * r) (by unfold xSc; omega) (by omega)], fun i _ => by rw [hc (23 + 2 * r + 1) (by unfold xSc; omega) (by omega)]⟩), xda_c (S := fun r => g1 (35 + 2 * r) 1) (F := fun r => g1 (35 + 2 * r + 1)) (S' := fun r => g (35 + 2 * r) 1) (F' := fun r => g (35 + 2 * r + 1)) 4 (fun r hr => ⟨by rw [hc (35 + 2 * r) (by unfold xSc; omega) (by omega)], fun i _ => by rw [hc (35 + 2 * r + 1) (by unfold xSc; omega) (by omega)]⟩)]
end
end
