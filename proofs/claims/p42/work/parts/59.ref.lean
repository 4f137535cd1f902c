/-! the reference, call by call: all but texts, rooms and deeds -/
section
variable {b : Nat × Nat} {g g' : Nat → Nat → Int32} {l : Nat → Nat → Int64} {G T m : Nat} {Lw : Nat → Nat} {x y z i j v : Int32}




theorem q_at (hI : xIc b g G T Lw m) (hJ : xIr b g G T Lw m) : xRo Value.int 161 [.int x, .int i] b g l := by
  obtain ⟨hb, hp, hRm, htx, ⟨_, hm⟩, hDk, hK, hZc, hY⟩ := hI
  obtain ⟨hR, hs, hD, hKr, hQ, hYr⟩ := hJ
  have hZ : ∀ r, r < 6 → xsz (g 74 r) 40 := fun r h => by rw [(hQ r h).1]; exact hZc r h
  have eG : g 73 10 = nI G := hR.1.1
  have hG6 : G ≤ 6 := hR.1.2
  have hT8 : T ≤ 8 := hR.2.1.2
  have hZ6 : ∀ q, q < 6 → xsz (g 74 q) 60 := fun q h => (hZ q h).elim Or.inl (fun ⟨n, a1, a2⟩ => Or.inr ⟨n, by omega, a2⟩)
  have hY6 : ∀ q, q < 4 → xsz (g 76 q) 60 := fun q h => by rw [(hYr q h).1]; exact hY q h
  have hK6 : ∀ q, q < 3 → xsz (g 86 q) 60 := fun q h => by
    rw [(hKr q h).1]
    rcases hK q h with z | ⟨n, z1, z2, _⟩
    · exact Or.inl z
    · exact Or.inr ⟨n, by omega, z2⟩
  by_cases hx : 0 ≤ x ∧ x < 6
  · obtain ⟨p, hp1, rfl⟩ := xin (n := 6) (by omega) hx
    rcases hZ p hp1 with e | ⟨m1, hm1, e⟩
    · exact xRo.mk (c_X12_at_no hp1 e) (xAg_R _)
    · by_cases hi : 0 ≤ i ∧ i < nI m1
      · obtain ⟨t, ht, rfl⟩ := xin (n := m1) (by omega) hi
        exact xRo.mk (c_X12_at_ok hp1 e hm1 ht) (xAg_73 (by decide))
      · exact xRo.mk (c_X12_at_bey hp1 e hm1 hi) (xAg_R _)
  · exact xRo.mk (c_X12_at_bad hx) (xAg_r b g)



theorem q_mean (hI : xIc b g G T Lw m) (hJ : xIr b g G T Lw m) : xRo Value.int 165 [.int x] b g l := by
  obtain ⟨hb, hp, hRm, htx, ⟨_, hm⟩, hDk, hK, hZc, hY⟩ := hI
  obtain ⟨hR, hs, hD, hKr, hQ, hYr⟩ := hJ
  have hZ : ∀ r, r < 6 → xsz (g 74 r) 40 := fun r h => by rw [(hQ r h).1]; exact hZc r h
  have eG : g 73 10 = nI G := hR.1.1
  have hG6 : G ≤ 6 := hR.1.2
  have hT8 : T ≤ 8 := hR.2.1.2
  have hZ6 : ∀ q, q < 6 → xsz (g 74 q) 60 := fun q h => (hZ q h).elim Or.inl (fun ⟨n, a1, a2⟩ => Or.inr ⟨n, by omega, a2⟩)
  have hY6 : ∀ q, q < 4 → xsz (g 76 q) 60 := fun q h => by rw [(hYr q h).1]; exact hY q h
  have hK6 : ∀ q, q < 3 → xsz (g 86 q) 60 := fun q h => by
    rw [(hKr q h).1]
    rcases hK q h with z | ⟨n, z1, z2, _⟩
    · exact Or.inl z
    · exact Or.inr ⟨n, by omega, z2⟩
  by_cases hx : 0 ≤ x ∧ x < 6
  · obtain ⟨p, hp1, rfl⟩ := xin (n := 6) (by omega) hx
    rcases hZ p hp1 with e | ⟨m1, hm1, e⟩
    · exact xRo.mk (c_X12_mean_no hp1 e) (xAg_R _)
    · by_cases h0 : m1 = 0
      · subst h0
        exact xRo.mk (c_X12_mean_nought hp1 e) (xAg_R _)
      · exact xRo.mk (c_X12_mean_ok hp1 e hm1 (by omega)) (xAg_73 (by decide))
  · exact xRo.mk (c_X12_mean_bad hx) (xAg_r b g)

theorem q_fault (hI : xIc b g G T Lw m) (hJ : xIr b g G T Lw m) : xRo Value.int 176 [.int x] b g l := by
  obtain ⟨hb, hp, hRm, htx, ⟨_, hm⟩, hDk, hK, hZc, hY⟩ := hI
  obtain ⟨hR, hs, hD, hKr, hQ, hYr⟩ := hJ
  have hZ : ∀ r, r < 6 → xsz (g 74 r) 40 := fun r h => by rw [(hQ r h).1]; exact hZc r h
  have eG : g 73 10 = nI G := hR.1.1
  have hG6 : G ≤ 6 := hR.1.2
  have hT8 : T ≤ 8 := hR.2.1.2
  have hZ6 : ∀ q, q < 6 → xsz (g 74 q) 60 := fun q h => (hZ q h).elim Or.inl (fun ⟨n, a1, a2⟩ => Or.inr ⟨n, by omega, a2⟩)
  have hY6 : ∀ q, q < 4 → xsz (g 76 q) 60 := fun q h => by rw [(hYr q h).1]; exact hY q h
  have hK6 : ∀ q, q < 3 → xsz (g 86 q) 60 := fun q h => by
    rw [(hKr q h).1]
    rcases hK q h with z | ⟨n, z1, z2, _⟩
    · exact Or.inl z
    · exact Or.inr ⟨n, by omega, z2⟩
  by_cases hx : 0 ≤ x ∧ x < 4
  · obtain ⟨t, ht, rfl⟩ := xin (n := 4) (by omega) hx
    rcases hY t ht with e | ⟨m1, hm1, e⟩
    · exact xRo.mk (c_X12_fault_no ht (by rw [(hYr t ht).1]; exact e)) (xAg_R _)
    · exact (c_X12_fault_ok (f := fun i => g 77 (60 * t + i)) ht (by rw [(hYr t ht).1]; exact e) hm1 (fun _ _ => rfl)).weak (fun r M w => by obtain ⟨g1, e1, e2, e3⟩ := w; exact ⟨_, _, _, e3, e1, xAg_Fp e2⟩)
  · exact xRo.mk (c_X12_fault_bad hx) (xAg_r b g)

theorem q_glass (hI : xIc b g G T Lw m) (hJ : xIr b g G T Lw m) : xRo Value.int 187 [.int x, .int y] b g l := by
  obtain ⟨hb, hp, hRm, htx, ⟨_, hm⟩, hDk, hK, hZc, hY⟩ := hI
  obtain ⟨hR, hs, hD, hKr, hQ, hYr⟩ := hJ
  have hZ : ∀ r, r < 6 → xsz (g 74 r) 40 := fun r h => by rw [(hQ r h).1]; exact hZc r h
  have eG : g 73 10 = nI G := hR.1.1
  have hG6 : G ≤ 6 := hR.1.2
  have hT8 : T ≤ 8 := hR.2.1.2
  have hZ6 : ∀ q, q < 6 → xsz (g 74 q) 60 := fun q h => (hZ q h).elim Or.inl (fun ⟨n, a1, a2⟩ => Or.inr ⟨n, by omega, a2⟩)
  have hY6 : ∀ q, q < 4 → xsz (g 76 q) 60 := fun q h => by rw [(hYr q h).1]; exact hY q h
  have hK6 : ∀ q, q < 3 → xsz (g 86 q) 60 := fun q h => by
    rw [(hKr q h).1]
    rcases hK q h with z | ⟨n, z1, z2, _⟩
    · exact Or.inl z
    · exact Or.inr ⟨n, by omega, z2⟩
  by_cases hx : (0 ≤ x ∧ x < nI G) ∧ 0 ≤ y ∧ y ≤ 3
  · obtain ⟨s, hk, rfl⟩ := xin (n := G) (by omega) hx.1
    obtain ⟨t, ht, rfl⟩ := xinl (n := 3) (by omega) hx.2
    rcases (show t = 0 ∨ t = 1 ∨ t = 2 ∨ t = 3 by omega) with rfl | rfl | rfl | rfl
    · exact xRo.mk (c_X12_glass_0 hR hk hD hm hs) (xAg_73 (by decide))
    · exact xRo.mk (c_X12_glass_1 hR hk hD hm hs) (xAg_73 (by decide))
    · exact xRo.mk (c_X12_glass_2 hR hk hD hm hs) (xAg_73 (by decide))
    · exact xRo.mk (c_X12_glass_3 hR hk hD hm hs) (xAg_73 (by decide))
  · exact xRo.mk (c_X12_glass_bad hR hx) (xAg_r b g)

theorem q_mark (hI : xIc b g G T Lw m) (hJ : xIr b g G T Lw m) : xRo Value.int 188 [.int x, .int y] b g l := by
  obtain ⟨hb, hp, hRm, htx, ⟨_, hm⟩, hDk, hK, hZc, hY⟩ := hI
  obtain ⟨hR, hs, hD, hKr, hQ, hYr⟩ := hJ
  have hZ : ∀ r, r < 6 → xsz (g 74 r) 40 := fun r h => by rw [(hQ r h).1]; exact hZc r h
  have eG : g 73 10 = nI G := hR.1.1
  have hG6 : G ≤ 6 := hR.1.2
  have hT8 : T ≤ 8 := hR.2.1.2
  have hZ6 : ∀ q, q < 6 → xsz (g 74 q) 60 := fun q h => (hZ q h).elim Or.inl (fun ⟨n, a1, a2⟩ => Or.inr ⟨n, by omega, a2⟩)
  have hY6 : ∀ q, q < 4 → xsz (g 76 q) 60 := fun q h => by rw [(hYr q h).1]; exact hY q h
  have hK6 : ∀ q, q < 3 → xsz (g 86 q) 60 := fun q h => by
    rw [(hKr q h).1]
    rcases hK q h with z | ⟨n, z1, z2, _⟩
    · exact Or.inl z
    · exact Or.inr ⟨n, by omega, z2⟩
  by_cases hx : (0 ≤ x ∧ x < nI G) ∧ 1 ≤ y ∧ y ≤ 5
  · obtain ⟨s, hk, rfl⟩ := xin (n := G) (by omega) hx.1
    obtain ⟨t, ht1, ht, rfl⟩ := nI_1le hx.2
    cases hi : xiso (Lw s / 4) (nI t) with
    | false => exact xRo.mk (c_X12_mark_ref hR hk ht1 ht hi) (xAg_R _)
    | true =>
      rcases (show t = 1 ∨ t = 2 ∨ t = 3 ∨ t = 4 ∨ t = 5 by omega) with rfl | rfl | rfl | rfl | rfl
      · exact xRo.mk (c_X12_mark_1 hR hD hm hs hk hi) (xAg_r b g)
      · exact xRo.mk (c_X12_mark_2 hR hD hm hs hk hi) (xAg_r b g)
      · exact xRo.mk (c_X12_mark_3 hR hD hm hs hk hi) (xAg_r b g)
      · exact xRo.mk (c_X12_mark_4 hR hD hm hs hk hi) (xAg_r b g)
      · exact xRo.mk (c_X12_mark_5 hR hD hm hs hk hi) (xAg_r b g)
  · exact xRo.mk (c_X12_mark_bad hR hx) (xAg_r b g)

theorem q_habit (hI : xIc b g G T Lw m) (hJ : xIr b g G T Lw m) : xRo Value.int 189 [.int x] b g l := by
  obtain ⟨hb, hp, hRm, htx, ⟨_, hm⟩, hDk, hK, hZc, hY⟩ := hI
  obtain ⟨hR, hs, hD, hKr, hQ, hYr⟩ := hJ
  have hZ : ∀ r, r < 6 → xsz (g 74 r) 40 := fun r h => by rw [(hQ r h).1]; exact hZc r h
  have eG : g 73 10 = nI G := hR.1.1
  have hG6 : G ≤ 6 := hR.1.2
  have hT8 : T ≤ 8 := hR.2.1.2
  have hZ6 : ∀ q, q < 6 → xsz (g 74 q) 60 := fun q h => (hZ q h).elim Or.inl (fun ⟨n, a1, a2⟩ => Or.inr ⟨n, by omega, a2⟩)
  have hY6 : ∀ q, q < 4 → xsz (g 76 q) 60 := fun q h => by rw [(hYr q h).1]; exact hY q h
  have hK6 : ∀ q, q < 3 → xsz (g 86 q) 60 := fun q h => by
    rw [(hKr q h).1]
    rcases hK q h with z | ⟨n, z1, z2, _⟩
    · exact Or.inl z
    · exact Or.inr ⟨n, by omega, z2⟩
  by_cases hx : 0 ≤ x ∧ x < 6
  · obtain ⟨t, ht, rfl⟩ := xin (n := 6) (by omega) hx
    exact xRo.mk (c_X12_habit_ok hR ht) (xAg_r b g)
  · exact xRo.mk (c_X12_habit_bad hx) (xAg_r b g)

theorem q_term (hI : xIc b g G T Lw m) (hJ : xIr b g G T Lw m) : xRo Value.int 190 [.int x, .int y] b g l := by
  obtain ⟨hb, hp, hRm, htx, ⟨_, hm⟩, hDk, hK, hZc, hY⟩ := hI
  obtain ⟨hR, hs, hD, hKr, hQ, hYr⟩ := hJ
  have hZ : ∀ r, r < 6 → xsz (g 74 r) 40 := fun r h => by rw [(hQ r h).1]; exact hZc r h
  have eG : g 73 10 = nI G := hR.1.1
  have hG6 : G ≤ 6 := hR.1.2
  have hT8 : T ≤ 8 := hR.2.1.2
  have hZ6 : ∀ q, q < 6 → xsz (g 74 q) 60 := fun q h => (hZ q h).elim Or.inl (fun ⟨n, a1, a2⟩ => Or.inr ⟨n, by omega, a2⟩)
  have hY6 : ∀ q, q < 4 → xsz (g 76 q) 60 := fun q h => by rw [(hYr q h).1]; exact hY q h
  have hK6 : ∀ q, q < 3 → xsz (g 86 q) 60 := fun q h => by
    rw [(hKr q h).1]
    rcases hK q h with z | ⟨n, z1, z2, _⟩
    · exact Or.inl z
    · exact Or.inr ⟨n, by omega, z2⟩
  by_cases hx : (0 ≤ x ∧ x < nI T) ∧ 0 ≤ y ∧ y ≤ 1
  · obtain ⟨d, hd, rfl⟩ := xin (n := T) (by omega) hx.1
    obtain ⟨t, ht, rfl⟩ := xinl (n := 1) (by omega) hx.2
    exact xRo.mk (c_X12_term_ok hR hd (by omega)) (xAg_r b g)
  · exact xRo.mk (c_X12_term_bad hR hx) (xAg_r b g)

theorem q_deed (hI : xIc b g G T Lw m) (hJ : xIr b g G T Lw m) : xRo Value.int 193 [.int x, .int y] b g l := by
  obtain ⟨hb, hp, hRm, htx, ⟨_, hm⟩, hDk, hK, hZc, hY⟩ := hI
  obtain ⟨hR, hs, hD, hKr, hQ, hYr⟩ := hJ
  have hZ : ∀ r, r < 6 → xsz (g 74 r) 40 := fun r h => by rw [(hQ r h).1]; exact hZc r h
  have eG : g 73 10 = nI G := hR.1.1
  have hG6 : G ≤ 6 := hR.1.2
  have hT8 : T ≤ 8 := hR.2.1.2
  have hZ6 : ∀ q, q < 6 → xsz (g 74 q) 60 := fun q h => (hZ q h).elim Or.inl (fun ⟨n, a1, a2⟩ => Or.inr ⟨n, by omega, a2⟩)
  have hY6 : ∀ q, q < 4 → xsz (g 76 q) 60 := fun q h => by rw [(hYr q h).1]; exact hY q h
  have hK6 : ∀ q, q < 3 → xsz (g 86 q) 60 := fun q h => by
    rw [(hKr q h).1]
    rcases hK q h with z | ⟨n, z1, z2, _⟩
    · exact Or.inl z
    · exact Or.inr ⟨n, by omega, z2⟩
  by_cases hx : (0 ≤ x ∧ x < nI m) ∧ 0 ≤ y ∧ y ≤ 3
  · obtain ⟨d, hd, rfl⟩ := xin (n := m) (by omega) hx.1
    obtain ⟨t, ht, rfl⟩ := xinl (n := 3) (by omega) hx.2
    rcases (show t = 0 ∨ t = 1 ∨ t = 2 ∨ t = 3 by omega) with rfl | rfl | rfl | rfl
    · exact xRo.mk (c_X12_deed_0 hR hD hm hs hd) (xAg_73 (by decide))
    · exact xRo.mk (c_X12_deed_1 hR hD hm hs hd) (xAg_73 (by decide))
    · exact xRo.mk (c_X12_deed_2 hR hD hm hs hd) (xAg_73 (by decide))
    · exact xRo.mk (c_X12_deed_3 hR hD hm hs hd) (xAg_73 (by decide))
  · exact xRo.mk (c_X12_deed_bad hs hm hx) (xAg_r b g)

theorem q_broken (hI : xIc b g G T Lw m) (hJ : xIr b g G T Lw m) : xRo Value.int 195 [] b g l := by
  obtain ⟨hb, hp, hRm, htx, ⟨_, hm⟩, hDk, hK, hZc, hY⟩ := hI
  obtain ⟨hR, hs, hD, hKr, hQ, hYr⟩ := hJ
  have hZ : ∀ r, r < 6 → xsz (g 74 r) 40 := fun r h => by rw [(hQ r h).1]; exact hZc r h
  have eG : g 73 10 = nI G := hR.1.1
  have hG6 : G ≤ 6 := hR.1.2
  have hT8 : T ≤ 8 := hR.2.1.2
  have hZ6 : ∀ q, q < 6 → xsz (g 74 q) 60 := fun q h => (hZ q h).elim Or.inl (fun ⟨n, a1, a2⟩ => Or.inr ⟨n, by omega, a2⟩)
  have hY6 : ∀ q, q < 4 → xsz (g 76 q) 60 := fun q h => by rw [(hYr q h).1]; exact hY q h
  have hK6 : ∀ q, q < 3 → xsz (g 86 q) 60 := fun q h => by
    rw [(hKr q h).1]
    rcases hK q h with z | ⟨n, z1, z2, _⟩
    · exact Or.inl z
    · exact Or.inr ⟨n, by omega, z2⟩
  exact xRo.mk (c_X12_broken hR hD hm hs) (xAg_73 (by decide))

theorem q_breaks (hI : xIc b g G T Lw m) (hJ : xIr b g G T Lw m) : xRo Value.int 204 [.int x, .int y] b g l := by
  obtain ⟨hb, hp, hRm, htx, ⟨_, hm⟩, hDk, hK, hZc, hY⟩ := hI
  obtain ⟨hR, hs, hD, hKr, hQ, hYr⟩ := hJ
  have hZ : ∀ r, r < 6 → xsz (g 74 r) 40 := fun r h => by rw [(hQ r h).1]; exact hZc r h
  have eG : g 73 10 = nI G := hR.1.1
  have hG6 : G ≤ 6 := hR.1.2
  have hT8 : T ≤ 8 := hR.2.1.2
  have hZ6 : ∀ q, q < 6 → xsz (g 74 q) 60 := fun q h => (hZ q h).elim Or.inl (fun ⟨n, a1, a2⟩ => Or.inr ⟨n, by omega, a2⟩)
  have hY6 : ∀ q, q < 4 → xsz (g 76 q) 60 := fun q h => by rw [(hYr q h).1]; exact hY q h
  have hK6 : ∀ q, q < 3 → xsz (g 86 q) 60 := fun q h => by
    rw [(hKr q h).1]
    rcases hK q h with z | ⟨n, z1, z2, _⟩
    · exact Or.inl z
    · exact Or.inr ⟨n, by omega, z2⟩
  by_cases hx : (0 ≤ x ∧ x < nI G) ∧ 0 ≤ y ∧ y < 6
  · obtain ⟨s, hk, rfl⟩ := xin (n := G) (by omega) hx.1
    obtain ⟨p, hp1, rfl⟩ := xin (n := 6) (by omega) hx.2
    by_cases hf : xfos (g 74 p) (fun i => g 75 (40 * p + i)) 12 = 0
    · obtain ⟨m1, e, h12, _, hxs⟩ := xfos_0 (hZ p hp1) (by decide) (by decide) hf
      exact (c_X12_breaks_ok hR hk hp1 e h12 hf hxs).weak (fun r M w => by obtain ⟨g1, e2, e1, e3⟩ := w; exact ⟨_, _, _, e3, e1, xAg_t (xAg_Fr e2) (xAg_73 (by decide))⟩)
    · exact (c_X12_breaks_ref hR hk hp1 (hZ p hp1) hf).weak (fun r M w => by obtain ⟨g1, e2, e1, e3⟩ := w; exact ⟨_, _, _, e3, e1, xAg_Fr e2⟩)
  · exact xRo.mk (c_X12_breaks_bad hR hx) (xAg_r b g)

theorem q_alike (hI : xIc b g G T Lw m) (hJ : xIr b g G T Lw m) : xRo Value.int 205 [.int x, .int y] b g l := by
  obtain ⟨hb, hp, hRm, htx, ⟨_, hm⟩, hDk, hK, hZc, hY⟩ := hI
  obtain ⟨hR, hs, hD, hKr, hQ, hYr⟩ := hJ
  have hZ : ∀ r, r < 6 → xsz (g 74 r) 40 := fun r h => by rw [(hQ r h).1]; exact hZc r h
  have eG : g 73 10 = nI G := hR.1.1
  have hG6 : G ≤ 6 := hR.1.2
  have hT8 : T ≤ 8 := hR.2.1.2
  have hZ6 : ∀ q, q < 6 → xsz (g 74 q) 60 := fun q h => (hZ q h).elim Or.inl (fun ⟨n, a1, a2⟩ => Or.inr ⟨n, by omega, a2⟩)
  have hY6 : ∀ q, q < 4 → xsz (g 76 q) 60 := fun q h => by rw [(hYr q h).1]; exact hY q h
  have hK6 : ∀ q, q < 3 → xsz (g 86 q) 60 := fun q h => by
    rw [(hKr q h).1]
    rcases hK q h with z | ⟨n, z1, z2, _⟩
    · exact Or.inl z
    · exact Or.inr ⟨n, by omega, z2⟩
  by_cases hx : (0 ≤ x ∧ x < nI G) ∧ 0 ≤ y ∧ y < 6
  · obtain ⟨s, hk, rfl⟩ := xin (n := G) (by omega) hx.1
    obtain ⟨p, hp1, rfl⟩ := xin (n := 6) (by omega) hx.2
    by_cases hf : xfos (g 74 p) (fun i => g 75 (40 * p + i)) 12 = 0
    · obtain ⟨m1, e, h12, _, hxs⟩ := xfos_0 (hZ p hp1) (by decide) (by decide) hf
      exact (c_X12_alike_ok hR hk hp1 e h12 hf hxs).weak (fun r M w => by obtain ⟨g1, e2, e1, e3⟩ := w; exact ⟨_, _, _, e3, e1, xAg_Fr e2⟩)
    · exact (c_X12_alike_ref hR hk hp1 (hZ p hp1) hf).weak (fun r M w => by obtain ⟨g1, e2, e1, e3⟩ := w; exact ⟨_, _, _, e3, e1, xAg_Fr e2⟩)
  · exact xRo.mk (c_X12_alike_bad hR hx) (xAg_r b g)

theorem q_ways (hI : xIc b g G T Lw m) (hJ : xIr b g G T Lw m) : xRo Value.int 210 [.int x, .int y] b g l := by
  obtain ⟨hb, hp, hRm, htx, ⟨_, hm⟩, hDk, hK, hZc, hY⟩ := hI
  obtain ⟨hR, hs, hD, hKr, hQ, hYr⟩ := hJ
  have hZ : ∀ r, r < 6 → xsz (g 74 r) 40 := fun r h => by rw [(hQ r h).1]; exact hZc r h
  have eG : g 73 10 = nI G := hR.1.1
  have hG6 : G ≤ 6 := hR.1.2
  have hT8 : T ≤ 8 := hR.2.1.2
  have hZ6 : ∀ q, q < 6 → xsz (g 74 q) 60 := fun q h => (hZ q h).elim Or.inl (fun ⟨n, a1, a2⟩ => Or.inr ⟨n, by omega, a2⟩)
  have hY6 : ∀ q, q < 4 → xsz (g 76 q) 60 := fun q h => by rw [(hYr q h).1]; exact hY q h
  have hK6 : ∀ q, q < 3 → xsz (g 86 q) 60 := fun q h => by
    rw [(hKr q h).1]
    rcases hK q h with z | ⟨n, z1, z2, _⟩
    · exact Or.inl z
    · exact Or.inr ⟨n, by omega, z2⟩
  by_cases hx : (0 ≤ x ∧ x < nI G) ∧ 0 ≤ y ∧ y < 6
  · obtain ⟨s, hk, rfl⟩ := xin (n := G) (by omega) hx.1
    obtain ⟨p, hp1, rfl⟩ := xin (n := 6) (by omega) hx.2
    by_cases hf : xfos (g 74 p) (fun i => g 75 (40 * p + i)) 6 = 0
    · obtain ⟨m1, e, h12, _, hxs⟩ := xfos_0 (hZ p hp1) (by decide) (by decide) hf
      exact (c_X12_ways_ok hR hk hp1 e h12 hf hxs).weak (fun r M w => by obtain ⟨g1, e2, e1, e3⟩ := w; exact ⟨_, _, _, e3, e1, xAg_Fr e2⟩)
    · exact (c_X12_ways_ref hR hk hp1 (hZ p hp1) hf).weak (fun r M w => by obtain ⟨g1, e2, e1, e3⟩ := w; exact ⟨_, _, _, e3, e1, xAg_Fr e2⟩)
  · exact xRo.mk (c_X12_ways_bad hR hx) (xAg_r b g)



theorem q_can (hI : xIc b g G T Lw m) (hJ : xIr b g G T Lw m) : xRo Value.int 212 [.int x, .int y, .int z] b g l := by
  obtain ⟨hb, hp, hRm, htx, ⟨_, hm⟩, hDk, hK, hZc, hY⟩ := hI
  obtain ⟨hR, hs, hD, hKr, hQ, hYr⟩ := hJ
  have hZ : ∀ r, r < 6 → xsz (g 74 r) 40 := fun r h => by rw [(hQ r h).1]; exact hZc r h
  have eG : g 73 10 = nI G := hR.1.1
  have hG6 : G ≤ 6 := hR.1.2
  have hT8 : T ≤ 8 := hR.2.1.2
  have hZ6 : ∀ q, q < 6 → xsz (g 74 q) 60 := fun q h => (hZ q h).elim Or.inl (fun ⟨n, a1, a2⟩ => Or.inr ⟨n, by omega, a2⟩)
  have hY6 : ∀ q, q < 4 → xsz (g 76 q) 60 := fun q h => by rw [(hYr q h).1]; exact hY q h
  have hK6 : ∀ q, q < 3 → xsz (g 86 q) 60 := fun q h => by
    rw [(hKr q h).1]
    rcases hK q h with z | ⟨n, z1, z2, _⟩
    · exact Or.inl z
    · exact Or.inr ⟨n, by omega, z2⟩
  by_cases hx : (0 ≤ x ∧ x < nI G) ∧ (0 ≤ y ∧ y < 6) ∧ 0 ≤ z
  · obtain ⟨s, hk, rfl⟩ := xin (n := G) (by omega) hx.1
    obtain ⟨p, hp1, rfl⟩ := xin (n := 6) (by omega) hx.2.1
    obtain ⟨d, hd31, rfl⟩ := nI_of (Int32.not_lt.mpr hx.2.2)
    by_cases hf : xfos (g 74 p) (fun i => g 75 (40 * p + i)) 6 = 0
    · obtain ⟨m1, e, h12, _, hxs⟩ := xfos_0 (hZ p hp1) (by decide) (by decide) hf
      by_cases hd : d < m1
      · exact (c_X12_can_ok hR hk hp1 e h12 hf hxs hd).weak (fun r M w => by obtain ⟨g1, e2, e1, e3⟩ := w; exact ⟨_, _, _, e3, e1, xAg_Fr e2⟩)
      · exact (c_X12_can_bad2 hR hk hp1 e h12 hf hxs hd31 hd).weak (fun r M w => by obtain ⟨g1, e2, e1, e3⟩ := w; exact ⟨_, _, _, e3, e1, xAg_Fr e2⟩)
    · exact (c_X12_can_ref hR hk hp1 hd31 (hZ p hp1) hf).weak (fun r M w => by obtain ⟨g1, e2, e1, e3⟩ := w; exact ⟨_, _, _, e3, e1, xAg_Fr e2⟩)
  · exact xRo.mk (c_X12_can_bad hR hx) (xAg_r b g)

theorem q_odds (hI : xIc b g G T Lw m) (hJ : xIr b g G T Lw m) : xRo Value.int 225 [.int x, .int y, .int z] b g l := by
  obtain ⟨hb, hp, hRm, htx, ⟨_, hm⟩, hDk, hK, hZc, hY⟩ := hI
  obtain ⟨hR, hs, hD, hKr, hQ, hYr⟩ := hJ
  have hZ : ∀ r, r < 6 → xsz (g 74 r) 40 := fun r h => by rw [(hQ r h).1]; exact hZc r h
  have eG : g 73 10 = nI G := hR.1.1
  have hG6 : G ≤ 6 := hR.1.2
  have hT8 : T ≤ 8 := hR.2.1.2
  have hZ6 : ∀ q, q < 6 → xsz (g 74 q) 60 := fun q h => (hZ q h).elim Or.inl (fun ⟨n, a1, a2⟩ => Or.inr ⟨n, by omega, a2⟩)
  have hY6 : ∀ q, q < 4 → xsz (g 76 q) 60 := fun q h => by rw [(hYr q h).1]; exact hY q h
  have hK6 : ∀ q, q < 3 → xsz (g 86 q) 60 := fun q h => by
    rw [(hKr q h).1]
    rcases hK q h with z | ⟨n, z1, z2, _⟩
    · exact Or.inl z
    · exact Or.inr ⟨n, by omega, z2⟩
  by_cases hx : (0 ≤ x ∧ x < nI G) ∧ (0 ≤ y ∧ y < 6) ∧ 0 ≤ z ∧ z ≤ 12
  · obtain ⟨s, hk, rfl⟩ := xin (n := G) (by omega) hx.1
    obtain ⟨p, hp1, rfl⟩ := xin (n := 6) (by omega) hx.2.1
    obtain ⟨e1, he, rfl⟩ := xinl (n := 12) (by omega) hx.2.2
    by_cases hf : xfos (g 74 p) (fun i => g 75 (40 * p + i)) 12 = 0
    · obtain ⟨m1, e, h12, _, hxs⟩ := xfos_0 (hZ p hp1) (by decide) (by decide) hf
      exact (c_X12_odds_ok hR hk he hp1 e h12 hf hxs).weak (fun r M w => by obtain ⟨g1, e2, e1, e3⟩ := w; exact ⟨_, _, _, e3, e1, xAg_Fr e2⟩)
    · exact (c_X12_odds_ref hR hk hp1 he (hZ p hp1) hf).weak (fun r M w => by obtain ⟨g1, e2, e1, e3⟩ := w; exact ⟨_, _, _, e3, e1, xAg_Fr e2⟩)
  · exact xRo.mk (c_X12_odds_bad hR hx) (xAg_r b g)

theorem q_mid (hI : xIc b g G T Lw m) (hJ : xIr b g G T Lw m) : xRo Value.int 226 [.int x, .int y, .int z] b g l := by
  obtain ⟨hb, hp, hRm, htx, ⟨_, hm⟩, hDk, hK, hZc, hY⟩ := hI
  obtain ⟨hR, hs, hD, hKr, hQ, hYr⟩ := hJ
  have hZ : ∀ r, r < 6 → xsz (g 74 r) 40 := fun r h => by rw [(hQ r h).1]; exact hZc r h
  have eG : g 73 10 = nI G := hR.1.1
  have hG6 : G ≤ 6 := hR.1.2
  have hT8 : T ≤ 8 := hR.2.1.2
  have hZ6 : ∀ q, q < 6 → xsz (g 74 q) 60 := fun q h => (hZ q h).elim Or.inl (fun ⟨n, a1, a2⟩ => Or.inr ⟨n, by omega, a2⟩)
  have hY6 : ∀ q, q < 4 → xsz (g 76 q) 60 := fun q h => by rw [(hYr q h).1]; exact hY q h
  have hK6 : ∀ q, q < 3 → xsz (g 86 q) 60 := fun q h => by
    rw [(hKr q h).1]
    rcases hK q h with z | ⟨n, z1, z2, _⟩
    · exact Or.inl z
    · exact Or.inr ⟨n, by omega, z2⟩
  by_cases hx : (0 ≤ x ∧ x < nI G) ∧ (0 ≤ y ∧ y < 6) ∧ 0 ≤ z ∧ z ≤ 12
  · obtain ⟨s, hk, rfl⟩ := xin (n := G) (by omega) hx.1
    obtain ⟨p, hp1, rfl⟩ := xin (n := 6) (by omega) hx.2.1
    obtain ⟨e1, he, rfl⟩ := xinl (n := 12) (by omega) hx.2.2
    by_cases hf : xfos (g 74 p) (fun i => g 75 (40 * p + i)) 12 = 0
    · obtain ⟨m1, e, h12, _, hxs⟩ := xfos_0 (hZ p hp1) (by decide) (by decide) hf
      exact (c_X12_mid_ok hR hk he hp1 e h12 hf hxs).weak (fun r M w => by obtain ⟨g1, e2, e1, e3⟩ := w; exact ⟨_, _, _, e3, e1, xAg_Fr e2⟩)
    · exact (c_X12_mid_ref hR hk hp1 he (hZ p hp1) hf).weak (fun r M w => by obtain ⟨g1, e2, e1, e3⟩ := w; exact ⟨_, _, _, e3, e1, xAg_Fr e2⟩)
  · exact xRo.mk (c_X12_mid_bad hR hx) (xAg_r b g)

theorem q_he (hI : xIc b g G T Lw m) (hJ : xIr b g G T Lw m) : xRo Value.int 217 [.int x, .int y, .int z] b g l := by
  obtain ⟨hb, hp, hRm, htx, ⟨_, hm⟩, hDk, hK, hZc, hY⟩ := hI
  obtain ⟨hR, hs, hD, hKr, hQ, hYr⟩ := hJ
  have hZ : ∀ r, r < 6 → xsz (g 74 r) 40 := fun r h => by rw [(hQ r h).1]; exact hZc r h
  have eG : g 73 10 = nI G := hR.1.1
  have hG6 : G ≤ 6 := hR.1.2
  have hT8 : T ≤ 8 := hR.2.1.2
  have hZ6 : ∀ q, q < 6 → xsz (g 74 q) 60 := fun q h => (hZ q h).elim Or.inl (fun ⟨n, a1, a2⟩ => Or.inr ⟨n, by omega, a2⟩)
  have hY6 : ∀ q, q < 4 → xsz (g 76 q) 60 := fun q h => by rw [(hYr q h).1]; exact hY q h
  have hK6 : ∀ q, q < 3 → xsz (g 86 q) 60 := fun q h => by
    rw [(hKr q h).1]
    rcases hK q h with z | ⟨n, z1, z2, _⟩
    · exact Or.inl z
    · exact Or.inr ⟨n, by omega, z2⟩
  by_cases hx : (0 ≤ x ∧ x < nI G) ∧ (0 ≤ y ∧ y < 6) ∧ 0 ≤ z ∧ z < 6
  · obtain ⟨t, hk, rfl⟩ := xin (n := G) (by omega) hx.1
    obtain ⟨p, hp1, rfl⟩ := xin (n := 6) (by omega) hx.2.1
    obtain ⟨s, hs1, rfl⟩ := xin (n := 6) (by omega) hx.2.2
    by_cases hf : xfop (g 74 p) (fun i => g 75 (40 * p + i)) (g 74 s) (fun i => g 75 (40 * s + i)) 12 = 0
    · obtain ⟨f1, f2, f3⟩ := xfop_0 hf
      obtain ⟨m1, e, h12, _, hxs⟩ := xfos_0 (hZ p hp1) (by decide) (by decide) f1
      obtain ⟨m2, e2, _, h40, hxs2⟩ := xfos_0 (hZ s hs1) (by decide) (by decide) f2
      obtain rfl : m1 = m2 := nI_inj (by omega) (by omega) (by rw [← e, f3, e2])
      exact (c_X12_he_ok hR hk hp1 hs1 e e2 h12 f1 f2 hxs hxs2).weak (fun r M w => by obtain ⟨g1, e2, e1, e3⟩ := w; exact ⟨_, _, _, e3, e1, xAg_t (xAg_Fr e2) (xAg_73 (by decide))⟩)
    · exact (c_X12_he_ref hR hk hp1 (hZ p hp1) hs1 (hZ s hs1) hf).weak (fun r M w => by obtain ⟨g1, e2, e1, e3⟩ := w; exact ⟨_, _, _, e3, e1, xAg_Fr e2⟩)
  · exact xRo.mk (c_X12_he_bad hR hx) (xAg_r b g)

theorem q_fit (hI : xIc b g G T Lw m) (hJ : xIr b g G T Lw m) : xRo Value.int 206 [.int x, .int y] b g l := by
  obtain ⟨hb, hp, hRm, htx, ⟨_, hm⟩, hDk, hK, hZc, hY⟩ := hI
  obtain ⟨hR, hs, hD, hKr, hQ, hYr⟩ := hJ
  have hZ : ∀ r, r < 6 → xsz (g 74 r) 40 := fun r h => by rw [(hQ r h).1]; exact hZc r h
  have eG : g 73 10 = nI G := hR.1.1
  have hG6 : G ≤ 6 := hR.1.2
  have hT8 : T ≤ 8 := hR.2.1.2
  have hZ6 : ∀ q, q < 6 → xsz (g 74 q) 60 := fun q h => (hZ q h).elim Or.inl (fun ⟨n, a1, a2⟩ => Or.inr ⟨n, by omega, a2⟩)
  have hY6 : ∀ q, q < 4 → xsz (g 76 q) 60 := fun q h => by rw [(hYr q h).1]; exact hY q h
  have hK6 : ∀ q, q < 3 → xsz (g 86 q) 60 := fun q h => by
    rw [(hKr q h).1]
    rcases hK q h with z | ⟨n, z1, z2, _⟩
    · exact Or.inl z
    · exact Or.inr ⟨n, by omega, z2⟩
  by_cases hx : (0 ≤ x ∧ x < 6) ∧ 0 ≤ y ∧ y < 6
  · obtain ⟨p, hp1, rfl⟩ := xin (n := 6) (by omega) hx.1
    obtain ⟨s, hs1, rfl⟩ := xin (n := 6) (by omega) hx.2
    by_cases hf : xfop (g 74 p) (fun i => g 75 (40 * p + i)) (g 74 s) (fun i => g 75 (40 * s + i)) 12 = 0
    · obtain ⟨f1, f2, f3⟩ := xfop_0 hf
      obtain ⟨m1, e, h12, _, hxs⟩ := xfos_0 (hZ p hp1) (by decide) (by decide) f1
      obtain ⟨m2, e2, _, h40, hxs2⟩ := xfos_0 (hZ s hs1) (by decide) (by decide) f2
      obtain rfl : m1 = m2 := nI_inj (by omega) (by omega) (by rw [← e, f3, e2])
      exact (c_X12_fit_ok hp1 hs1 e e2 h12 f1 f2 hxs hxs2).weak (fun r M w => by obtain ⟨g1, e2, e1, e3⟩ := w; exact ⟨_, _, _, e3, e1, xAg_t (xAg_Fr e2) (xAg_73 (by decide))⟩)
    · exact (c_X12_fit_ref hp1 (hZ p hp1) hs1 (hZ s hs1) hf).weak (fun r M w => by obtain ⟨g1, e2, e1, e3⟩ := w; exact ⟨_, _, _, e3, e1, xAg_Fr e2⟩)
  · exact xRo.mk (c_X12_fit_bad hx) (xAg_r b g)

theorem q_laws (hI : xIc b g G T Lw m) (hJ : xIr b g G T Lw m) : xRo Value.int 214 [.int x, .int y] b g l := by
  obtain ⟨hb, hp, hRm, htx, ⟨_, hm⟩, hDk, hK, hZc, hY⟩ := hI
  obtain ⟨hR, hs, hD, hKr, hQ, hYr⟩ := hJ
  have hZ : ∀ r, r < 6 → xsz (g 74 r) 40 := fun r h => by rw [(hQ r h).1]; exact hZc r h
  have eG : g 73 10 = nI G := hR.1.1
  have hG6 : G ≤ 6 := hR.1.2
  have hT8 : T ≤ 8 := hR.2.1.2
  have hZ6 : ∀ q, q < 6 → xsz (g 74 q) 60 := fun q h => (hZ q h).elim Or.inl (fun ⟨n, a1, a2⟩ => Or.inr ⟨n, by omega, a2⟩)
  have hY6 : ∀ q, q < 4 → xsz (g 76 q) 60 := fun q h => by rw [(hYr q h).1]; exact hY q h
  have hK6 : ∀ q, q < 3 → xsz (g 86 q) 60 := fun q h => by
    rw [(hKr q h).1]
    rcases hK q h with z | ⟨n, z1, z2, _⟩
    · exact Or.inl z
    · exact Or.inr ⟨n, by omega, z2⟩
  by_cases hx : (0 ≤ x ∧ x < 6) ∧ 0 ≤ y ∧ y < 6
  · obtain ⟨p, hp1, rfl⟩ := xin (n := 6) (by omega) hx.1
    obtain ⟨s, hs1, rfl⟩ := xin (n := 6) (by omega) hx.2
    by_cases hf : xfop (g 74 p) (fun i => g 75 (40 * p + i)) (g 74 s) (fun i => g 75 (40 * s + i)) 12 = 0
    · obtain ⟨f1, f2, f3⟩ := xfop_0 hf
      obtain ⟨m1, e, h12, _, hxs⟩ := xfos_0 (hZ p hp1) (by decide) (by decide) f1
      obtain ⟨m2, e2, _, h40, hxs2⟩ := xfos_0 (hZ s hs1) (by decide) (by decide) f2
      obtain rfl : m1 = m2 := nI_inj (by omega) (by omega) (by rw [← e, f3, e2])
      exact (c_X12_laws_ok hR hp1 hs1 e e2 h12 f1 f2 hxs hxs2).weak (fun r M w => by obtain ⟨g1, e2, e1, e3⟩ := w; exact ⟨_, _, _, e3, e1, xAg_Fr e2⟩)
    · exact (c_X12_laws_ref hp1 (hZ p hp1) hs1 (hZ s hs1) hf).weak (fun r M w => by obtain ⟨g1, e2, e1, e3⟩ := w; exact ⟨_, _, _, e3, e1, xAg_Fr e2⟩)
  · exact xRo.mk (c_X12_laws_bad hx) (xAg_r b g)

theorem q_next (hI : xIc b g G T Lw m) (hJ : xIr b g G T Lw m) : xRo Value.int 216 [.int x, .int y] b g l := by
  obtain ⟨hb, hp, hRm, htx, ⟨_, hm⟩, hDk, hK, hZc, hY⟩ := hI
  obtain ⟨hR, hs, hD, hKr, hQ, hYr⟩ := hJ
  have hZ : ∀ r, r < 6 → xsz (g 74 r) 40 := fun r h => by rw [(hQ r h).1]; exact hZc r h
  have eG : g 73 10 = nI G := hR.1.1
  have hG6 : G ≤ 6 := hR.1.2
  have hT8 : T ≤ 8 := hR.2.1.2
  have hZ6 : ∀ q, q < 6 → xsz (g 74 q) 60 := fun q h => (hZ q h).elim Or.inl (fun ⟨n, a1, a2⟩ => Or.inr ⟨n, by omega, a2⟩)
  have hY6 : ∀ q, q < 4 → xsz (g 76 q) 60 := fun q h => by rw [(hYr q h).1]; exact hY q h
  have hK6 : ∀ q, q < 3 → xsz (g 86 q) 60 := fun q h => by
    rw [(hKr q h).1]
    rcases hK q h with z | ⟨n, z1, z2, _⟩
    · exact Or.inl z
    · exact Or.inr ⟨n, by omega, z2⟩
  by_cases hx : (0 ≤ x ∧ x < 6) ∧ 0 ≤ y ∧ y < 6
  · obtain ⟨p, hp1, rfl⟩ := xin (n := 6) (by omega) hx.1
    obtain ⟨s, hs1, rfl⟩ := xin (n := 6) (by omega) hx.2
    by_cases hf : xfop (g 74 p) (fun i => g 75 (40 * p + i)) (g 74 s) (fun i => g 75 (40 * s + i)) 12 = 0
    · obtain ⟨f1, f2, f3⟩ := xfop_0 hf
      obtain ⟨m1, e, h12, _, hxs⟩ := xfos_0 (hZ p hp1) (by decide) (by decide) f1
      obtain ⟨m2, e2, _, h40, hxs2⟩ := xfos_0 (hZ s hs1) (by decide) (by decide) f2
      obtain rfl : m1 = m2 := nI_inj (by omega) (by omega) (by rw [← e, f3, e2])
      by_cases hm12 : m1 = 12
      · exact (c_X12_next_12 hp1 hs1 e e2 hm12 f1 f2 hxs hxs2).weak (fun r M w => by obtain ⟨g1, e2, e1, e3⟩ := w; exact ⟨_, _, _, e3, e1, xAg_Fr e2⟩)
      by_cases hbc : xbs (xbits (fun q => decide (xfst (fun i => !decide (xshw (g (b.1 + 1)) (q / 4) (q % 4) (fun i => xN (g 75 (40 * p + i))) i = g 75 (40 * s + i))) m1 = none)) 24) 24 < 2
      · exact (c_X12_next_none hR hp1 hs1 e e2 h12 f1 f2 hxs hxs2 (by omega) hbc).weak (fun r M w => by obtain ⟨g1, e2, e1, e3⟩ := w; exact ⟨_, _, _, e3, e1, xAg_Fr e2⟩)
      · exact (c_X12_next_ok hR hp1 hs1 e e2 h12 f1 f2 hxs hxs2 (by omega) hbc).weak (fun r M w => by obtain ⟨g1, e2, e1, e3⟩ := w; exact ⟨_, _, _, e3, e1, xAg_t (xAg_Fr e2) (xAg_73 (by decide))⟩)
    · exact (c_X12_next_ref hp1 (hZ p hp1) hs1 (hZ s hs1) hf).weak (fun r M w => by obtain ⟨g1, e2, e1, e3⟩ := w; exact ⟨_, _, _, e3, e1, xAg_Fr e2⟩)
  · exact xRo.mk (c_X12_next_bad hx) (xAg_r b g)

theorem q_keeps (hI : xIc b g G T Lw m) (hJ : xIr b g G T Lw m) : xRo Value.int 219 [.int x, .int y] b g l := by
  obtain ⟨hb, hp, hRm, htx, ⟨_, hm⟩, hDk, hK, hZc, hY⟩ := hI
  obtain ⟨hR, hs, hD, hKr, hQ, hYr⟩ := hJ
  have hZ : ∀ r, r < 6 → xsz (g 74 r) 40 := fun r h => by rw [(hQ r h).1]; exact hZc r h
  have eG : g 73 10 = nI G := hR.1.1
  have hG6 : G ≤ 6 := hR.1.2
  have hT8 : T ≤ 8 := hR.2.1.2
  have hZ6 : ∀ q, q < 6 → xsz (g 74 q) 60 := fun q h => (hZ q h).elim Or.inl (fun ⟨n, a1, a2⟩ => Or.inr ⟨n, by omega, a2⟩)
  have hY6 : ∀ q, q < 4 → xsz (g 76 q) 60 := fun q h => by rw [(hYr q h).1]; exact hY q h
  have hK6 : ∀ q, q < 3 → xsz (g 86 q) 60 := fun q h => by
    rw [(hKr q h).1]
    rcases hK q h with z | ⟨n, z1, z2, _⟩
    · exact Or.inl z
    · exact Or.inr ⟨n, by omega, z2⟩
  by_cases hx : (0 ≤ x ∧ x < nI G) ∧ 0 ≤ y ∧ y ≤ 5
  · obtain ⟨s, hk, rfl⟩ := xin (n := G) (by omega) hx.1
    obtain ⟨n, hn, rfl⟩ := xinl (n := 5) (by omega) hx.2
    by_cases h0 : n = 0
    · exact (c_X12_keeps_0 hR hk hn h0).weak (fun r M w => by obtain ⟨g1, e2, e1, e3⟩ := w; exact ⟨_, _, _, e3, e1, xAg_t (xAg_Fr e2) (xAg_73 (by decide))⟩)
    · exact (c_X12_keeps_ok hR hk hn (by omega)).weak (fun r M w => by obtain ⟨g1, e2, e1, e3⟩ := w; exact ⟨_, _, _, e3, e1, xAg_t (xAg_Fr e2) (xAg_73 (by decide))⟩)
  · exact xRo.mk (c_X12_keeps_bad hR hx) (xAg_r b g)

theorem q_still (hI : xIc b g G T Lw m) (hJ : xIr b g G T Lw m) : xRo Value.int 220 [.int x, .int y] b g l := by
  obtain ⟨hb, hp, hRm, htx, ⟨_, hm⟩, hDk, hK, hZc, hY⟩ := hI
  obtain ⟨hR, hs, hD, hKr, hQ, hYr⟩ := hJ
  have hZ : ∀ r, r < 6 → xsz (g 74 r) 40 := fun r h => by rw [(hQ r h).1]; exact hZc r h
  have eG : g 73 10 = nI G := hR.1.1
  have hG6 : G ≤ 6 := hR.1.2
  have hT8 : T ≤ 8 := hR.2.1.2
  have hZ6 : ∀ q, q < 6 → xsz (g 74 q) 60 := fun q h => (hZ q h).elim Or.inl (fun ⟨n, a1, a2⟩ => Or.inr ⟨n, by omega, a2⟩)
  have hY6 : ∀ q, q < 4 → xsz (g 76 q) 60 := fun q h => by rw [(hYr q h).1]; exact hY q h
  have hK6 : ∀ q, q < 3 → xsz (g 86 q) 60 := fun q h => by
    rw [(hKr q h).1]
    rcases hK q h with z | ⟨n, z1, z2, _⟩
    · exact Or.inl z
    · exact Or.inr ⟨n, by omega, z2⟩
  by_cases hx : (0 ≤ x ∧ x < nI G) ∧ 0 ≤ y ∧ y ≤ 5
  · obtain ⟨s, hk, rfl⟩ := xin (n := G) (by omega) hx.1
    obtain ⟨n, hn, rfl⟩ := xinl (n := 5) (by omega) hx.2
    exact (c_X12_still_ok hR hk hn).weak (fun r M w => by obtain ⟨g1, e2, e1, e3⟩ := w; exact ⟨_, _, _, e3, e1, xAg_Fr e2⟩)
  · exact xRo.mk (c_X12_still_bad hR hx) (xAg_r b g)

theorem q_game (hI : xIc b g G T Lw m) (hJ : xIr b g G T Lw m) : xRo Value.int 223 [.int x] b g l := by
  obtain ⟨hb, hp, hRm, htx, ⟨_, hm⟩, hDk, hK, hZc, hY⟩ := hI
  obtain ⟨hR, hs, hD, hKr, hQ, hYr⟩ := hJ
  have hZ : ∀ r, r < 6 → xsz (g 74 r) 40 := fun r h => by rw [(hQ r h).1]; exact hZc r h
  have eG : g 73 10 = nI G := hR.1.1
  have hG6 : G ≤ 6 := hR.1.2
  have hT8 : T ≤ 8 := hR.2.1.2
  have hZ6 : ∀ q, q < 6 → xsz (g 74 q) 60 := fun q h => (hZ q h).elim Or.inl (fun ⟨n, a1, a2⟩ => Or.inr ⟨n, by omega, a2⟩)
  have hY6 : ∀ q, q < 4 → xsz (g 76 q) 60 := fun q h => by rw [(hYr q h).1]; exact hY q h
  have hK6 : ∀ q, q < 3 → xsz (g 86 q) 60 := fun q h => by
    rw [(hKr q h).1]
    rcases hK q h with z | ⟨n, z1, z2, _⟩
    · exact Or.inl z
    · exact Or.inr ⟨n, by omega, z2⟩
  by_cases hx : 0 ≤ x ∧ x ≤ 3
  · obtain ⟨n, hn, rfl⟩ := xinl (n := 3) (by omega) hx
    by_cases hg : g 73 10 = 0
    · exact xRo.mk (c_X12_game_state hn hg) (xAg_r b g)
    · exact (c_X12_game_ok hR hn hg).weak (fun r M w => by obtain ⟨g1, e2, e1, e3⟩ := w; exact ⟨_, _, _, e3, e1, xAg_Fr e2⟩)
  · exact xRo.mk (c_X12_game_bad hx) (xAg_r b g)

theorem q_picks (hI : xIc b g G T Lw m) (hJ : xIr b g G T Lw m) : xRo Value.int 224 [.int x] b g l := by
  obtain ⟨hb, hp, hRm, htx, ⟨_, hm⟩, hDk, hK, hZc, hY⟩ := hI
  obtain ⟨hR, hs, hD, hKr, hQ, hYr⟩ := hJ
  have hZ : ∀ r, r < 6 → xsz (g 74 r) 40 := fun r h => by rw [(hQ r h).1]; exact hZc r h
  have eG : g 73 10 = nI G := hR.1.1
  have hG6 : G ≤ 6 := hR.1.2
  have hT8 : T ≤ 8 := hR.2.1.2
  have hZ6 : ∀ q, q < 6 → xsz (g 74 q) 60 := fun q h => (hZ q h).elim Or.inl (fun ⟨n, a1, a2⟩ => Or.inr ⟨n, by omega, a2⟩)
  have hY6 : ∀ q, q < 4 → xsz (g 76 q) 60 := fun q h => by rw [(hYr q h).1]; exact hY q h
  have hK6 : ∀ q, q < 3 → xsz (g 86 q) 60 := fun q h => by
    rw [(hKr q h).1]
    rcases hK q h with z | ⟨n, z1, z2, _⟩
    · exact Or.inl z
    · exact Or.inr ⟨n, by omega, z2⟩
  by_cases hx : 1 ≤ x ∧ x ≤ 3
  · obtain ⟨n, hn, rfl⟩ := xinl (n := 3) (by omega) ⟨Int32.le_trans (by decide) hx.1, hx.2⟩
    have h0 : 0 < n := (nI_leI (a := 1) (by omega) (by omega)).mp hx.1
    by_cases hg : g 73 10 = 0
    · exact xRo.mk (c_X12_picks_state hn h0 hg) (xAg_r b g)
    · exact (c_X12_picks_ok hR hn h0 hg).weak (fun r M w => by obtain ⟨g1, e2, e1, e3⟩ := w; exact ⟨_, _, _, e3, e1, xAg_Fr e2⟩)
  · exact xRo.mk (c_X12_picks_bad hx) (xAg_r b g)

theorem q_asked (hI : xIc b g G T Lw m) (hJ : xIr b g G T Lw m) : xRo Value.int 228 [] b g l := by
  obtain ⟨hb, hp, hRm, htx, ⟨_, hm⟩, hDk, hK, hZc, hY⟩ := hI
  obtain ⟨hR, hs, hD, hKr, hQ, hYr⟩ := hJ
  have hZ : ∀ r, r < 6 → xsz (g 74 r) 40 := fun r h => by rw [(hQ r h).1]; exact hZc r h
  have eG : g 73 10 = nI G := hR.1.1
  have hG6 : G ≤ 6 := hR.1.2
  have hT8 : T ≤ 8 := hR.2.1.2
  have hZ6 : ∀ q, q < 6 → xsz (g 74 q) 60 := fun q h => (hZ q h).elim Or.inl (fun ⟨n, a1, a2⟩ => Or.inr ⟨n, by omega, a2⟩)
  have hY6 : ∀ q, q < 4 → xsz (g 76 q) 60 := fun q h => by rw [(hYr q h).1]; exact hY q h
  have hK6 : ∀ q, q < 3 → xsz (g 86 q) 60 := fun q h => by
    rw [(hKr q h).1]
    rcases hK q h with z | ⟨n, z1, z2, _⟩
    · exact Or.inl z
    · exact Or.inr ⟨n, by omega, z2⟩
  exact xRo.mk (c_X12_asked) (xAg_r b g)

theorem q_upper (hI : xIc b g G T Lw m) (hJ : xIr b g G T Lw m) : xRo Value.long 229 [] b g l := by
  obtain ⟨hb, hp, hRm, htx, ⟨_, hm⟩, hDk, hK, hZc, hY⟩ := hI
  obtain ⟨hR, hs, hD, hKr, hQ, hYr⟩ := hJ
  have hZ : ∀ r, r < 6 → xsz (g 74 r) 40 := fun r h => by rw [(hQ r h).1]; exact hZc r h
  have eG : g 73 10 = nI G := hR.1.1
  have hG6 : G ≤ 6 := hR.1.2
  have hT8 : T ≤ 8 := hR.2.1.2
  have hZ6 : ∀ q, q < 6 → xsz (g 74 q) 60 := fun q h => (hZ q h).elim Or.inl (fun ⟨n, a1, a2⟩ => Or.inr ⟨n, by omega, a2⟩)
  have hY6 : ∀ q, q < 4 → xsz (g 76 q) 60 := fun q h => by rw [(hYr q h).1]; exact hY q h
  have hK6 : ∀ q, q < 3 → xsz (g 86 q) 60 := fun q h => by
    rw [(hKr q h).1]
    rcases hK q h with z | ⟨n, z1, z2, _⟩
    · exact Or.inl z
    · exact Or.inr ⟨n, by omega, z2⟩
  exact xRo.mk (c_X12_upper) (xAg_r b g)

theorem q_lower (hI : xIc b g G T Lw m) (hJ : xIr b g G T Lw m) : xRo Value.long 230 [] b g l := by
  obtain ⟨hb, hp, hRm, htx, ⟨_, hm⟩, hDk, hK, hZc, hY⟩ := hI
  obtain ⟨hR, hs, hD, hKr, hQ, hYr⟩ := hJ
  have hZ : ∀ r, r < 6 → xsz (g 74 r) 40 := fun r h => by rw [(hQ r h).1]; exact hZc r h
  have eG : g 73 10 = nI G := hR.1.1
  have hG6 : G ≤ 6 := hR.1.2
  have hT8 : T ≤ 8 := hR.2.1.2
  have hZ6 : ∀ q, q < 6 → xsz (g 74 q) 60 := fun q h => (hZ q h).elim Or.inl (fun ⟨n, a1, a2⟩ => Or.inr ⟨n, by omega, a2⟩)
  have hY6 : ∀ q, q < 4 → xsz (g 76 q) 60 := fun q h => by rw [(hYr q h).1]; exact hY q h
  have hK6 : ∀ q, q < 3 → xsz (g 86 q) 60 := fun q h => by
    rw [(hKr q h).1]
    rcases hK q h with z | ⟨n, z1, z2, _⟩
    · exact Or.inl z
    · exact Or.inr ⟨n, by omega, z2⟩
  exact xRo.mk (c_X12_lower) (xAg_r b g)

theorem q_finding (hI : xIc b g G T Lw m) (hJ : xIr b g G T Lw m) : xRo Value.int 235 [] b g l := by
  obtain ⟨hb, hp, hRm, htx, ⟨_, hm⟩, hDk, hK, hZc, hY⟩ := hI
  obtain ⟨hR, hs, hD, hKr, hQ, hYr⟩ := hJ
  have hZ : ∀ r, r < 6 → xsz (g 74 r) 40 := fun r h => by rw [(hQ r h).1]; exact hZc r h
  have eG : g 73 10 = nI G := hR.1.1
  have hG6 : G ≤ 6 := hR.1.2
  have hT8 : T ≤ 8 := hR.2.1.2
  have hZ6 : ∀ q, q < 6 → xsz (g 74 q) 60 := fun q h => (hZ q h).elim Or.inl (fun ⟨n, a1, a2⟩ => Or.inr ⟨n, by omega, a2⟩)
  have hY6 : ∀ q, q < 4 → xsz (g 76 q) 60 := fun q h => by rw [(hYr q h).1]; exact hY q h
  have hK6 : ∀ q, q < 3 → xsz (g 86 q) 60 := fun q h => by
    rw [(hKr q h).1]
    rcases hK q h with z | ⟨n, z1, z2, _⟩
    · exact Or.inl z
    · exact Or.inr ⟨n, by omega, z2⟩
  exact xRo.mk (c_X12_finding) (xAg_r b g)

theorem q_count (hI : xIc b g G T Lw m) (hJ : xIr b g G T Lw m) : xRo Value.int 234 [.int x] b g l := by
  obtain ⟨hb, hp, hRm, htx, ⟨_, hm⟩, hDk, hK, hZc, hY⟩ := hI
  obtain ⟨hR, hs, hD, hKr, hQ, hYr⟩ := hJ
  have hZ : ∀ r, r < 6 → xsz (g 74 r) 40 := fun r h => by rw [(hQ r h).1]; exact hZc r h
  have eG : g 73 10 = nI G := hR.1.1
  have hG6 : G ≤ 6 := hR.1.2
  have hT8 : T ≤ 8 := hR.2.1.2
  have hZ6 : ∀ q, q < 6 → xsz (g 74 q) 60 := fun q h => (hZ q h).elim Or.inl (fun ⟨n, a1, a2⟩ => Or.inr ⟨n, by omega, a2⟩)
  have hY6 : ∀ q, q < 4 → xsz (g 76 q) 60 := fun q h => by rw [(hYr q h).1]; exact hY q h
  have hK6 : ∀ q, q < 3 → xsz (g 86 q) 60 := fun q h => by
    rw [(hKr q h).1]
    rcases hK q h with z | ⟨n, z1, z2, _⟩
    · exact Or.inl z
    · exact Or.inr ⟨n, by omega, z2⟩
  by_cases hx : 0 ≤ x ∧ x < 9
  · obtain ⟨t, ht, rfl⟩ := xin (n := 9) (by omega) hx
    exact xRo.mk (c_X12_count_ok hR hD hm hs hZ6 hY6 hK6 ht) (xAg_r b g)
  · exact xRo.mk (c_X12_count_bad hx) (xAg_r b g)

theorem q_findings (hI : xIc b g G T Lw m) (hJ : xIr b g G T Lw m) : xRo Value.int 236 [.int x] b g l := by
  obtain ⟨hb, hp, hRm, htx, ⟨_, hm⟩, hDk, hK, hZc, hY⟩ := hI
  obtain ⟨hR, hs, hD, hKr, hQ, hYr⟩ := hJ
  have hZ : ∀ r, r < 6 → xsz (g 74 r) 40 := fun r h => by rw [(hQ r h).1]; exact hZc r h
  have eG : g 73 10 = nI G := hR.1.1
  have hG6 : G ≤ 6 := hR.1.2
  have hT8 : T ≤ 8 := hR.2.1.2
  have hZ6 : ∀ q, q < 6 → xsz (g 74 q) 60 := fun q h => (hZ q h).elim Or.inl (fun ⟨n, a1, a2⟩ => Or.inr ⟨n, by omega, a2⟩)
  have hY6 : ∀ q, q < 4 → xsz (g 76 q) 60 := fun q h => by rw [(hYr q h).1]; exact hY q h
  have hK6 : ∀ q, q < 3 → xsz (g 86 q) 60 := fun q h => by
    rw [(hKr q h).1]
    rcases hK q h with z | ⟨n, z1, z2, _⟩
    · exact Or.inl z
    · exact Or.inr ⟨n, by omega, z2⟩
  by_cases hx : 1 ≤ x ∧ x ≤ 5
  · obtain ⟨t, ht1, ht, rfl⟩ := nI_1le hx
    exact xRo.mk (c_X12_findings_ok ht1 ht) (xAg_r b g)
  · exact xRo.mk (c_X12_findings_bad hx) (xAg_r b g)

theorem q_digest (hI : xIc b g G T Lw m) (hJ : xIr b g G T Lw m) : xRo Value.long 238 [] b g l := by
  obtain ⟨hb, hp, hRm, htx, ⟨_, hm⟩, hDk, hK, hZc, hY⟩ := hI
  obtain ⟨hR, hs, hD, hKr, hQ, hYr⟩ := hJ
  have hZ : ∀ r, r < 6 → xsz (g 74 r) 40 := fun r h => by rw [(hQ r h).1]; exact hZc r h
  have eG : g 73 10 = nI G := hR.1.1
  have hG6 : G ≤ 6 := hR.1.2
  have hT8 : T ≤ 8 := hR.2.1.2
  have hZ6 : ∀ q, q < 6 → xsz (g 74 q) 60 := fun q h => (hZ q h).elim Or.inl (fun ⟨n, a1, a2⟩ => Or.inr ⟨n, by omega, a2⟩)
  have hY6 : ∀ q, q < 4 → xsz (g 76 q) 60 := fun q h => by rw [(hYr q h).1]; exact hY q h
  have hK6 : ∀ q, q < 3 → xsz (g 86 q) 60 := fun q h => by
    rw [(hKr q h).1]
    rcases hK q h with z | ⟨n, z1, z2, _⟩
    · exact Or.inl z
    · exact Or.inr ⟨n, by omega, z2⟩
  exact xRo.mk (c_X12_digest hR hD hm hs hZ6 hY6 hK6 hZ) (xAg_r b g)

end
