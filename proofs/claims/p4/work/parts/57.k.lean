section
/-! what holds between calls -/
def xIc (b : Nat × Nat) (g : Nat → Nat → Int32) (G T : Nat) (Lw : Nat → Nat) (m : Nat) : Prop := (b = (7, 11) ∨ b = (11, 7)) ∧ xpn g ∧ xRm g b.1 G T Lw ∧ (∀ i, i < 2 * T → xstp (g (b.1 + 3) i)) ∧ (g 4 1 = nI m ∧ m ≤ 40) ∧ xDk g (g (b.1 + 1)) (g (b.1 + 3)) T G Lw 5 m ∧ (∀ k, k < 3 → g (67 + 2 * k) 1 = -1 ∨ ∃ n, n ≤ 40 ∧ g (67 + 2 * k) 1 = nI n ∧ xDk g (g (b.1 + 1)) (g (b.1 + 3)) T G Lw (67 + 2 * k + 1) n) ∧ (∀ r, r < 6 → xsz (g (23 + 2 * r) 1) 40) ∧ (∀ r, r < 4 → xsz (g (35 + 2 * r) 1) 60)
def xIr (b : Nat × Nat) (g : Nat → Nat → Int32) (G T : Nat) (Lw : Nat → Nat) (m : Nat) : Prop := xRr g (g (b.1 + 1)) (g (b.1 + 3)) G T Lw ∧ g 73 14 = nI m ∧ xDr g (g (b.1 + 1)) (g (b.1 + 3)) T G Lw (g 5) m ∧ (∀ k, k < 3 → g 86 k = g (67 + 2 * k) 1 ∧ ∀ n, n ≤ 40 → g (67 + 2 * k) 1 = nI n → ∀ d, d < n → g 87 (40 * k + d) = g (67 + 2 * k + 1) (4 * d) ∧ g 88 (40 * k + d) = g (67 + 2 * k + 1) (4 * d + 1)) ∧ (∀ r, r < 6 → g 74 r = g (23 + 2 * r) 1 ∧ ∀ n, n ≤ 40 → g (23 + 2 * r) 1 = nI n → ∀ i, i < n → g 75 (40 * r + i) = g (23 + 2 * r + 1) i) ∧ (∀ t, t < 4 → g 76 t = g (35 + 2 * t) 1 ∧ ∀ n, n ≤ 60 → g (35 + 2 * t) 1 = nI n → ∀ i, i < n → g 77 (60 * t + i) = g (35 + 2 * t + 1) i)
def xJ (b : Nat × Nat) (g : Nat → Nat → Int32) : Prop := ∃ G T Lw m, xIc b g G T Lw m ∧ xIr b g G T Lw m
/-- cells that nothing hangs on -/
def xSc (b : Nat × Nat) (c : Nat) : Prop := c = 0 ∨ (15 ≤ c ∧ c ≤ 22) ∨ (78 ≤ c ∧ c ≤ 80) ∨ 89 ≤ c ∨ (b.2 ≤ c ∧ c ≤ b.2 + 3)
def xSz (c : Nat) : Prop := c = 73
def xAg (b : Nat × Nat) (g g' : Nat → Nat → Int32) : Prop := (∀ a, ¬ xSc b a → ¬ xSz a → g' a = g a) ∧ (g' 73 10 = g 73 10 ∧ g' 73 12 = g 73 12 ∧ g' 73 14 = g 73 14)
section
variable {b : Nat × Nat} {g g' g'' : Nat → Nat → Int32} {G T m : Nat} {Lw : Nat → Nat}
theorem xAg_r (b : Nat × Nat) (g : Nat → Nat → Int32) : xAg b g g := ⟨fun _ _ _ => rfl, ⟨rfl, rfl, rfl⟩⟩
theorem xAg_t (h1 : xAg b g g') (h2 : xAg b g' g'') : xAg b g g'' := ⟨fun a p q => by rw [h2.1 a p q, h1.1 a p q], ⟨by rw [h2.2.1, h1.2.1], by rw [h2.2.2.1, h1.2.2.1], by rw [h2.2.2.2, h1.2.2.2]⟩⟩
/-- scratch alone has changed -/
theorem xAg_s (hb : b.2 = 7 ∨ b.2 = 11) (h : ∀ a, ¬ xSc b a → g' a = g a) : xAg b g g' := by
  have e73 : g' 73 = g 73 := h 73 (by unfold xSc; omega)
  exact ⟨fun a p _ => h a p, by rw [e73]; exact ⟨rfl, rfl, rfl⟩⟩
theorem xAg_u (hb : b.2 = 7 ∨ b.2 = 11) {c i : Nat} {v : Int32} (hc : xSc b c) : xAg b g (up g c i v) := xAg_s hb (fun a ha => up_na (fun z => ha (by rw [z]; exact hc)))
theorem xAg_73 {i : Nat} {v : Int32} (hi : i ≠ 10 ∧ i ≠ 12 ∧ i ≠ 14) : xAg b g (up g 73 i v) := ⟨fun a _ q => up_na (fun z => q z), ⟨up_ne (Or.inr (fun z => hi.1 z.symm)), up_ne (Or.inr (fun z => hi.2.1 z.symm)), up_ne (Or.inr (fun z => hi.2.2 z.symm))⟩⟩
theorem xAg_C (hb : b.2 = 7 ∨ b.2 = 11) (t : Nat) : xAg b g (xfC g t) := xAg_s hb (fun a ha => by
  unfold xfC
  rw [up_na (fun z => ha (by rw [z]; unfold xSc; omega)), up_na (fun z => ha (by rw [z]; unfold xSc; omega))])
theorem xAg_Fr (h : xFr g g') : xAg b g g' := ⟨fun a p q => h.1 a (by unfold xSc at p; omega) q, ⟨h.2 10 (by decide), h.2 12 (by decide), h.2 14 (by decide)⟩⟩
theorem xAg_R (t : Nat) : xAg b g (xfR g t) := xAg_Fr (xFr_fR g t)
theorem xAg_Fp (h : xFp g g') : xAg b g g' := ⟨fun a p q => h.1 a q (by unfold xSc at p; omega) (by unfold xSc at p; omega) (by unfold xSc at p; omega), ⟨h.2 10 (by decide) (by decide) (by decide) (by decide) (by decide), h.2 12 (by decide) (by decide) (by decide) (by decide) (by decide), h.2 14 (by decide) (by decide) (by decide) (by decide) (by decide)⟩⟩
theorem xDk_fr {h tx : Nat → Int32} {a n : Nat} (e : g' a = g a) (hD : xDk g h tx T G Lw a n) : xDk g' h tx T G Lw a n := by
  unfold xDk at hD ⊢
  rw [e]
  exact hD
theorem xb2 (hb : b = (7, 11) ∨ b = (11, 7)) : (b.1 = 7 ∧ b.2 = 11) ∨ (b.1 = 11 ∧ b.2 = 7) := by
  rcases hb with h | h
  · rw [h]; exact Or.inl ⟨rfl, rfl⟩
  · rw [h]; exact Or.inr ⟨rfl, rfl⟩
theorem xro_b (hb : b = (7, 11) ∨ b = (11, 7)) : xro b.1 ∧ xro b.2 := by
  rcases hb with h | h
  · rw [h]; exact ⟨xro_7, xro_11⟩
  · rw [h]; exact ⟨xro_11, xro_7⟩
theorem xIc_ag (hA : xAg b g g') (h : xIc b g G T Lw m) : xIc b g' G T Lw m := by
  obtain ⟨hb, hp, hR, hx, ⟨hs, hm⟩, hD, hK, hZ, hY⟩ := h
  have hq := xb2 hb
  have hn : ∀ a, ¬ xSc b a → ¬ xSz a → g' a = g a := hA.1
  have e1 : g' (b.1 + 1) = g (b.1 + 1) := hn _ (by unfold xSc; omega) (by unfold xSz; omega)
  have e3 : g' (b.1 + 3) = g (b.1 + 3) := hn _ (by unfold xSc; omega) (by unfold xSz; omega)
  refine ⟨hb, xpn_fr (fun i h1 h2 => hn i (by unfold xSc; omega) (by unfold xSz; omega)) hp, xRm_fr (fun i h1 h2 => hn i (by unfold xSc; omega) (by unfold xSz; omega)) hR, by rw [e3]; exact hx, ⟨by rw [hn 4 (by unfold xSc; omega) (by unfold xSz; omega)]; exact hs, hm⟩, by rw [e1, e3]; exact xDk_fr (hn 5 (by unfold xSc; omega) (by unfold xSz; omega)) hD, fun k hk => ?_, fun r hr => by rw [hn (23 + 2 * r) (by unfold xSc; omega) (by unfold xSz; omega)]; exact hZ r hr, fun r hr => by rw [hn (35 + 2 * r) (by unfold xSc; omega) (by unfold xSz; omega)]; exact hY r hr⟩
  rw [hn (67 + 2 * k) (by unfold xSc; omega) (by unfold xSz; omega), e1, e3]
  rcases hK k hk with z | ⟨n, z1, z2, z3⟩
  · exact Or.inl z
  · exact Or.inr ⟨n, z1, z2, xDk_fr (hn (67 + 2 * k + 1) (by unfold xSc; omega) (by unfold xSz; omega)) z3⟩
theorem xIr_ag (hb : b = (7, 11) ∨ b = (11, 7)) (hA : xAg b g g') (h : xIr b g G T Lw m) : xIr b g' G T Lw m := by
  obtain ⟨hR, hs, hD, hK, hZ, hY⟩ := h
  have hq := xb2 hb
  have hn : ∀ a, ¬ xSc b a → ¬ xSz a → g' a = g a := hA.1
  have e1 : g' (b.1 + 1) = g (b.1 + 1) := hn _ (by unfold xSc; omega) (by unfold xSz; omega)
  have e3 : g' (b.1 + 3) = g (b.1 + 3) := hn _ (by unfold xSc; omega) (by unfold xSz; omega)
  have e5 : g' 5 = g 5 := hn _ (by unfold xSc; omega) (by unfold xSz; omega)
  refine ⟨by rw [e1, e3]; exact xRr_fr hA.2.1 hA.2.2.1 (hn _ (by unfold xSc; omega) (by unfold xSz; omega)) (hn _ (by unfold xSc; omega) (by unfold xSz; omega)) (hn _ (by unfold xSc; omega) (by unfold xSz; omega)) hR, by rw [hA.2.2.2]; exact hs, by rw [e1, e3, e5]; exact xDr_fr (hn _ (by unfold xSc; omega) (by unfold xSz; omega)) (hn _ (by unfold xSc; omega) (by unfold xSz; omega)) hD, fun k hk => ?_, fun r hr => ?_, fun t ht => ?_⟩
  · rw [hn 86 (by unfold xSc; omega) (by unfold xSz; omega), hn 87 (by unfold xSc; omega) (by unfold xSz; omega), hn 88 (by unfold xSc; omega) (by unfold xSz; omega), hn (67 + 2 * k) (by unfold xSc; omega) (by unfold xSz; omega), hn (67 + 2 * k + 1) (by unfold xSc; omega) (by unfold xSz; omega)]
    exact hK k hk
  · rw [hn 74 (by unfold xSc; omega) (by unfold xSz; omega), hn 75 (by unfold xSc; omega) (by unfold xSz; omega), hn (23 + 2 * r) (by unfold xSc; omega) (by unfold xSz; omega), hn (23 + 2 * r + 1) (by unfold xSc; omega) (by unfold xSz; omega)]
    exact hZ r hr
  · rw [hn 76 (by unfold xSc; omega) (by unfold xSz; omega), hn 77 (by unfold xSc; omega) (by unfold xSz; omega), hn (35 + 2 * t) (by unfold xSc; omega) (by unfold xSz; omega), hn (35 + 2 * t + 1) (by unfold xSc; omega) (by unfold xSz; omega)]
    exact hY t ht
theorem xJ_ag (hA : xAg b g g') (h : xJ b g) : xJ b g' := by
  obtain ⟨G, T, Lw, m, h1, h2⟩ := h
  exact ⟨G, T, Lw, m, xIc_ag hA h1, xIr_ag h1.1 hA h2⟩
end
/-- a call of the class, of the reference, that leaves all that matters -/
def xCo {α : Type} (kv : α → Value) (mc : Nat) (as : List Value) (b : Nat × Nat) (g : Nat → Nat → Int32) (l : Nat → Nat → Int64) : Prop := xT 10 mc (.ref 0 :: as) (xH b g l) (fun r M => ∃ (v : α) (g1 : Nat → Nat → Int32) (l1 : Nat → Nat → Int64), r = some (kv v) ∧ M = xH b g1 l1 ∧ xAg b g g1)
def xRo {α : Type} (kv : α → Value) (mc : Nat) (as : List Value) (b : Nat × Nat) (g : Nat → Nat → Int32) (l : Nat → Nat → Int64) : Prop := xT 10 mc (.ref 73 :: as) (xH b g l) (fun r M => ∃ (v : α) (g1 : Nat → Nat → Int32) (l1 : Nat → Nat → Int64), r = some (kv v) ∧ M = xH b g1 l1 ∧ xAg b g g1)
/-- both calls, one behind the other -/
def xJ2 {α : Type} (kv : α → Value) (eq : Prop) (mc mr : Nat) (as : List Value) (b : Nat × Nat) (g : Nat → Nat → Int32) (l : Nat → Nat → Int64) : Prop := xT 10 mc (.ref 0 :: as) (xH b g l) (fun r M => ∃ (v : α) (b1 : Nat × Nat) (g1 : Nat → Nat → Int32) (l1 : Nat → Nat → Int64), r = some (kv v) ∧ M = xH b1 g1 l1 ∧ xT 10 mr (.ref 73 :: as) (xH b1 g1 l1) (fun r' M' => ∃ (v' : α) (b2 : Nat × Nat) (g2 : Nat → Nat → Int32) (l2 : Nat → Nat → Int64), r' = some (kv v') ∧ M' = xH b2 g2 l2 ∧ xJ b2 g2 ∧ (eq → v' = v)))
section
variable {b : Nat × Nat} {g X : Nat → Nat → Int32} {l Y : Nat → Nat → Int64} {mc mr : Nat} {as : List Value} {α : Type} {kv : α → Value} {v : α}
theorem xCo.mk (h : xT 10 mc (.ref 0 :: as) (xH b g l) (fun r M => M = xH b X Y ∧ r = some (kv v))) (ha : xAg b g X) : xCo kv mc as b g l := h.weak (fun _ _ z => ⟨v, X, Y, z.2, z.1, ha⟩)
theorem xRo.mk (h : xT 10 mc (.ref 73 :: as) (xH b g l) (fun r M => M = xH b X Y ∧ r = some (kv v))) (ha : xAg b g X) : xRo kv mc as b g l := h.weak (fun _ _ z => ⟨v, X, Y, z.2, z.1, ha⟩)
theorem xJ2.light (hJ : xJ b g) (hc : xCo kv mc as b g l) (hr : ∀ g1 l1, xJ b g1 → xRo kv mr as b g1 l1) : xJ2 kv False mc mr as b g l := hc.weak (fun r M z => by
  obtain ⟨v, g1, l1, e1, e2, hA⟩ := z
  have h1 := xJ_ag hA hJ
  exact ⟨v, b, g1, l1, e1, e2, (hr g1 l1 h1).weak (fun r' M' w => by
    obtain ⟨v', g2, l2, f1, f2, hB⟩ := w
    exact ⟨v', b, g2, l2, f1, f2, xJ_ag hB h1, fun z => z.elim⟩)⟩)
end
theorem xin {n : Nat} {x : Int32} (hn : n < 2 ^ 31) (h : 0 ≤ x ∧ x < nI n) : ∃ t, t < n ∧ x = nI t := by
  obtain ⟨t, ht, e⟩ := nI_of (x := x) (Int32.not_lt.mpr h.1)
  rw [e] at h
  exact ⟨t, (nI_ltI ht hn).mp h.2, e⟩
theorem xinl {n : Nat} {x : Int32} (hn : n < 2 ^ 31) (h : 0 ≤ x ∧ x ≤ nI n) : ∃ t, t ≤ n ∧ x = nI t := by
  obtain ⟨t, ht, e⟩ := nI_of (x := x) (Int32.not_lt.mpr h.1)
  rw [e] at h
  exact ⟨t, (nI_leI ht hn).mp h.2, e⟩
end
section
/-! the class, call by call: all but rows that change, texts, rooms and deeds -/
section
variable {b : Nat × Nat} {g g' : Nat → Nat → Int32} {l : Nat → Nat → Int64} {G T m : Nat} {Lw : Nat → Nat} {x y z i j v : Int32}

theorem xAg_gs (hb : b.2 = 7 ∨ b.2 = 11) {c n : Nat} {S : Nat → Int32} (hc : xSc b c) : xAg b g (gset g c n S) := xAg_s hb (fun a ha => gset_na (fun z => ha (by rw [z]; exact hc)))
theorem xAg_gf (hb : b.2 = 7 ∨ b.2 = 11) {c n : Nat} {v : Int32} (hc : xSc b c) : xAg b g (gfill g c n v) := xAg_s hb (fun a ha => gfill_na (fun z => ha (by rw [z]; exact hc)))
theorem xAg_gc (hb : b.2 = 7 ∨ b.2 = 11) {c si c' di n : Nat} (hc : xSc b c') : xAg b g (gcopy g c si c' di n) := xAg_s hb (fun a ha => gcopy_na (fun z => ha (by rw [z]; exact hc)))
theorem xsz_nI {n N : Nat} (h : n ≤ N) : xsz (nI n) N := Or.inr ⟨n, h, rfl⟩



theorem k_at (hI : xIc b g G T Lw m) : xCo Value.int 80 [.int x, .int i] b g l := by
  obtain ⟨hb, hp, hR, htx, ⟨hs, hm⟩, hD, hK, hZ, hY⟩ := hI
  obtain ⟨hb1, hb2⟩ := xro_b hb
  have hq := xb2 hb
  have hbv : b.1 = 7 ∨ b.1 = 11 := by omega
  have hbw : b.2 = 7 ∨ b.2 = 11 := by omega
  have eG : g b.1 2 = nI G := hR.1.1
  have hG6 : G ≤ 6 := hR.1.2
  have eT : g b.1 4 = nI T := hR.2.1.1
  have hT8 : T ≤ 8 := hR.2.1.2
  by_cases hx : 0 ≤ x ∧ x < 6
  · obtain ⟨p, hp1, rfl⟩ := xin (n := 6) (by omega) hx
    rcases hZ p hp1 with e | ⟨m1, hm1, e⟩
    · exact xCo.mk (c_X11_at_no hp1 e) (xAg_C hbw _)
    · by_cases hi : 0 ≤ i ∧ i < nI m1
      · obtain ⟨t, ht, rfl⟩ := xin (n := m1) (by omega) hi
        exact xCo.mk (c_X11_at_ok hp1 e hm1 ht) (xAg_u hbw (Or.inl rfl))
      · exact xCo.mk (c_X11_at_bey hp1 e hm1 hi) (xAg_C hbw _)
  · exact xCo.mk (c_X11_at_bad hx) (xAg_r b g)



theorem k_mean (hI : xIc b g G T Lw m) : xCo Value.int 83 [.int x] b g l := by
  obtain ⟨hb, hp, hR, htx, ⟨hs, hm⟩, hD, hK, hZ, hY⟩ := hI
  obtain ⟨hb1, hb2⟩ := xro_b hb
  have hq := xb2 hb
  have hbv : b.1 = 7 ∨ b.1 = 11 := by omega
  have hbw : b.2 = 7 ∨ b.2 = 11 := by omega
  have eG : g b.1 2 = nI G := hR.1.1
  have hG6 : G ≤ 6 := hR.1.2
  have eT : g b.1 4 = nI T := hR.2.1.1
  have hT8 : T ≤ 8 := hR.2.1.2
  by_cases hx : 0 ≤ x ∧ x < 6
  · obtain ⟨p, hp1, rfl⟩ := xin (n := 6) (by omega) hx
    rcases hZ p hp1 with e | ⟨m1, hm1, e⟩
    · exact xCo.mk (c_X11_mean_no hp1 e) (xAg_C hbw _)
    · by_cases h0 : m1 = 0
      · subst h0
        exact xCo.mk (c_X11_mean_nought hp1 e) (xAg_C hbw _)
      · exact xCo.mk (c_X11_mean_ok hp1 e hm1 (by omega)) (xAg_u hbw (Or.inl rfl))
  · exact xCo.mk (c_X11_mean_bad hx) (xAg_r b g)

theorem k_fault (hI : xIc b g G T Lw m) : xCo Value.int 86 [.int x] b g l := by
  obtain ⟨hb, hp, hR, htx, ⟨hs, hm⟩, hD, hK, hZ, hY⟩ := hI
  obtain ⟨hb1, hb2⟩ := xro_b hb
  have hq := xb2 hb
  have hbv : b.1 = 7 ∨ b.1 = 11 := by omega
  have hbw : b.2 = 7 ∨ b.2 = 11 := by omega
  have eG : g b.1 2 = nI G := hR.1.1
  have hG6 : G ≤ 6 := hR.1.2
  have eT : g b.1 4 = nI T := hR.2.1.1
  have hT8 : T ≤ 8 := hR.2.1.2
  by_cases hx : 0 ≤ x ∧ x < 4
  · obtain ⟨t, ht, rfl⟩ := xin (n := 4) (by omega) hx
    rcases hY t ht with e | ⟨m1, hm1, e⟩
    · exact xCo.mk (c_X11_fault_no ht e) (xAg_C hbw _)
    · exact (c_X11_fault_ok ht e hm1 rfl hb2 (by omega)).weak (fun r M w => by obtain ⟨g1, e1, e2, e3⟩ := w; exact ⟨_, _, _, e3, e1, xAg_s hbw (fun a ha => e2 a (by unfold xSc at ha; omega) (by unfold xSc at ha; omega) (by unfold xSc at ha; omega) (by unfold xSc at ha; omega))⟩)
  · exact xCo.mk (c_X11_fault_bad hx) (xAg_r b g)

theorem k_glass (hI : xIc b g G T Lw m) : xCo Value.int 88 [.int x, .int y] b g l := by
  obtain ⟨hb, hp, hR, htx, ⟨hs, hm⟩, hD, hK, hZ, hY⟩ := hI
  obtain ⟨hb1, hb2⟩ := xro_b hb
  have hq := xb2 hb
  have hbv : b.1 = 7 ∨ b.1 = 11 := by omega
  have hbw : b.2 = 7 ∨ b.2 = 11 := by omega
  have eG : g b.1 2 = nI G := hR.1.1
  have hG6 : G ≤ 6 := hR.1.2
  have eT : g b.1 4 = nI T := hR.2.1.1
  have hT8 : T ≤ 8 := hR.2.1.2
  by_cases hx : (0 ≤ x ∧ x < g b.1 2) ∧ 0 ≤ y ∧ y ≤ 3
  · obtain ⟨s, hk, rfl⟩ := xin (n := G) (by omega) ⟨hx.1.1, by rw [← eG]; exact hx.1.2⟩
    obtain ⟨t, ht, rfl⟩ := xinl (n := 3) (by omega) hx.2
    exact xCo.mk (c_X11_glass_ok hb1 hR hp hs hm hk (by omega)) (xAg_u hbw (Or.inl rfl))
  · exact xCo.mk (c_X11_glass_bad hb1 hx) (xAg_r b g)

theorem k_mark (hI : xIc b g G T Lw m) : xCo Value.int 89 [.int x, .int y] b g l := by
  obtain ⟨hb, hp, hR, htx, ⟨hs, hm⟩, hD, hK, hZ, hY⟩ := hI
  obtain ⟨hb1, hb2⟩ := xro_b hb
  have hq := xb2 hb
  have hbv : b.1 = 7 ∨ b.1 = 11 := by omega
  have hbw : b.2 = 7 ∨ b.2 = 11 := by omega
  have eG : g b.1 2 = nI G := hR.1.1
  have hG6 : G ≤ 6 := hR.1.2
  have eT : g b.1 4 = nI T := hR.2.1.1
  have hT8 : T ≤ 8 := hR.2.1.2
  by_cases hx : (0 ≤ x ∧ x < g b.1 2) ∧ 1 ≤ y ∧ y ≤ 5
  · obtain ⟨s, hk, rfl⟩ := xin (n := G) (by omega) ⟨hx.1.1, by rw [← eG]; exact hx.1.2⟩
    obtain ⟨t, ht1, ht, rfl⟩ := nI_1le hx.2
    cases hi : xiso (Lw s / 4) (nI t) with
    | false => exact xCo.mk (c_X11_mark_ref hb1 hR hp hs hm hk ht1 ht hi) (xAg_C hbw _)
    | true =>
      rcases (show t = 1 ∨ t = 2 ∨ t = 3 ∨ t = 4 ∨ t = 5 by omega) with rfl | rfl | rfl | rfl | rfl
      · exact xCo.mk (c_X11_mark_1 hb1 hR hp hs hm (xDk_x hD) hk hi) (xAg_r b g)
      · exact xCo.mk (c_X11_mark_2 hb1 hR hp hs hm (xDk_x hD) hk hi) (xAg_r b g)
      · exact xCo.mk (c_X11_mark_3 hb1 hR hp hs hm (xDk_x hD) hk hi) (xAg_r b g)
      · exact xCo.mk (c_X11_mark_4 hb1 hR hp hs hm (xDk_x hD) hk hi) (xAg_r b g)
      · exact xCo.mk (c_X11_mark_5 hb1 hR hp hs hm (xDk_x hD) hk hi) (xAg_r b g)
  · exact xCo.mk (c_X11_mark_bad hb1 hx) (xAg_r b g)

theorem k_habit (hI : xIc b g G T Lw m) : xCo Value.int 90 [.int x] b g l := by
  obtain ⟨hb, hp, hR, htx, ⟨hs, hm⟩, hD, hK, hZ, hY⟩ := hI
  obtain ⟨hb1, hb2⟩ := xro_b hb
  have hq := xb2 hb
  have hbv : b.1 = 7 ∨ b.1 = 11 := by omega
  have hbw : b.2 = 7 ∨ b.2 = 11 := by omega
  have eG : g b.1 2 = nI G := hR.1.1
  have hG6 : G ≤ 6 := hR.1.2
  have eT : g b.1 4 = nI T := hR.2.1.1
  have hT8 : T ≤ 8 := hR.2.1.2
  by_cases hx : 0 ≤ x ∧ x < 6
  · obtain ⟨t, ht, rfl⟩ := xin (n := 6) (by omega) hx
    exact xCo.mk (c_X11_habit_ok hb1 ht) (xAg_r b g)
  · exact xCo.mk (c_X11_habit_bad hx) (xAg_r b g)

theorem k_term (hI : xIc b g G T Lw m) : xCo Value.int 91 [.int x, .int y] b g l := by
  obtain ⟨hb, hp, hR, htx, ⟨hs, hm⟩, hD, hK, hZ, hY⟩ := hI
  obtain ⟨hb1, hb2⟩ := xro_b hb
  have hq := xb2 hb
  have hbv : b.1 = 7 ∨ b.1 = 11 := by omega
  have hbw : b.2 = 7 ∨ b.2 = 11 := by omega
  have eG : g b.1 2 = nI G := hR.1.1
  have hG6 : G ≤ 6 := hR.1.2
  have eT : g b.1 4 = nI T := hR.2.1.1
  have hT8 : T ≤ 8 := hR.2.1.2
  by_cases hx : (0 ≤ x ∧ x < g b.1 4) ∧ 0 ≤ y ∧ y ≤ 1
  · obtain ⟨d, hd, rfl⟩ := xin (n := T) (by omega) ⟨hx.1.1, by rw [← eT]; exact hx.1.2⟩
    obtain ⟨t, ht, rfl⟩ := xinl (n := 1) (by omega) hx.2
    exact xCo.mk (c_X11_term_ok hb1 hR hp hd (by omega)) (xAg_r b g)
  · exact xCo.mk (c_X11_term_bad hb1 hx) (xAg_r b g)

theorem k_deed (hI : xIc b g G T Lw m) : xCo Value.int 93 [.int x, .int y] b g l := by
  obtain ⟨hb, hp, hR, htx, ⟨hs, hm⟩, hD, hK, hZ, hY⟩ := hI
  obtain ⟨hb1, hb2⟩ := xro_b hb
  have hq := xb2 hb
  have hbv : b.1 = 7 ∨ b.1 = 11 := by omega
  have hbw : b.2 = 7 ∨ b.2 = 11 := by omega
  have eG : g b.1 2 = nI G := hR.1.1
  have hG6 : G ≤ 6 := hR.1.2
  have eT : g b.1 4 = nI T := hR.2.1.1
  have hT8 : T ≤ 8 := hR.2.1.2
  by_cases hx : (0 ≤ x ∧ x < g 4 1) ∧ 0 ≤ y ∧ y ≤ 3
  · obtain ⟨d, hd, rfl⟩ := xin (n := m) (by omega) ⟨hx.1.1, by rw [← hs]; exact hx.1.2⟩
    obtain ⟨t, ht, rfl⟩ := xinl (n := 3) (by omega) hx.2
    exact xCo.mk (c_X11_deed_ok hs hm hd (by omega)) (xAg_u hbw (Or.inl rfl))
  · exact xCo.mk (c_X11_deed_bad hx) (xAg_r b g)

theorem k_broken (hI : xIc b g G T Lw m) : xCo Value.int 94 [] b g l := by
  obtain ⟨hb, hp, hR, htx, ⟨hs, hm⟩, hD, hK, hZ, hY⟩ := hI
  obtain ⟨hb1, hb2⟩ := xro_b hb
  have hq := xb2 hb
  have hbv : b.1 = 7 ∨ b.1 = 11 := by omega
  have hbw : b.2 = 7 ∨ b.2 = 11 := by omega
  have eG : g b.1 2 = nI G := hR.1.1
  have hG6 : G ≤ 6 := hR.1.2
  have eT : g b.1 4 = nI T := hR.2.1.1
  have hT8 : T ≤ 8 := hR.2.1.2
  exact xCo.mk (c_X11_broken_ok hs hm) (xAg_u hbw (Or.inl rfl))

theorem k_breaks (hI : xIc b g G T Lw m) : xCo Value.int 99 [.int x, .int y] b g l := by
  obtain ⟨hb, hp, hR, htx, ⟨hs, hm⟩, hD, hK, hZ, hY⟩ := hI
  obtain ⟨hb1, hb2⟩ := xro_b hb
  have hq := xb2 hb
  have hbv : b.1 = 7 ∨ b.1 = 11 := by omega
  have hbw : b.2 = 7 ∨ b.2 = 11 := by omega
  have eG : g b.1 2 = nI G := hR.1.1
  have hG6 : G ≤ 6 := hR.1.2
  have eT : g b.1 4 = nI T := hR.2.1.1
  have hT8 : T ≤ 8 := hR.2.1.2
  by_cases hx : (0 ≤ x ∧ x < g b.1 2) ∧ 0 ≤ y ∧ y < 6
  · obtain ⟨s, hk, rfl⟩ := xin (n := G) (by omega) ⟨hx.1.1, by rw [← eG]; exact hx.1.2⟩
    obtain ⟨t, ht, rfl⟩ := xin (n := 6) (by omega) hx.2
    by_cases hf : xfos (g (23 + 2 * t) 1) (g (23 + 2 * t + 1)) 12 = 0
    · obtain ⟨m1, e, h12, _, hxs⟩ := xfos_0 (hZ t ht) (by decide) (by decide) hf
      exact xCo.mk (c_X11_breaks_ok hb1 hR hp hk ht e h12 hf hxs) (xAg_u hbw (Or.inl rfl))
    · exact xCo.mk (c_X11_breaks_ref hb1 hR hk ht (hZ t ht) hf) (xAg_C hbw _)
  · exact xCo.mk (c_X11_breaks_bad hb1 hx) (xAg_r b g)

theorem k_alike (hI : xIc b g G T Lw m) : xCo Value.int 100 [.int x, .int y] b g l := by
  obtain ⟨hb, hp, hR, htx, ⟨hs, hm⟩, hD, hK, hZ, hY⟩ := hI
  obtain ⟨hb1, hb2⟩ := xro_b hb
  have hq := xb2 hb
  have hbv : b.1 = 7 ∨ b.1 = 11 := by omega
  have hbw : b.2 = 7 ∨ b.2 = 11 := by omega
  have eG : g b.1 2 = nI G := hR.1.1
  have hG6 : G ≤ 6 := hR.1.2
  have eT : g b.1 4 = nI T := hR.2.1.1
  have hT8 : T ≤ 8 := hR.2.1.2
  by_cases hx : (0 ≤ x ∧ x < g b.1 2) ∧ 0 ≤ y ∧ y < 6
  · obtain ⟨s, hk, rfl⟩ := xin (n := G) (by omega) ⟨hx.1.1, by rw [← eG]; exact hx.1.2⟩
    obtain ⟨t, ht, rfl⟩ := xin (n := 6) (by omega) hx.2
    by_cases hf : xfos (g (23 + 2 * t) 1) (g (23 + 2 * t + 1)) 12 = 0
    · obtain ⟨m1, e, h12, _, hxs⟩ := xfos_0 (hZ t ht) (by decide) (by decide) hf
      exact xCo.mk (c_X11_alike_ok hb1 hR hp hk ht e h12 hf hxs) (xAg_r b g)
    · exact xCo.mk (c_X11_alike_ref hb1 hR hk ht (hZ t ht) hf) (xAg_C hbw _)
  · exact xCo.mk (c_X11_alike_bad hb1 hx) (xAg_r b g)

theorem k_ways (hI : xIc b g G T Lw m) : xCo Value.int 102 [.int x, .int y] b g l := by
  obtain ⟨hb, hp, hR, htx, ⟨hs, hm⟩, hD, hK, hZ, hY⟩ := hI
  obtain ⟨hb1, hb2⟩ := xro_b hb
  have hq := xb2 hb
  have hbv : b.1 = 7 ∨ b.1 = 11 := by omega
  have hbw : b.2 = 7 ∨ b.2 = 11 := by omega
  have eG : g b.1 2 = nI G := hR.1.1
  have hG6 : G ≤ 6 := hR.1.2
  have eT : g b.1 4 = nI T := hR.2.1.1
  have hT8 : T ≤ 8 := hR.2.1.2
  by_cases hx : (0 ≤ x ∧ x < g b.1 2) ∧ 0 ≤ y ∧ y < 6
  · obtain ⟨s, hk, rfl⟩ := xin (n := G) (by omega) ⟨hx.1.1, by rw [← eG]; exact hx.1.2⟩
    obtain ⟨t, ht, rfl⟩ := xin (n := 6) (by omega) hx.2
    by_cases hf : xfos (g (23 + 2 * t) 1) (g (23 + 2 * t + 1)) 6 = 0
    · obtain ⟨m1, e, h12, _, hxs⟩ := xfos_0 (hZ t ht) (by decide) (by decide) hf
      exact xCo.mk (c_X11_ways_ok hb1 hR hp hbv hk ht e h12 hf hxs) (xAg_gs hbw (by unfold xSc; omega))
    · exact xCo.mk (c_X11_ways_ref hb1 hR hk ht (hZ t ht) hf) (xAg_C hbw _)
  · exact xCo.mk (c_X11_ways_bad hb1 hx) (xAg_r b g)



theorem k_can (hI : xIc b g G T Lw m) : xCo Value.int 104 [.int x, .int y, .int z] b g l := by
  obtain ⟨hb, hp, hR, htx, ⟨hs, hm⟩, hD, hK, hZ, hY⟩ := hI
  obtain ⟨hb1, hb2⟩ := xro_b hb
  have hq := xb2 hb
  have hbv : b.1 = 7 ∨ b.1 = 11 := by omega
  have hbw : b.2 = 7 ∨ b.2 = 11 := by omega
  have eG : g b.1 2 = nI G := hR.1.1
  have hG6 : G ≤ 6 := hR.1.2
  have eT : g b.1 4 = nI T := hR.2.1.1
  have hT8 : T ≤ 8 := hR.2.1.2
  by_cases hx : (0 ≤ x ∧ x < g b.1 2) ∧ (0 ≤ y ∧ y < 6) ∧ 0 ≤ z
  · obtain ⟨s, hk, rfl⟩ := xin (n := G) (by omega) ⟨hx.1.1, by rw [← eG]; exact hx.1.2⟩
    obtain ⟨t, ht, rfl⟩ := xin (n := 6) (by omega) hx.2.1
    obtain ⟨d, hd31, rfl⟩ := nI_of (Int32.not_lt.mpr hx.2.2)
    by_cases hf : xfos (g (23 + 2 * t) 1) (g (23 + 2 * t + 1)) 6 = 0
    · obtain ⟨m1, e, h12, _, hxs⟩ := xfos_0 (hZ t ht) (by decide) (by decide) hf
      by_cases hd : d < m1
      · exact xCo.mk (c_X11_can_ok hb1 hR hp hbv hk ht e h12 hf hxs hd) (xAg_gs hbw (by unfold xSc; omega))
      · exact xCo.mk (c_X11_can_bad2 hb1 hR hk ht e h12 hf hxs hd31 hd) (xAg_r b g)
    · exact xCo.mk (c_X11_can_ref hb1 hR hk ht (hZ t ht) hd31 hf) (xAg_C hbw _)
  · exact xCo.mk (c_X11_can_bad hb1 hx) (xAg_r b g)

theorem k_odds (hI : xIc b g G T Lw m) : xCo Value.int 112 [.int x, .int y, .int z] b g l := by
  obtain ⟨hb, hp, hR, htx, ⟨hs, hm⟩, hD, hK, hZ, hY⟩ := hI
  obtain ⟨hb1, hb2⟩ := xro_b hb
  have hq := xb2 hb
  have hbv : b.1 = 7 ∨ b.1 = 11 := by omega
  have hbw : b.2 = 7 ∨ b.2 = 11 := by omega
  have eG : g b.1 2 = nI G := hR.1.1
  have hG6 : G ≤ 6 := hR.1.2
  have eT : g b.1 4 = nI T := hR.2.1.1
  have hT8 : T ≤ 8 := hR.2.1.2
  by_cases hx : (0 ≤ x ∧ x < g b.1 2) ∧ (0 ≤ y ∧ y < 6) ∧ 0 ≤ z ∧ z ≤ 12
  · obtain ⟨s, hk, rfl⟩ := xin (n := G) (by omega) ⟨hx.1.1, by rw [← eG]; exact hx.1.2⟩
    obtain ⟨t, ht, rfl⟩ := xin (n := 6) (by omega) hx.2.1
    obtain ⟨e1, he, rfl⟩ := xinl (n := 12) (by omega) hx.2.2
    by_cases hf : xfos (g (23 + 2 * t) 1) (g (23 + 2 * t + 1)) 12 = 0
    · obtain ⟨m1, e, h12, _, hxs⟩ := xfos_0 (hZ t ht) (by decide) (by decide) hf
      exact xCo.mk (c_X11_odds_ok hb1 hR hp hk ht he e h12 hf hxs) (xAg_r b g)
    · exact xCo.mk (c_X11_odds_ref hb1 hR hk ht (hZ t ht) he hf) (xAg_C hbw _)
  · exact xCo.mk (c_X11_odds_bad hb1 hx) (xAg_r b g)

theorem k_mid (hI : xIc b g G T Lw m) : xCo Value.int 113 [.int x, .int y, .int z] b g l := by
  obtain ⟨hb, hp, hR, htx, ⟨hs, hm⟩, hD, hK, hZ, hY⟩ := hI
  obtain ⟨hb1, hb2⟩ := xro_b hb
  have hq := xb2 hb
  have hbv : b.1 = 7 ∨ b.1 = 11 := by omega
  have hbw : b.2 = 7 ∨ b.2 = 11 := by omega
  have eG : g b.1 2 = nI G := hR.1.1
  have hG6 : G ≤ 6 := hR.1.2
  have eT : g b.1 4 = nI T := hR.2.1.1
  have hT8 : T ≤ 8 := hR.2.1.2
  by_cases hx : (0 ≤ x ∧ x < g b.1 2) ∧ (0 ≤ y ∧ y < 6) ∧ 0 ≤ z ∧ z ≤ 12
  · obtain ⟨s, hk, rfl⟩ := xin (n := G) (by omega) ⟨hx.1.1, by rw [← eG]; exact hx.1.2⟩
    obtain ⟨t, ht, rfl⟩ := xin (n := 6) (by omega) hx.2.1
    obtain ⟨e1, he, rfl⟩ := xinl (n := 12) (by omega) hx.2.2
    by_cases hf : xfos (g (23 + 2 * t) 1) (g (23 + 2 * t + 1)) 12 = 0
    · obtain ⟨m1, e, h12, _, hxs⟩ := xfos_0 (hZ t ht) (by decide) (by decide) hf
      exact xCo.mk (c_X11_mid_ok hb1 hR hp hk ht he e h12 hf hxs) (xAg_r b g)
    · exact xCo.mk (c_X11_mid_ref hb1 hR hk ht (hZ t ht) he hf) (xAg_C hbw _)
  · exact xCo.mk (c_X11_mid_bad hb1 hx) (xAg_r b g)

theorem k_he (hI : xIc b g G T Lw m) : xCo Value.int 107 [.int x, .int y, .int z] b g l := by
  obtain ⟨hb, hp, hR, htx, ⟨hs, hm⟩, hD, hK, hZ, hY⟩ := hI
  obtain ⟨hb1, hb2⟩ := xro_b hb
  have hq := xb2 hb
  have hbv : b.1 = 7 ∨ b.1 = 11 := by omega
  have hbw : b.2 = 7 ∨ b.2 = 11 := by omega
  have eG : g b.1 2 = nI G := hR.1.1
  have hG6 : G ≤ 6 := hR.1.2
  have eT : g b.1 4 = nI T := hR.2.1.1
  have hT8 : T ≤ 8 := hR.2.1.2
  by_cases hx : (0 ≤ x ∧ x < g b.1 2) ∧ (0 ≤ y ∧ y < 6) ∧ 0 ≤ z ∧ z < 6
  · obtain ⟨s, hk, rfl⟩ := xin (n := G) (by omega) ⟨hx.1.1, by rw [← eG]; exact hx.1.2⟩
    obtain ⟨t, ht, rfl⟩ := xin (n := 6) (by omega) hx.2.1
    obtain ⟨p, hp1, rfl⟩ := xin (n := 6) (by omega) hx.2.2
    by_cases hf : xfop (g (23 + 2 * t) 1) (g (23 + 2 * t + 1)) (g (23 + 2 * p) 1) (g (23 + 2 * p + 1)) 12 = 0
    · obtain ⟨f1, f2, f3⟩ := xfop_0 hf
      obtain ⟨m1, e, h12, _, hxs⟩ := xfos_0 (hZ t ht) (by decide) (by decide) f1
      obtain ⟨m2, e2, _, h40, hxs2⟩ := xfos_0 (hZ p hp1) (by decide) (by decide) f2
      obtain rfl : m1 = m2 := nI_inj (by omega) (by omega) (by rw [← e, f3, e2])
      exact xCo.mk (c_X11_he_ok hb1 hR hp hk ht hp1 e e2 h12 hf hxs hxs2) (xAg_u hbw (Or.inl rfl))
    · exact xCo.mk (c_X11_he_ref hb1 hR hk ht (hZ t ht) hp1 (hZ p hp1) hf) (xAg_C hbw _)
  · exact xCo.mk (c_X11_he_bad hb1 hx) (xAg_r b g)

theorem k_fit (hI : xIc b g G T Lw m) : xCo Value.int 101 [.int x, .int y] b g l := by
  obtain ⟨hb, hp, hR, htx, ⟨hs, hm⟩, hD, hK, hZ, hY⟩ := hI
  obtain ⟨hb1, hb2⟩ := xro_b hb
  have hq := xb2 hb
  have hbv : b.1 = 7 ∨ b.1 = 11 := by omega
  have hbw : b.2 = 7 ∨ b.2 = 11 := by omega
  have eG : g b.1 2 = nI G := hR.1.1
  have hG6 : G ≤ 6 := hR.1.2
  have eT : g b.1 4 = nI T := hR.2.1.1
  have hT8 : T ≤ 8 := hR.2.1.2
  by_cases hx : (0 ≤ x ∧ x < 6) ∧ 0 ≤ y ∧ y < 6
  · obtain ⟨t, ht, rfl⟩ := xin (n := 6) (by omega) hx.1
    obtain ⟨p, hp1, rfl⟩ := xin (n := 6) (by omega) hx.2
    by_cases hf : xfop (g (23 + 2 * t) 1) (g (23 + 2 * t + 1)) (g (23 + 2 * p) 1) (g (23 + 2 * p + 1)) 12 = 0
    · obtain ⟨f1, f2, f3⟩ := xfop_0 hf
      obtain ⟨m1, e, h12, _, hxs⟩ := xfos_0 (hZ t ht) (by decide) (by decide) f1
      obtain ⟨m2, e2, _, h40, hxs2⟩ := xfos_0 (hZ p hp1) (by decide) (by decide) f2
      obtain rfl : m1 = m2 := nI_inj (by omega) (by omega) (by rw [← e, f3, e2])
      exact xCo.mk (c_X11_fit_ok ht hp1 e e2 h12 hf hxs hxs2) (xAg_u hbw (Or.inl rfl))
    · exact xCo.mk (c_X11_fit_ref ht (hZ t ht) hp1 (hZ p hp1) hf) (xAg_C hbw _)
  · exact xCo.mk (c_X11_fit_bad hx) (xAg_r b g)

theorem k_laws (hI : xIc b g G T Lw m) : xCo Value.int 105 [.int x, .int y] b g l := by
  obtain ⟨hb, hp, hR, htx, ⟨hs, hm⟩, hD, hK, hZ, hY⟩ := hI
  obtain ⟨hb1, hb2⟩ := xro_b hb
  have hq := xb2 hb
  have hbv : b.1 = 7 ∨ b.1 = 11 := by omega
  have hbw : b.2 = 7 ∨ b.2 = 11 := by omega
  have eG : g b.1 2 = nI G := hR.1.1
  have hG6 : G ≤ 6 := hR.1.2
  have eT : g b.1 4 = nI T := hR.2.1.1
  have hT8 : T ≤ 8 := hR.2.1.2
  by_cases hx : (0 ≤ x ∧ x < 6) ∧ 0 ≤ y ∧ y < 6
  · obtain ⟨t, ht, rfl⟩ := xin (n := 6) (by omega) hx.1
    obtain ⟨p, hp1, rfl⟩ := xin (n := 6) (by omega) hx.2
    by_cases hf : xfop (g (23 + 2 * t) 1) (g (23 + 2 * t + 1)) (g (23 + 2 * p) 1) (g (23 + 2 * p + 1)) 12 = 0
    · obtain ⟨f1, f2, f3⟩ := xfop_0 hf
      obtain ⟨m1, e, h12, _, hxs⟩ := xfos_0 (hZ t ht) (by decide) (by decide) f1
      obtain ⟨m2, e2, _, h40, hxs2⟩ := xfos_0 (hZ p hp1) (by decide) (by decide) f2
      obtain rfl : m1 = m2 := nI_inj (by omega) (by omega) (by rw [← e, f3, e2])
      exact xCo.mk (c_X11_laws_ok hb1 hR hp ht hp1 e e2 h12 hf hxs hxs2) (xAg_r b g)
    · exact xCo.mk (c_X11_laws_ref ht (hZ t ht) hp1 (hZ p hp1) hf) (xAg_C hbw _)
  · exact xCo.mk (c_X11_laws_bad hx) (xAg_r b g)

theorem k_next (hI : xIc b g G T Lw m) : xCo Value.int 106 [.int x, .int y] b g l := by
  obtain ⟨hb, hp, hR, htx, ⟨hs, hm⟩, hD, hK, hZ, hY⟩ := hI
  obtain ⟨hb1, hb2⟩ := xro_b hb
  have hq := xb2 hb
  have hbv : b.1 = 7 ∨ b.1 = 11 := by omega
  have hbw : b.2 = 7 ∨ b.2 = 11 := by omega
  have eG : g b.1 2 = nI G := hR.1.1
  have hG6 : G ≤ 6 := hR.1.2
  have eT : g b.1 4 = nI T := hR.2.1.1
  have hT8 : T ≤ 8 := hR.2.1.2
  by_cases hx : (0 ≤ x ∧ x < 6) ∧ 0 ≤ y ∧ y < 6
  · obtain ⟨t, ht, rfl⟩ := xin (n := 6) (by omega) hx.1
    obtain ⟨p, hp1, rfl⟩ := xin (n := 6) (by omega) hx.2
    by_cases hf : xfop (g (23 + 2 * t) 1) (g (23 + 2 * t + 1)) (g (23 + 2 * p) 1) (g (23 + 2 * p + 1)) 11 = 0
    · obtain ⟨f1, f2, f3⟩ := xfop_0 hf
      obtain ⟨m1, e, h12, _, hxs⟩ := xfos_0 (hZ t ht) (by decide) (by decide) f1
      obtain ⟨m2, e2, _, h40, hxs2⟩ := xfos_0 (hZ p hp1) (by decide) (by decide) f2
      obtain rfl : m1 = m2 := nI_inj (by omega) (by omega) (by rw [← e, f3, e2])
      by_cases hbc : xbc (xbits (fun j => decide (xfst (fun i => !decide (xshw (g (b.1 + 1)) (j / 4) (j % 4) (fun i => xN (g (23 + 2 * t + 1) i)) i = g (23 + 2 * p + 1) i)) m1 = none)) 24) < 2
      · exact xCo.mk (c_X11_next_none hb1 hR hp ht hp1 e e2 h12 hf hxs hxs2 hbc) (xAg_r b g)
      · exact (c_X11_next_ok hb1 hR hp hbv ht hp1 e e2 h12 hf hxs hxs2 hbc).weak (fun r M w => by obtain ⟨S, ⟨e1, _, _⟩, e3, e4⟩ := w; exact ⟨_, _, _, e4, e3, xAg_t (xAg_s hbw (fun a ha => e1 a (by unfold xSc at ha; omega) (by unfold xSc at ha; omega) (by unfold xSc at ha; omega))) (xAg_u hbw (Or.inl rfl))⟩)
    · exact xCo.mk (c_X11_next_ref ht (hZ t ht) hp1 (hZ p hp1) hf) (xAg_C hbw _)
  · exact xCo.mk (c_X11_next_bad hx) (xAg_r b g)

theorem k_keeps (hI : xIc b g G T Lw m) : xCo Value.int 108 [.int x, .int y] b g l := by
  obtain ⟨hb, hp, hR, htx, ⟨hs, hm⟩, hD, hK, hZ, hY⟩ := hI
  obtain ⟨hb1, hb2⟩ := xro_b hb
  have hq := xb2 hb
  have hbv : b.1 = 7 ∨ b.1 = 11 := by omega
  have hbw : b.2 = 7 ∨ b.2 = 11 := by omega
  have eG : g b.1 2 = nI G := hR.1.1
  have hG6 : G ≤ 6 := hR.1.2
  have eT : g b.1 4 = nI T := hR.2.1.1
  have hT8 : T ≤ 8 := hR.2.1.2
  by_cases hx : (0 ≤ x ∧ x < nI G) ∧ 0 ≤ y ∧ y ≤ 5
  · obtain ⟨s, hk, rfl⟩ := xin (n := G) (by omega) hx.1
    obtain ⟨n, hn, rfl⟩ := xinl (n := 5) (by omega) hx.2
    exact (c_X11_keeps_ok hb1 (by omega) hR hp hk hn).weak (fun r M w => by obtain ⟨g1, e1, e2, e3⟩ := w; exact ⟨_, _, _, e3, e1, xAg_t (xAg_s hbw (fun a ha => e2 a (by unfold xSc at ha; omega) (by unfold xSc at ha; omega) (by unfold xSc at ha; omega))) (xAg_u hbw (Or.inl rfl))⟩)
  · exact xCo.mk (c_X11_keeps_bad hb1 hR hx) (xAg_r b g)

theorem k_still (hI : xIc b g G T Lw m) : xCo Value.int 109 [.int x, .int y] b g l := by
  obtain ⟨hb, hp, hR, htx, ⟨hs, hm⟩, hD, hK, hZ, hY⟩ := hI
  obtain ⟨hb1, hb2⟩ := xro_b hb
  have hq := xb2 hb
  have hbv : b.1 = 7 ∨ b.1 = 11 := by omega
  have hbw : b.2 = 7 ∨ b.2 = 11 := by omega
  have eG : g b.1 2 = nI G := hR.1.1
  have hG6 : G ≤ 6 := hR.1.2
  have eT : g b.1 4 = nI T := hR.2.1.1
  have hT8 : T ≤ 8 := hR.2.1.2
  by_cases hx : (0 ≤ x ∧ x < nI G) ∧ 0 ≤ y ∧ y ≤ 5
  · obtain ⟨s, hk, rfl⟩ := xin (n := G) (by omega) hx.1
    obtain ⟨n, hn, rfl⟩ := xinl (n := 5) (by omega) hx.2
    exact (c_X11_still_ok hb1 (by omega) hR hp hk hn).weak (fun r M w => by obtain ⟨g1, e1, e2, e3⟩ := w; exact ⟨_, _, _, e3, e1, xAg_s hbw (fun a ha => e2 a (by unfold xSc at ha; omega) (by unfold xSc at ha; omega) (by unfold xSc at ha; omega))⟩)
  · exact xCo.mk (c_X11_still_bad hb1 hR hx) (xAg_r b g)

theorem k_game (hI : xIc b g G T Lw m) : xCo Value.int 110 [.int x] b g l := by
  obtain ⟨hb, hp, hR, htx, ⟨hs, hm⟩, hD, hK, hZ, hY⟩ := hI
  obtain ⟨hb1, hb2⟩ := xro_b hb
  have hq := xb2 hb
  have hbv : b.1 = 7 ∨ b.1 = 11 := by omega
  have hbw : b.2 = 7 ∨ b.2 = 11 := by omega
  have eG : g b.1 2 = nI G := hR.1.1
  have hG6 : G ≤ 6 := hR.1.2
  have eT : g b.1 4 = nI T := hR.2.1.1
  have hT8 : T ≤ 8 := hR.2.1.2
  by_cases hx : 0 ≤ x ∧ x ≤ 3
  · obtain ⟨n, hn, rfl⟩ := xinl (n := 3) (by omega) hx
    by_cases hg : g b.1 2 = 0
    · exact xCo.mk (c_X11_game_state hb1 hn hg) (xAg_r b g)
    · by_cases h0 : n = 0
      · subst h0
        exact xCo.mk (c_X11_game_zero hb1 hg) (xAg_r b g)
      · exact (c_X11_game_ok hb1 hR hp hbv hn (by omega) hg).weak (fun r M w => by obtain ⟨g1, e2, e1, e3⟩ := w; exact ⟨_, _, _, e3, e1, xAg_s hbw (fun a ha => e2 a (by unfold xSc at ha; omega) (by unfold xSc at ha; omega))⟩)
  · exact xCo.mk (c_X11_game_bad hx) (xAg_r b g)

theorem k_picks (hI : xIc b g G T Lw m) : xCo Value.int 111 [.int x] b g l := by
  obtain ⟨hb, hp, hR, htx, ⟨hs, hm⟩, hD, hK, hZ, hY⟩ := hI
  obtain ⟨hb1, hb2⟩ := xro_b hb
  have hq := xb2 hb
  have hbv : b.1 = 7 ∨ b.1 = 11 := by omega
  have hbw : b.2 = 7 ∨ b.2 = 11 := by omega
  have eG : g b.1 2 = nI G := hR.1.1
  have hG6 : G ≤ 6 := hR.1.2
  have eT : g b.1 4 = nI T := hR.2.1.1
  have hT8 : T ≤ 8 := hR.2.1.2
  by_cases hx : 1 ≤ x ∧ x ≤ 3
  · obtain ⟨n, hn, rfl⟩ := xinl (n := 3) (by omega) ⟨Int32.le_trans (by decide) hx.1, hx.2⟩
    have h0 : 0 < n := (nI_leI (a := 1) (by omega) (by omega)).mp hx.1
    by_cases hg : g b.1 2 = 0
    · exact xCo.mk (c_X11_picks_state hb1 hn h0 hg) (xAg_r b g)
    · exact (c_X11_picks_ok hb1 hR hp hbv hn h0 hg).weak (fun r M w => by obtain ⟨g1, e2, e1, e3⟩ := w; exact ⟨_, _, _, e3, e1, xAg_s hbw (fun a ha => e2 a (by unfold xSc at ha; omega) (by unfold xSc at ha; omega))⟩)
  · exact xCo.mk (c_X11_picks_bad hx) (xAg_r b g)

theorem k_asked (hI : xIc b g G T Lw m) : xCo Value.int 115 [] b g l := by
  obtain ⟨hb, hp, hR, htx, ⟨hs, hm⟩, hD, hK, hZ, hY⟩ := hI
  obtain ⟨hb1, hb2⟩ := xro_b hb
  have hq := xb2 hb
  have hbv : b.1 = 7 ∨ b.1 = 11 := by omega
  have hbw : b.2 = 7 ∨ b.2 = 11 := by omega
  have eG : g b.1 2 = nI G := hR.1.1
  have hG6 : G ≤ 6 := hR.1.2
  have eT : g b.1 4 = nI T := hR.2.1.1
  have hT8 : T ≤ 8 := hR.2.1.2
  exact xCo.mk (c_X11_asked) (xAg_r b g)

theorem k_upper (hI : xIc b g G T Lw m) : xCo Value.long 116 [] b g l := by
  obtain ⟨hb, hp, hR, htx, ⟨hs, hm⟩, hD, hK, hZ, hY⟩ := hI
  obtain ⟨hb1, hb2⟩ := xro_b hb
  have hq := xb2 hb
  have hbv : b.1 = 7 ∨ b.1 = 11 := by omega
  have hbw : b.2 = 7 ∨ b.2 = 11 := by omega
  have eG : g b.1 2 = nI G := hR.1.1
  have hG6 : G ≤ 6 := hR.1.2
  have eT : g b.1 4 = nI T := hR.2.1.1
  have hT8 : T ≤ 8 := hR.2.1.2
  exact xCo.mk (c_X11_upper) (xAg_r b g)

theorem k_lower (hI : xIc b g G T Lw m) : xCo Value.long 117 [] b g l := by
  obtain ⟨hb, hp, hR, htx, ⟨hs, hm⟩, hD, hK, hZ, hY⟩ := hI
  obtain ⟨hb1, hb2⟩ := xro_b hb
  have hq := xb2 hb
  have hbv : b.1 = 7 ∨ b.1 = 11 := by omega
  have hbw : b.2 = 7 ∨ b.2 = 11 := by omega
  have eG : g b.1 2 = nI G := hR.1.1
  have hG6 : G ≤ 6 := hR.1.2
  have eT : g b.1 4 = nI T := hR.2.1.1
  have hT8 : T ≤ 8 := hR.2.1.2
  exact xCo.mk (c_X11_lower) (xAg_r b g)

theorem k_finding (hI : xIc b g G T Lw m) : xCo Value.int 119 [] b g l := by
  obtain ⟨hb, hp, hR, htx, ⟨hs, hm⟩, hD, hK, hZ, hY⟩ := hI
  obtain ⟨hb1, hb2⟩ := xro_b hb
  have hq := xb2 hb
  have hbv : b.1 = 7 ∨ b.1 = 11 := by omega
  have hbw : b.2 = 7 ∨ b.2 = 11 := by omega
  have eG : g b.1 2 = nI G := hR.1.1
  have hG6 : G ≤ 6 := hR.1.2
  have eT : g b.1 4 = nI T := hR.2.1.1
  have hT8 : T ≤ 8 := hR.2.1.2
  exact xCo.mk (c_X11_finding) (xAg_r b g)

theorem k_count (hI : xIc b g G T Lw m) : xCo Value.int 118 [.int x] b g l := by
  obtain ⟨hb, hp, hR, htx, ⟨hs, hm⟩, hD, hK, hZ, hY⟩ := hI
  obtain ⟨hb1, hb2⟩ := xro_b hb
  have hq := xb2 hb
  have hbv : b.1 = 7 ∨ b.1 = 11 := by omega
  have hbw : b.2 = 7 ∨ b.2 = 11 := by omega
  have eG : g b.1 2 = nI G := hR.1.1
  have hG6 : G ≤ 6 := hR.1.2
  have eT : g b.1 4 = nI T := hR.2.1.1
  have hT8 : T ≤ 8 := hR.2.1.2
  by_cases hx : 0 ≤ x ∧ x < 9
  · obtain ⟨t, ht, rfl⟩ := xin (n := 9) (by omega) hx
    exact xCo.mk (c_X11_count hb1 hR hp hs hm ht) (xAg_r b g)
  · exact xCo.mk (c_X11_count_bad hx) (xAg_r b g)

theorem k_findings (hI : xIc b g G T Lw m) : xCo Value.int 120 [.int x] b g l := by
  obtain ⟨hb, hp, hR, htx, ⟨hs, hm⟩, hD, hK, hZ, hY⟩ := hI
  obtain ⟨hb1, hb2⟩ := xro_b hb
  have hq := xb2 hb
  have hbv : b.1 = 7 ∨ b.1 = 11 := by omega
  have hbw : b.2 = 7 ∨ b.2 = 11 := by omega
  have eG : g b.1 2 = nI G := hR.1.1
  have hG6 : G ≤ 6 := hR.1.2
  have eT : g b.1 4 = nI T := hR.2.1.1
  have hT8 : T ≤ 8 := hR.2.1.2
  by_cases hx : 1 ≤ x ∧ x ≤ 5
  · obtain ⟨t, ht1, ht, rfl⟩ := nI_1le hx
    exact xCo.mk (c_X11_findings_ok ht1 ht) (xAg_r b g)
  · exact xCo.mk (c_X11_findings_bad hx) (xAg_r b g)

theorem k_digest (hI : xIc b g G T Lw m) : xCo Value.long 121 [] b g l := by
  obtain ⟨hb, hp, hR, htx, ⟨hs, hm⟩, hD, hK, hZ, hY⟩ := hI
  obtain ⟨hb1, hb2⟩ := xro_b hb
  have hq := xb2 hb
  have hbv : b.1 = 7 ∨ b.1 = 11 := by omega
  have hbw : b.2 = 7 ∨ b.2 = 11 := by omega
  have eG : g b.1 2 = nI G := hR.1.1
  have hG6 : G ≤ 6 := hR.1.2
  have eT : g b.1 4 = nI T := hR.2.1.1
  have hT8 : T ≤ 8 := hR.2.1.2
  exact xCo.mk (c_X11_digest hb1 hR hp hs hm hZ hY) (xAg_r b g)

end
end
section
/-! the reference, call by call: all but texts, rooms and deeds -/
section
variable {b : Nat × Nat} {g g' : Nat → Nat → Int32} {l : Nat → Nat → Int64} {G T m : Nat} {Lw : Nat → Nat} {x y z i j v : Int32}




theorem q_at (hI : xIc b g G T Lw m) (hJ : xIr b g G T Lw m) : xRo Value.int 161 [.int x, .int i] b g l := by
  obtain ⟨hb, hp, hRm, htx, ⟨_, hm⟩, hDk, hK, hZc, hY⟩ := hI
  obtain ⟨hR, hs, hD, hKr, hQ, hYr⟩ := hJ
  have hZ : ∀ r, r < 6 → xsz (g 74 r) 40 := fun r h => by rw [(hQ r h).1]; exact hZc r h
  have eG : g 73 10 = nI G := hR.1.1
  have hG6 : G ≤ 6 := hR.1.2
  have hT8 : T ≤ 8 := hR.2.1.2
  have hZ6 : ∀ q, q < 6 → xsz (g 74 q) 60 := fun q h => (hZ q h).elim Or.inl (fun ⟨n, a1, a2⟩ => Or.inr ⟨n, by omega, a2⟩)
  have hY6 : ∀ q, q < 4 → xsz (g 76 q) 60 := fun q h => by rw [(hYr q h).1]; exact hY q h
  have hK6 : ∀ q, q < 3 → xsz (g 86 q) 60 := fun q h => by
    rw [(hKr q h).1]
    rcases hK q h with z | ⟨n, z1, z2, _⟩
    · exact Or.inl z
    · exact Or.inr ⟨n, by omega, z2⟩
  by_cases hx : 0 ≤ x ∧ x < 6
  · obtain ⟨p, hp1, rfl⟩ := xin (n := 6) (by omega) hx
    rcases hZ p hp1 with e | ⟨m1, hm1, e⟩
    · exact xRo.mk (c_X12_at_no hp1 e) (xAg_R _)
    · by_cases hi : 0 ≤ i ∧ i < nI m1
      · obtain ⟨t, ht, rfl⟩ := xin (n := m1) (by omega) hi
        exact xRo.mk (c_X12_at_ok hp1 e hm1 ht) (xAg_73 (by decide))
      · exact xRo.mk (c_X12_at_bey hp1 e hm1 hi) (xAg_R _)
  · exact xRo.mk (c_X12_at_bad hx) (xAg_r b g)



theorem q_mean (hI : xIc b g G T Lw m) (hJ : xIr b g G T Lw m) : xRo Value.int 165 [.int x] b g l := by
  obtain ⟨hb, hp, hRm, htx, ⟨_, hm⟩, hDk, hK, hZc, hY⟩ := hI
  obtain ⟨hR, hs, hD, hKr, hQ, hYr⟩ := hJ
  have hZ : ∀ r, r < 6 → xsz (g 74 r) 40 := fun r h => by rw [(hQ r h).1]; exact hZc r h
  have eG : g 73 10 = nI G := hR.1.1
  have hG6 : G ≤ 6 := hR.1.2
  have hT8 : T ≤ 8 := hR.2.1.2
  have hZ6 : ∀ q, q < 6 → xsz (g 74 q) 60 := fun q h => (hZ q h).elim Or.inl (fun ⟨n, a1, a2⟩ => Or.inr ⟨n, by omega, a2⟩)
  have hY6 : ∀ q, q < 4 → xsz (g 76 q) 60 := fun q h => by rw [(hYr q h).1]; exact hY q h
  have hK6 : ∀ q, q < 3 → xsz (g 86 q) 60 := fun q h => by
    rw [(hKr q h).1]
    rcases hK q h with z | ⟨n, z1, z2, _⟩
    · exact Or.inl z
    · exact Or.inr ⟨n, by omega, z2⟩
  by_cases hx : 0 ≤ x ∧ x < 6
  · obtain ⟨p, hp1, rfl⟩ := xin (n := 6) (by omega) hx
    rcases hZ p hp1 with e | ⟨m1, hm1, e⟩
    · exact xRo.mk (c_X12_mean_no hp1 e) (xAg_R _)
    · by_cases h0 : m1 = 0
      · subst h0
        exact xRo.mk (c_X12_mean_nought hp1 e) (xAg_R _)
      · exact xRo.mk (c_X12_mean_ok hp1 e hm1 (by omega)) (xAg_73 (by decide))
  · exact xRo.mk (c_X12_mean_bad hx) (xAg_r b g)

theorem q_fault (hI : xIc b g G T Lw m) (hJ : xIr b g G T Lw m) : xRo Value.int 176 [.int x] b g l := by
  obtain ⟨hb, hp, hRm, htx, ⟨_, hm⟩, hDk, hK, hZc, hY⟩ := hI
  obtain ⟨hR, hs, hD, hKr, hQ, hYr⟩ := hJ
  have hZ : ∀ r, r < 6 → xsz (g 74 r) 40 := fun r h => by rw [(hQ r h).1]; exact hZc r h
  have eG : g 73 10 = nI G := hR.1.1
  have hG6 : G ≤ 6 := hR.1.2
  have hT8 : T ≤ 8 := hR.2.1.2
  have hZ6 : ∀ q, q < 6 → xsz (g 74 q) 60 := fun q h => (hZ q h).elim Or.inl (fun ⟨n, a1, a2⟩ => Or.inr ⟨n, by omega, a2⟩)
  have hY6 : ∀ q, q < 4 → xsz (g 76 q) 60 := fun q h => by rw [(hYr q h).1]; exact hY q h
  have hK6 : ∀ q, q < 3 → xsz (g 86 q) 60 := fun q h => by
    rw [(hKr q h).1]
    rcases hK q h with z | ⟨n, z1, z2, _⟩
    · exact Or.inl z
    · exact Or.inr ⟨n, by omega, z2⟩
  by_cases hx : 0 ≤ x ∧ x < 4
  · obtain ⟨t, ht, rfl⟩ := xin (n := 4) (by omega) hx
    rcases hY t ht with e | ⟨m1, hm1, e⟩
    · exact xRo.mk (c_X12_fault_no ht (by rw [(hYr t ht).1]; exact e)) (xAg_R _)
    · exact (c_X12_fault_ok (f := fun i => g 77 (60 * t + i)) ht (by rw [(hYr t ht).1]; exact e) hm1 (fun _ _ => rfl)).weak (fun r M w => by obtain ⟨g1, e1, e2, e3⟩ := w; exact ⟨_, _, _, e3, e1, xAg_Fp e2⟩)
  · exact xRo.mk (c_X12_fault_bad hx) (xAg_r b g)

theorem q_glass (hI : xIc b g G T Lw m) (hJ : xIr b g G T Lw m) : xRo Value.int 187 [.int x, .int y] b g l := by
  obtain ⟨hb, hp, hRm, htx, ⟨_, hm⟩, hDk, hK, hZc, hY⟩ := hI
  obtain ⟨hR, hs, hD, hKr, hQ, hYr⟩ := hJ
  have hZ : ∀ r, r < 6 → xsz (g 74 r) 40 := fun r h => by rw [(hQ r h).1]; exact hZc r h
  have eG : g 73 10 = nI G := hR.1.1
  have hG6 : G ≤ 6 := hR.1.2
  have hT8 : T ≤ 8 := hR.2.1.2
  have hZ6 : ∀ q, q < 6 → xsz (g 74 q) 60 := fun q h => (hZ q h).elim Or.inl (fun ⟨n, a1, a2⟩ => Or.inr ⟨n, by omega, a2⟩)
  have hY6 : ∀ q, q < 4 → xsz (g 76 q) 60 := fun q h => by rw [(hYr q h).1]; exact hY q h
  have hK6 : ∀ q, q < 3 → xsz (g 86 q) 60 := fun q h => by
    rw [(hKr q h).1]
    rcases hK q h with z | ⟨n, z1, z2, _⟩
    · exact Or.inl z
    · exact Or.inr ⟨n, by omega, z2⟩
  by_cases hx : (0 ≤ x ∧ x < nI G) ∧ 0 ≤ y ∧ y ≤ 3
  · obtain ⟨s, hk, rfl⟩ := xin (n := G) (by omega) hx.1
    obtain ⟨t, ht, rfl⟩ := xinl (n := 3) (by omega) hx.2
    rcases (show t = 0 ∨ t = 1 ∨ t = 2 ∨ t = 3 by omega) with rfl | rfl | rfl | rfl
    · exact xRo.mk (c_X12_glass_0 hR hk hD hm hs) (xAg_73 (by decide))
    · exact xRo.mk (c_X12_glass_1 hR hk hD hm hs) (xAg_73 (by decide))
    · exact xRo.mk (c_X12_glass_2 hR hk hD hm hs) (xAg_73 (by decide))
    · exact xRo.mk (c_X12_glass_3 hR hk hD hm hs) (xAg_73 (by decide))
  · exact xRo.mk (c_X12_glass_bad hR hx) (xAg_r b g)

theorem q_mark (hI : xIc b g G T Lw m) (hJ : xIr b g G T Lw m) : xRo Value.int 188 [.int x, .int y] b g l := by
  obtain ⟨hb, hp, hRm, htx, ⟨_, hm⟩, hDk, hK, hZc, hY⟩ := hI
  obtain ⟨hR, hs, hD, hKr, hQ, hYr⟩ := hJ
  have hZ : ∀ r, r < 6 → xsz (g 74 r) 40 := fun r h => by rw [(hQ r h).1]; exact hZc r h
  have eG : g 73 10 = nI G := hR.1.1
  have hG6 : G ≤ 6 := hR.1.2
  have hT8 : T ≤ 8 := hR.2.1.2
  have hZ6 : ∀ q, q < 6 → xsz (g 74 q) 60 := fun q h => (hZ q h).elim Or.inl (fun ⟨n, a1, a2⟩ => Or.inr ⟨n, by omega, a2⟩)
  have hY6 : ∀ q, q < 4 → xsz (g 76 q) 60 := fun q h => by rw [(hYr q h).1]; exact hY q h
  have hK6 : ∀ q, q < 3 → xsz (g 86 q) 60 := fun q h => by
    rw [(hKr q h).1]
    rcases hK q h with z | ⟨n, z1, z2, _⟩
    · exact Or.inl z
    · exact Or.inr ⟨n, by omega, z2⟩
  by_cases hx : (0 ≤ x ∧ x < nI G) ∧ 1 ≤ y ∧ y ≤ 5
  · obtain ⟨s, hk, rfl⟩ := xin (n := G) (by omega) hx.1
    obtain ⟨t, ht1, ht, rfl⟩ := nI_1le hx.2
    cases hi : xiso (Lw s / 4) (nI t) with
    | false => exact xRo.mk (c_X12_mark_ref hR hk ht1 ht hi) (xAg_R _)
    | true =>
      rcases (show t = 1 ∨ t = 2 ∨ t = 3 ∨ t = 4 ∨ t = 5 by omega) with rfl | rfl | rfl | rfl | rfl
      · exact xRo.mk (c_X12_mark_1 hR hD hm hs hk hi) (xAg_r b g)
      · exact xRo.mk (c_X12_mark_2 hR hD hm hs hk hi) (xAg_r b g)
      · exact xRo.mk (c_X12_mark_3 hR hD hm hs hk hi) (xAg_r b g)
      · exact xRo.mk (c_X12_mark_4 hR hD hm hs hk hi) (xAg_r b g)
      · exact xRo.mk (c_X12_mark_5 hR hD hm hs hk hi) (xAg_r b g)
  · exact xRo.mk (c_X12_mark_bad hR hx) (xAg_r b g)

theorem q_habit (hI : xIc b g G T Lw m) (hJ : xIr b g G T Lw m) : xRo Value.int 189 [.int x] b g l := by
  obtain ⟨hb, hp, hRm, htx, ⟨_, hm⟩, hDk, hK, hZc, hY⟩ := hI
  obtain ⟨hR, hs, hD, hKr, hQ, hYr⟩ := hJ
  have hZ : ∀ r, r < 6 → xsz (g 74 r) 40 := fun r h => by rw [(hQ r h).1]; exact hZc r h
  have eG : g 73 10 = nI G := hR.1.1
  have hG6 : G ≤ 6 := hR.1.2
  have hT8 : T ≤ 8 := hR.2.1.2
  have hZ6 : ∀ q, q < 6 → xsz (g 74 q) 60 := fun q h => (hZ q h).elim Or.inl (fun ⟨n, a1, a2⟩ => Or.inr ⟨n, by omega, a2⟩)
  have hY6 : ∀ q, q < 4 → xsz (g 76 q) 60 := fun q h => by rw [(hYr q h).1]; exact hY q h
  have hK6 : ∀ q, q < 3 → xsz (g 86 q) 60 := fun q h => by
    rw [(hKr q h).1]
    rcases hK q h with z | ⟨n, z1, z2, _⟩
    · exact Or.inl z
    · exact Or.inr ⟨n, by omega, z2⟩
  by_cases hx : 0 ≤ x ∧ x < 6
  · obtain ⟨t, ht, rfl⟩ := xin (n := 6) (by omega) hx
    exact xRo.mk (c_X12_habit_ok hR ht) (xAg_r b g)
  · exact xRo.mk (c_X12_habit_bad hx) (xAg_r b g)

theorem q_term (hI : xIc b g G T Lw m) (hJ : xIr b g G T Lw m) : xRo Value.int 190 [.int x, .int y] b g l := by
  obtain ⟨hb, hp, hRm, htx, ⟨_, hm⟩, hDk, hK, hZc, hY⟩ := hI
  obtain ⟨hR, hs, hD, hKr, hQ, hYr⟩ := hJ
  have hZ : ∀ r, r < 6 → xsz (g 74 r) 40 := fun r h => by rw [(hQ r h).1]; exact hZc r h
  have eG : g 73 10 = nI G := hR.1.1
  have hG6 : G ≤ 6 := hR.1.2
  have hT8 : T ≤ 8 := hR.2.1.2
  have hZ6 : ∀ q, q < 6 → xsz (g 74 q) 60 := fun q h => (hZ q h).elim Or.inl (fun ⟨n, a1, a2⟩ => Or.inr ⟨n, by omega, a2⟩)
  have hY6 : ∀ q, q < 4 → xsz (g 76 q) 60 := fun q h => by rw [(hYr q h).1]; exact hY q h
  have hK6 : ∀ q, q < 3 → xsz (g 86 q) 60 := fun q h => by
    rw [(hKr q h).1]
    rcases hK q h with z | ⟨n, z1, z2, _⟩
    · exact Or.inl z
    · exact Or.inr ⟨n, by omega, z2⟩
  by_cases hx : (0 ≤ x ∧ x < nI T) ∧ 0 ≤ y ∧ y ≤ 1
  · obtain ⟨d, hd, rfl⟩ := xin (n := T) (by omega) hx.1
    obtain ⟨t, ht, rfl⟩ := xinl (n := 1) (by omega) hx.2
    exact xRo.mk (c_X12_term_ok hR hd (by omega)) (xAg_r b g)
  · exact xRo.mk (c_X12_term_bad hR hx) (xAg_r b g)

theorem q_deed (hI : xIc b g G T Lw m) (hJ : xIr b g G T Lw m) : xRo Value.int 193 [.int x, .int y] b g l := by
  obtain ⟨hb, hp, hRm, htx, ⟨_, hm⟩, hDk, hK, hZc, hY⟩ := hI
  obtain ⟨hR, hs, hD, hKr, hQ, hYr⟩ := hJ
  have hZ : ∀ r, r < 6 → xsz (g 74 r) 40 := fun r h => by rw [(hQ r h).1]; exact hZc r h
  have eG : g 73 10 = nI G := hR.1.1
  have hG6 : G ≤ 6 := hR.1.2
  have hT8 : T ≤ 8 := hR.2.1.2
  have hZ6 : ∀ q, q < 6 → xsz (g 74 q) 60 := fun q h => (hZ q h).elim Or.inl (fun ⟨n, a1, a2⟩ => Or.inr ⟨n, by omega, a2⟩)
  have hY6 : ∀ q, q < 4 → xsz (g 76 q) 60 := fun q h => by rw [(hYr q h).1]; exact hY q h
  have hK6 : ∀ q, q < 3 → xsz (g 86 q) 60 := fun q h => by
    rw [(hKr q h).1]
    rcases hK q h with z | ⟨n, z1, z2, _⟩
    · exact Or.inl z
    · exact Or.inr ⟨n, by omega, z2⟩
  by_cases hx : (0 ≤ x ∧ x < nI m) ∧ 0 ≤ y ∧ y ≤ 3
  · obtain ⟨d, hd, rfl⟩ := xin (n := m) (by omega) hx.1
    obtain ⟨t, ht, rfl⟩ := xinl (n := 3) (by omega) hx.2
    rcases (show t = 0 ∨ t = 1 ∨ t = 2 ∨ t = 3 by omega) with rfl | rfl | rfl | rfl
    · exact xRo.mk (c_X12_deed_0 hR hD hm hs hd) (xAg_73 (by decide))
    · exact xRo.mk (c_X12_deed_1 hR hD hm hs hd) (xAg_73 (by decide))
    · exact xRo.mk (c_X12_deed_2 hR hD hm hs hd) (xAg_73 (by decide))
    · exact xRo.mk (c_X12_deed_3 hR hD hm hs hd) (xAg_73 (by decide))
  · exact xRo.mk (c_X12_deed_bad hs hm hx) (xAg_r b g)

theorem q_broken (hI : xIc b g G T Lw m) (hJ : xIr b g G T Lw m) : xRo Value.int 195 [] b g l := by
  obtain ⟨hb, hp, hRm, htx, ⟨_, hm⟩, hDk, hK, hZc, hY⟩ := hI
  obtain ⟨hR, hs, hD, hKr, hQ, hYr⟩ := hJ
  have hZ : ∀ r, r < 6 → xsz (g 74 r) 40 := fun r h => by rw [(hQ r h).1]; exact hZc r h
  have eG : g 73 10 = nI G := hR.1.1
  have hG6 : G ≤ 6 := hR.1.2
  have hT8 : T ≤ 8 := hR.2.1.2
  have hZ6 : ∀ q, q < 6 → xsz (g 74 q) 60 := fun q h => (hZ q h).elim Or.inl (fun ⟨n, a1, a2⟩ => Or.inr ⟨n, by omega, a2⟩)
  have hY6 : ∀ q, q < 4 → xsz (g 76 q) 60 := fun q h => by rw [(hYr q h).1]; exact hY q h
  have hK6 : ∀ q, q < 3 → xsz (g 86 q) 60 := fun q h => by
    rw [(hKr q h).1]
    rcases hK q h with z | ⟨n, z1, z2, _⟩
    · exact Or.inl z
    · exact Or.inr ⟨n, by omega, z2⟩
  exact xRo.mk (c_X12_broken hR hD hm hs) (xAg_73 (by decide))

theorem q_breaks (hI : xIc b g G T Lw m) (hJ : xIr b g G T Lw m) : xRo Value.int 204 [.int x, .int y] b g l := by
  obtain ⟨hb, hp, hRm, htx, ⟨_, hm⟩, hDk, hK, hZc, hY⟩ := hI
  obtain ⟨hR, hs, hD, hKr, hQ, hYr⟩ := hJ
  have hZ : ∀ r, r < 6 → xsz (g 74 r) 40 := fun r h => by rw [(hQ r h).1]; exact hZc r h
  have eG : g 73 10 = nI G := hR.1.1
  have hG6 : G ≤ 6 := hR.1.2
  have hT8 : T ≤ 8 := hR.2.1.2
  have hZ6 : ∀ q, q < 6 → xsz (g 74 q) 60 := fun q h => (hZ q h).elim Or.inl (fun ⟨n, a1, a2⟩ => Or.inr ⟨n, by omega, a2⟩)
  have hY6 : ∀ q, q < 4 → xsz (g 76 q) 60 := fun q h => by rw [(hYr q h).1]; exact hY q h
  have hK6 : ∀ q, q < 3 → xsz (g 86 q) 60 := fun q h => by
    rw [(hKr q h).1]
    rcases hK q h with z | ⟨n, z1, z2, _⟩
    · exact Or.inl z
    · exact Or.inr ⟨n, by omega, z2⟩
  by_cases hx : (0 ≤ x ∧ x < nI G) ∧ 0 ≤ y ∧ y < 6
  · obtain ⟨s, hk, rfl⟩ := xin (n := G) (by omega) hx.1
    obtain ⟨p, hp1, rfl⟩ := xin (n := 6) (by omega) hx.2
    by_cases hf : xfos (g 74 p) (fun i => g 75 (40 * p + i)) 12 = 0
    · obtain ⟨m1, e, h12, _, hxs⟩ := xfos_0 (hZ p hp1) (by decide) (by decide) hf
      exact (c_X12_breaks_ok hR hk hp1 e h12 hf hxs).weak (fun r M w => by obtain ⟨g1, e2, e1, e3⟩ := w; exact ⟨_, _, _, e3, e1, xAg_t (xAg_Fr e2) (xAg_73 (by decide))⟩)
    · exact (c_X12_breaks_ref hR hk hp1 (hZ p hp1) hf).weak (fun r M w => by obtain ⟨g1, e2, e1, e3⟩ := w; exact ⟨_, _, _, e3, e1, xAg_Fr e2⟩)
  · exact xRo.mk (c_X12_breaks_bad hR hx) (xAg_r b g)

theorem q_alike (hI : xIc b g G T Lw m) (hJ : xIr b g G T Lw m) : xRo Value.int 205 [.int x, .int y] b g l := by
  obtain ⟨hb, hp, hRm, htx, ⟨_, hm⟩, hDk, hK, hZc, hY⟩ := hI
  obtain ⟨hR, hs, hD, hKr, hQ, hYr⟩ := hJ
  have hZ : ∀ r, r < 6 → xsz (g 74 r) 40 := fun r h => by rw [(hQ r h).1]; exact hZc r h
  have eG : g 73 10 = nI G := hR.1.1
  have hG6 : G ≤ 6 := hR.1.2
  have hT8 : T ≤ 8 := hR.2.1.2
  have hZ6 : ∀ q, q < 6 → xsz (g 74 q) 60 := fun q h => (hZ q h).elim Or.inl (fun ⟨n, a1, a2⟩ => Or.inr ⟨n, by omega, a2⟩)
  have hY6 : ∀ q, q < 4 → xsz (g 76 q) 60 := fun q h => by rw [(hYr q h).1]; exact hY q h
  have hK6 : ∀ q, q < 3 → xsz (g 86 q) 60 := fun q h => by
    rw [(hKr q h).1]
    rcases hK q h with z | ⟨n, z1, z2, _⟩
    · exact Or.inl z
    · exact Or.inr ⟨n, by omega, z2⟩
  by_cases hx : (0 ≤ x ∧ x < nI G) ∧ 0 ≤ y ∧ y < 6
  · obtain ⟨s, hk, rfl⟩ := xin (n := G) (by omega) hx.1
    obtain ⟨p, hp1, rfl⟩ := xin (n := 6) (by omega) hx.2
    by_cases hf : xfos (g 74 p) (fun i => g 75 (40 * p + i)) 12 = 0
    · obtain ⟨m1, e, h12, _, hxs⟩ := xfos_0 (hZ p hp1) (by decide) (by decide) hf
      exact (c_X12_alike_ok hR hk hp1 e h12 hf hxs).weak (fun r M w => by obtain ⟨g1, e2, e1, e3⟩ := w; exact ⟨_, _, _, e3, e1, xAg_Fr e2⟩)
    · exact (c_X12_alike_ref hR hk hp1 (hZ p hp1) hf).weak (fun r M w => by obtain ⟨g1, e2, e1, e3⟩ := w; exact ⟨_, _, _, e3, e1, xAg_Fr e2⟩)
  · exact xRo.mk (c_X12_alike_bad hR hx) (xAg_r b g)

theorem q_ways (hI : xIc b g G T Lw m) (hJ : xIr b g G T Lw m) : xRo Value.int 210 [.int x, .int y] b g l := by
  obtain ⟨hb, hp, hRm, htx, ⟨_, hm⟩, hDk, hK, hZc, hY⟩ := hI
  obtain ⟨hR, hs, hD, hKr, hQ, hYr⟩ := hJ
  have hZ : ∀ r, r < 6 → xsz (g 74 r) 40 := fun r h => by rw [(hQ r h).1]; exact hZc r h
  have eG : g 73 10 = nI G := hR.1.1
  have hG6 : G ≤ 6 := hR.1.2
  have hT8 : T ≤ 8 := hR.2.1.2
  have hZ6 : ∀ q, q < 6 → xsz (g 74 q) 60 := fun q h => (hZ q h).elim Or.inl (fun ⟨n, a1, a2⟩ => Or.inr ⟨n, by omega, a2⟩)
  have hY6 : ∀ q, q < 4 → xsz (g 76 q) 60 := fun q h => by rw [(hYr q h).1]; exact hY q h
  have hK6 : ∀ q, q < 3 → xsz (g 86 q) 60 := fun q h => by
    rw [(hKr q h).1]
    rcases hK q h with z | ⟨n, z1, z2, _⟩
    · exact Or.inl z
    · exact Or.inr ⟨n, by omega, z2⟩
  by_cases hx : (0 ≤ x ∧ x < nI G) ∧ 0 ≤ y ∧ y < 6
  · obtain ⟨s, hk, rfl⟩ := xin (n := G) (by omega) hx.1
    obtain ⟨p, hp1, rfl⟩ := xin (n := 6) (by omega) hx.2
    by_cases hf : xfos (g 74 p) (fun i => g 75 (40 * p + i)) 6 = 0
    · obtain ⟨m1, e, h12, _, hxs⟩ := xfos_0 (hZ p hp1) (by decide) (by decide) hf
      exact (c_X12_ways_ok hR hk hp1 e h12 hf hxs).weak (fun r M w => by obtain ⟨g1, e2, e1, e3⟩ := w; exact ⟨_, _, _, e3, e1, xAg_Fr e2⟩)
    · exact (c_X12_ways_ref hR hk hp1 (hZ p hp1) hf).weak (fun r M w => by obtain ⟨g1, e2, e1, e3⟩ := w; exact ⟨_, _, _, e3, e1, xAg_Fr e2⟩)
  · exact xRo.mk (c_X12_ways_bad hR hx) (xAg_r b g)



theorem q_can (hI : xIc b g G T Lw m) (hJ : xIr b g G T Lw m) : xRo Value.int 212 [.int x, .int y, .int z] b g l := by
  obtain ⟨hb, hp, hRm, htx, ⟨_, hm⟩, hDk, hK, hZc, hY⟩ := hI
  obtain ⟨hR, hs, hD, hKr, hQ, hYr⟩ := hJ
  have hZ : ∀ r, r < 6 → xsz (g 74 r) 40 := fun r h => by rw [(hQ r h).1]; exact hZc r h
  have eG : g 73 10 = nI G := hR.1.1
  have hG6 : G ≤ 6 := hR.1.2
  have hT8 : T ≤ 8 := hR.2.1.2
  have hZ6 : ∀ q, q < 6 → xsz (g 74 q) 60 := fun q h => (hZ q h).elim Or.inl (fun ⟨n, a1, a2⟩ => Or.inr ⟨n, by omega, a2⟩)
  have hY6 : ∀ q, q < 4 → xsz (g 76 q) 60 := fun q h => by rw [(hYr q h).1]; exact hY q h
  have hK6 : ∀ q, q < 3 → xsz (g 86 q) 60 := fun q h => by
    rw [(hKr q h).1]
    rcases hK q h with z | ⟨n, z1, z2, _⟩
    · exact Or.inl z
    · exact Or.inr ⟨n, by omega, z2⟩
  by_cases hx : (0 ≤ x ∧ x < nI G) ∧ (0 ≤ y ∧ y < 6) ∧ 0 ≤ z
  · obtain ⟨s, hk, rfl⟩ := xin (n := G) (by omega) hx.1
    obtain ⟨p, hp1, rfl⟩ := xin (n := 6) (by omega) hx.2.1
    obtain ⟨d, hd31, rfl⟩ := nI_of (Int32.not_lt.mpr hx.2.2)
    by_cases hf : xfos (g 74 p) (fun i => g 75 (40 * p + i)) 6 = 0
    · obtain ⟨m1, e, h12, _, hxs⟩ := xfos_0 (hZ p hp1) (by decide) (by decide) hf
      by_cases hd : d < m1
      · exact (c_X12_can_ok hR hk hp1 e h12 hf hxs hd).weak (fun r M w => by obtain ⟨g1, e2, e1, e3⟩ := w; exact ⟨_, _, _, e3, e1, xAg_Fr e2⟩)
      · exact (c_X12_can_bad2 hR hk hp1 e h12 hf hxs hd31 hd).weak (fun r M w => by obtain ⟨g1, e2, e1, e3⟩ := w; exact ⟨_, _, _, e3, e1, xAg_Fr e2⟩)
    · exact (c_X12_can_ref hR hk hp1 hd31 (hZ p hp1) hf).weak (fun r M w => by obtain ⟨g1, e2, e1, e3⟩ := w; exact ⟨_, _, _, e3, e1, xAg_Fr e2⟩)
  · exact xRo.mk (c_X12_can_bad hR hx) (xAg_r b g)

theorem q_odds (hI : xIc b g G T Lw m) (hJ : xIr b g G T Lw m) : xRo Value.int 225 [.int x, .int y, .int z] b g l := by
  obtain ⟨hb, hp, hRm, htx, ⟨_, hm⟩, hDk, hK, hZc, hY⟩ := hI
  obtain ⟨hR, hs, hD, hKr, hQ, hYr⟩ := hJ
  have hZ : ∀ r, r < 6 → xsz (g 74 r) 40 := fun r h => by rw [(hQ r h).1]; exact hZc r h
  have eG : g 73 10 = nI G := hR.1.1
  have hG6 : G ≤ 6 := hR.1.2
  have hT8 : T ≤ 8 := hR.2.1.2
  have hZ6 : ∀ q, q < 6 → xsz (g 74 q) 60 := fun q h => (hZ q h).elim Or.inl (fun ⟨n, a1, a2⟩ => Or.inr ⟨n, by omega, a2⟩)
  have hY6 : ∀ q, q < 4 → xsz (g 76 q) 60 := fun q h => by rw [(hYr q h).1]; exact hY q h
  have hK6 : ∀ q, q < 3 → xsz (g 86 q) 60 := fun q h => by
    rw [(hKr q h).1]
    rcases hK q h with z | ⟨n, z1, z2, _⟩
    · exact Or.inl z
    · exact Or.inr ⟨n, by omega, z2⟩
  by_cases hx : (0 ≤ x ∧ x < nI G) ∧ (0 ≤ y ∧ y < 6) ∧ 0 ≤ z ∧ z ≤ 12
  · obtain ⟨s, hk, rfl⟩ := xin (n := G) (by omega) hx.1
    obtain ⟨p, hp1, rfl⟩ := xin (n := 6) (by omega) hx.2.1
    obtain ⟨e1, he, rfl⟩ := xinl (n := 12) (by omega) hx.2.2
    by_cases hf : xfos (g 74 p) (fun i => g 75 (40 * p + i)) 12 = 0
    · obtain ⟨m1, e, h12, _, hxs⟩ := xfos_0 (hZ p hp1) (by decide) (by decide) hf
      exact (c_X12_odds_ok hR hk he hp1 e h12 hf hxs).weak (fun r M w => by obtain ⟨g1, e2, e1, e3⟩ := w; exact ⟨_, _, _, e3, e1, xAg_Fr e2⟩)
    · exact (c_X12_odds_ref hR hk hp1 he (hZ p hp1) hf).weak (fun r M w => by obtain ⟨g1, e2, e1, e3⟩ := w; exact ⟨_, _, _, e3, e1, xAg_Fr e2⟩)
  · exact xRo.mk (c_X12_odds_bad hR hx) (xAg_r b g)

theorem q_mid (hI : xIc b g G T Lw m) (hJ : xIr b g G T Lw m) : xRo Value.int 226 [.int x, .int y, .int z] b g l := by
  obtain ⟨hb, hp, hRm, htx, ⟨_, hm⟩, hDk, hK, hZc, hY⟩ := hI
  obtain ⟨hR, hs, hD, hKr, hQ, hYr⟩ := hJ
  have hZ : ∀ r, r < 6 → xsz (g 74 r) 40 := fun r h => by rw [(hQ r h).1]; exact hZc r h
  have eG : g 73 10 = nI G := hR.1.1
  have hG6 : G ≤ 6 := hR.1.2
  have hT8 : T ≤ 8 := hR.2.1.2
  have hZ6 : ∀ q, q < 6 → xsz (g 74 q) 60 := fun q h => (hZ q h).elim Or.inl (fun ⟨n, a1, a2⟩ => Or.inr ⟨n, by omega, a2⟩)
  have hY6 : ∀ q, q < 4 → xsz (g 76 q) 60 := fun q h => by rw [(hYr q h).1]; exact hY q h
  have hK6 : ∀ q, q < 3 → xsz (g 86 q) 60 := fun q h => by
    rw [(hKr q h).1]
    rcases hK q h with z | ⟨n, z1, z2, _⟩
    · exact Or.inl z
    · exact Or.inr ⟨n, by omega, z2⟩
  by_cases hx : (0 ≤ x ∧ x < nI G) ∧ (0 ≤ y ∧ y < 6) ∧ 0 ≤ z ∧ z ≤ 12
  · obtain ⟨s, hk, rfl⟩ := xin (n := G) (by omega) hx.1
    obtain ⟨p, hp1, rfl⟩ := xin (n := 6) (by omega) hx.2.1
    obtain ⟨e1, he, rfl⟩ := xinl (n := 12) (by omega) hx.2.2
    by_cases hf : xfos (g 74 p) (fun i => g 75 (40 * p + i)) 12 = 0
    · obtain ⟨m1, e, h12, _, hxs⟩ := xfos_0 (hZ p hp1) (by decide) (by decide) hf
      exact (c_X12_mid_ok hR hk he hp1 e h12 hf hxs).weak (fun r M w => by obtain ⟨g1, e2, e1, e3⟩ := w; exact ⟨_, _, _, e3, e1, xAg_Fr e2⟩)
    · exact (c_X12_mid_ref hR hk hp1 he (hZ p hp1) hf).weak (fun r M w => by obtain ⟨g1, e2, e1, e3⟩ := w; exact ⟨_, _, _, e3, e1, xAg_Fr e2⟩)
  · exact xRo.mk (c_X12_mid_bad hR hx) (xAg_r b g)

theorem q_he (hI : xIc b g G T Lw m) (hJ : xIr b g G T Lw m) : xRo Value.int 217 [.int x, .int y, .int z] b g l := by
  obtain ⟨hb, hp, hRm, htx, ⟨_, hm⟩, hDk, hK, hZc, hY⟩ := hI
  obtain ⟨hR, hs, hD, hKr, hQ, hYr⟩ := hJ
  have hZ : ∀ r, r < 6 → xsz (g 74 r) 40 := fun r h => by rw [(hQ r h).1]; exact hZc r h
  have eG : g 73 10 = nI G := hR.1.1
  have hG6 : G ≤ 6 := hR.1.2
  have hT8 : T ≤ 8 := hR.2.1.2
  have hZ6 : ∀ q, q < 6 → xsz (g 74 q) 60 := fun q h => (hZ q h).elim Or.inl (fun ⟨n, a1, a2⟩ => Or.inr ⟨n, by omega, a2⟩)
  have hY6 : ∀ q, q < 4 → xsz (g 76 q) 60 := fun q h => by rw [(hYr q h).1]; exact hY q h
  have hK6 : ∀ q, q < 3 → xsz (g 86 q) 60 := fun q h => by
    rw [(hKr q h).1]
    rcases hK q h with z | ⟨n, z1, z2, _⟩
    · exact Or.inl z
    · exact Or.inr ⟨n, by omega, z2⟩
  by_cases hx : (0 ≤ x ∧ x < nI G) ∧ (0 ≤ y ∧ y < 6) ∧ 0 ≤ z ∧ z < 6
  · obtain ⟨t, hk, rfl⟩ := xin (n := G) (by omega) hx.1
    obtain ⟨p, hp1, rfl⟩ := xin (n := 6) (by omega) hx.2.1
    obtain ⟨s, hs1, rfl⟩ := xin (n := 6) (by omega) hx.2.2
    by_cases hf : xfop (g 74 p) (fun i => g 75 (40 * p + i)) (g 74 s) (fun i => g 75 (40 * s + i)) 12 = 0
    · obtain ⟨f1, f2, f3⟩ := xfop_0 hf
      obtain ⟨m1, e, h12, _, hxs⟩ := xfos_0 (hZ p hp1) (by decide) (by decide) f1
      obtain ⟨m2, e2, _, h40, hxs2⟩ := xfos_0 (hZ s hs1) (by decide) (by decide) f2
      obtain rfl : m1 = m2 := nI_inj (by omega) (by omega) (by rw [← e, f3, e2])
      exact (c_X12_he_ok hR hk hp1 hs1 e e2 h12 f1 f2 hxs hxs2).weak (fun r M w => by obtain ⟨g1, e2, e1, e3⟩ := w; exact ⟨_, _, _, e3, e1, xAg_t (xAg_Fr e2) (xAg_73 (by decide))⟩)
    · exact (c_X12_he_ref hR hk hp1 (hZ p hp1) hs1 (hZ s hs1) hf).weak (fun r M w => by obtain ⟨g1, e2, e1, e3⟩ := w; exact ⟨_, _, _, e3, e1, xAg_Fr e2⟩)
  · exact xRo.mk (c_X12_he_bad hR hx) (xAg_r b g)

theorem q_fit (hI : xIc b g G T Lw m) (hJ : xIr b g G T Lw m) : xRo Value.int 206 [.int x, .int y] b g l := by
  obtain ⟨hb, hp, hRm, htx, ⟨_, hm⟩, hDk, hK, hZc, hY⟩ := hI
  obtain ⟨hR, hs, hD, hKr, hQ, hYr⟩ := hJ
  have hZ : ∀ r, r < 6 → xsz (g 74 r) 40 := fun r h => by rw [(hQ r h).1]; exact hZc r h
  have eG : g 73 10 = nI G := hR.1.1
  have hG6 : G ≤ 6 := hR.1.2
  have hT8 : T ≤ 8 := hR.2.1.2
  have hZ6 : ∀ q, q < 6 → xsz (g 74 q) 60 := fun q h => (hZ q h).elim Or.inl (fun ⟨n, a1, a2⟩ => Or.inr ⟨n, by omega, a2⟩)
  have hY6 : ∀ q, q < 4 → xsz (g 76 q) 60 := fun q h => by rw [(hYr q h).1]; exact hY q h
  have hK6 : ∀ q, q < 3 → xsz (g 86 q) 60 := fun q h => by
    rw [(hKr q h).1]
    rcases hK q h with z | ⟨n, z1, z2, _⟩
    · exact Or.inl z
    · exact Or.inr ⟨n, by omega, z2⟩
  by_cases hx : (0 ≤ x ∧ x < 6) ∧ 0 ≤ y ∧ y < 6
  · obtain ⟨p, hp1, rfl⟩ := xin (n := 6) (by omega) hx.1
    obtain ⟨s, hs1, rfl⟩ := xin (n := 6) (by omega) hx.2
    by_cases hf : xfop (g 74 p) (fun i => g 75 (40 * p + i)) (g 74 s) (fun i => g 75 (40 * s + i)) 12 = 0
    · obtain ⟨f1, f2, f3⟩ := xfop_0 hf
      obtain ⟨m1, e, h12, _, hxs⟩ := xfos_0 (hZ p hp1) (by decide) (by decide) f1
      obtain ⟨m2, e2, _, h40, hxs2⟩ := xfos_0 (hZ s hs1) (by decide) (by decide) f2
      obtain rfl : m1 = m2 := nI_inj (by omega) (by omega) (by rw [← e, f3, e2])
      exact (c_X12_fit_ok hp1 hs1 e e2 h12 f1 f2 hxs hxs2).weak (fun r M w => by obtain ⟨g1, e2, e1, e3⟩ := w; exact ⟨_, _, _, e3, e1, xAg_t (xAg_Fr e2) (xAg_73 (by decide))⟩)
    · exact (c_X12_fit_ref hp1 (hZ p hp1) hs1 (hZ s hs1) hf).weak (fun r M w => by obtain ⟨g1, e2, e1, e3⟩ := w; exact ⟨_, _, _, e3, e1, xAg_Fr e2⟩)
  · exact xRo.mk (c_X12_fit_bad hx) (xAg_r b g)

theorem q_laws (hI : xIc b g G T Lw m) (hJ : xIr b g G T Lw m) : xRo Value.int 214 [.int x, .int y] b g l := by
  obtain ⟨hb, hp, hRm, htx, ⟨_, hm⟩, hDk, hK, hZc, hY⟩ := hI
  obtain ⟨hR, hs, hD, hKr, hQ, hYr⟩ := hJ
  have hZ : ∀ r, r < 6 → xsz (g 74 r) 40 := fun r h => by rw [(hQ r h).1]; exact hZc r h
  have eG : g 73 10 = nI G := hR.1.1
  have hG6 : G ≤ 6 := hR.1.2
  have hT8 : T ≤ 8 := hR.2.1.2
  have hZ6 : ∀ q, q < 6 → xsz (g 74 q) 60 := fun q h => (hZ q h).elim Or.inl (fun ⟨n, a1, a2⟩ => Or.inr ⟨n, by omega, a2⟩)
  have hY6 : ∀ q, q < 4 → xsz (g 76 q) 60 := fun q h => by rw [(hYr q h).1]; exact hY q h
  have hK6 : ∀ q, q < 3 → xsz (g 86 q) 60 := fun q h => by
    rw [(hKr q h).1]
    rcases hK q h with z | ⟨n, z1, z2, _⟩
    · exact Or.inl z
    · exact Or.inr ⟨n, by omega, z2⟩
  by_cases hx : (0 ≤ x ∧ x < 6) ∧ 0 ≤ y ∧ y < 6
  · obtain ⟨p, hp1, rfl⟩ := xin (n := 6) (by omega) hx.1
    obtain ⟨s, hs1, rfl⟩ := xin (n := 6) (by omega) hx.2
    by_cases hf : xfop (g 74 p) (fun i => g 75 (40 * p + i)) (g 74 s) (fun i => g 75 (40 * s + i)) 12 = 0
    · obtain ⟨f1, f2, f3⟩ := xfop_0 hf
      obtain ⟨m1, e, h12, _, hxs⟩ := xfos_0 (hZ p hp1) (by decide) (by decide) f1
      obtain ⟨m2, e2, _, h40, hxs2⟩ := xfos_0 (hZ s hs1) (by decide) (by decide) f2
      obtain rfl : m1 = m2 := nI_inj (by omega) (by omega) (by rw [← e, f3, e2])
      exact (c_X12_laws_ok hR hp1 hs1 e e2 h12 f1 f2 hxs hxs2).weak (fun r M w => by obtain ⟨g1, e2, e1, e3⟩ := w; exact ⟨_, _, _, e3, e1, xAg_Fr e2⟩)
    · exact (c_X12_laws_ref hp1 (hZ p hp1) hs1 (hZ s hs1) hf).weak (fun r M w => by obtain ⟨g1, e2, e1, e3⟩ := w; exact ⟨_, _, _, e3, e1, xAg_Fr e2⟩)
  · exact xRo.mk (c_X12_laws_bad hx) (xAg_r b g)

theorem q_next (hI : xIc b g G T Lw m) (hJ : xIr b g G T Lw m) : xRo Value.int 216 [.int x, .int y] b g l := by
  obtain ⟨hb, hp, hRm, htx, ⟨_, hm⟩, hDk, hK, hZc, hY⟩ := hI
  obtain ⟨hR, hs, hD, hKr, hQ, hYr⟩ := hJ
  have hZ : ∀ r, r < 6 → xsz (g 74 r) 40 := fun r h => by rw [(hQ r h).1]; exact hZc r h
  have eG : g 73 10 = nI G := hR.1.1
  have hG6 : G ≤ 6 := hR.1.2
  have hT8 : T ≤ 8 := hR.2.1.2
  have hZ6 : ∀ q, q < 6 → xsz (g 74 q) 60 := fun q h => (hZ q h).elim Or.inl (fun ⟨n, a1, a2⟩ => Or.inr ⟨n, by omega, a2⟩)
  have hY6 : ∀ q, q < 4 → xsz (g 76 q) 60 := fun q h => by rw [(hYr q h).1]; exact hY q h
  have hK6 : ∀ q, q < 3 → xsz (g 86 q) 60 := fun q h => by
    rw [(hKr q h).1]
    rcases hK q h with z | ⟨n, z1, z2, _⟩
    · exact Or.inl z
    · exact Or.inr ⟨n, by omega, z2⟩
  by_cases hx : (0 ≤ x ∧ x < 6) ∧ 0 ≤ y ∧ y < 6
  · obtain ⟨p, hp1, rfl⟩ := xin (n := 6) (by omega) hx.1
    obtain ⟨s, hs1, rfl⟩ := xin (n := 6) (by omega) hx.2
    by_cases hf : xfop (g 74 p) (fun i => g 75 (40 * p + i)) (g 74 s) (fun i => g 75 (40 * s + i)) 12 = 0
    · obtain ⟨f1, f2, f3⟩ := xfop_0 hf
      obtain ⟨m1, e, h12, _, hxs⟩ := xfos_0 (hZ p hp1) (by decide) (by decide) f1
      obtain ⟨m2, e2, _, h40, hxs2⟩ := xfos_0 (hZ s hs1) (by decide) (by decide) f2
      obtain rfl : m1 = m2 := nI_inj (by omega) (by omega) (by rw [← e, f3, e2])
      by_cases hm12 : m1 = 12
      · exact (c_X12_next_12 hp1 hs1 e e2 hm12 f1 f2 hxs hxs2).weak (fun r M w => by obtain ⟨g1, e2, e1, e3⟩ := w; exact ⟨_, _, _, e3, e1, xAg_Fr e2⟩)
      by_cases hbc : xbs (xbits (fun q => decide (xfst (fun i => !decide (xshw (g (b.1 + 1)) (q / 4) (q % 4) (fun i => xN (g 75 (40 * p + i))) i = g 75 (40 * s + i))) m1 = none)) 24) 24 < 2
      · exact (c_X12_next_none hR hp1 hs1 e e2 h12 f1 f2 hxs hxs2 (by omega) hbc).weak (fun r M w => by obtain ⟨g1, e2, e1, e3⟩ := w; exact ⟨_, _, _, e3, e1, xAg_Fr e2⟩)
      · exact (c_X12_next_ok hR hp1 hs1 e e2 h12 f1 f2 hxs hxs2 (by omega) hbc).weak (fun r M w => by obtain ⟨g1, e2, e1, e3⟩ := w; exact ⟨_, _, _, e3, e1, xAg_t (xAg_Fr e2) (xAg_73 (by decide))⟩)
    · exact (c_X12_next_ref hp1 (hZ p hp1) hs1 (hZ s hs1) hf).weak (fun r M w => by obtain ⟨g1, e2, e1, e3⟩ := w; exact ⟨_, _, _, e3, e1, xAg_Fr e2⟩)
  · exact xRo.mk (c_X12_next_bad hx) (xAg_r b g)

theorem q_keeps (hI : xIc b g G T Lw m) (hJ : xIr b g G T Lw m) : xRo Value.int 219 [.int x, .int y] b g l := by
  obtain ⟨hb, hp, hRm, htx, ⟨_, hm⟩, hDk, hK, hZc, hY⟩ := hI
  obtain ⟨hR, hs, hD, hKr, hQ, hYr⟩ := hJ
  have hZ : ∀ r, r < 6 → xsz (g 74 r) 40 := fun r h => by rw [(hQ r h).1]; exact hZc r h
  have eG : g 73 10 = nI G := hR.1.1
  have hG6 : G ≤ 6 := hR.1.2
  have hT8 : T ≤ 8 := hR.2.1.2
  have hZ6 : ∀ q, q < 6 → xsz (g 74 q) 60 := fun q h => (hZ q h).elim Or.inl (fun ⟨n, a1, a2⟩ => Or.inr ⟨n, by omega, a2⟩)
  have hY6 : ∀ q, q < 4 → xsz (g 76 q) 60 := fun q h => by rw [(hYr q h).1]; exact hY q h
  have hK6 : ∀ q, q < 3 → xsz (g 86 q) 60 := fun q h => by
    rw [(hKr q h).1]
    rcases hK q h with z | ⟨n, z1, z2, _⟩
    · exact Or.inl z
    · exact Or.inr ⟨n, by omega, z2⟩
  by_cases hx : (0 ≤ x ∧ x < nI G) ∧ 0 ≤ y ∧ y ≤ 5
  · obtain ⟨s, hk, rfl⟩ := xin (n := G) (by omega) hx.1
    obtain ⟨n, hn, rfl⟩ := xinl (n := 5) (by omega) hx.2
    by_cases h0 : n = 0
    · exact (c_X12_keeps_0 hR hk hn h0).weak (fun r M w => by obtain ⟨g1, e2, e1, e3⟩ := w; exact ⟨_, _, _, e3, e1, xAg_t (xAg_Fr e2) (xAg_73 (by decide))⟩)
    · exact (c_X12_keeps_ok hR hk hn (by omega)).weak (fun r M w => by obtain ⟨g1, e2, e1, e3⟩ := w; exact ⟨_, _, _, e3, e1, xAg_t (xAg_Fr e2) (xAg_73 (by decide))⟩)
  · exact xRo.mk (c_X12_keeps_bad hR hx) (xAg_r b g)

theorem q_still (hI : xIc b g G T Lw m) (hJ : xIr b g G T Lw m) : xRo Value.int 220 [.int x, .int y] b g l := by
  obtain ⟨hb, hp, hRm, htx, ⟨_, hm⟩, hDk, hK, hZc, hY⟩ := hI
  obtain ⟨hR, hs, hD, hKr, hQ, hYr⟩ := hJ
  have hZ : ∀ r, r < 6 → xsz (g 74 r) 40 := fun r h => by rw [(hQ r h).1]; exact hZc r h
  have eG : g 73 10 = nI G := hR.1.1
  have hG6 : G ≤ 6 := hR.1.2
  have hT8 : T ≤ 8 := hR.2.1.2
  have hZ6 : ∀ q, q < 6 → xsz (g 74 q) 60 := fun q h => (hZ q h).elim Or.inl (fun ⟨n, a1, a2⟩ => Or.inr ⟨n, by omega, a2⟩)
  have hY6 : ∀ q, q < 4 → xsz (g 76 q) 60 := fun q h => by rw [(hYr q h).1]; exact hY q h
  have hK6 : ∀ q, q < 3 → xsz (g 86 q) 60 := fun q h => by
    rw [(hKr q h).1]
    rcases hK q h with z | ⟨n, z1, z2, _⟩
    · exact Or.inl z
    · exact Or.inr ⟨n, by omega, z2⟩
  by_cases hx : (0 ≤ x ∧ x < nI G) ∧ 0 ≤ y ∧ y ≤ 5
  · obtain ⟨s, hk, rfl⟩ := xin (n := G) (by omega) hx.1
    obtain ⟨n, hn, rfl⟩ := xinl (n := 5) (by omega) hx.2
    exact (c_X12_still_ok hR hk hn).weak (fun r M w => by obtain ⟨g1, e2, e1, e3⟩ := w; exact ⟨_, _, _, e3, e1, xAg_Fr e2⟩)
  · exact xRo.mk (c_X12_still_bad hR hx) (xAg_r b g)

theorem q_game (hI : xIc b g G T Lw m) (hJ : xIr b g G T Lw m) : xRo Value.int 223 [.int x] b g l := by
  obtain ⟨hb, hp, hRm, htx, ⟨_, hm⟩, hDk, hK, hZc, hY⟩ := hI
  obtain ⟨hR, hs, hD, hKr, hQ, hYr⟩ := hJ
  have hZ : ∀ r, r < 6 → xsz (g 74 r) 40 := fun r h => by rw [(hQ r h).1]; exact hZc r h
  have eG : g 73 10 = nI G := hR.1.1
  have hG6 : G ≤ 6 := hR.1.2
  have hT8 : T ≤ 8 := hR.2.1.2
  have hZ6 : ∀ q, q < 6 → xsz (g 74 q) 60 := fun q h => (hZ q h).elim Or.inl (fun ⟨n, a1, a2⟩ => Or.inr ⟨n, by omega, a2⟩)
  have hY6 : ∀ q, q < 4 → xsz (g 76 q) 60 := fun q h => by rw [(hYr q h).1]; exact hY q h
  have hK6 : ∀ q, q < 3 → xsz (g 86 q) 60 := fun q h => by
    rw [(hKr q h).1]
    rcases hK q h with z | ⟨n, z1, z2, _⟩
    · exact Or.inl z
    · exact Or.inr ⟨n, by omega, z2⟩
  by_cases hx : 0 ≤ x ∧ x ≤ 3
  · obtain ⟨n, hn, rfl⟩ := xinl (n := 3) (by omega) hx
    by_cases hg : g 73 10 = 0
    · exact xRo.mk (c_X12_game_state hn hg) (xAg_r b g)
    · exact (c_X12_game_ok hR hn hg).weak (fun r M w => by obtain ⟨g1, e2, e1, e3⟩ := w; exact ⟨_, _, _, e3, e1, xAg_Fr e2⟩)
  · exact xRo.mk (c_X12_game_bad hx) (xAg_r b g)

theorem q_picks (hI : xIc b g G T Lw m) (hJ : xIr b g G T Lw m) : xRo Value.int 224 [.int x] b g l := by
  obtain ⟨hb, hp, hRm, htx, ⟨_, hm⟩, hDk, hK, hZc, hY⟩ := hI
  obtain ⟨hR, hs, hD, hKr, hQ, hYr⟩ := hJ
  have hZ : ∀ r, r < 6 → xsz (g 74 r) 40 := fun r h => by rw [(hQ r h).1]; exact hZc r h
  have eG : g 73 10 = nI G := hR.1.1
  have hG6 : G ≤ 6 := hR.1.2
  have hT8 : T ≤ 8 := hR.2.1.2
  have hZ6 : ∀ q, q < 6 → xsz (g 74 q) 60 := fun q h => (hZ q h).elim Or.inl (fun ⟨n, a1, a2⟩ => Or.inr ⟨n, by omega, a2⟩)
  have hY6 : ∀ q, q < 4 → xsz (g 76 q) 60 := fun q h => by rw [(hYr q h).1]; exact hY q h
  have hK6 : ∀ q, q < 3 → xsz (g 86 q) 60 := fun q h => by
    rw [(hKr q h).1]
    rcases hK q h with z | ⟨n, z1, z2, _⟩
    · exact Or.inl z
    · exact Or.inr ⟨n, by omega, z2⟩
  by_cases hx : 1 ≤ x ∧ x ≤ 3
  · obtain ⟨n, hn, rfl⟩ := xinl (n := 3) (by omega) ⟨Int32.le_trans (by decide) hx.1, hx.2⟩
    have h0 : 0 < n := (nI_leI (a := 1) (by omega) (by omega)).mp hx.1
    by_cases hg : g 73 10 = 0
    · exact xRo.mk (c_X12_picks_state hn h0 hg) (xAg_r b g)
    · exact (c_X12_picks_ok hR hn h0 hg).weak (fun r M w => by obtain ⟨g1, e2, e1, e3⟩ := w; exact ⟨_, _, _, e3, e1, xAg_Fr e2⟩)
  · exact xRo.mk (c_X12_picks_bad hx) (xAg_r b g)

theorem q_asked (hI : xIc b g G T Lw m) (hJ : xIr b g G T Lw m) : xRo Value.int 228 [] b g l := by
  obtain ⟨hb, hp, hRm, htx, ⟨_, hm⟩, hDk, hK, hZc, hY⟩ := hI
  obtain ⟨hR, hs, hD, hKr, hQ, hYr⟩ := hJ
  have hZ : ∀ r, r < 6 → xsz (g 74 r) 40 := fun r h => by rw [(hQ r h).1]; exact hZc r h
  have eG : g 73 10 = nI G := hR.1.1
  have hG6 : G ≤ 6 := hR.1.2
  have hT8 : T ≤ 8 := hR.2.1.2
  have hZ6 : ∀ q, q < 6 → xsz (g 74 q) 60 := fun q h => (hZ q h).elim Or.inl (fun ⟨n, a1, a2⟩ => Or.inr ⟨n, by omega, a2⟩)
  have hY6 : ∀ q, q < 4 → xsz (g 76 q) 60 := fun q h => by rw [(hYr q h).1]; exact hY q h
  have hK6 : ∀ q, q < 3 → xsz (g 86 q) 60 := fun q h => by
    rw [(hKr q h).1]
    rcases hK q h with z | ⟨n, z1, z2, _⟩
    · exact Or.inl z
    · exact Or.inr ⟨n, by omega, z2⟩
  exact xRo.mk (c_X12_asked) (xAg_r b g)

theorem q_upper (hI : xIc b g G T Lw m) (hJ : xIr b g G T Lw m) : xRo Value.long 229 [] b g l := by
  obtain ⟨hb, hp, hRm, htx, ⟨_, hm⟩, hDk, hK, hZc, hY⟩ := hI
  obtain ⟨hR, hs, hD, hKr, hQ, hYr⟩ := hJ
  have hZ : ∀ r, r < 6 → xsz (g 74 r) 40 := fun r h => by rw [(hQ r h).1]; exact hZc r h
  have eG : g 73 10 = nI G := hR.1.1
  have hG6 : G ≤ 6 := hR.1.2
  have hT8 : T ≤ 8 := hR.2.1.2
  have hZ6 : ∀ q, q < 6 → xsz (g 74 q) 60 := fun q h => (hZ q h).elim Or.inl (fun ⟨n, a1, a2⟩ => Or.inr ⟨n, by omega, a2⟩)
  have hY6 : ∀ q, q < 4 → xsz (g 76 q) 60 := fun q h => by rw [(hYr q h).1]; exact hY q h
  have hK6 : ∀ q, q < 3 → xsz (g 86 q) 60 := fun q h => by
    rw [(hKr q h).1]
    rcases hK q h with z | ⟨n, z1, z2, _⟩
    · exact Or.inl z
    · exact Or.inr ⟨n, by omega, z2⟩
  exact xRo.mk (c_X12_upper) (xAg_r b g)

theorem q_lower (hI : xIc b g G T Lw m) (hJ : xIr b g G T Lw m) : xRo Value.long 230 [] b g l := by
  obtain ⟨hb, hp, hRm, htx, ⟨_, hm⟩, hDk, hK, hZc, hY⟩ := hI
  obtain ⟨hR, hs, hD, hKr, hQ, hYr⟩ := hJ
  have hZ : ∀ r, r < 6 → xsz (g 74 r) 40 := fun r h => by rw [(hQ r h).1]; exact hZc r h
  have eG : g 73 10 = nI G := hR.1.1
  have hG6 : G ≤ 6 := hR.1.2
  have hT8 : T ≤ 8 := hR.2.1.2
  have hZ6 : ∀ q, q < 6 → xsz (g 74 q) 60 := fun q h => (hZ q h).elim Or.inl (fun ⟨n, a1, a2⟩ => Or.inr ⟨n, by omega, a2⟩)
  have hY6 : ∀ q, q < 4 → xsz (g 76 q) 60 := fun q h => by rw [(hYr q h).1]; exact hY q h
  have hK6 : ∀ q, q < 3 → xsz (g 86 q) 60 := fun q h => by
    rw [(hKr q h).1]
    rcases hK q h with z | ⟨n, z1, z2, _⟩
    · exact Or.inl z
    · exact Or.inr ⟨n, by omega, z2⟩
  exact xRo.mk (c_X12_lower) (xAg_r b g)

theorem q_finding (hI : xIc b g G T Lw m) (hJ : xIr b g G T Lw m) : xRo Value.int 235 [] b g l := by
  obtain ⟨hb, hp, hRm, htx, ⟨_, hm⟩, hDk, hK, hZc, hY⟩ := hI
  obtain ⟨hR, hs, hD, hKr, hQ, hYr⟩ := hJ
  have hZ : ∀ r, r < 6 → xsz (g 74 r) 40 := fun r h => by rw [(hQ r h).1]; exact hZc r h
  have eG : g 73 10 = nI G := hR.1.1
  have hG6 : G ≤ 6 := hR.1.2
  have hT8 : T ≤ 8 := hR.2.1.2
  have hZ6 : ∀ q, q < 6 → xsz (g 74 q) 60 := fun q h => (hZ q h).elim Or.inl (fun ⟨n, a1, a2⟩ => Or.inr ⟨n, by omega, a2⟩)
  have hY6 : ∀ q, q < 4 → xsz (g 76 q) 60 := fun q h => by rw [(hYr q h).1]; exact hY q h
  have hK6 : ∀ q, q < 3 → xsz (g 86 q) 60 := fun q h => by
    rw [(hKr q h).1]
    rcases hK q h with z | ⟨n, z1, z2, _⟩
    · exact Or.inl z
    · exact Or.inr ⟨n, by omega, z2⟩
  exact xRo.mk (c_X12_finding) (xAg_r b g)

theorem q_count (hI : xIc b g G T Lw m) (hJ : xIr b g G T Lw m) : xRo Value.int 234 [.int x] b g l := by
  obtain ⟨hb, hp, hRm, htx, ⟨_, hm⟩, hDk, hK, hZc, hY⟩ := hI
  obtain ⟨hR, hs, hD, hKr, hQ, hYr⟩ := hJ
  have hZ : ∀ r, r < 6 → xsz (g 74 r) 40 := fun r h => by rw [(hQ r h).1]; exact hZc r h
  have eG : g 73 10 = nI G := hR.1.1
  have hG6 : G ≤ 6 := hR.1.2
  have hT8 : T ≤ 8 := hR.2.1.2
  have hZ6 : ∀ q, q < 6 → xsz (g 74 q) 60 := fun q h => (hZ q h).elim Or.inl (fun ⟨n, a1, a2⟩ => Or.inr ⟨n, by omega, a2⟩)
  have hY6 : ∀ q, q < 4 → xsz (g 76 q) 60 := fun q h => by rw [(hYr q h).1]; exact hY q h
  have hK6 : ∀ q, q < 3 → xsz (g 86 q) 60 := fun q h => by
    rw [(hKr q h).1]
    rcases hK q h with z | ⟨n, z1, z2, _⟩
    · exact Or.inl z
    · exact Or.inr ⟨n, by omega, z2⟩
  by_cases hx : 0 ≤ x ∧ x < 9
  · obtain ⟨t, ht, rfl⟩ := xin (n := 9) (by omega) hx
    exact xRo.mk (c_X12_count_ok hR hD hm hs hZ6 hY6 hK6 ht) (xAg_r b g)
  · exact xRo.mk (c_X12_count_bad hx) (xAg_r b g)

theorem q_findings (hI : xIc b g G T Lw m) (hJ : xIr b g G T Lw m) : xRo Value.int 236 [.int x] b g l := by
  obtain ⟨hb, hp, hRm, htx, ⟨_, hm⟩, hDk, hK, hZc, hY⟩ := hI
  obtain ⟨hR, hs, hD, hKr, hQ, hYr⟩ := hJ
  have hZ : ∀ r, r < 6 → xsz (g 74 r) 40 := fun r h => by rw [(hQ r h).1]; exact hZc r h
  have eG : g 73 10 = nI G := hR.1.1
  have hG6 : G ≤ 6 := hR.1.2
  have hT8 : T ≤ 8 := hR.2.1.2
  have hZ6 : ∀ q, q < 6 → xsz (g 74 q) 60 := fun q h => (hZ q h).elim Or.inl (fun ⟨n, a1, a2⟩ => Or.inr ⟨n, by omega, a2⟩)
  have hY6 : ∀ q, q < 4 → xsz (g 76 q) 60 := fun q h => by rw [(hYr q h).1]; exact hY q h
  have hK6 : ∀ q, q < 3 → xsz (g 86 q) 60 := fun q h => by
    rw [(hKr q h).1]
    rcases hK q h with z | ⟨n, z1, z2, _⟩
    · exact Or.inl z
    · exact Or.inr ⟨n, by omega, z2⟩
  by_cases hx : 1 ≤ x ∧ x ≤ 5
  · obtain ⟨t, ht1, ht, rfl⟩ := nI_1le hx
    exact xRo.mk (c_X12_findings_ok ht1 ht) (xAg_r b g)
  · exact xRo.mk (c_X12_findings_bad hx) (xAg_r b g)

theorem q_digest (hI : xIc b g G T Lw m) (hJ : xIr b g G T Lw m) : xRo Value.long 238 [] b g l := by
  obtain ⟨hb, hp, hRm, htx, ⟨_, hm⟩, hDk, hK, hZc, hY⟩ := hI
  obtain ⟨hR, hs, hD, hKr, hQ, hYr⟩ := hJ
  have hZ : ∀ r, r < 6 → xsz (g 74 r) 40 := fun r h => by rw [(hQ r h).1]; exact hZc r h
  have eG : g 73 10 = nI G := hR.1.1
  have hG6 : G ≤ 6 := hR.1.2
  have hT8 : T ≤ 8 := hR.2.1.2
  have hZ6 : ∀ q, q < 6 → xsz (g 74 q) 60 := fun q h => (hZ q h).elim Or.inl (fun ⟨n, a1, a2⟩ => Or.inr ⟨n, by omega, a2⟩)
  have hY6 : ∀ q, q < 4 → xsz (g 76 q) 60 := fun q h => by rw [(hYr q h).1]; exact hY q h
  have hK6 : ∀ q, q < 3 → xsz (g 86 q) 60 := fun q h => by
    rw [(hKr q h).1]
    rcases hK q h with z | ⟨n, z1, z2, _⟩
    · exact Or.inl z
    · exact Or.inr ⟨n, by omega, z2⟩
  exact xRo.mk (c_X12_digest hR hD hm hs hZ6 hY6 hK6 hZ) (xAg_r b g)

end
end
