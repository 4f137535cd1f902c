/-! what holds between calls -/
def xIc (b : Nat × Nat) (g : Nat → Nat → Int32) (G T : Nat) (Lw : Nat → Nat) (m : Nat) : Prop := (b = (7, 11) ∨ b = (11, 7)) ∧ xpn g ∧ xRm g b.1 G T Lw ∧ (∀ i, i < 2 * T → xstp (g (b.1 + 3) i)) ∧ (g 4 1 = nI m ∧ m ≤ 40) ∧ xDk g (g (b.1 + 1)) (g (b.1 + 3)) T G Lw 5 m ∧ (∀ k, k < 3 → g (67 + 2 * k) 1 = -1 ∨ ∃ n, n ≤ 40 ∧ g (67 + 2 * k) 1 = nI n ∧ xDk g (g (b.1 + 1)) (g (b.1 + 3)) T G Lw (67 + 2 * k + 1) n) ∧ (∀ r, r < 6 → xsz (g (23 + 2 * r) 1) 40) ∧ (∀ r, r < 4 → xsz (g (35 + 2 * r) 1) 60)
def xIr (b : Nat × Nat) (g : Nat → Nat → Int32) (G T : Nat) (Lw : Nat → Nat) (m : Nat) : Prop := xRr g (g (b.1 + 1)) (g (b.1 + 3)) G T Lw ∧ g 73 14 = nI m ∧ xDr g (g (b.1 + 1)) (g (b.1 + 3)) T G Lw (g 5) m ∧ (∀ k, k < 3 → g 86 k = g (67 + 2 * k) 1 ∧ ∀ n, n ≤ 40 → g (67 + 2 * k) 1 = nI n → ∀ d, d < n → g 87 (40 * k + d) = g (67 + 2 * k + 1) (4 * d) ∧ g 88 (40 * k + d) = g (67 + 2 * k + 1) (4 * d + 1)) ∧ (∀ r, r < 6 → g 74 r = g (23 + 2 * r) 1 ∧ ∀ n, n ≤ 40 → g (23 + 2 * r) 1 = nI n → ∀ i, i < n → g 75 (40 * r + i) = g (23 + 2 * r + 1) i) ∧ (∀ t, t < 4 → g 76 t = g (35 + 2 * t) 1 ∧ ∀ n, n ≤ 60 → g (35 + 2 * t) 1 = nI n → ∀ i, i < n → g 77 (60 * t + i) = g (35 + 2 * t + 1) i)
def xJ (b : Nat × Nat) (g : Nat → Nat → Int32) : Prop := ∃ G T Lw m, xIc b g G T Lw m ∧ xIr b g G T Lw m
/-- cells that nothing hangs on -/
def xSc (b : Nat × Nat) (c : Nat) : Prop := c = 0 ∨ (15 ≤ c ∧ c ≤ 22) ∨ (78 ≤ c ∧ c ≤ 80) ∨ 89 ≤ c ∨ (b.2 ≤ c ∧ c ≤ b.2 + 3)
def xSz (c : Nat) : Prop := c = 73
def xAg (b : Nat × Nat) (g g' : Nat → Nat → Int32) : Prop := (∀ a, ¬ xSc b a → ¬ xSz a → g' a = g a) ∧ (g' 73 10 = g 73 10 ∧ g' 73 12 = g 73 12 ∧ g' 73 14 = g 73 14)
section
variable {b : Nat × Nat} {g g' g'' : Nat → Nat → Int32} {G T m : Nat} {Lw : Nat → Nat}
theorem xAg_r (b : Nat × Nat) (g : Nat → Nat → Int32) : xAg b g g := ⟨fun _ _ _ => rfl, ⟨rfl, rfl, rfl⟩⟩
theorem xAg_t (h1 : xAg b g g') (h2 : xAg b g' g'') : xAg b g g'' := ⟨fun a p q => by rw [h2.1 a p q, h1.1 a p q], ⟨by rw [h2.2.1, h1.2.1], by rw [h2.2.2.1, h1.2.2.1], by rw [h2.2.2.2, h1.2.2.2]⟩⟩
/-- scratch alone has changed -/
theorem xAg_s (hb : b.2 = 7 ∨ b.2 = 11) (h : ∀ a, ¬ xSc b a → g' a = g a) : xAg b g g' := by
  have e73 : g' 73 = g 73 := h 73 (by unfold xSc; omega)
  exact ⟨fun a p _ => h a p, by rw [e73]; exact ⟨rfl, rfl, rfl⟩⟩
theorem xAg_u (hb : b.2 = 7 ∨ b.2 = 11) {c i : Nat} {v : Int32} (hc : xSc b c) : xAg b g (up g c i v) := xAg_s hb (fun a ha => up_na (fun z => ha (by rw [z]; exact hc)))
theorem xAg_73 {i : Nat} {v : Int32} (hi : i ≠ 10 ∧ i ≠ 12 ∧ i ≠ 14) : xAg b g (up g 73 i v) := ⟨fun a _ q => up_na (fun z => q z), ⟨up_ne (Or.inr (fun z => hi.1 z.symm)), up_ne (Or.inr (fun z => hi.2.1 z.symm)), up_ne (Or.inr (fun z => hi.2.2 z.symm))⟩⟩
theorem xAg_C (hb : b.2 = 7 ∨ b.2 = 11) (t : Nat) : xAg b g (xfC g t) := xAg_s hb (fun a ha => by
  unfold xfC
  rw [up_na (fun z => ha (by rw [z]; unfold xSc; omega)), up_na (fun z => ha (by rw [z]; unfold xSc; omega))])
theorem xAg_Fr (h : xFr g g') : xAg b g g' := ⟨fun a p q => h.1 a (by unfold xSc at p; omega) q, ⟨h.2 10 (by decide), h.2 12 (by decide), h.2 14 (by decide)⟩⟩
theorem xAg_R (t : Nat) : xAg b g (xfR g t) := xAg_Fr (xFr_fR g t)
theorem xAg_Fp (h : xFp g g') : xAg b g g' := ⟨fun a p q => h.1 a q (by unfold xSc at p; omega) (by unfold xSc at p; omega) (by unfold xSc at p; omega), ⟨h.2 10 (by decide) (by decide) (by decide) (by decide) (by decide), h.2 12 (by decide) (by decide) (by decide) (by decide) (by decide), h.2 14 (by decide) (by decide) (by decide) (by decide) (by decide)⟩⟩
theorem xDk_fr {h tx : Nat → Int32} {a n : Nat} (e : g' a = g a) (hD : xDk g h tx T G Lw a n) : xDk g' h tx T G Lw a n := by
  unfold xDk at hD ⊢
  rw [e]
  exact hD
theorem xb2 (hb : b = (7, 11) ∨ b = (11, 7)) : (b.1 = 7 ∧ b.2 = 11) ∨ (b.1 = 11 ∧ b.2 = 7) := by
  rcases hb with h | h
  · rw [h]; exact Or.inl ⟨rfl, rfl⟩
  · rw [h]; exact Or.inr ⟨rfl, rfl⟩
theorem xro_b (hb : b = (7, 11) ∨ b = (11, 7)) : xro b.1 ∧ xro b.2 := by
  rcases hb with h | h
  · rw [h]; exact ⟨xro_7, xro_11⟩
  · rw [h]; exact ⟨xro_11, xro_7⟩
theorem xIc_ag (hA : xAg b g g') (h : xIc b g G T Lw m) : xIc b g' G T Lw m := by
  obtain ⟨hb, hp, hR, hx, ⟨hs, hm⟩, hD, hK, hZ, hY⟩ := h
  have hq := xb2 hb
  have hn : ∀ a, ¬ xSc b a → ¬ xSz a → g' a = g a := hA.1
  have e1 : g' (b.1 + 1) = g (b.1 + 1) := hn _ (by unfold xSc; omega) (by unfold xSz; omega)
  have e3 : g' (b.1 + 3) = g (b.1 + 3) := hn _ (by unfold xSc; omega) (by unfold xSz; omega)
  refine ⟨hb, xpn_fr (fun i h1 h2 => hn i (by unfold xSc; omega) (by unfold xSz; omega)) hp, xRm_fr (fun i h1 h2 => hn i (by unfold xSc; omega) (by unfold xSz; omega)) hR, by rw [e3]; exact hx, ⟨by rw [hn 4 (by unfold xSc; omega) (by unfold xSz; omega)]; exact hs, hm⟩, by rw [e1, e3]; exact xDk_fr (hn 5 (by unfold xSc; omega) (by unfold xSz; omega)) hD, fun k hk => ?_, fun r hr => by rw [hn (23 + 2 * r) (by unfold xSc; omega) (by unfold xSz; omega)]; exact hZ r hr, fun r hr => by rw [hn (35 + 2 * r) (by unfold xSc; omega) (by unfold xSz; omega)]; exact hY r hr⟩
  rw [hn (67 + 2 * k) (by unfold xSc; omega) (by unfold xSz; omega), e1, e3]
  rcases hK k hk with z | ⟨n, z1, z2, z3⟩
  · exact Or.inl z
  · exact Or.inr ⟨n, z1, z2, xDk_fr (hn (67 + 2 * k + 1) (by unfold xSc; omega) (by unfold xSz; omega)) z3⟩
theorem xIr_ag (hb : b = (7, 11) ∨ b = (11, 7)) (hA : xAg b g g') (h : xIr b g G T Lw m) : xIr b g' G T Lw m := by
  obtain ⟨hR, hs, hD, hK, hZ, hY⟩ := h
  have hq := xb2 hb
  have hn : ∀ a, ¬ xSc b a → ¬ xSz a → g' a = g a := hA.1
  have e1 : g' (b.1 + 1) = g (b.1 + 1) := hn _ (by unfold xSc; omega) (by unfold xSz; omega)
  have e3 : g' (b.1 + 3) = g (b.1 + 3) := hn _ (by unfold xSc; omega) (by unfold xSz; omega)
  have e5 : g' 5 = g 5 := hn _ (by unfold xSc; omega) (by unfold xSz; omega)
  refine ⟨by rw [e1, e3]; exact xRr_fr hA.2.1 hA.2.2.1 (hn _ (by unfold xSc; omega) (by unfold xSz; omega)) (hn _ (by unfold xSc; omega) (by unfold xSz; omega)) (hn _ (by unfold xSc; omega) (by unfold xSz; omega)) hR, by rw [hA.2.2.2]; exact hs, by rw [e1, e3, e5]; exact xDr_fr (hn _ (by unfold xSc; omega) (by unfold xSz; omega)) (hn _ (by unfold xSc; omega) (by unfold xSz; omega)) hD, fun k hk => ?_, fun r hr => ?_, fun t ht => ?_⟩
  · rw [hn 86 (by unfold xSc; omega) (by unfold xSz; omega), hn 87 (by unfold xSc; omega) (by unfold xSz; omega), hn 88 (by unfold xSc; omega) (by unfold xSz; omega), hn (67 + 2 * k) (by unfold xSc; omega) (by unfold xSz; omega), hn (67 + 2 * k + 1) (by unfold xSc; omega) (by unfold xSz; omega)]
    exact hK k hk
  · rw [hn 74 (by unfold xSc; omega) (by unfold xSz; omega), hn 75 (by unfold xSc; omega) (by unfold xSz; omega), hn (23 + 2 * r) (by unfold xSc; omega) (by unfold xSz; omega), hn (23 + 2 * r + 1) (by unfold xSc; omega) (by unfold xSz; omega)]
    exact hZ r hr
  · rw [hn 76 (by unfold xSc; omega) (by unfold xSz; omega), hn 77 (by unfold xSc; omega) (by unfold xSz; omega), hn (35 + 2 * t) (by unfold xSc; omega) (by unfold xSz; omega), hn (35 + 2 * t + 1) (by unfold xSc; omega) (by unfold xSz; omega)]
    exact hY t ht
theorem xJ_ag (hA : xAg b g g') (h : xJ b g) : xJ b g' := by
  obtain ⟨G, T, Lw, m, h1, h2⟩ := h
  exact ⟨G, T, Lw, m, xIc_ag hA h1, xIr_ag h1.1 hA h2⟩
end
/-- a call of the class, of the reference, that leaves all that matters -/
def xCo {α : Type} (kv : α → Value) (mc : Nat) (as : List Value) (b : Nat × Nat) (g : Nat → Nat → Int32) (l : Nat → Nat → Int64) : Prop := xT 10 mc (.ref 0 :: as) (xH b g l) (fun r M => ∃ (v : α) (g1 : Nat → Nat → Int32) (l1 : Nat → Nat → Int64), r = some (kv v) ∧ M = xH b g1 l1 ∧ xAg b g g1)
def xRo {α : Type} (kv : α → Value) (mc : Nat) (as : List Value) (b : Nat × Nat) (g : Nat → Nat → Int32) (l : Nat → Nat → Int64) : Prop := xT 10 mc (.ref 73 :: as) (xH b g l) (fun r M => ∃ (v : α) (g1 : Nat → Nat → Int32) (l1 : Nat → Nat → Int64), r = some (kv v) ∧ M = xH b g1 l1 ∧ xAg b g g1)
/-- both calls, one behind the other -/
def xJ2 {α : Type} (kv : α → Value) (eq : Prop) (mc mr : Nat) (as : List Value) (b : Nat × Nat) (g : Nat → Nat → Int32) (l : Nat → Nat → Int64) : Prop := xT 10 mc (.ref 0 :: as) (xH b g l) (fun r M => ∃ (v : α) (b1 : Nat × Nat) (g1 : Nat → Nat → Int32) (l1 : Nat → Nat → Int64), r = some (kv v) ∧ M = xH b1 g1 l1 ∧ xT 10 mr (.ref 73 :: as) (xH b1 g1 l1) (fun r' M' => ∃ (v' : α) (b2 : Nat × Nat) (g2 : Nat → Nat → Int32) (l2 : Nat → Nat → Int64), r' = some (kv v') ∧ M' = xH b2 g2 l2 ∧ xJ b2 g2 ∧ (eq → v' = v)))
section
variable {b : Nat × Nat} {g X : Nat → Nat → Int32} {l Y : Nat → Nat → Int64} {mc mr : Nat} {as : List Value} {α : Type} {kv : α → Value} {v : α}
theorem xCo.mk (h : xT 10 mc (.ref 0 :: as) (xH b g l) (fun r M => M = xH b X Y ∧ r = some (kv v))) (ha : xAg b g X) : xCo kv mc as b g l := h.weak (fun _ _ z => ⟨v, X, Y, z.2, z.1, ha⟩)
theorem xRo.mk (h : xT 10 mc (.ref 73 :: as) (xH b g l) (fun r M => M = xH b X Y ∧ r = some (kv v))) (ha : xAg b g X) : xRo kv mc as b g l := h.weak (fun _ _ z => ⟨v, X, Y, z.2, z.1, ha⟩)
theorem xJ2.light (hJ : xJ b g) (hc : xCo kv mc as b g l) (hr : ∀ g1 l1, xJ b g1 → xRo kv mr as b g1 l1) : xJ2 kv False mc mr as b g l := hc.weak (fun r M z => by
  obtain ⟨v, g1, l1, e1, e2, hA⟩ := z
  have h1 := xJ_ag hA hJ
  exact ⟨v, b, g1, l1, e1, e2, (hr g1 l1 h1).weak (fun r' M' w => by
    obtain ⟨v', g2, l2, f1, f2, hB⟩ := w
    exact ⟨v', b, g2, l2, f1, f2, xJ_ag hB h1, fun z => z.elim⟩)⟩)
end
theorem xin {n : Nat} {x : Int32} (hn : n < 2 ^ 31) (h : 0 ≤ x ∧ x < nI n) : ∃ t, t < n ∧ x = nI t := by
  obtain ⟨t, ht, e⟩ := nI_of (x := x) (Int32.not_lt.mpr h.1)
  rw [e] at h
  exact ⟨t, (nI_ltI ht hn).mp h.2, e⟩
theorem xinl {n : Nat} {x : Int32} (hn : n < 2 ^ 31) (h : 0 ≤ x ∧ x ≤ nI n) : ∃ t, t ≤ n ∧ x = nI t := by
  obtain ⟨t, ht, e⟩ := nI_of (x := x) (Int32.not_lt.mpr h.1)
  rw [e] at h
  exact ⟨t, (nI_leI ht hn).mp h.2, e⟩

