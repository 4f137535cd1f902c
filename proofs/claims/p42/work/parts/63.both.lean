/-! both calls, op by op -/
theorem xT.and {k mn : Nat} {as : List Value} {M : xM} {P Q : Option Value → xM → Prop} (h1 : xT k mn as M P) (h2 : xT k mn as M Q) : xT k mn as M (fun r M' => P r M' ∧ Q r M') := by
  obtain ⟨r1, M1, p1, f1, H1⟩ := h1
  obtain ⟨r2, M2, p2, f2, H2⟩ := h2
  have e1 := H1 (f1 + f2) k (by omega) (Nat.le_refl k)
  have e2 := H2 (f1 + f2) k (by omega) (Nat.le_refl k)
  rw [e1] at e2
  have e3 := Option.some.inj e2
  have e4 : r1 = r2 := congrArg Prod.fst e3
  have e5 : M1 = M2 := congrArg (fun q => q.2.1) e3
  exact ⟨r1, M1, ⟨p1, by rw [e4, e5]; exact p2⟩, f1, H1⟩
theorem xJ2.lightE {b : Nat × Nat} {g : Nat → Nat → Int32} {l : Nat → Nat → Int64} {mc mr : Nat} {as : List Value} {A : Int32} (hJ : xJ b g) (hc : xCo Value.int mc as b g l) (hr : ∀ g1 l1, xJ b g1 → xRo Value.int mr as b g1 l1) (ha : xT 10 mc (.ref 0 :: as) (xH b g l) (fun r _ => r = some (.int A))) (hb : ∀ g1 l1, xAg b g g1 → xT 10 mr (.ref 73 :: as) (xH b g1 l1) (fun r _ => r = some (.int A))) : xJ2 Value.int True mc mr as b g l := by
  refine (xT.and hc ha).weak (fun r M z => ?_)
  obtain ⟨⟨v, g1, l1, e1, e2, hA⟩, ea⟩ := z
  have h1 := xJ_ag hA hJ
  refine ⟨v, b, g1, l1, e1, e2, (xT.and (hr g1 l1 h1) (hb g1 l1 hA)).weak (fun r' M' w => ?_)⟩
  obtain ⟨⟨v', g2, l2, f1, f2, hB⟩, eb⟩ := w
  refine ⟨v', b, g2, l2, f1, f2, xJ_ag hB h1, fun _ => ?_⟩
  rw [f1] at eb
  rw [e1] at ea
  have z1 := Option.some.inj eb
  have z2 := Option.some.inj ea
  have z3 := z1.trans z2.symm
  cases z3
  rfl
theorem xdl_c {f f' : Nat → Int32} {h : Int64} : ∀ n, (∀ i, i < n → f i = f' i) → xdl f h n = xdl f' h n
  | 0, _ => rfl
  | n + 1, hh => by
    show xdg (xdl f h n) (f n) = xdg (xdl f' h n) (f' n)
    rw [xdl_c n (fun i hi => hh i (by omega)), hh n (by omega)]
theorem xda_c {S S' : Nat → Int32} {F F' : Nat → Nat → Int32} {h : Int64} : ∀ n, (∀ r, r < n → S r = S' r ∧ ∀ i, i < xN (S' r) → F r i = F' r i) → xda S F h n = xda S' F' h n
  | 0, _ => rfl
  | n + 1, hh => by
    show xdr (S n) (F n) (xda S F h n) = xdr (S' n) (F' n) (xda S' F' h n)
    unfold xdr
    rw [xda_c n (fun r hr => hh r (by omega)), (hh n (by omega)).1]
    exact xdl_c _ (hh n (by omega)).2
theorem xdG_c {f f' : Nat → Nat → Int32} {w : Nat} {h : Int64} : ∀ n, (∀ k, k < n → ∀ i, i < w → f k i = f' k i) → xdG f w h n = xdG f' w h n
  | 0, _ => rfl
  | n + 1, hh => by
    show xdl (f n) (xdG f w h n) w = xdl (f' n) (xdG f' w h n) w
    rw [xdG_c n (fun k hk => hh k (by omega))]
    exact xdl_c w (hh n (by omega))
theorem xsz_i {S : Int32} {N i : Nat} (hz : xsz S N) (hN : N < 2 ^ 31) (hi : i < xN S) : ∃ n, n ≤ N ∧ S = nI n ∧ i < n := by
  rcases hz with e | ⟨n, h1, e⟩
  · rw [e] at hi
    exact absurd hi (by rw [xN_m1]; omega)
  · rw [e, xN_nI (by omega)] at hi
    exact ⟨n, h1, e, hi⟩
theorem xJ2.lightL {b : Nat × Nat} {g : Nat → Nat → Int32} {l : Nat → Nat → Int64} {mc mr : Nat} {as : List Value} {A : Int64} (hJ : xJ b g) (hc : xCo Value.long mc as b g l) (hr : ∀ g1 l1, xJ b g1 → xRo Value.long mr as b g1 l1) (ha : xT 10 mc (.ref 0 :: as) (xH b g l) (fun r _ => r = some (.long A))) (hb : ∀ g1 l1, xAg b g g1 → xT 10 mr (.ref 73 :: as) (xH b g1 l1) (fun r _ => r = some (.long A))) : xJ2 Value.long True mc mr as b g l := by
  refine (xT.and hc ha).weak (fun r M z => ?_)
  obtain ⟨⟨v, g1, l1, e1, e2, hA⟩, ea⟩ := z
  have h1 := xJ_ag hA hJ
  refine ⟨v, b, g1, l1, e1, e2, (xT.and (hr g1 l1 h1) (hb g1 l1 hA)).weak (fun r' M' w => ?_)⟩
  obtain ⟨⟨v', g2, l2, f1, f2, hB⟩, eb⟩ := w
  refine ⟨v', b, g2, l2, f1, f2, xJ_ag hB h1, fun _ => ?_⟩
  rw [f1] at eb
  rw [e1] at ea
  have z1 := Option.some.inj eb
  have z2 := Option.some.inj ea
  have z3 := z1.trans z2.symm
  cases z3
  rfl
theorem xN_lt {n : Nat} {x : Int32} (hn : n < 2 ^ 31) (h : 0 ≤ x ∧ x < nI n) : xN x < n := by
  obtain ⟨t, ht, rfl⟩ := xin hn h
  rw [xN_nI (by omega)]
  exact ht
theorem xcan {h f : Nat → Int32} {κ δ n d : Nat} (hd : d < n) : xorf (fun c => decide (xfst (fun i => !decide (xshw h κ δ (xd6 n c) i = f i)) n = none)) (fun c => xd6 n c d) (6 ^ n) = if xnz (xst κ δ (xB h κ f) n) n (xps κ δ f n) = true then xst κ δ (xB h κ f) n d else 0 := by
  rw [show (fun c => decide (xfst (fun i => !decide (xshw h κ δ (xd6 n c) i = f i)) n = none)) = fun c => xps κ δ f n && xall (xal h f κ δ n) n c from funext (fun c => xmatch_all), xst_al]
  have hany := xany (h := h) (f := f) (κ := κ) (δ := δ) (n := n)
  rw [show (fun c => decide (xfst (fun i => !decide (xshw h κ δ (xd6 n c) i = f i)) n = none)) = fun c => xps κ δ f n && xall (xal h f κ δ n) n c from funext (fun c => xmatch_all)] at hany
  cases hp : xps κ δ f n with
  | false =>
    rw [hp] at hany
    rw [if_neg (fun z => (hany.mp z) (xfst_none.mpr (fun c _ => rfl)))]
    have h0 : ∀ N, xorf (fun c => false && xall (xal h f κ δ n) n c) (fun c => xd6 n c d) N = 0 := fun N => by
      induction N with
      | zero => rfl
      | succ N ih => rw [xorf_s, ih]; rfl
    exact h0 _
  | true =>
    rw [hp] at hany
    rw [show (fun c => true && xall (xal h f κ δ n) n c) = xall (xal h f κ δ n) n from funext (fun c => Bool.true_and _)] at hany ⊢
    rw [xall_or hd]
    by_cases z : xfst (xall (xal h f κ δ n) n) (6 ^ n) = none
    · rw [if_pos z, if_neg (fun w => hany.mp w z)]
    · rw [if_neg z, if_pos (hany.mpr z)]
theorem xbc_6 (p : Nat → Bool) : xbc (xbits p 6) = nI (xcnt p 6) := by
  have h : ∀ a b c d e f : Bool, xbc (xbits (fun s => match s with | 0 => a | 1 => b | 2 => c | 3 => d | 4 => e | _ => f) 6) = nI (xcnt (fun s => match s with | 0 => a | 1 => b | 2 => c | 3 => d | 4 => e | _ => f) 6) := by decide +kernel
  exact h (p 0) (p 1) (p 2) (p 3) (p 4) (p 5)
theorem xmir_0 {x : Int32} (h : xstp x) : xmir x = 0 ↔ x = 0 := by
  obtain ⟨v, hv, rfl⟩ := h
  rcases (show v = 0 ∨ v = 1 ∨ v = 2 ∨ v = 3 ∨ v = 4 ∨ v = 5 by omega) with rfl | rfl | rfl | rfl | rfl | rfl <;> decide
section
variable {b : Nat × Nat} {g g1 : Nat → Nat → Int32} {l : Nat → Nat → Int64} {G T m : Nat} {Lw : Nat → Nat} {x y z i j v : Int32}
theorem ea_at (hI : xIc b g G T Lw m) : xT 10 80 [.ref 0, .int x, .int i] (xH b g l) (fun r _ => r = some (.int (if 0 ≤ x ∧ x < 6 then (if g (23 + 2 * xN x) 1 = -1 then (-3 : Int32) else if 0 ≤ i ∧ i < g (23 + 2 * xN x) 1 then 1 else -3) else -1))) := by
  obtain ⟨hb, hp, hR, htx, ⟨hs, hm⟩, hD, hK, hZ, hY⟩ := hI
  obtain ⟨hb1, hb2⟩ := xro_b hb
  have hq := xb2 hb
  have hbv : b.1 = 7 ∨ b.1 = 11 := by omega
  have hbw : b.2 = 7 ∨ b.2 = 11 := by omega
  have eG : g b.1 2 = nI G := hR.1.1
  have hG6 : G ≤ 6 := hR.1.2
  have eT : g b.1 4 = nI T := hR.2.1.1
  have hT8 : T ≤ 8 := hR.2.1.2
  by_cases hx : 0 ≤ x ∧ x < 6
  · rw [if_pos hx]
    obtain ⟨p, hp1, rfl⟩ := xin (n := 6) (by omega) hx
    rw [xN_nI (by omega)]
    rcases hZ p hp1 with e | ⟨m1, hm1, e⟩
    · rw [if_pos e]
      exact (c_X11_at_no hp1 e).weak (fun r M w => w.2)
    · rw [e, if_neg (nI_nm1 (by omega))]
      by_cases hi : 0 ≤ i ∧ i < nI m1
      · rw [if_pos hi]
        obtain ⟨t, ht, rfl⟩ := xin (n := m1) (by omega) hi
        exact (c_X11_at_ok hp1 e hm1 ht).weak (fun r M w => w.2)
      · rw [if_neg hi]
        exact (c_X11_at_bey hp1 e hm1 hi).weak (fun r M w => w.2)
  · rw [if_neg hx]
    exact (c_X11_at_bad hx).weak (fun r M w => w.2)
theorem eb_at (hI : xIc b g G T Lw m) (hJ : xIr b g G T Lw m) : xT 10 161 [.ref 73, .int x, .int i] (xH b g l) (fun r _ => r = some (.int (if 0 ≤ x ∧ x < 6 then (if g (23 + 2 * xN x) 1 = -1 then (-3 : Int32) else if 0 ≤ i ∧ i < g (23 + 2 * xN x) 1 then 1 else -3) else -1))) := by
  obtain ⟨hb, hp, hRm, htx, ⟨_, hm⟩, hDk, hK, hZc, hY⟩ := hI
  obtain ⟨hR, hs, hD, hKr, hQ, hYr⟩ := hJ
  have hZ : ∀ r, r < 6 → xsz (g 74 r) 40 := fun r h => by rw [(hQ r h).1]; exact hZc r h
  have eG : g 73 10 = nI G := hR.1.1
  have hG6 : G ≤ 6 := hR.1.2
  have hT8 : T ≤ 8 := hR.2.1.2
  have hZ6 : ∀ q, q < 6 → xsz (g 74 q) 60 := fun q h => (hZ q h).elim Or.inl (fun ⟨n, a1, a2⟩ => Or.inr ⟨n, by omega, a2⟩)
  have hY6 : ∀ q, q < 4 → xsz (g 76 q) 60 := fun q h => by rw [(hYr q h).1]; exact hY q h
  have hK6 : ∀ q, q < 3 → xsz (g 86 q) 60 := fun q h => by
    rw [(hKr q h).1]
    rcases hK q h with z | ⟨n, z1, z2, _⟩
    · exact Or.inl z
    · exact Or.inr ⟨n, by omega, z2⟩
  by_cases hx : 0 ≤ x ∧ x < 6
  · rw [if_pos hx]
    obtain ⟨p, hp1, rfl⟩ := xin (n := 6) (by omega) hx
    rw [xN_nI (by omega)]
    rcases hZc p hp1 with e | ⟨m1, hm1, e⟩
    · rw [if_pos e]
      exact (c_X12_at_no hp1 (by rw [(hQ p hp1).1]; exact e)).weak (fun r M w => w.2)
    · rw [e, if_neg (nI_nm1 (by omega))]
      by_cases hi : 0 ≤ i ∧ i < nI m1
      · rw [if_pos hi]
        obtain ⟨t, ht, rfl⟩ := xin (n := m1) (by omega) hi
        exact (c_X12_at_ok hp1 (by rw [(hQ p hp1).1]; exact e) hm1 ht).weak (fun r M w => w.2)
      · rw [if_neg hi]
        exact (c_X12_at_bey hp1 (by rw [(hQ p hp1).1]; exact e) hm1 hi).weak (fun r M w => w.2)
  · rw [if_neg hx]
    exact (c_X12_at_bad hx).weak (fun r M w => w.2)
theorem ea_mean (hI : xIc b g G T Lw m) : xT 10 83 [.ref 0, .int x] (xH b g l) (fun r _ => r = some (.int (if 0 ≤ x ∧ x < 6 then (if g (23 + 2 * xN x) 1 = -1 then (-3 : Int32) else if g (23 + 2 * xN x) 1 = nI 0 then -3 else 1) else -1))) := by
  obtain ⟨hb, hp, hR, htx, ⟨hs, hm⟩, hD, hK, hZ, hY⟩ := hI
  obtain ⟨hb1, hb2⟩ := xro_b hb
  have hq := xb2 hb
  have hbv : b.1 = 7 ∨ b.1 = 11 := by omega
  have hbw : b.2 = 7 ∨ b.2 = 11 := by omega
  have eG : g b.1 2 = nI G := hR.1.1
  have hG6 : G ≤ 6 := hR.1.2
  have eT : g b.1 4 = nI T := hR.2.1.1
  have hT8 : T ≤ 8 := hR.2.1.2
  by_cases hx : 0 ≤ x ∧ x < 6
  · rw [if_pos hx]
    obtain ⟨p, hp1, rfl⟩ := xin (n := 6) (by omega) hx
    rw [xN_nI (by omega)]
    rcases hZ p hp1 with e | ⟨m1, hm1, e⟩
    · rw [if_pos e]
      exact (c_X11_mean_no hp1 e).weak (fun r M w => w.2)
    · rw [if_neg (by rw [e]; exact nI_nm1 (by omega))]
      by_cases h0 : m1 = 0
      · subst h0
        rw [if_pos e]
        exact (c_X11_mean_nought hp1 e).weak (fun r M w => w.2)
      · rw [if_neg (by rw [e]; exact fun z => h0 (nI_inj (by omega) (by omega) z))]
        exact (c_X11_mean_ok hp1 e hm1 (by omega)).weak (fun r M w => w.2)
  · rw [if_neg hx]
    exact (c_X11_mean_bad hx).weak (fun r M w => w.2)
theorem eb_mean (hI : xIc b g G T Lw m) (hJ : xIr b g G T Lw m) : xT 10 165 [.ref 73, .int x] (xH b g l) (fun r _ => r = some (.int (if 0 ≤ x ∧ x < 6 then (if g (23 + 2 * xN x) 1 = -1 then (-3 : Int32) else if g (23 + 2 * xN x) 1 = nI 0 then -3 else 1) else -1))) := by
  obtain ⟨hb, hp, hRm, htx, ⟨_, hm⟩, hDk, hK, hZc, hY⟩ := hI
  obtain ⟨hR, hs, hD, hKr, hQ, hYr⟩ := hJ
  have hZ : ∀ r, r < 6 → xsz (g 74 r) 40 := fun r h => by rw [(hQ r h).1]; exact hZc r h
  have eG : g 73 10 = nI G := hR.1.1
  have hG6 : G ≤ 6 := hR.1.2
  have hT8 : T ≤ 8 := hR.2.1.2
  have hZ6 : ∀ q, q < 6 → xsz (g 74 q) 60 := fun q h => (hZ q h).elim Or.inl (fun ⟨n, a1, a2⟩ => Or.inr ⟨n, by omega, a2⟩)
  have hY6 : ∀ q, q < 4 → xsz (g 76 q) 60 := fun q h => by rw [(hYr q h).1]; exact hY q h
  have hK6 : ∀ q, q < 3 → xsz (g 86 q) 60 := fun q h => by
    rw [(hKr q h).1]
    rcases hK q h with z | ⟨n, z1, z2, _⟩
    · exact Or.inl z
    · exact Or.inr ⟨n, by omega, z2⟩
  by_cases hx : 0 ≤ x ∧ x < 6
  · rw [if_pos hx]
    obtain ⟨p, hp1, rfl⟩ := xin (n := 6) (by omega) hx
    rw [xN_nI (by omega)]
    rcases hZc p hp1 with e | ⟨m1, hm1, e⟩
    · rw [if_pos e]
      exact (c_X12_mean_no hp1 (by rw [(hQ p hp1).1]; exact e)).weak (fun r M w => w.2)
    · rw [if_neg (by rw [e]; exact nI_nm1 (by omega))]
      by_cases h0 : m1 = 0
      · subst h0
        rw [if_pos e]
        exact (c_X12_mean_nought hp1 (by rw [(hQ p hp1).1]; exact e)).weak (fun r M w => w.2)
      · rw [if_neg (by rw [e]; exact fun z => h0 (nI_inj (by omega) (by omega) z))]
        exact (c_X12_mean_ok hp1 (by rw [(hQ p hp1).1]; exact e) hm1 (by omega)).weak (fun r M w => w.2)
  · rw [if_neg hx]
    exact (c_X12_mean_bad hx).weak (fun r M w => w.2)
theorem ea_ways (hI : xIc b g G T Lw m) : xT 10 102 [.ref 0, .int x, .int y] (xH b g l) (fun r _ => r = some (.int (if (0 ≤ x ∧ x < nI G) ∧ 0 ≤ y ∧ y < 6 then (if xfos (g (23 + 2 * xN y) 1) (g (23 + 2 * xN y + 1)) 6 = 0 then (1 : Int32) else -3) else -1))) := by
  obtain ⟨hb, hp, hR, htx, ⟨hs, hm⟩, hD, hK, hZ, hY⟩ := hI
  obtain ⟨hb1, hb2⟩ := xro_b hb
  have hq := xb2 hb
  have hbv : b.1 = 7 ∨ b.1 = 11 := by omega
  have hbw : b.2 = 7 ∨ b.2 = 11 := by omega
  have eG : g b.1 2 = nI G := hR.1.1
  have hG6 : G ≤ 6 := hR.1.2
  have eT : g b.1 4 = nI T := hR.2.1.1
  have hT8 : T ≤ 8 := hR.2.1.2
  by_cases hx : (0 ≤ x ∧ x < nI G) ∧ 0 ≤ y ∧ y < 6
  · rw [if_pos hx]
    obtain ⟨s, hk, rfl⟩ := xin (n := G) (by omega) hx.1
    obtain ⟨t, ht, rfl⟩ := xin (n := 6) (by omega) hx.2
    simp only [xN_nI (show s < 2 ^ 31 by omega), xN_nI (show t < 2 ^ 31 by omega)]
    by_cases hf : xfos (g (23 + 2 * t) 1) (g (23 + 2 * t + 1)) 6 = 0
    · rw [if_pos hf]
      obtain ⟨m1, e, h12, h40, hxs⟩ := xfos_0 (hZ t ht) (by decide) (by decide) hf
      try rw [show xN (g (23 + 2 * t) 1) = m1 from by rw [e]; exact xN_nI (by omega)]
      exact (c_X11_ways_ok hb1 hR hp hbv hk ht e h12 hf hxs).weak (fun r M w => w.2)
    · rw [if_neg hf]
      exact (c_X11_ways_ref hb1 hR hk ht (hZ t ht) hf).weak (fun r M w => w.2)
  · rw [if_neg hx]
    exact (c_X11_ways_bad hb1 (by rw [eG]; exact hx)).weak (fun r M w => w.2)
theorem eb_ways (hI : xIc b g G T Lw m) (hJ : xIr b g G T Lw m) : xT 10 210 [.ref 73, .int x, .int y] (xH b g l) (fun r _ => r = some (.int (if (0 ≤ x ∧ x < nI G) ∧ 0 ≤ y ∧ y < 6 then (if xfos (g (23 + 2 * xN y) 1) (g (23 + 2 * xN y + 1)) 6 = 0 then (1 : Int32) else -3) else -1))) := by
  obtain ⟨hb, hp, hRm, htx, ⟨_, hm⟩, hDk, hK, hZc, hY⟩ := hI
  obtain ⟨hR, hs, hD, hKr, hQ, hYr⟩ := hJ
  have hZ : ∀ r, r < 6 → xsz (g 74 r) 40 := fun r h => by rw [(hQ r h).1]; exact hZc r h
  have eG : g 73 10 = nI G := hR.1.1
  have hG6 : G ≤ 6 := hR.1.2
  have hT8 : T ≤ 8 := hR.2.1.2
  have hZ6 : ∀ q, q < 6 → xsz (g 74 q) 60 := fun q h => (hZ q h).elim Or.inl (fun ⟨n, a1, a2⟩ => Or.inr ⟨n, by omega, a2⟩)
  have hY6 : ∀ q, q < 4 → xsz (g 76 q) 60 := fun q h => by rw [(hYr q h).1]; exact hY q h
  have hK6 : ∀ q, q < 3 → xsz (g 86 q) 60 := fun q h => by
    rw [(hKr q h).1]
    rcases hK q h with z | ⟨n, z1, z2, _⟩
    · exact Or.inl z
    · exact Or.inr ⟨n, by omega, z2⟩
  by_cases hx : (0 ≤ x ∧ x < nI G) ∧ 0 ≤ y ∧ y < 6
  · rw [if_pos hx]
    obtain ⟨s, hk, rfl⟩ := xin (n := G) (by omega) hx.1
    obtain ⟨p, hp1, rfl⟩ := xin (n := 6) (by omega) hx.2
    simp only [xN_nI (show s < 2 ^ 31 by omega), xN_nI (show p < 2 ^ 31 by omega)]
    have eS : g 74 p = g (23 + 2 * p) 1 := (hQ p hp1).1
    have eF : xfos (g 74 p) (fun i => g 75 (40 * p + i)) 6 = xfos (g (23 + 2 * p) 1) (g (23 + 2 * p + 1)) 6 := by
      rw [eS]
      exact xfos_c (hZc p hp1) (fun n hn en i hi => (hQ p hp1).2 n hn en i hi)
    by_cases hf : xfos (g (23 + 2 * p) 1) (g (23 + 2 * p + 1)) 6 = 0
    · rw [if_pos hf]
      obtain ⟨m1, e, h12, h40, hxs⟩ := xfos_0 (hZc p hp1) (by decide) (by decide) hf
      try rw [show xN (g (23 + 2 * p) 1) = m1 from by rw [e]; exact xN_nI (by omega)]
      have er : g 74 p = nI m1 := by rw [eS]; exact e
      have hrow : ∀ i, i < m1 → g 75 (40 * p + i) = g (23 + 2 * p + 1) i := (hQ p hp1).2 m1 h40 e
      have hf2 : xfos (g 74 p) (fun i => g 75 (40 * p + i)) 6 = 0 := by rw [eF]; exact hf
      have hxs2 : ∀ i, i < m1 → xstp (g 75 (40 * p + i)) := fun i hi => by rw [hrow i hi]; exact hxs i hi
      exact (c_X12_ways_ok hR hk hp1 er h12 hf2 hxs2).weak (fun r M w => by obtain ⟨_, _, _, e3⟩ := w; exact e3)
    · rw [if_neg hf]
      exact (c_X12_ways_ref hR hk hp1 (hZ p hp1) (by rw [eF]; exact hf)).weak (fun r M w => by obtain ⟨_, _, _, e3⟩ := w; exact e3)
  · rw [if_neg hx]
    exact (c_X12_ways_bad hR hx).weak (fun r M w => w.2)
theorem ea_odds (hI : xIc b g G T Lw m) : xT 10 112 [.ref 0, .int x, .int y, .int z] (xH b g l) (fun r _ => r = some (.int (if (0 ≤ x ∧ x < nI G) ∧ (0 ≤ y ∧ y < 6) ∧ 0 ≤ z ∧ z ≤ 12 then (if xfos (g (23 + 2 * xN y) 1) (g (23 + 2 * xN y + 1)) 12 = 0 then (1 : Int32) else -3) else -1))) := by
  obtain ⟨hb, hp, hR, htx, ⟨hs, hm⟩, hD, hK, hZ, hY⟩ := hI
  obtain ⟨hb1, hb2⟩ := xro_b hb
  have hq := xb2 hb
  have hbv : b.1 = 7 ∨ b.1 = 11 := by omega
  have hbw : b.2 = 7 ∨ b.2 = 11 := by omega
  have eG : g b.1 2 = nI G := hR.1.1
  have hG6 : G ≤ 6 := hR.1.2
  have eT : g b.1 4 = nI T := hR.2.1.1
  have hT8 : T ≤ 8 := hR.2.1.2
  by_cases hx : (0 ≤ x ∧ x < nI G) ∧ (0 ≤ y ∧ y < 6) ∧ 0 ≤ z ∧ z ≤ 12
  · rw [if_pos hx]
    obtain ⟨s, hk, rfl⟩ := xin (n := G) (by omega) hx.1
    obtain ⟨t, ht, rfl⟩ := xin (n := 6) (by omega) hx.2.1
    obtain ⟨e1, he, rfl⟩ := xinl (n := 12) (by omega) hx.2.2
    simp only [xN_nI (show s < 2 ^ 31 by omega), xN_nI (show t < 2 ^ 31 by omega)]
    by_cases hf : xfos (g (23 + 2 * t) 1) (g (23 + 2 * t + 1)) 12 = 0
    · rw [if_pos hf]
      obtain ⟨m1, e, h12, h40, hxs⟩ := xfos_0 (hZ t ht) (by decide) (by decide) hf
      try rw [show xN (g (23 + 2 * t) 1) = m1 from by rw [e]; exact xN_nI (by omega)]
      exact (c_X11_odds_ok hb1 hR hp hk ht he e h12 hf hxs).weak (fun r M w => w.2)
    · rw [if_neg hf]
      exact (c_X11_odds_ref hb1 hR hk ht (hZ t ht) he hf).weak (fun r M w => w.2)
  · rw [if_neg hx]
    exact (c_X11_odds_bad hb1 (by rw [eG]; exact hx)).weak (fun r M w => w.2)
theorem eb_odds (hI : xIc b g G T Lw m) (hJ : xIr b g G T Lw m) : xT 10 225 [.ref 73, .int x, .int y, .int z] (xH b g l) (fun r _ => r = some (.int (if (0 ≤ x ∧ x < nI G) ∧ (0 ≤ y ∧ y < 6) ∧ 0 ≤ z ∧ z ≤ 12 then (if xfos (g (23 + 2 * xN y) 1) (g (23 + 2 * xN y + 1)) 12 = 0 then (1 : Int32) else -3) else -1))) := by
  obtain ⟨hb, hp, hRm, htx, ⟨_, hm⟩, hDk, hK, hZc, hY⟩ := hI
  obtain ⟨hR, hs, hD, hKr, hQ, hYr⟩ := hJ
  have hZ : ∀ r, r < 6 → xsz (g 74 r) 40 := fun r h => by rw [(hQ r h).1]; exact hZc r h
  have eG : g 73 10 = nI G := hR.1.1
  have hG6 : G ≤ 6 := hR.1.2
  have hT8 : T ≤ 8 := hR.2.1.2
  have hZ6 : ∀ q, q < 6 → xsz (g 74 q) 60 := fun q h => (hZ q h).elim Or.inl (fun ⟨n, a1, a2⟩ => Or.inr ⟨n, by omega, a2⟩)
  have hY6 : ∀ q, q < 4 → xsz (g 76 q) 60 := fun q h => by rw [(hYr q h).1]; exact hY q h
  have hK6 : ∀ q, q < 3 → xsz (g 86 q) 60 := fun q h => by
    rw [(hKr q h).1]
    rcases hK q h with z | ⟨n, z1, z2, _⟩
    · exact Or.inl z
    · exact Or.inr ⟨n, by omega, z2⟩
  by_cases hx : (0 ≤ x ∧ x < nI G) ∧ (0 ≤ y ∧ y < 6) ∧ 0 ≤ z ∧ z ≤ 12
  · rw [if_pos hx]
    obtain ⟨s, hk, rfl⟩ := xin (n := G) (by omega) hx.1
    obtain ⟨p, hp1, rfl⟩ := xin (n := 6) (by omega) hx.2.1
    obtain ⟨e1, he, rfl⟩ := xinl (n := 12) (by omega) hx.2.2
    simp only [xN_nI (show s < 2 ^ 31 by omega), xN_nI (show p < 2 ^ 31 by omega)]
    have eS : g 74 p = g (23 + 2 * p) 1 := (hQ p hp1).1
    have eF : xfos (g 74 p) (fun i => g 75 (40 * p + i)) 12 = xfos (g (23 + 2 * p) 1) (g (23 + 2 * p + 1)) 12 := by
      rw [eS]
      exact xfos_c (hZc p hp1) (fun n hn en i hi => (hQ p hp1).2 n hn en i hi)
    by_cases hf : xfos (g (23 + 2 * p) 1) (g (23 + 2 * p + 1)) 12 = 0
    · rw [if_pos hf]
      obtain ⟨m1, e, h12, h40, hxs⟩ := xfos_0 (hZc p hp1) (by decide) (by decide) hf
      try rw [show xN (g (23 + 2 * p) 1) = m1 from by rw [e]; exact xN_nI (by omega)]
      have er : g 74 p = nI m1 := by rw [eS]; exact e
      have hrow : ∀ i, i < m1 → g 75 (40 * p + i) = g (23 + 2 * p + 1) i := (hQ p hp1).2 m1 h40 e
      have hf2 : xfos (g 74 p) (fun i => g 75 (40 * p + i)) 12 = 0 := by rw [eF]; exact hf
      have hxs2 : ∀ i, i < m1 → xstp (g 75 (40 * p + i)) := fun i hi => by rw [hrow i hi]; exact hxs i hi
      exact (c_X12_odds_ok hR hk he hp1 er h12 hf2 hxs2).weak (fun r M w => by obtain ⟨_, _, _, e3⟩ := w; exact e3)
    · rw [if_neg hf]
      exact (c_X12_odds_ref hR hk hp1 he (hZ p hp1) (by rw [eF]; exact hf)).weak (fun r M w => by obtain ⟨_, _, _, e3⟩ := w; exact e3)
  · rw [if_neg hx]
    exact (c_X12_odds_bad hR hx).weak (fun r M w => w.2)
theorem ea_mid (hI : xIc b g G T Lw m) : xT 10 113 [.ref 0, .int x, .int y, .int z] (xH b g l) (fun r _ => r = some (.int (if (0 ≤ x ∧ x < nI G) ∧ (0 ≤ y ∧ y < 6) ∧ 0 ≤ z ∧ z ≤ 12 then (if xfos (g (23 + 2 * xN y) 1) (g (23 + 2 * xN y + 1)) 12 = 0 then (1 : Int32) else -3) else -1))) := by
  obtain ⟨hb, hp, hR, htx, ⟨hs, hm⟩, hD, hK, hZ, hY⟩ := hI
  obtain ⟨hb1, hb2⟩ := xro_b hb
  have hq := xb2 hb
  have hbv : b.1 = 7 ∨ b.1 = 11 := by omega
  have hbw : b.2 = 7 ∨ b.2 = 11 := by omega
  have eG : g b.1 2 = nI G := hR.1.1
  have hG6 : G ≤ 6 := hR.1.2
  have eT : g b.1 4 = nI T := hR.2.1.1
  have hT8 : T ≤ 8 := hR.2.1.2
  by_cases hx : (0 ≤ x ∧ x < nI G) ∧ (0 ≤ y ∧ y < 6) ∧ 0 ≤ z ∧ z ≤ 12
  · rw [if_pos hx]
    obtain ⟨s, hk, rfl⟩ := xin (n := G) (by omega) hx.1
    obtain ⟨t, ht, rfl⟩ := xin (n := 6) (by omega) hx.2.1
    obtain ⟨e1, he, rfl⟩ := xinl (n := 12) (by omega) hx.2.2
    simp only [xN_nI (show s < 2 ^ 31 by omega), xN_nI (show t < 2 ^ 31 by omega)]
    by_cases hf : xfos (g (23 + 2 * t) 1) (g (23 + 2 * t + 1)) 12 = 0
    · rw [if_pos hf]
      obtain ⟨m1, e, h12, h40, hxs⟩ := xfos_0 (hZ t ht) (by decide) (by decide) hf
      try rw [show xN (g (23 + 2 * t) 1) = m1 from by rw [e]; exact xN_nI (by omega)]
      exact (c_X11_mid_ok hb1 hR hp hk ht he e h12 hf hxs).weak (fun r M w => w.2)
    · rw [if_neg hf]
      exact (c_X11_mid_ref hb1 hR hk ht (hZ t ht) he hf).weak (fun r M w => w.2)
  · rw [if_neg hx]
    exact (c_X11_mid_bad hb1 (by rw [eG]; exact hx)).weak (fun r M w => w.2)
theorem eb_mid (hI : xIc b g G T Lw m) (hJ : xIr b g G T Lw m) : xT 10 226 [.ref 73, .int x, .int y, .int z] (xH b g l) (fun r _ => r = some (.int (if (0 ≤ x ∧ x < nI G) ∧ (0 ≤ y ∧ y < 6) ∧ 0 ≤ z ∧ z ≤ 12 then (if xfos (g (23 + 2 * xN y) 1) (g (23 + 2 * xN y + 1)) 12 = 0 then (1 : Int32) else -3) else -1))) := by
  obtain ⟨hb, hp, hRm, htx, ⟨_, hm⟩, hDk, hK, hZc, hY⟩ := hI
  obtain ⟨hR, hs, hD, hKr, hQ, hYr⟩ := hJ
  have hZ : ∀ r, r < 6 → xsz (g 74 r) 40 := fun r h => by rw [(hQ r h).1]; exact hZc r h
  have eG : g 73 10 = nI G := hR.1.1
  have hG6 : G ≤ 6 := hR.1.2
  have hT8 : T ≤ 8 := hR.2.1.2
  have hZ6 : ∀ q, q < 6 → xsz (g 74 q) 60 := fun q h => (hZ q h).elim Or.inl (fun ⟨n, a1, a2⟩ => Or.inr ⟨n, by omega, a2⟩)
  have hY6 : ∀ q, q < 4 → xsz (g 76 q) 60 := fun q h => by rw [(hYr q h).1]; exact hY q h
  have hK6 : ∀ q, q < 3 → xsz (g 86 q) 60 := fun q h => by
    rw [(hKr q h).1]
    rcases hK q h with z | ⟨n, z1, z2, _⟩
    · exact Or.inl z
    · exact Or.inr ⟨n, by omega, z2⟩
  by_cases hx : (0 ≤ x ∧ x < nI G) ∧ (0 ≤ y ∧ y < 6) ∧ 0 ≤ z ∧ z ≤ 12
  · rw [if_pos hx]
    obtain ⟨s, hk, rfl⟩ := xin (n := G) (by omega) hx.1
    obtain ⟨p, hp1, rfl⟩ := xin (n := 6) (by omega) hx.2.1
    obtain ⟨e1, he, rfl⟩ := xinl (n := 12) (by omega) hx.2.2
    simp only [xN_nI (show s < 2 ^ 31 by omega), xN_nI (show p < 2 ^ 31 by omega)]
    have eS : g 74 p = g (23 + 2 * p) 1 := (hQ p hp1).1
    have eF : xfos (g 74 p) (fun i => g 75 (40 * p + i)) 12 = xfos (g (23 + 2 * p) 1) (g (23 + 2 * p + 1)) 12 := by
      rw [eS]
      exact xfos_c (hZc p hp1) (fun n hn en i hi => (hQ p hp1).2 n hn en i hi)
    by_cases hf : xfos (g (23 + 2 * p) 1) (g (23 + 2 * p + 1)) 12 = 0
    · rw [if_pos hf]
      obtain ⟨m1, e, h12, h40, hxs⟩ := xfos_0 (hZc p hp1) (by decide) (by decide) hf
      try rw [show xN (g (23 + 2 * p) 1) = m1 from by rw [e]; exact xN_nI (by omega)]
      have er : g 74 p = nI m1 := by rw [eS]; exact e
      have hrow : ∀ i, i < m1 → g 75 (40 * p + i) = g (23 + 2 * p + 1) i := (hQ p hp1).2 m1 h40 e
      have hf2 : xfos (g 74 p) (fun i => g 75 (40 * p + i)) 12 = 0 := by rw [eF]; exact hf
      have hxs2 : ∀ i, i < m1 → xstp (g 75 (40 * p + i)) := fun i hi => by rw [hrow i hi]; exact hxs i hi
      exact (c_X12_mid_ok hR hk he hp1 er h12 hf2 hxs2).weak (fun r M w => by obtain ⟨_, _, _, e3⟩ := w; exact e3)
    · rw [if_neg hf]
      exact (c_X12_mid_ref hR hk hp1 he (hZ p hp1) (by rw [eF]; exact hf)).weak (fun r M w => by obtain ⟨_, _, _, e3⟩ := w; exact e3)
  · rw [if_neg hx]
    exact (c_X12_mid_bad hR hx).weak (fun r M w => w.2)
theorem ea_breaks (hI : xIc b g G T Lw m) : xT 10 99 [.ref 0, .int x, .int y] (xH b g l) (fun r _ => r = some (.int (if (0 ≤ x ∧ x < nI G) ∧ 0 ≤ y ∧ y < 6 then (if xfos (g (23 + 2 * xN y) 1) (g (23 + 2 * xN y + 1)) 12 = 0 then xfI (xfst (fun i => !decide (xfb (g (b.1 + 3)) T (g (23 + 2 * xN y + 1) i) (xshw (g (b.1 + 1)) (Lw (xN x) / 4) (Lw (xN x) % 4) (fun i => xN (g (23 + 2 * xN y + 1) i)) i) = none)) (xN (g (23 + 2 * xN y) 1))) else -3) else -1))) := by
  obtain ⟨hb, hp, hR, htx, ⟨hs, hm⟩, hD, hK, hZ, hY⟩ := hI
  obtain ⟨hb1, hb2⟩ := xro_b hb
  have hq := xb2 hb
  have hbv : b.1 = 7 ∨ b.1 = 11 := by omega
  have hbw : b.2 = 7 ∨ b.2 = 11 := by omega
  have eG : g b.1 2 = nI G := hR.1.1
  have hG6 : G ≤ 6 := hR.1.2
  have eT : g b.1 4 = nI T := hR.2.1.1
  have hT8 : T ≤ 8 := hR.2.1.2
  by_cases hx : (0 ≤ x ∧ x < nI G) ∧ 0 ≤ y ∧ y < 6
  · rw [if_pos hx]
    obtain ⟨s, hk, rfl⟩ := xin (n := G) (by omega) hx.1
    obtain ⟨t, ht, rfl⟩ := xin (n := 6) (by omega) hx.2
    simp only [xN_nI (show s < 2 ^ 31 by omega), xN_nI (show t < 2 ^ 31 by omega)]
    by_cases hf : xfos (g (23 + 2 * t) 1) (g (23 + 2 * t + 1)) 12 = 0
    · rw [if_pos hf]
      obtain ⟨m1, e, h12, h40, hxs⟩ := xfos_0 (hZ t ht) (by decide) (by decide) hf
      try rw [show xN (g (23 + 2 * t) 1) = m1 from by rw [e]; exact xN_nI (by omega)]
      exact (c_X11_breaks_ok hb1 hR hp hk ht e h12 hf hxs).weak (fun r M w => w.2)
    · rw [if_neg hf]
      exact (c_X11_breaks_ref hb1 hR hk ht (hZ t ht) hf).weak (fun r M w => w.2)
  · rw [if_neg hx]
    exact (c_X11_breaks_bad hb1 (by rw [eG]; exact hx)).weak (fun r M w => w.2)
theorem eb_breaks (hI : xIc b g G T Lw m) (hJ : xIr b g G T Lw m) : xT 10 204 [.ref 73, .int x, .int y] (xH b g l) (fun r _ => r = some (.int (if (0 ≤ x ∧ x < nI G) ∧ 0 ≤ y ∧ y < 6 then (if xfos (g (23 + 2 * xN y) 1) (g (23 + 2 * xN y + 1)) 12 = 0 then xfI (xfst (fun i => !decide (xfb (g (b.1 + 3)) T (g (23 + 2 * xN y + 1) i) (xshw (g (b.1 + 1)) (Lw (xN x) / 4) (Lw (xN x) % 4) (fun i => xN (g (23 + 2 * xN y + 1) i)) i) = none)) (xN (g (23 + 2 * xN y) 1))) else -3) else -1))) := by
  obtain ⟨hb, hp, hRm, htx, ⟨_, hm⟩, hDk, hK, hZc, hY⟩ := hI
  obtain ⟨hR, hs, hD, hKr, hQ, hYr⟩ := hJ
  have hZ : ∀ r, r < 6 → xsz (g 74 r) 40 := fun r h => by rw [(hQ r h).1]; exact hZc r h
  have eG : g 73 10 = nI G := hR.1.1
  have hG6 : G ≤ 6 := hR.1.2
  have hT8 : T ≤ 8 := hR.2.1.2
  have hZ6 : ∀ q, q < 6 → xsz (g 74 q) 60 := fun q h => (hZ q h).elim Or.inl (fun ⟨n, a1, a2⟩ => Or.inr ⟨n, by omega, a2⟩)
  have hY6 : ∀ q, q < 4 → xsz (g 76 q) 60 := fun q h => by rw [(hYr q h).1]; exact hY q h
  have hK6 : ∀ q, q < 3 → xsz (g 86 q) 60 := fun q h => by
    rw [(hKr q h).1]
    rcases hK q h with z | ⟨n, z1, z2, _⟩
    · exact Or.inl z
    · exact Or.inr ⟨n, by omega, z2⟩
  by_cases hx : (0 ≤ x ∧ x < nI G) ∧ 0 ≤ y ∧ y < 6
  · rw [if_pos hx]
    obtain ⟨s, hk, rfl⟩ := xin (n := G) (by omega) hx.1
    obtain ⟨p, hp1, rfl⟩ := xin (n := 6) (by omega) hx.2
    simp only [xN_nI (show s < 2 ^ 31 by omega), xN_nI (show p < 2 ^ 31 by omega)]
    have eS : g 74 p = g (23 + 2 * p) 1 := (hQ p hp1).1
    have eF : xfos (g 74 p) (fun i => g 75 (40 * p + i)) 12 = xfos (g (23 + 2 * p) 1) (g (23 + 2 * p + 1)) 12 := by
      rw [eS]
      exact xfos_c (hZc p hp1) (fun n hn en i hi => (hQ p hp1).2 n hn en i hi)
    by_cases hf : xfos (g (23 + 2 * p) 1) (g (23 + 2 * p + 1)) 12 = 0
    · rw [if_pos hf]
      obtain ⟨m1, e, h12, h40, hxs⟩ := xfos_0 (hZc p hp1) (by decide) (by decide) hf
      try rw [show xN (g (23 + 2 * p) 1) = m1 from by rw [e]; exact xN_nI (by omega)]
      have er : g 74 p = nI m1 := by rw [eS]; exact e
      have hrow : ∀ i, i < m1 → g 75 (40 * p + i) = g (23 + 2 * p + 1) i := (hQ p hp1).2 m1 h40 e
      have hf2 : xfos (g 74 p) (fun i => g 75 (40 * p + i)) 12 = 0 := by rw [eF]; exact hf
      have hxs2 : ∀ i, i < m1 → xstp (g 75 (40 * p + i)) := fun i hi => by rw [hrow i hi]; exact hxs i hi
      have e8 : ∀ i, i < m1 → xshw (g (b.1 + 1)) (Lw s / 4) (Lw s % 4) (fun i => xN (g 75 (40 * p + i))) i = xshw (g (b.1 + 1)) (Lw s / 4) (Lw s % 4) (fun i => xN (g (23 + 2 * p + 1) i)) i := fun i hi => xshw_c (fun j hj => by show xN (g 75 (40 * p + j)) = xN (g (23 + 2 * p + 1) j); rw [hrow j (by omega)])
      refine (c_X12_breaks_ok hR hk hp1 er h12 hf2 hxs2).weak (fun r M w => ?_)
      obtain ⟨_, _, _, e3⟩ := w
      rw [e3]
      congr 3
      refine xfst_congr (fun i hi => ?_)
      have e7 : nI (xN (g 75 (40 * p + i))) = g (23 + 2 * p + 1) i := by
        rw [hrow i hi]
        obtain ⟨v, hv, ev⟩ := hxs i hi
        rw [ev, xN_nI (by omega)]
      dsimp only
      rw [e7, e8 i hi]
    · rw [if_neg hf]
      exact (c_X12_breaks_ref hR hk hp1 (hZ p hp1) (by rw [eF]; exact hf)).weak (fun r M w => by obtain ⟨_, _, _, e3⟩ := w; exact e3)
  · rw [if_neg hx]
    exact (c_X12_breaks_bad hR hx).weak (fun r M w => w.2)
theorem ea_alike (hI : xIc b g G T Lw m) : xT 10 100 [.ref 0, .int x, .int y] (xH b g l) (fun r _ => r = some (.int (if (0 ≤ x ∧ x < nI G) ∧ 0 ≤ y ∧ y < 6 then (if xfos (g (23 + 2 * xN y) 1) (g (23 + 2 * xN y + 1)) 12 = 0 then nI (xcnt (fun i => decide (g (23 + 2 * xN y + 1) i = xshw (g (b.1 + 1)) (Lw (xN x) / 4) (Lw (xN x) % 4) (fun i => xN (g (23 + 2 * xN y + 1) i)) i)) (xN (g (23 + 2 * xN y) 1))) else -3) else -1))) := by
  obtain ⟨hb, hp, hR, htx, ⟨hs, hm⟩, hD, hK, hZ, hY⟩ := hI
  obtain ⟨hb1, hb2⟩ := xro_b hb
  have hq := xb2 hb
  have hbv : b.1 = 7 ∨ b.1 = 11 := by omega
  have hbw : b.2 = 7 ∨ b.2 = 11 := by omega
  have eG : g b.1 2 = nI G := hR.1.1
  have hG6 : G ≤ 6 := hR.1.2
  have eT : g b.1 4 = nI T := hR.2.1.1
  have hT8 : T ≤ 8 := hR.2.1.2
  by_cases hx : (0 ≤ x ∧ x < nI G) ∧ 0 ≤ y ∧ y < 6
  · rw [if_pos hx]
    obtain ⟨s, hk, rfl⟩ := xin (n := G) (by omega) hx.1
    obtain ⟨t, ht, rfl⟩ := xin (n := 6) (by omega) hx.2
    simp only [xN_nI (show s < 2 ^ 31 by omega), xN_nI (show t < 2 ^ 31 by omega)]
    by_cases hf : xfos (g (23 + 2 * t) 1) (g (23 + 2 * t + 1)) 12 = 0
    · rw [if_pos hf]
      obtain ⟨m1, e, h12, h40, hxs⟩ := xfos_0 (hZ t ht) (by decide) (by decide) hf
      try rw [show xN (g (23 + 2 * t) 1) = m1 from by rw [e]; exact xN_nI (by omega)]
      exact (c_X11_alike_ok hb1 hR hp hk ht e h12 hf hxs).weak (fun r M w => w.2)
    · rw [if_neg hf]
      exact (c_X11_alike_ref hb1 hR hk ht (hZ t ht) hf).weak (fun r M w => w.2)
  · rw [if_neg hx]
    exact (c_X11_alike_bad hb1 (by rw [eG]; exact hx)).weak (fun r M w => w.2)
theorem eb_alike (hI : xIc b g G T Lw m) (hJ : xIr b g G T Lw m) : xT 10 205 [.ref 73, .int x, .int y] (xH b g l) (fun r _ => r = some (.int (if (0 ≤ x ∧ x < nI G) ∧ 0 ≤ y ∧ y < 6 then (if xfos (g (23 + 2 * xN y) 1) (g (23 + 2 * xN y + 1)) 12 = 0 then nI (xcnt (fun i => decide (g (23 + 2 * xN y + 1) i = xshw (g (b.1 + 1)) (Lw (xN x) / 4) (Lw (xN x) % 4) (fun i => xN (g (23 + 2 * xN y + 1) i)) i)) (xN (g (23 + 2 * xN y) 1))) else -3) else -1))) := by
  obtain ⟨hb, hp, hRm, htx, ⟨_, hm⟩, hDk, hK, hZc, hY⟩ := hI
  obtain ⟨hR, hs, hD, hKr, hQ, hYr⟩ := hJ
  have hZ : ∀ r, r < 6 → xsz (g 74 r) 40 := fun r h => by rw [(hQ r h).1]; exact hZc r h
  have eG : g 73 10 = nI G := hR.1.1
  have hG6 : G ≤ 6 := hR.1.2
  have hT8 : T ≤ 8 := hR.2.1.2
  have hZ6 : ∀ q, q < 6 → xsz (g 74 q) 60 := fun q h => (hZ q h).elim Or.inl (fun ⟨n, a1, a2⟩ => Or.inr ⟨n, by omega, a2⟩)
  have hY6 : ∀ q, q < 4 → xsz (g 76 q) 60 := fun q h => by rw [(hYr q h).1]; exact hY q h
  have hK6 : ∀ q, q < 3 → xsz (g 86 q) 60 := fun q h => by
    rw [(hKr q h).1]
    rcases hK q h with z | ⟨n, z1, z2, _⟩
    · exact Or.inl z
    · exact Or.inr ⟨n, by omega, z2⟩
  by_cases hx : (0 ≤ x ∧ x < nI G) ∧ 0 ≤ y ∧ y < 6
  · rw [if_pos hx]
    obtain ⟨s, hk, rfl⟩ := xin (n := G) (by omega) hx.1
    obtain ⟨p, hp1, rfl⟩ := xin (n := 6) (by omega) hx.2
    simp only [xN_nI (show s < 2 ^ 31 by omega), xN_nI (show p < 2 ^ 31 by omega)]
    have eS : g 74 p = g (23 + 2 * p) 1 := (hQ p hp1).1
    have eF : xfos (g 74 p) (fun i => g 75 (40 * p + i)) 12 = xfos (g (23 + 2 * p) 1) (g (23 + 2 * p + 1)) 12 := by
      rw [eS]
      exact xfos_c (hZc p hp1) (fun n hn en i hi => (hQ p hp1).2 n hn en i hi)
    by_cases hf : xfos (g (23 + 2 * p) 1) (g (23 + 2 * p + 1)) 12 = 0
    · rw [if_pos hf]
      obtain ⟨m1, e, h12, h40, hxs⟩ := xfos_0 (hZc p hp1) (by decide) (by decide) hf
      try rw [show xN (g (23 + 2 * p) 1) = m1 from by rw [e]; exact xN_nI (by omega)]
      have er : g 74 p = nI m1 := by rw [eS]; exact e
      have hrow : ∀ i, i < m1 → g 75 (40 * p + i) = g (23 + 2 * p + 1) i := (hQ p hp1).2 m1 h40 e
      have hf2 : xfos (g 74 p) (fun i => g 75 (40 * p + i)) 12 = 0 := by rw [eF]; exact hf
      have hxs2 : ∀ i, i < m1 → xstp (g 75 (40 * p + i)) := fun i hi => by rw [hrow i hi]; exact hxs i hi
      have e8 : ∀ i, i < m1 → xshw (g (b.1 + 1)) (Lw s / 4) (Lw s % 4) (fun i => xN (g 75 (40 * p + i))) i = xshw (g (b.1 + 1)) (Lw s / 4) (Lw s % 4) (fun i => xN (g (23 + 2 * p + 1) i)) i := fun i hi => xshw_c (fun j hj => by show xN (g 75 (40 * p + j)) = xN (g (23 + 2 * p + 1) j); rw [hrow j (by omega)])
      refine (c_X12_alike_ok hR hk hp1 er h12 hf2 hxs2).weak (fun r M w => ?_)
      obtain ⟨_, _, _, e3⟩ := w
      rw [e3]
      congr 3
      refine xcnt_congr (fun i hi => ?_)
      rw [e8 i hi, hrow i hi]
      exact decide_eq_decide.mpr eq_comm
    · rw [if_neg hf]
      exact (c_X12_alike_ref hR hk hp1 (hZ p hp1) (by rw [eF]; exact hf)).weak (fun r M w => by obtain ⟨_, _, _, e3⟩ := w; exact e3)
  · rw [if_neg hx]
    exact (c_X12_alike_bad hR hx).weak (fun r M w => w.2)
theorem ea_can (hI : xIc b g G T Lw m) : xT 10 104 [.ref 0, .int x, .int y, .int z] (xH b g l) (fun r _ => r = some (.int (if (0 ≤ x ∧ x < nI G) ∧ (0 ≤ y ∧ y < 6) ∧ 0 ≤ z then (if xfos (g (23 + 2 * xN y) 1) (g (23 + 2 * xN y + 1)) 6 = 0 then (if (xN z) < (xN (g (23 + 2 * xN y) 1)) then (if xnz (xst (Lw (xN x) / 4) (Lw (xN x) % 4) (xB (g (b.1 + 1)) (Lw (xN x) / 4) (g (23 + 2 * xN y + 1))) (xN (g (23 + 2 * xN y) 1))) (xN (g (23 + 2 * xN y) 1)) (xps (Lw (xN x) / 4) (Lw (xN x) % 4) (g (23 + 2 * xN y + 1)) (xN (g (23 + 2 * xN y) 1))) = true then (xst (Lw (xN x) / 4) (Lw (xN x) % 4) (xB (g (b.1 + 1)) (Lw (xN x) / 4) (g (23 + 2 * xN y + 1))) (xN (g (23 + 2 * xN y) 1))) (xN z) else 0) else -1) else -3) else -1))) := by
  obtain ⟨hb, hp, hR, htx, ⟨hs, hm⟩, hD, hK, hZ, hY⟩ := hI
  obtain ⟨hb1, hb2⟩ := xro_b hb
  have hq := xb2 hb
  have hbv : b.1 = 7 ∨ b.1 = 11 := by omega
  have hbw : b.2 = 7 ∨ b.2 = 11 := by omega
  have eG : g b.1 2 = nI G := hR.1.1
  have hG6 : G ≤ 6 := hR.1.2
  have eT : g b.1 4 = nI T := hR.2.1.1
  have hT8 : T ≤ 8 := hR.2.1.2
  by_cases hx : (0 ≤ x ∧ x < nI G) ∧ (0 ≤ y ∧ y < 6) ∧ 0 ≤ z
  · rw [if_pos hx]
    obtain ⟨s, hk, rfl⟩ := xin (n := G) (by omega) hx.1
    obtain ⟨t, ht, rfl⟩ := xin (n := 6) (by omega) hx.2.1
    obtain ⟨d, hd31, rfl⟩ := nI_of (Int32.not_lt.mpr hx.2.2)
    simp only [xN_nI (show s < 2 ^ 31 by omega), xN_nI (show t < 2 ^ 31 by omega), xN_nI hd31]
    by_cases hf : xfos (g (23 + 2 * t) 1) (g (23 + 2 * t + 1)) 6 = 0
    · rw [if_pos hf]
      obtain ⟨m1, e, h12, h40, hxs⟩ := xfos_0 (hZ t ht) (by decide) (by decide) hf
      try rw [show xN (g (23 + 2 * t) 1) = m1 from by rw [e]; exact xN_nI (by omega)]
      by_cases hd : d < m1
      · rw [if_pos hd]
        exact (c_X11_can_ok hb1 hR hp hbv hk ht e h12 hf hxs hd).weak (fun r M w => w.2)
      · rw [if_neg hd]
        exact (c_X11_can_bad2 hb1 hR hk ht e h12 hf hxs hd31 hd).weak (fun r M w => w.2)
    · rw [if_neg hf]
      exact (c_X11_can_ref hb1 hR hk ht (hZ t ht) hd31 hf).weak (fun r M w => w.2)
  · rw [if_neg hx]
    exact (c_X11_can_bad hb1 (by rw [eG]; exact hx)).weak (fun r M w => w.2)
theorem eb_can (hI : xIc b g G T Lw m) (hJ : xIr b g G T Lw m) : xT 10 212 [.ref 73, .int x, .int y, .int z] (xH b g l) (fun r _ => r = some (.int (if (0 ≤ x ∧ x < nI G) ∧ (0 ≤ y ∧ y < 6) ∧ 0 ≤ z then (if xfos (g (23 + 2 * xN y) 1) (g (23 + 2 * xN y + 1)) 6 = 0 then (if (xN z) < (xN (g (23 + 2 * xN y) 1)) then (if xnz (xst (Lw (xN x) / 4) (Lw (xN x) % 4) (xB (g (b.1 + 1)) (Lw (xN x) / 4) (g (23 + 2 * xN y + 1))) (xN (g (23 + 2 * xN y) 1))) (xN (g (23 + 2 * xN y) 1)) (xps (Lw (xN x) / 4) (Lw (xN x) % 4) (g (23 + 2 * xN y + 1)) (xN (g (23 + 2 * xN y) 1))) = true then (xst (Lw (xN x) / 4) (Lw (xN x) % 4) (xB (g (b.1 + 1)) (Lw (xN x) / 4) (g (23 + 2 * xN y + 1))) (xN (g (23 + 2 * xN y) 1))) (xN z) else 0) else -1) else -3) else -1))) := by
  obtain ⟨hb, hp, hRm, htx, ⟨_, hm⟩, hDk, hK, hZc, hY⟩ := hI
  obtain ⟨hR, hs, hD, hKr, hQ, hYr⟩ := hJ
  have hZ : ∀ r, r < 6 → xsz (g 74 r) 40 := fun r h => by rw [(hQ r h).1]; exact hZc r h
  have eG : g 73 10 = nI G := hR.1.1
  have hG6 : G ≤ 6 := hR.1.2
  have hT8 : T ≤ 8 := hR.2.1.2
  have hZ6 : ∀ q, q < 6 → xsz (g 74 q) 60 := fun q h => (hZ q h).elim Or.inl (fun ⟨n, a1, a2⟩ => Or.inr ⟨n, by omega, a2⟩)
  have hY6 : ∀ q, q < 4 → xsz (g 76 q) 60 := fun q h => by rw [(hYr q h).1]; exact hY q h
  have hK6 : ∀ q, q < 3 → xsz (g 86 q) 60 := fun q h => by
    rw [(hKr q h).1]
    rcases hK q h with z | ⟨n, z1, z2, _⟩
    · exact Or.inl z
    · exact Or.inr ⟨n, by omega, z2⟩
  by_cases hx : (0 ≤ x ∧ x < nI G) ∧ (0 ≤ y ∧ y < 6) ∧ 0 ≤ z
  · rw [if_pos hx]
    obtain ⟨s, hk, rfl⟩ := xin (n := G) (by omega) hx.1
    obtain ⟨p, hp1, rfl⟩ := xin (n := 6) (by omega) hx.2.1
    obtain ⟨d, hd31, rfl⟩ := nI_of (Int32.not_lt.mpr hx.2.2)
    simp only [xN_nI (show s < 2 ^ 31 by omega), xN_nI (show p < 2 ^ 31 by omega), xN_nI hd31]
    have eS : g 74 p = g (23 + 2 * p) 1 := (hQ p hp1).1
    have eF : xfos (g 74 p) (fun i => g 75 (40 * p + i)) 6 = xfos (g (23 + 2 * p) 1) (g (23 + 2 * p + 1)) 6 := by
      rw [eS]
      exact xfos_c (hZc p hp1) (fun n hn en i hi => (hQ p hp1).2 n hn en i hi)
    by_cases hf : xfos (g (23 + 2 * p) 1) (g (23 + 2 * p + 1)) 6 = 0
    · rw [if_pos hf]
      obtain ⟨m1, e, h12, h40, hxs⟩ := xfos_0 (hZc p hp1) (by decide) (by decide) hf
      try rw [show xN (g (23 + 2 * p) 1) = m1 from by rw [e]; exact xN_nI (by omega)]
      have er : g 74 p = nI m1 := by rw [eS]; exact e
      have hrow : ∀ i, i < m1 → g 75 (40 * p + i) = g (23 + 2 * p + 1) i := (hQ p hp1).2 m1 h40 e
      have hf2 : xfos (g 74 p) (fun i => g 75 (40 * p + i)) 6 = 0 := by rw [eF]; exact hf
      have hxs2 : ∀ i, i < m1 → xstp (g 75 (40 * p + i)) := fun i hi => by rw [hrow i hi]; exact hxs i hi
      by_cases hd : d < m1
      · rw [if_pos hd]
        refine (c_X12_can_ok hR hk hp1 er h12 hf2 hxs2 hd).weak (fun r M w => ?_)
        obtain ⟨_, _, _, e3⟩ := w
        rw [e3, ← xcan hd]
        congr 2
        have hP : ∀ c, decide (xfst (fun i => !decide (xshw (g (b.1 + 1)) (Lw s / 4) (Lw s % 4) (xd6 m1 c) i = g 75 (40 * p + i))) m1 = none) = decide (xfst (fun i => !decide (xshw (g (b.1 + 1)) (Lw s / 4) (Lw s % 4) (xd6 m1 c) i = g (23 + 2 * p + 1) i)) m1 = none) := fun c => by
          rw [xfst_congr (p := fun i => !decide (xshw (g (b.1 + 1)) (Lw s / 4) (Lw s % 4) (xd6 m1 c) i = g 75 (40 * p + i))) (p' := fun i => !decide (xshw (g (b.1 + 1)) (Lw s / 4) (Lw s % 4) (xd6 m1 c) i = g (23 + 2 * p + 1) i)) (fun i hi => by rw [hrow i hi])]
        rw [show (fun c => decide (xfst (fun i => !decide (xshw (g (b.1 + 1)) (Lw s / 4) (Lw s % 4) (xd6 m1 c) i = g 75 (40 * p + i))) m1 = none)) = (fun c => decide (xfst (fun i => !decide (xshw (g (b.1 + 1)) (Lw s / 4) (Lw s % 4) (xd6 m1 c) i = g (23 + 2 * p + 1) i)) m1 = none)) from funext hP]
      · rw [if_neg hd]
        exact (c_X12_can_bad2 hR hk hp1 er h12 hf2 hxs2 hd31 hd).weak (fun r M w => by obtain ⟨_, _, _, e3⟩ := w; exact e3)
    · rw [if_neg hf]
      exact (c_X12_can_ref hR hk hp1 hd31 (hZ p hp1) (by rw [eF]; exact hf)).weak (fun r M w => by obtain ⟨_, _, _, e3⟩ := w; exact e3)
  · rw [if_neg hx]
    exact (c_X12_can_bad hR hx).weak (fun r M w => w.2)
theorem ea_fit (hI : xIc b g G T Lw m) : xT 10 101 [.ref 0, .int x, .int y] (xH b g l) (fun r _ => r = some (.int (if (0 ≤ x ∧ x < 6) ∧ 0 ≤ y ∧ y < 6 then (if xfop (g (23 + 2 * xN x) 1) (g (23 + 2 * xN x + 1)) (g (23 + 2 * xN y) 1) (g (23 + 2 * xN y + 1)) 12 = 0 then nI (xcnt (fun i => !decide (g (23 + 2 * xN x + 1) i = g (23 + 2 * xN y + 1) i)) (xN (g (23 + 2 * xN x) 1))) else -3) else -1))) := by
  obtain ⟨hb, hp, hR, htx, ⟨hs, hm⟩, hD, hK, hZ, hY⟩ := hI
  obtain ⟨hb1, hb2⟩ := xro_b hb
  have hq := xb2 hb
  have hbv : b.1 = 7 ∨ b.1 = 11 := by omega
  have hbw : b.2 = 7 ∨ b.2 = 11 := by omega
  have eG : g b.1 2 = nI G := hR.1.1
  have hG6 : G ≤ 6 := hR.1.2
  have eT : g b.1 4 = nI T := hR.2.1.1
  have hT8 : T ≤ 8 := hR.2.1.2
  by_cases hx : (0 ≤ x ∧ x < 6) ∧ 0 ≤ y ∧ y < 6
  · rw [if_pos hx]
    obtain ⟨t, ht, rfl⟩ := xin (n := 6) (by omega) hx.1
    obtain ⟨p, hp1, rfl⟩ := xin (n := 6) (by omega) hx.2
    simp only [xN_nI (show t < 2 ^ 31 by omega), xN_nI (show p < 2 ^ 31 by omega)]
    by_cases hf : xfop (g (23 + 2 * t) 1) (g (23 + 2 * t + 1)) (g (23 + 2 * p) 1) (g (23 + 2 * p + 1)) 12 = 0
    · rw [if_pos hf]
      obtain ⟨f1, f2, f3⟩ := xfop_0 hf
      obtain ⟨m1, e, h12, h40, hxs⟩ := xfos_0 (hZ t ht) (by decide) (by decide) f1
      obtain ⟨m2, e2, _, h402, hxs2⟩ := xfos_0 (hZ p hp1) (by decide) (by decide) f2
      obtain rfl : m1 = m2 := nI_inj (by omega) (by omega) (by rw [← e, f3, e2])
      rw [show xN (g (23 + 2 * t) 1) = m1 from by rw [e]; exact xN_nI (by omega)]
      exact (c_X11_fit_ok ht hp1 e e2 h12 hf hxs hxs2).weak (fun r M w => w.2)
    · rw [if_neg hf]
      exact (c_X11_fit_ref ht (hZ t ht) hp1 (hZ p hp1) hf).weak (fun r M w => w.2)
  · rw [if_neg hx]
    exact (c_X11_fit_bad hx).weak (fun r M w => w.2)
theorem eb_fit (hI : xIc b g G T Lw m) (hJ : xIr b g G T Lw m) : xT 10 206 [.ref 73, .int x, .int y] (xH b g l) (fun r _ => r = some (.int (if (0 ≤ x ∧ x < 6) ∧ 0 ≤ y ∧ y < 6 then (if xfop (g (23 + 2 * xN x) 1) (g (23 + 2 * xN x + 1)) (g (23 + 2 * xN y) 1) (g (23 + 2 * xN y + 1)) 12 = 0 then nI (xcnt (fun i => !decide (g (23 + 2 * xN x + 1) i = g (23 + 2 * xN y + 1) i)) (xN (g (23 + 2 * xN x) 1))) else -3) else -1))) := by
  obtain ⟨hb, hp, hRm, htx, ⟨_, hm⟩, hDk, hK, hZc, hY⟩ := hI
  obtain ⟨hR, hs, hD, hKr, hQ, hYr⟩ := hJ
  have hZ : ∀ r, r < 6 → xsz (g 74 r) 40 := fun r h => by rw [(hQ r h).1]; exact hZc r h
  have eG : g 73 10 = nI G := hR.1.1
  have hG6 : G ≤ 6 := hR.1.2
  have hT8 : T ≤ 8 := hR.2.1.2
  have hZ6 : ∀ q, q < 6 → xsz (g 74 q) 60 := fun q h => (hZ q h).elim Or.inl (fun ⟨n, a1, a2⟩ => Or.inr ⟨n, by omega, a2⟩)
  have hY6 : ∀ q, q < 4 → xsz (g 76 q) 60 := fun q h => by rw [(hYr q h).1]; exact hY q h
  have hK6 : ∀ q, q < 3 → xsz (g 86 q) 60 := fun q h => by
    rw [(hKr q h).1]
    rcases hK q h with z | ⟨n, z1, z2, _⟩
    · exact Or.inl z
    · exact Or.inr ⟨n, by omega, z2⟩
  by_cases hx : (0 ≤ x ∧ x < 6) ∧ 0 ≤ y ∧ y < 6
  · rw [if_pos hx]
    obtain ⟨p, hp1, rfl⟩ := xin (n := 6) (by omega) hx.1
    obtain ⟨s, hs1, rfl⟩ := xin (n := 6) (by omega) hx.2
    simp only [xN_nI (show p < 2 ^ 31 by omega), xN_nI (show s < 2 ^ 31 by omega)]
    have eF : xfop (g 74 p) (fun i => g 75 (40 * p + i)) (g 74 s) (fun i => g 75 (40 * s + i)) 12 = xfop (g (23 + 2 * p) 1) (g (23 + 2 * p + 1)) (g (23 + 2 * s) 1) (g (23 + 2 * s + 1)) 12 := by
      rw [(hQ p hp1).1, (hQ s hs1).1]
      exact xfop_c (hZc p hp1) (hZc s hs1) (fun n hn en i hi => (hQ p hp1).2 n hn en i hi) (fun n hn en i hi => (hQ s hs1).2 n hn en i hi)
    by_cases hf : xfop (g (23 + 2 * p) 1) (g (23 + 2 * p + 1)) (g (23 + 2 * s) 1) (g (23 + 2 * s + 1)) 12 = 0
    · rw [if_pos hf]
      obtain ⟨f1, f2, f3⟩ := xfop_0 hf
      obtain ⟨m1, e, h12, h40, hxs⟩ := xfos_0 (hZc p hp1) (by decide) (by decide) f1
      obtain ⟨m2, e2, _, h402, hxs2⟩ := xfos_0 (hZc s hs1) (by decide) (by decide) f2
      obtain rfl : m1 = m2 := nI_inj (by omega) (by omega) (by rw [← e, f3, e2])
      rw [show xN (g (23 + 2 * p) 1) = m1 from by rw [e]; exact xN_nI (by omega)]
      have er : g 74 p = nI m1 := by rw [(hQ p hp1).1]; exact e
      have er2 : g 74 s = nI m1 := by rw [(hQ s hs1).1]; exact e2
      have hrow : ∀ i, i < m1 → g 75 (40 * p + i) = g (23 + 2 * p + 1) i := (hQ p hp1).2 m1 h40 e
      have hrow2 : ∀ i, i < m1 → g 75 (40 * s + i) = g (23 + 2 * s + 1) i := (hQ s hs1).2 m1 h40 e2
      have hg := xfop_0 (eF.trans hf)
      have hy1 : ∀ i, i < m1 → xstp (g 75 (40 * p + i)) := fun i hi => by rw [hrow i hi]; exact hxs i hi
      have hy2 : ∀ i, i < m1 → xstp (g 75 (40 * s + i)) := fun i hi => by rw [hrow2 i hi]; exact hxs2 i hi
      refine (c_X12_fit_ok hp1 hs1 er er2 h12 hg.1 hg.2.1 hy1 hy2).weak (fun r M w => ?_)
      obtain ⟨_, _, _, e3⟩ := w
      rw [e3]
      congr 3
      exact xcnt_congr (fun i hi => by rw [hrow i hi, hrow2 i hi])
    · rw [if_neg hf]
      exact (c_X12_fit_ref hp1 (hZ p hp1) hs1 (hZ s hs1) (by rw [eF]; exact hf)).weak (fun r M w => by obtain ⟨_, _, _, e3⟩ := w; exact e3)
  · rw [if_neg hx]
    exact (c_X12_fit_bad hx).weak (fun r M w => w.2)
theorem ea_laws (hI : xIc b g G T Lw m) : xT 10 105 [.ref 0, .int x, .int y] (xH b g l) (fun r _ => r = some (.int (if (0 ≤ x ∧ x < 6) ∧ 0 ≤ y ∧ y < 6 then (if xfop (g (23 + 2 * xN x) 1) (g (23 + 2 * xN x + 1)) (g (23 + 2 * xN y) 1) (g (23 + 2 * xN y + 1)) 12 = 0 then xbits (fun q => decide (xfst (fun i => !decide (xshw (g (b.1 + 1)) (q / 4) (q % 4) (fun i => xN (g (23 + 2 * xN x + 1) i)) i = g (23 + 2 * xN y + 1) i)) (xN (g (23 + 2 * xN x) 1)) = none)) 24 else -3) else -1))) := by
  obtain ⟨hb, hp, hR, htx, ⟨hs, hm⟩, hD, hK, hZ, hY⟩ := hI
  obtain ⟨hb1, hb2⟩ := xro_b hb
  have hq := xb2 hb
  have hbv : b.1 = 7 ∨ b.1 = 11 := by omega
  have hbw : b.2 = 7 ∨ b.2 = 11 := by omega
  have eG : g b.1 2 = nI G := hR.1.1
  have hG6 : G ≤ 6 := hR.1.2
  have eT : g b.1 4 = nI T := hR.2.1.1
  have hT8 : T ≤ 8 := hR.2.1.2
  by_cases hx : (0 ≤ x ∧ x < 6) ∧ 0 ≤ y ∧ y < 6
  · rw [if_pos hx]
    obtain ⟨t, ht, rfl⟩ := xin (n := 6) (by omega) hx.1
    obtain ⟨p, hp1, rfl⟩ := xin (n := 6) (by omega) hx.2
    simp only [xN_nI (show t < 2 ^ 31 by omega), xN_nI (show p < 2 ^ 31 by omega)]
    by_cases hf : xfop (g (23 + 2 * t) 1) (g (23 + 2 * t + 1)) (g (23 + 2 * p) 1) (g (23 + 2 * p + 1)) 12 = 0
    · rw [if_pos hf]
      obtain ⟨f1, f2, f3⟩ := xfop_0 hf
      obtain ⟨m1, e, h12, h40, hxs⟩ := xfos_0 (hZ t ht) (by decide) (by decide) f1
      obtain ⟨m2, e2, _, h402, hxs2⟩ := xfos_0 (hZ p hp1) (by decide) (by decide) f2
      obtain rfl : m1 = m2 := nI_inj (by omega) (by omega) (by rw [← e, f3, e2])
      rw [show xN (g (23 + 2 * t) 1) = m1 from by rw [e]; exact xN_nI (by omega)]
      exact (c_X11_laws_ok hb1 hR hp ht hp1 e e2 h12 hf hxs hxs2).weak (fun r M w => w.2)
    · rw [if_neg hf]
      exact (c_X11_laws_ref ht (hZ t ht) hp1 (hZ p hp1) hf).weak (fun r M w => w.2)
  · rw [if_neg hx]
    exact (c_X11_laws_bad hx).weak (fun r M w => w.2)
theorem eb_laws (hI : xIc b g G T Lw m) (hJ : xIr b g G T Lw m) : xT 10 214 [.ref 73, .int x, .int y] (xH b g l) (fun r _ => r = some (.int (if (0 ≤ x ∧ x < 6) ∧ 0 ≤ y ∧ y < 6 then (if xfop (g (23 + 2 * xN x) 1) (g (23 + 2 * xN x + 1)) (g (23 + 2 * xN y) 1) (g (23 + 2 * xN y + 1)) 12 = 0 then xbits (fun q => decide (xfst (fun i => !decide (xshw (g (b.1 + 1)) (q / 4) (q % 4) (fun i => xN (g (23 + 2 * xN x + 1) i)) i = g (23 + 2 * xN y + 1) i)) (xN (g (23 + 2 * xN x) 1)) = none)) 24 else -3) else -1))) := by
  obtain ⟨hb, hp, hRm, htx, ⟨_, hm⟩, hDk, hK, hZc, hY⟩ := hI
  obtain ⟨hR, hs, hD, hKr, hQ, hYr⟩ := hJ
  have hZ : ∀ r, r < 6 → xsz (g 74 r) 40 := fun r h => by rw [(hQ r h).1]; exact hZc r h
  have eG : g 73 10 = nI G := hR.1.1
  have hG6 : G ≤ 6 := hR.1.2
  have hT8 : T ≤ 8 := hR.2.1.2
  have hZ6 : ∀ q, q < 6 → xsz (g 74 q) 60 := fun q h => (hZ q h).elim Or.inl (fun ⟨n, a1, a2⟩ => Or.inr ⟨n, by omega, a2⟩)
  have hY6 : ∀ q, q < 4 → xsz (g 76 q) 60 := fun q h => by rw [(hYr q h).1]; exact hY q h
  have hK6 : ∀ q, q < 3 → xsz (g 86 q) 60 := fun q h => by
    rw [(hKr q h).1]
    rcases hK q h with z | ⟨n, z1, z2, _⟩
    · exact Or.inl z
    · exact Or.inr ⟨n, by omega, z2⟩
  by_cases hx : (0 ≤ x ∧ x < 6) ∧ 0 ≤ y ∧ y < 6
  · rw [if_pos hx]
    obtain ⟨p, hp1, rfl⟩ := xin (n := 6) (by omega) hx.1
    obtain ⟨s, hs1, rfl⟩ := xin (n := 6) (by omega) hx.2
    simp only [xN_nI (show p < 2 ^ 31 by omega), xN_nI (show s < 2 ^ 31 by omega)]
    have eF : xfop (g 74 p) (fun i => g 75 (40 * p + i)) (g 74 s) (fun i => g 75 (40 * s + i)) 12 = xfop (g (23 + 2 * p) 1) (g (23 + 2 * p + 1)) (g (23 + 2 * s) 1) (g (23 + 2 * s + 1)) 12 := by
      rw [(hQ p hp1).1, (hQ s hs1).1]
      exact xfop_c (hZc p hp1) (hZc s hs1) (fun n hn en i hi => (hQ p hp1).2 n hn en i hi) (fun n hn en i hi => (hQ s hs1).2 n hn en i hi)
    by_cases hf : xfop (g (23 + 2 * p) 1) (g (23 + 2 * p + 1)) (g (23 + 2 * s) 1) (g (23 + 2 * s + 1)) 12 = 0
    · rw [if_pos hf]
      obtain ⟨f1, f2, f3⟩ := xfop_0 hf
      obtain ⟨m1, e, h12, h40, hxs⟩ := xfos_0 (hZc p hp1) (by decide) (by decide) f1
      obtain ⟨m2, e2, _, h402, hxs2⟩ := xfos_0 (hZc s hs1) (by decide) (by decide) f2
      obtain rfl : m1 = m2 := nI_inj (by omega) (by omega) (by rw [← e, f3, e2])
      rw [show xN (g (23 + 2 * p) 1) = m1 from by rw [e]; exact xN_nI (by omega)]
      have er : g 74 p = nI m1 := by rw [(hQ p hp1).1]; exact e
      have er2 : g 74 s = nI m1 := by rw [(hQ s hs1).1]; exact e2
      have hrow : ∀ i, i < m1 → g 75 (40 * p + i) = g (23 + 2 * p + 1) i := (hQ p hp1).2 m1 h40 e
      have hrow2 : ∀ i, i < m1 → g 75 (40 * s + i) = g (23 + 2 * s + 1) i := (hQ s hs1).2 m1 h40 e2
      have hg := xfop_0 (eF.trans hf)
      have hy1 : ∀ i, i < m1 → xstp (g 75 (40 * p + i)) := fun i hi => by rw [hrow i hi]; exact hxs i hi
      have hy2 : ∀ i, i < m1 → xstp (g 75 (40 * s + i)) := fun i hi => by rw [hrow2 i hi]; exact hxs2 i hi
      refine (c_X12_laws_ok hR hp1 hs1 er er2 h12 hg.1 hg.2.1 hy1 hy2).weak (fun r M w => ?_)
      obtain ⟨_, _, _, e3⟩ := w
      rw [e3]
      congr 2
      refine xbits_c 24 (fun q _ => ?_)
      have e8 : xfst (fun i => !decide (xshw (g (b.1 + 1)) (q / 4) (q % 4) (fun i => xN (g 75 (40 * p + i))) i = g 75 (40 * s + i))) m1 = xfst (fun i => !decide (xshw (g (b.1 + 1)) (q / 4) (q % 4) (fun i => xN (g (23 + 2 * p + 1) i)) i = g (23 + 2 * s + 1) i)) m1 := xfst_congr (fun i hi => by
        rw [hrow2 i hi, show xshw (g (b.1 + 1)) (q / 4) (q % 4) (fun i => xN (g 75 (40 * p + i))) i = xshw (g (b.1 + 1)) (q / 4) (q % 4) (fun i => xN (g (23 + 2 * p + 1) i)) i from xshw_c (fun j hj => by show xN (g 75 (40 * p + j)) = xN (g (23 + 2 * p + 1) j); rw [hrow j (by omega)])])
      rw [e8]
    · rw [if_neg hf]
      exact (c_X12_laws_ref hp1 (hZ p hp1) hs1 (hZ s hs1) (by rw [eF]; exact hf)).weak (fun r M w => by obtain ⟨_, _, _, e3⟩ := w; exact e3)
  · rw [if_neg hx]
    exact (c_X12_laws_bad hx).weak (fun r M w => w.2)
theorem ea_he (hI : xIc b g G T Lw m) : xT 10 107 [.ref 0, .int x, .int y, .int z] (xH b g l) (fun r _ => r = some (.int (if (0 ≤ x ∧ x < nI G) ∧ (0 ≤ y ∧ y < 6) ∧ 0 ≤ z ∧ z < 6 then (if xfop (g (23 + 2 * xN y) 1) (g (23 + 2 * xN y + 1)) (g (23 + 2 * xN z) 1) (g (23 + 2 * xN z + 1)) 12 = 0 then xhr (xfst (fun i => !decide (xshw (g (b.1 + 1)) (Lw (xN x) / 4) (Lw (xN x) % 4) (fun i => xN (g (23 + 2 * xN y + 1) i)) i = g (23 + 2 * xN z + 1) i)) (xN (g (23 + 2 * xN y) 1))) (xfst (fun i => !decide (xshw (g (b.1 + 1)) (Lw (xN x) / 4) (Lw (xN x) % 4) (fun i => xN (g (23 + 2 * xN z + 1) i)) i = g (23 + 2 * xN y + 1) i)) (xN (g (23 + 2 * xN y) 1))) else -3) else -1))) := by
  obtain ⟨hb, hp, hR, htx, ⟨hs, hm⟩, hD, hK, hZ, hY⟩ := hI
  obtain ⟨hb1, hb2⟩ := xro_b hb
  have hq := xb2 hb
  have hbv : b.1 = 7 ∨ b.1 = 11 := by omega
  have hbw : b.2 = 7 ∨ b.2 = 11 := by omega
  have eG : g b.1 2 = nI G := hR.1.1
  have hG6 : G ≤ 6 := hR.1.2
  have eT : g b.1 4 = nI T := hR.2.1.1
  have hT8 : T ≤ 8 := hR.2.1.2
  by_cases hx : (0 ≤ x ∧ x < nI G) ∧ (0 ≤ y ∧ y < 6) ∧ 0 ≤ z ∧ z < 6
  · rw [if_pos hx]
    obtain ⟨s, hk, rfl⟩ := xin (n := G) (by omega) hx.1
    obtain ⟨t, ht, rfl⟩ := xin (n := 6) (by omega) hx.2.1
    obtain ⟨p, hp1, rfl⟩ := xin (n := 6) (by omega) hx.2.2
    simp only [xN_nI (show s < 2 ^ 31 by omega), xN_nI (show t < 2 ^ 31 by omega), xN_nI (show p < 2 ^ 31 by omega)]
    by_cases hf : xfop (g (23 + 2 * t) 1) (g (23 + 2 * t + 1)) (g (23 + 2 * p) 1) (g (23 + 2 * p + 1)) 12 = 0
    · rw [if_pos hf]
      obtain ⟨f1, f2, f3⟩ := xfop_0 hf
      obtain ⟨m1, e, h12, h40, hxs⟩ := xfos_0 (hZ t ht) (by decide) (by decide) f1
      obtain ⟨m2, e2, _, h402, hxs2⟩ := xfos_0 (hZ p hp1) (by decide) (by decide) f2
      obtain rfl : m1 = m2 := nI_inj (by omega) (by omega) (by rw [← e, f3, e2])
      rw [show xN (g (23 + 2 * t) 1) = m1 from by rw [e]; exact xN_nI (by omega)]
      exact (c_X11_he_ok hb1 hR hp hk ht hp1 e e2 h12 hf hxs hxs2).weak (fun r M w => w.2)
    · rw [if_neg hf]
      exact (c_X11_he_ref hb1 hR hk ht (hZ t ht) hp1 (hZ p hp1) hf).weak (fun r M w => w.2)
  · rw [if_neg hx]
    exact (c_X11_he_bad hb1 (by rw [eG]; exact hx)).weak (fun r M w => w.2)
theorem eb_he (hI : xIc b g G T Lw m) (hJ : xIr b g G T Lw m) : xT 10 217 [.ref 73, .int x, .int y, .int z] (xH b g l) (fun r _ => r = some (.int (if (0 ≤ x ∧ x < nI G) ∧ (0 ≤ y ∧ y < 6) ∧ 0 ≤ z ∧ z < 6 then (if xfop (g (23 + 2 * xN y) 1) (g (23 + 2 * xN y + 1)) (g (23 + 2 * xN z) 1) (g (23 + 2 * xN z + 1)) 12 = 0 then xhr (xfst (fun i => !decide (xshw (g (b.1 + 1)) (Lw (xN x) / 4) (Lw (xN x) % 4) (fun i => xN (g (23 + 2 * xN y + 1) i)) i = g (23 + 2 * xN z + 1) i)) (xN (g (23 + 2 * xN y) 1))) (xfst (fun i => !decide (xshw (g (b.1 + 1)) (Lw (xN x) / 4) (Lw (xN x) % 4) (fun i => xN (g (23 + 2 * xN z + 1) i)) i = g (23 + 2 * xN y + 1) i)) (xN (g (23 + 2 * xN y) 1))) else -3) else -1))) := by
  obtain ⟨hb, hp, hRm, htx, ⟨_, hm⟩, hDk, hK, hZc, hY⟩ := hI
  obtain ⟨hR, hs, hD, hKr, hQ, hYr⟩ := hJ
  have hZ : ∀ r, r < 6 → xsz (g 74 r) 40 := fun r h => by rw [(hQ r h).1]; exact hZc r h
  have eG : g 73 10 = nI G := hR.1.1
  have hG6 : G ≤ 6 := hR.1.2
  have hT8 : T ≤ 8 := hR.2.1.2
  have hZ6 : ∀ q, q < 6 → xsz (g 74 q) 60 := fun q h => (hZ q h).elim Or.inl (fun ⟨n, a1, a2⟩ => Or.inr ⟨n, by omega, a2⟩)
  have hY6 : ∀ q, q < 4 → xsz (g 76 q) 60 := fun q h => by rw [(hYr q h).1]; exact hY q h
  have hK6 : ∀ q, q < 3 → xsz (g 86 q) 60 := fun q h => by
    rw [(hKr q h).1]
    rcases hK q h with z | ⟨n, z1, z2, _⟩
    · exact Or.inl z
    · exact Or.inr ⟨n, by omega, z2⟩
  by_cases hx : (0 ≤ x ∧ x < nI G) ∧ (0 ≤ y ∧ y < 6) ∧ 0 ≤ z ∧ z < 6
  · rw [if_pos hx]
    obtain ⟨t, hk, rfl⟩ := xin (n := G) (by omega) hx.1
    obtain ⟨p, hp1, rfl⟩ := xin (n := 6) (by omega) hx.2.1
    obtain ⟨s, hs1, rfl⟩ := xin (n := 6) (by omega) hx.2.2
    simp only [xN_nI (show t < 2 ^ 31 by omega), xN_nI (show p < 2 ^ 31 by omega), xN_nI (show s < 2 ^ 31 by omega)]
    have eF : xfop (g 74 p) (fun i => g 75 (40 * p + i)) (g 74 s) (fun i => g 75 (40 * s + i)) 12 = xfop (g (23 + 2 * p) 1) (g (23 + 2 * p + 1)) (g (23 + 2 * s) 1) (g (23 + 2 * s + 1)) 12 := by
      rw [(hQ p hp1).1, (hQ s hs1).1]
      exact xfop_c (hZc p hp1) (hZc s hs1) (fun n hn en i hi => (hQ p hp1).2 n hn en i hi) (fun n hn en i hi => (hQ s hs1).2 n hn en i hi)
    by_cases hf : xfop (g (23 + 2 * p) 1) (g (23 + 2 * p + 1)) (g (23 + 2 * s) 1) (g (23 + 2 * s + 1)) 12 = 0
    · rw [if_pos hf]
      obtain ⟨f1, f2, f3⟩ := xfop_0 hf
      obtain ⟨m1, e, h12, h40, hxs⟩ := xfos_0 (hZc p hp1) (by decide) (by decide) f1
      obtain ⟨m2, e2, _, h402, hxs2⟩ := xfos_0 (hZc s hs1) (by decide) (by decide) f2
      obtain rfl : m1 = m2 := nI_inj (by omega) (by omega) (by rw [← e, f3, e2])
      rw [show xN (g (23 + 2 * p) 1) = m1 from by rw [e]; exact xN_nI (by omega)]
      have er : g 74 p = nI m1 := by rw [(hQ p hp1).1]; exact e
      have er2 : g 74 s = nI m1 := by rw [(hQ s hs1).1]; exact e2
      have hrow : ∀ i, i < m1 → g 75 (40 * p + i) = g (23 + 2 * p + 1) i := (hQ p hp1).2 m1 h40 e
      have hrow2 : ∀ i, i < m1 → g 75 (40 * s + i) = g (23 + 2 * s + 1) i := (hQ s hs1).2 m1 h40 e2
      have hg := xfop_0 (eF.trans hf)
      have hy1 : ∀ i, i < m1 → xstp (g 75 (40 * p + i)) := fun i hi => by rw [hrow i hi]; exact hxs i hi
      have hy2 : ∀ i, i < m1 → xstp (g 75 (40 * s + i)) := fun i hi => by rw [hrow2 i hi]; exact hxs2 i hi
      refine (c_X12_he_ok hR hk hp1 hs1 er er2 h12 hg.1 hg.2.1 hy1 hy2).weak (fun r M w => ?_)
      obtain ⟨_, _, _, e3⟩ := w
      rw [e3]
      have e8 : xfst (fun i => !decide (xshw (g (b.1 + 1)) (Lw t / 4) (Lw t % 4) (fun i => xN (g 75 (40 * p + i))) i = g 75 (40 * s + i))) m1 = xfst (fun i => !decide (xshw (g (b.1 + 1)) (Lw t / 4) (Lw t % 4) (fun i => xN (g (23 + 2 * p + 1) i)) i = g (23 + 2 * s + 1) i)) m1 := xfst_congr (fun i hi => by
        rw [hrow2 i hi, show xshw (g (b.1 + 1)) (Lw t / 4) (Lw t % 4) (fun i => xN (g 75 (40 * p + i))) i = xshw (g (b.1 + 1)) (Lw t / 4) (Lw t % 4) (fun i => xN (g (23 + 2 * p + 1) i)) i from xshw_c (fun j hj => by show xN (g 75 (40 * p + j)) = xN (g (23 + 2 * p + 1) j); rw [hrow j (by omega)])])
      have e9 : xfst (fun i => !decide (xshw (g (b.1 + 1)) (Lw t / 4) (Lw t % 4) (fun i => xN (g 75 (40 * s + i))) i = g 75 (40 * p + i))) m1 = xfst (fun i => !decide (xshw (g (b.1 + 1)) (Lw t / 4) (Lw t % 4) (fun i => xN (g (23 + 2 * s + 1) i)) i = g (23 + 2 * p + 1) i)) m1 := xfst_congr (fun i hi => by
        rw [hrow i hi, show xshw (g (b.1 + 1)) (Lw t / 4) (Lw t % 4) (fun i => xN (g 75 (40 * s + i))) i = xshw (g (b.1 + 1)) (Lw t / 4) (Lw t % 4) (fun i => xN (g (23 + 2 * s + 1) i)) i from xshw_c (fun j hj => by show xN (g 75 (40 * s + j)) = xN (g (23 + 2 * s + 1) j); rw [hrow2 j (by omega)])])
      rw [e8, e9]
    · rw [if_neg hf]
      exact (c_X12_he_ref hR hk hp1 (hZ p hp1) hs1 (hZ s hs1) (by rw [eF]; exact hf)).weak (fun r M w => by obtain ⟨_, _, _, e3⟩ := w; exact e3)
  · rw [if_neg hx]
    exact (c_X12_he_bad hR hx).weak (fun r M w => w.2)
theorem ea_next (hI : xIc b g G T Lw m) : xT 10 106 [.ref 0, .int x, .int y] (xH b g l) (fun r _ => r = some (.int (if (0 ≤ x ∧ x < 6) ∧ 0 ≤ y ∧ y < 6 then (if xfop (g (23 + 2 * xN x) 1) (g (23 + 2 * xN x + 1)) (g (23 + 2 * xN y) 1) (g (23 + 2 * xN y + 1)) 11 = 0 then (if xcnt (fun q => decide (xfst (fun i => !decide (xshw (g (b.1 + 1)) (q / 4) (q % 4) (fun i => xN (g (23 + 2 * xN x + 1) i)) i = g (23 + 2 * xN y + 1) i)) (xN (g (23 + 2 * xN x) 1)) = none)) 24 < 2 then -9 else (nI (xnx (fun s => xmx (fun j => decide ((xbits (fun q => decide (xfst (fun i => !decide (xshw (g (b.1 + 1)) (q / 4) (q % 4) (fun i => xN (g (23 + 2 * xN x + 1) i)) i = g (23 + 2 * xN y + 1) i)) (xN (g (23 + 2 * xN x) 1)) = none)) 24 >>> (nI j &&& 31)) &&& 1 = 1)) (fun q => xN (xshw (g (b.1 + 1)) (q / 4) (q % 4) (fup (fun i => xN (g (23 + 2 * xN x + 1) i)) (xN (g (23 + 2 * xN x) 1)) s) (xN (g (23 + 2 * xN x) 1)))) 24) 6).2)) else -3) else -1))) := by
  obtain ⟨hb, hp, hR, htx, ⟨hs, hm⟩, hD, hK, hZ, hY⟩ := hI
  obtain ⟨hb1, hb2⟩ := xro_b hb
  have hq := xb2 hb
  have hbv : b.1 = 7 ∨ b.1 = 11 := by omega
  have hbw : b.2 = 7 ∨ b.2 = 11 := by omega
  have eG : g b.1 2 = nI G := hR.1.1
  have hG6 : G ≤ 6 := hR.1.2
  have eT : g b.1 4 = nI T := hR.2.1.1
  have hT8 : T ≤ 8 := hR.2.1.2
  by_cases hx : (0 ≤ x ∧ x < 6) ∧ 0 ≤ y ∧ y < 6
  · rw [if_pos hx]
    obtain ⟨t, ht, rfl⟩ := xin (n := 6) (by omega) hx.1
    obtain ⟨p, hp1, rfl⟩ := xin (n := 6) (by omega) hx.2
    simp only [xN_nI (show t < 2 ^ 31 by omega), xN_nI (show p < 2 ^ 31 by omega)]
    by_cases hf : xfop (g (23 + 2 * t) 1) (g (23 + 2 * t + 1)) (g (23 + 2 * p) 1) (g (23 + 2 * p + 1)) 11 = 0
    · rw [if_pos hf]
      obtain ⟨f1, f2, f3⟩ := xfop_0 hf
      obtain ⟨m1, e, h11, h40, hxs⟩ := xfos_0 (hZ t ht) (by decide) (by decide) f1
      obtain ⟨m2, e2, _, h402, hxs2⟩ := xfos_0 (hZ p hp1) (by decide) (by decide) f2
      obtain rfl : m1 = m2 := nI_inj (by omega) (by omega) (by rw [← e, f3, e2])
      rw [show xN (g (23 + 2 * t) 1) = m1 from by rw [e]; exact xN_nI (by omega)]
      have hc24 := xcnt_le (fun q => decide (xfst (fun i => !decide (xshw (g (b.1 + 1)) (q / 4) (q % 4) (fun i => xN (g (23 + 2 * t + 1) i)) i = g (23 + 2 * p + 1) i)) m1 = none)) 24
      have hbc := xcnt_24 (fun q => decide (xfst (fun i => !decide (xshw (g (b.1 + 1)) (q / 4) (q % 4) (fun i => xN (g (23 + 2 * t + 1) i)) i = g (23 + 2 * p + 1) i)) m1 = none))
      by_cases h2 : xcnt (fun q => decide (xfst (fun i => !decide (xshw (g (b.1 + 1)) (q / 4) (q % 4) (fun i => xN (g (23 + 2 * t + 1) i)) i = g (23 + 2 * p + 1) i)) m1 = none)) 24 < 2
      · rw [if_pos h2]
        exact (c_X11_next_none hb1 hR hp ht hp1 e e2 h11 hf hxs hxs2 (by rw [hbc]; exact (nI_lt2 (by omega)).mpr h2)).weak (fun r M w => w.2)
      · rw [if_neg h2]
        exact (c_X11_next_ok hb1 hR hp hbv ht hp1 e e2 h11 hf hxs hxs2 (by rw [hbc]; exact fun z => h2 ((nI_lt2 (by omega)).mp z))).weak (fun r M w => by obtain ⟨_, _, _, e4⟩ := w; exact e4)
    · rw [if_neg hf]
      exact (c_X11_next_ref ht (hZ t ht) hp1 (hZ p hp1) hf).weak (fun r M w => w.2)
  · rw [if_neg hx]
    exact (c_X11_next_bad hx).weak (fun r M w => w.2)
theorem eb_next (hI : xIc b g G T Lw m) (hJ : xIr b g G T Lw m) : xT 10 216 [.ref 73, .int x, .int y] (xH b g l) (fun r _ => r = some (.int (if (0 ≤ x ∧ x < 6) ∧ 0 ≤ y ∧ y < 6 then (if xfop (g (23 + 2 * xN x) 1) (g (23 + 2 * xN x + 1)) (g (23 + 2 * xN y) 1) (g (23 + 2 * xN y + 1)) 11 = 0 then (if xcnt (fun q => decide (xfst (fun i => !decide (xshw (g (b.1 + 1)) (q / 4) (q % 4) (fun i => xN (g (23 + 2 * xN x + 1) i)) i = g (23 + 2 * xN y + 1) i)) (xN (g (23 + 2 * xN x) 1)) = none)) 24 < 2 then -9 else (nI (xnx (fun s => xmx (fun j => decide ((xbits (fun q => decide (xfst (fun i => !decide (xshw (g (b.1 + 1)) (q / 4) (q % 4) (fun i => xN (g (23 + 2 * xN x + 1) i)) i = g (23 + 2 * xN y + 1) i)) (xN (g (23 + 2 * xN x) 1)) = none)) 24 >>> (nI j &&& 31)) &&& 1 = 1)) (fun q => xN (xshw (g (b.1 + 1)) (q / 4) (q % 4) (fup (fun i => xN (g (23 + 2 * xN x + 1) i)) (xN (g (23 + 2 * xN x) 1)) s) (xN (g (23 + 2 * xN x) 1)))) 24) 6).2)) else -3) else -1))) := by
  obtain ⟨hb, hp, hRm, htx, ⟨_, hm⟩, hDk, hK, hZc, hY⟩ := hI
  obtain ⟨hR, hs, hD, hKr, hQ, hYr⟩ := hJ
  have hZ : ∀ r, r < 6 → xsz (g 74 r) 40 := fun r h => by rw [(hQ r h).1]; exact hZc r h
  have eG : g 73 10 = nI G := hR.1.1
  have hG6 : G ≤ 6 := hR.1.2
  have hT8 : T ≤ 8 := hR.2.1.2
  have hZ6 : ∀ q, q < 6 → xsz (g 74 q) 60 := fun q h => (hZ q h).elim Or.inl (fun ⟨n, a1, a2⟩ => Or.inr ⟨n, by omega, a2⟩)
  have hY6 : ∀ q, q < 4 → xsz (g 76 q) 60 := fun q h => by rw [(hYr q h).1]; exact hY q h
  have hK6 : ∀ q, q < 3 → xsz (g 86 q) 60 := fun q h => by
    rw [(hKr q h).1]
    rcases hK q h with z | ⟨n, z1, z2, _⟩
    · exact Or.inl z
    · exact Or.inr ⟨n, by omega, z2⟩
  by_cases hx : (0 ≤ x ∧ x < 6) ∧ 0 ≤ y ∧ y < 6
  · rw [if_pos hx]
    obtain ⟨p, hp1, rfl⟩ := xin (n := 6) (by omega) hx.1
    obtain ⟨s, hs1, rfl⟩ := xin (n := 6) (by omega) hx.2
    simp only [xN_nI (show p < 2 ^ 31 by omega), xN_nI (show s < 2 ^ 31 by omega)]
    have eF : xfop (g 74 p) (fun i => g 75 (40 * p + i)) (g 74 s) (fun i => g 75 (40 * s + i)) 12 = xfop (g (23 + 2 * p) 1) (g (23 + 2 * p + 1)) (g (23 + 2 * s) 1) (g (23 + 2 * s + 1)) 12 := by
      rw [(hQ p hp1).1, (hQ s hs1).1]
      exact xfop_c (hZc p hp1) (hZc s hs1) (fun n hn en i hi => (hQ p hp1).2 n hn en i hi) (fun n hn en i hi => (hQ s hs1).2 n hn en i hi)
    by_cases hf : xfop (g (23 + 2 * p) 1) (g (23 + 2 * p + 1)) (g (23 + 2 * s) 1) (g (23 + 2 * s + 1)) 11 = 0
    · rw [if_pos hf]
      obtain ⟨f1, f2, f3⟩ := xfop_0 hf
      obtain ⟨m1, e, h11, h40, hxs⟩ := xfos_0 (hZc p hp1) (by decide) (by decide) f1
      obtain ⟨m2, e2, _, h402, hxs2⟩ := xfos_0 (hZc s hs1) (by decide) (by decide) f2
      obtain rfl : m1 = m2 := nI_inj (by omega) (by omega) (by rw [← e, f3, e2])
      rw [show xN (g (23 + 2 * p) 1) = m1 from by rw [e]; exact xN_nI (by omega)]
      have hc24 := xcnt_le (fun q => decide (xfst (fun i => !decide (xshw (g (b.1 + 1)) (q / 4) (q % 4) (fun i => xN (g (23 + 2 * p + 1) i)) i = g (23 + 2 * s + 1) i)) m1 = none)) 24
      have f12 := (xfop_11 h40 e).mp hf
      have hg := xfop_0 (eF.trans f12.1)
      have er : g 74 p = nI m1 := by rw [(hQ p hp1).1]; exact e
      have er2 : g 74 s = nI m1 := by rw [(hQ s hs1).1]; exact e2
      have hrow : ∀ i, i < m1 → g 75 (40 * p + i) = g (23 + 2 * p + 1) i := (hQ p hp1).2 m1 h40 e
      have hrow2 : ∀ i, i < m1 → g 75 (40 * s + i) = g (23 + 2 * s + 1) i := (hQ s hs1).2 m1 h40 e2
      have hy1 : ∀ i, i < m1 → xstp (g 75 (40 * p + i)) := fun i hi => by rw [hrow i hi]; exact hxs i hi
      have hy2 : ∀ i, i < m1 → xstp (g 75 (40 * s + i)) := fun i hi => by rw [hrow2 i hi]; exact hxs2 i hi
      have hB : xbits (fun q => decide (xfst (fun i => !decide (xshw (g (b.1 + 1)) (q / 4) (q % 4) (fun i => xN (g 75 (40 * p + i))) i = g 75 (40 * s + i))) m1 = none)) 24 = xbits (fun q => decide (xfst (fun i => !decide (xshw (g (b.1 + 1)) (q / 4) (q % 4) (fun i => xN (g (23 + 2 * p + 1) i)) i = g (23 + 2 * s + 1) i)) m1 = none)) 24 := xbits_c 24 (fun q _ => by
        have e8 : xfst (fun i => !decide (xshw (g (b.1 + 1)) (q / 4) (q % 4) (fun i => xN (g 75 (40 * p + i))) i = g 75 (40 * s + i))) m1 = xfst (fun i => !decide (xshw (g (b.1 + 1)) (q / 4) (q % 4) (fun i => xN (g (23 + 2 * p + 1) i)) i = g (23 + 2 * s + 1) i)) m1 := xfst_congr (fun i hi => by
          rw [hrow2 i hi, show xshw (g (b.1 + 1)) (q / 4) (q % 4) (fun i => xN (g 75 (40 * p + i))) i = xshw (g (b.1 + 1)) (q / 4) (q % 4) (fun i => xN (g (23 + 2 * p + 1) i)) i from xshw_c (fun j hj => by show xN (g 75 (40 * p + j)) = xN (g (23 + 2 * p + 1) j); rw [hrow j (by omega)])])
        rw [e8])
      have hbs := xbs_24 (fun q => decide (xfst (fun i => !decide (xshw (g (b.1 + 1)) (q / 4) (q % 4) (fun i => xN (g (23 + 2 * p + 1) i)) i = g (23 + 2 * s + 1) i)) m1 = none))
      by_cases h2 : xcnt (fun q => decide (xfst (fun i => !decide (xshw (g (b.1 + 1)) (q / 4) (q % 4) (fun i => xN (g (23 + 2 * p + 1) i)) i = g (23 + 2 * s + 1) i)) m1 = none)) 24 < 2
      · rw [if_pos h2]
        exact (c_X12_next_none hR hp1 hs1 er er2 (by omega) hg.1 hg.2.1 hy1 hy2 f12.2 (by rw [hB, hbs]; exact (nI_lt2 (by omega)).mpr h2)).weak (fun r M w => by obtain ⟨_, _, _, e3⟩ := w; exact e3)
      · rw [if_neg h2]
        refine (c_X12_next_ok hR hp1 hs1 er er2 (by omega) hg.1 hg.2.1 hy1 hy2 f12.2 (by rw [hB, hbs]; exact fun z => h2 ((nI_lt2 (by omega)).mp z))).weak (fun r M w => ?_)
        obtain ⟨_, _, _, e3⟩ := w
        rw [e3]
        refine congrArg (fun z => some (Value.int z)) ?_
        rw [hB, ← xnext (fun s hs => hRm.2.2.2 s hs) (fun j hj => by obtain ⟨v, hv, ev⟩ := hxs j hj; rw [ev, xN_nI (by omega)]; exact hv)]
        rw [xnxr_c 6 (fun y _ => xmv_c 6 (fun v _ => xcnt_congr (fun q _ => ?_)))]
        congr 1
        have e9 : xshw (g (b.1 + 1)) (q / 4) (q % 4) (fup (fun i => xN (g 75 (40 * p + i))) m1 y) m1 = xshw (g (b.1 + 1)) (q / 4) (q % 4) (fup (fun i => xN (g (23 + 2 * p + 1) i)) m1 y) m1 := xshw_c (fun j hj => by
          show (if j = m1 then y else xN (g 75 (40 * p + j))) = (if j = m1 then y else xN (g (23 + 2 * p + 1) j))
          by_cases e7 : j = m1
          · rw [if_pos e7, if_pos e7]
          · rw [if_neg e7, if_neg e7, hrow j (by omega)])
        rw [e9]
    · rw [if_neg hf]
      by_cases hf12 : xfop (g (23 + 2 * p) 1) (g (23 + 2 * p + 1)) (g (23 + 2 * s) 1) (g (23 + 2 * s + 1)) 12 = 0
      · obtain ⟨f1, f2, f3⟩ := xfop_0 hf12
        obtain ⟨m1, e, h12, h40, hxs⟩ := xfos_0 (hZc p hp1) (by decide) (by decide) f1
        obtain ⟨m2, e2, _, h402, hxs2⟩ := xfos_0 (hZc s hs1) (by decide) (by decide) f2
        obtain rfl : m1 = m2 := nI_inj (by omega) (by omega) (by rw [← e, f3, e2])
        have hg := xfop_0 (eF.trans hf12)
        have er : g 74 p = nI m1 := by rw [(hQ p hp1).1]; exact e
        have er2 : g 74 s = nI m1 := by rw [(hQ s hs1).1]; exact e2
        have hy1 : ∀ i, i < m1 → xstp (g 75 (40 * p + i)) := fun i hi => by rw [(hQ p hp1).2 m1 h40 e i hi]; exact hxs i hi
        have hy2 : ∀ i, i < m1 → xstp (g 75 (40 * s + i)) := fun i hi => by rw [(hQ s hs1).2 m1 h40 e2 i hi]; exact hxs2 i hi
        have hm12 : m1 = 12 := by
          by_cases z : m1 ≤ 11
          · exact absurd ((xfop_11 h40 e).mpr ⟨hf12, z⟩) hf
          · omega
        exact (c_X12_next_12 hp1 hs1 er er2 hm12 hg.1 hg.2.1 hy1 hy2).weak (fun r M w => by obtain ⟨_, _, _, e3⟩ := w; exact e3)
      · exact (c_X12_next_ref hp1 (hZ p hp1) hs1 (hZ s hs1) (by rw [eF]; exact hf12)).weak (fun r M w => by obtain ⟨_, _, _, e3⟩ := w; exact e3)
  · rw [if_neg hx]
    exact (c_X12_next_bad hx).weak (fun r M w => w.2)
theorem ea_count (hI : xIc b g G T Lw m) : xT 10 118 [.ref 0, .int x] (xH b g l) (fun r _ => r = some (.int (if 0 ≤ x ∧ x < 9 then xct g G T m Lw (xN x) else -1))) := by
  obtain ⟨hb, hp, hR, htx, ⟨hs, hm⟩, hD, hK, hZ, hY⟩ := hI
  obtain ⟨hb1, hb2⟩ := xro_b hb
  have hq := xb2 hb
  have hbv : b.1 = 7 ∨ b.1 = 11 := by omega
  have hbw : b.2 = 7 ∨ b.2 = 11 := by omega
  have eG : g b.1 2 = nI G := hR.1.1
  have hG6 : G ≤ 6 := hR.1.2
  have eT : g b.1 4 = nI T := hR.2.1.1
  have hT8 : T ≤ 8 := hR.2.1.2
  by_cases hx : 0 ≤ x ∧ x < 9
  · rw [if_pos hx]
    obtain ⟨t, ht, rfl⟩ := xin (n := 9) (by omega) hx
    rw [xN_nI (by omega)]
    exact (c_X11_count hb1 hR hp hs hm ht).weak (fun r M w => w.2)
  · rw [if_neg hx]
    exact (c_X11_count_bad hx).weak (fun r M w => w.2)
theorem eb_count (hI : xIc b g G T Lw m) (hJ : xIr b g G T Lw m) : xT 10 234 [.ref 73, .int x] (xH b g l) (fun r _ => r = some (.int (if 0 ≤ x ∧ x < 9 then xct g G T m Lw (xN x) else -1))) := by
  obtain ⟨hb, hp, hRm, htx, ⟨_, hm⟩, hDk, hK, hZc, hY⟩ := hI
  obtain ⟨hR, hs, hD, hKr, hQ, hYr⟩ := hJ
  have hZ : ∀ r, r < 6 → xsz (g 74 r) 40 := fun r h => by rw [(hQ r h).1]; exact hZc r h
  have eG : g 73 10 = nI G := hR.1.1
  have hG6 : G ≤ 6 := hR.1.2
  have hT8 : T ≤ 8 := hR.2.1.2
  have hZ6 : ∀ q, q < 6 → xsz (g 74 q) 60 := fun q h => (hZ q h).elim Or.inl (fun ⟨n, a1, a2⟩ => Or.inr ⟨n, by omega, a2⟩)
  have hY6 : ∀ q, q < 4 → xsz (g 76 q) 60 := fun q h => by rw [(hYr q h).1]; exact hY q h
  have hK6 : ∀ q, q < 3 → xsz (g 86 q) 60 := fun q h => by
    rw [(hKr q h).1]
    rcases hK q h with z | ⟨n, z1, z2, _⟩
    · exact Or.inl z
    · exact Or.inr ⟨n, by omega, z2⟩
  by_cases hx : 0 ≤ x ∧ x < 9
  · rw [if_pos hx]
    obtain ⟨t, ht, rfl⟩ := xin (n := 9) (by omega) hx
    rw [xN_nI (by omega), show xct g G T m Lw t = xctr g (g 5) G T m Lw t from ?_]
    · exact (c_X12_count_ok hR hD hm hs hZ6 hY6 hK6 ht).weak (fun r M w => w.2)
    · unfold xct xctr
      rw [xcnt_congr (p := fun k => !decide (g (23 + 2 * k) 1 = -1)) (p' := fun q => !decide (g 74 q = -1)) (n := 6) (fun q hq => by rw [(hQ q hq).1]), xcnt_congr (p := fun k => !decide (g (35 + 2 * k) 1 = -1)) (p' := fun q => !decide (g 76 q = -1)) (n := 4) (fun q hq => by rw [(hYr q hq).1]), xcnt_congr (p := fun k => !decide (g (67 + 2 * k) 1 = -1)) (p' := fun q => !decide (g 86 q = -1)) (n := 3) (fun q hq => by rw [(hKr q hq).1])]
  · rw [if_neg hx]
    exact (c_X12_count_bad hx).weak (fun r M w => w.2)
theorem ea_fault (hI : xIc b g G T Lw m) : xT 10 86 [.ref 0, .int x] (xH b g l) (fun r _ => r = some (.int (if 0 ≤ x ∧ x < 4 then (if g (35 + 2 * xN x) 1 = -1 then (-3 : Int32) else xfI (xprs (g (35 + 2 * xN x + 1)) (xN (g (35 + 2 * xN x) 1))).1) else -1))) := by
  obtain ⟨hb, hp, hR, htx, ⟨hs, hm⟩, hD, hK, hZ, hY⟩ := hI
  obtain ⟨hb1, hb2⟩ := xro_b hb
  have hq := xb2 hb
  have hbv : b.1 = 7 ∨ b.1 = 11 := by omega
  have hbw : b.2 = 7 ∨ b.2 = 11 := by omega
  have eG : g b.1 2 = nI G := hR.1.1
  have hG6 : G ≤ 6 := hR.1.2
  have eT : g b.1 4 = nI T := hR.2.1.1
  have hT8 : T ≤ 8 := hR.2.1.2
  by_cases hx : 0 ≤ x ∧ x < 4
  · rw [if_pos hx]
    obtain ⟨t, ht, rfl⟩ := xin (n := 4) (by omega) hx
    rw [xN_nI (by omega)]
    rcases hY t ht with e | ⟨m1, hm1, e⟩
    · rw [if_pos e]
      exact (c_X11_fault_no ht e).weak (fun r M w => w.2)
    · rw [e, if_neg (nI_nm1 (by omega)), xN_nI (by omega)]
      exact (c_X11_fault_ok ht e hm1 rfl hb2 (by omega)).weak (fun r M w => by obtain ⟨_, _, _, e3⟩ := w; exact e3)
  · rw [if_neg hx]
    exact (c_X11_fault_bad hx).weak (fun r M w => w.2)
theorem eb_fault (hI : xIc b g G T Lw m) (hJ : xIr b g G T Lw m) : xT 10 176 [.ref 73, .int x] (xH b g l) (fun r _ => r = some (.int (if 0 ≤ x ∧ x < 4 then (if g (35 + 2 * xN x) 1 = -1 then (-3 : Int32) else xfI (xprs (g (35 + 2 * xN x + 1)) (xN (g (35 + 2 * xN x) 1))).1) else -1))) := by
  obtain ⟨hb, hp, hRm, htx, ⟨_, hm⟩, hDk, hK, hZc, hY⟩ := hI
  obtain ⟨hR, hs, hD, hKr, hQ, hYr⟩ := hJ
  have hZ : ∀ r, r < 6 → xsz (g 74 r) 40 := fun r h => by rw [(hQ r h).1]; exact hZc r h
  have eG : g 73 10 = nI G := hR.1.1
  have hG6 : G ≤ 6 := hR.1.2
  have hT8 : T ≤ 8 := hR.2.1.2
  have hZ6 : ∀ q, q < 6 → xsz (g 74 q) 60 := fun q h => (hZ q h).elim Or.inl (fun ⟨n, a1, a2⟩ => Or.inr ⟨n, by omega, a2⟩)
  have hY6 : ∀ q, q < 4 → xsz (g 76 q) 60 := fun q h => by rw [(hYr q h).1]; exact hY q h
  have hK6 : ∀ q, q < 3 → xsz (g 86 q) 60 := fun q h => by
    rw [(hKr q h).1]
    rcases hK q h with z | ⟨n, z1, z2, _⟩
    · exact Or.inl z
    · exact Or.inr ⟨n, by omega, z2⟩
  by_cases hx : 0 ≤ x ∧ x < 4
  · rw [if_pos hx]
    obtain ⟨t, ht, rfl⟩ := xin (n := 4) (by omega) hx
    rw [xN_nI (by omega)]
    rcases hY t ht with e | ⟨m1, hm1, e⟩
    · rw [if_pos e]
      exact (c_X12_fault_no ht (by rw [(hYr t ht).1]; exact e)).weak (fun r M w => w.2)
    · rw [e, if_neg (nI_nm1 (by omega)), xN_nI (by omega)]
      exact (c_X12_fault_ok (f := g (35 + 2 * t + 1)) ht (by rw [(hYr t ht).1]; exact e) hm1 ((hYr t ht).2 m1 hm1 e)).weak (fun r M w => by obtain ⟨_, _, _, e3⟩ := w; exact e3)
  · rw [if_neg hx]
    exact (c_X12_fault_bad hx).weak (fun r M w => w.2)
theorem ea_glass (hI : xIc b g G T Lw m) : xT 10 88 [.ref 0, .int x, .int y] (xH b g l) (fun r _ => r = some (.int (if (0 ≤ x ∧ x < nI G) ∧ 0 ≤ y ∧ y ≤ 3 then (1 : Int32) else -1))) := by
  obtain ⟨hb, hp, hR, htx, ⟨hs, hm⟩, hD, hK, hZ, hY⟩ := hI
  obtain ⟨hb1, hb2⟩ := xro_b hb
  have hq := xb2 hb
  have hbv : b.1 = 7 ∨ b.1 = 11 := by omega
  have hbw : b.2 = 7 ∨ b.2 = 11 := by omega
  have eG : g b.1 2 = nI G := hR.1.1
  have hG6 : G ≤ 6 := hR.1.2
  have eT : g b.1 4 = nI T := hR.2.1.1
  have hT8 : T ≤ 8 := hR.2.1.2
  by_cases hx : (0 ≤ x ∧ x < nI G) ∧ 0 ≤ y ∧ y ≤ 3
  · rw [if_pos hx]
    obtain ⟨s, hk, rfl⟩ := xin (n := G) (by omega) hx.1
    obtain ⟨t, ht, rfl⟩ := xinl (n := 3) (by omega) hx.2
    exact (c_X11_glass_ok hb1 hR hp hs hm hk (by omega)).weak (fun r M w => w.2)
  · rw [if_neg hx]
    exact (c_X11_glass_bad hb1 (by rw [eG]; exact hx)).weak (fun r M w => w.2)
theorem eb_glass (hI : xIc b g G T Lw m) (hJ : xIr b g G T Lw m) : xT 10 187 [.ref 73, .int x, .int y] (xH b g l) (fun r _ => r = some (.int (if (0 ≤ x ∧ x < nI G) ∧ 0 ≤ y ∧ y ≤ 3 then (1 : Int32) else -1))) := by
  obtain ⟨hb, hp, hRm, htx, ⟨_, hm⟩, hDk, hK, hZc, hY⟩ := hI
  obtain ⟨hR, hs, hD, hKr, hQ, hYr⟩ := hJ
  have hZ : ∀ r, r < 6 → xsz (g 74 r) 40 := fun r h => by rw [(hQ r h).1]; exact hZc r h
  have eG : g 73 10 = nI G := hR.1.1
  have hG6 : G ≤ 6 := hR.1.2
  have hT8 : T ≤ 8 := hR.2.1.2
  have hZ6 : ∀ q, q < 6 → xsz (g 74 q) 60 := fun q h => (hZ q h).elim Or.inl (fun ⟨n, a1, a2⟩ => Or.inr ⟨n, by omega, a2⟩)
  have hY6 : ∀ q, q < 4 → xsz (g 76 q) 60 := fun q h => by rw [(hYr q h).1]; exact hY q h
  have hK6 : ∀ q, q < 3 → xsz (g 86 q) 60 := fun q h => by
    rw [(hKr q h).1]
    rcases hK q h with z | ⟨n, z1, z2, _⟩
    · exact Or.inl z
    · exact Or.inr ⟨n, by omega, z2⟩
  by_cases hx : (0 ≤ x ∧ x < nI G) ∧ 0 ≤ y ∧ y ≤ 3
  · rw [if_pos hx]
    obtain ⟨s, hk, rfl⟩ := xin (n := G) (by omega) hx.1
    obtain ⟨t, ht, rfl⟩ := xinl (n := 3) (by omega) hx.2
    rcases (show t = 0 ∨ t = 1 ∨ t = 2 ∨ t = 3 by omega) with rfl | rfl | rfl | rfl
    · exact (c_X12_glass_0 hR hk hD hm hs).weak (fun r M w => w.2)
    · exact (c_X12_glass_1 hR hk hD hm hs).weak (fun r M w => w.2)
    · exact (c_X12_glass_2 hR hk hD hm hs).weak (fun r M w => w.2)
    · exact (c_X12_glass_3 hR hk hD hm hs).weak (fun r M w => w.2)
  · rw [if_neg hx]
    exact (c_X12_glass_bad hR hx).weak (fun r M w => w.2)
theorem ea_habit (hI : xIc b g G T Lw m) : xT 10 90 [.ref 0, .int x] (xH b g l) (fun r _ => r = some (.int (if 0 ≤ x ∧ x < 6 then g (b.1 + 1) (xN x) else -1))) := by
  obtain ⟨hb, hp, hR, htx, ⟨hs, hm⟩, hD, hK, hZ, hY⟩ := hI
  obtain ⟨hb1, hb2⟩ := xro_b hb
  have hq := xb2 hb
  have hbv : b.1 = 7 ∨ b.1 = 11 := by omega
  have hbw : b.2 = 7 ∨ b.2 = 11 := by omega
  have eG : g b.1 2 = nI G := hR.1.1
  have hG6 : G ≤ 6 := hR.1.2
  have eT : g b.1 4 = nI T := hR.2.1.1
  have hT8 : T ≤ 8 := hR.2.1.2
  by_cases hx : 0 ≤ x ∧ x < 6
  · rw [if_pos hx]
    obtain ⟨t, ht, rfl⟩ := xin (n := 6) (by omega) hx
    rw [xN_nI (by omega)]
    exact (c_X11_habit_ok hb1 ht).weak (fun r M w => w.2)
  · rw [if_neg hx]
    exact (c_X11_habit_bad hx).weak (fun r M w => w.2)
theorem eb_habit (hI : xIc b g G T Lw m) (hJ : xIr b g G T Lw m) : xT 10 189 [.ref 73, .int x] (xH b g l) (fun r _ => r = some (.int (if 0 ≤ x ∧ x < 6 then g (b.1 + 1) (xN x) else -1))) := by
  obtain ⟨hb, hp, hRm, htx, ⟨_, hm⟩, hDk, hK, hZc, hY⟩ := hI
  obtain ⟨hR, hs, hD, hKr, hQ, hYr⟩ := hJ
  have hZ : ∀ r, r < 6 → xsz (g 74 r) 40 := fun r h => by rw [(hQ r h).1]; exact hZc r h
  have eG : g 73 10 = nI G := hR.1.1
  have hG6 : G ≤ 6 := hR.1.2
  have hT8 : T ≤ 8 := hR.2.1.2
  have hZ6 : ∀ q, q < 6 → xsz (g 74 q) 60 := fun q h => (hZ q h).elim Or.inl (fun ⟨n, a1, a2⟩ => Or.inr ⟨n, by omega, a2⟩)
  have hY6 : ∀ q, q < 4 → xsz (g 76 q) 60 := fun q h => by rw [(hYr q h).1]; exact hY q h
  have hK6 : ∀ q, q < 3 → xsz (g 86 q) 60 := fun q h => by
    rw [(hKr q h).1]
    rcases hK q h with z | ⟨n, z1, z2, _⟩
    · exact Or.inl z
    · exact Or.inr ⟨n, by omega, z2⟩
  by_cases hx : 0 ≤ x ∧ x < 6
  · rw [if_pos hx]
    obtain ⟨t, ht, rfl⟩ := xin (n := 6) (by omega) hx
    rw [xN_nI (by omega)]
    exact (c_X12_habit_ok hR ht).weak (fun r M w => w.2)
  · rw [if_neg hx]
    exact (c_X12_habit_bad hx).weak (fun r M w => w.2)
theorem ea_term (hI : xIc b g G T Lw m) : xT 10 91 [.ref 0, .int x, .int y] (xH b g l) (fun r _ => r = some (.int (if (0 ≤ x ∧ x < nI T) ∧ 0 ≤ y ∧ y ≤ 1 then g (b.1 + 3) (2 * xN x + xN y) else -1))) := by
  obtain ⟨hb, hp, hR, htx, ⟨hs, hm⟩, hD, hK, hZ, hY⟩ := hI
  obtain ⟨hb1, hb2⟩ := xro_b hb
  have hq := xb2 hb
  have hbv : b.1 = 7 ∨ b.1 = 11 := by omega
  have hbw : b.2 = 7 ∨ b.2 = 11 := by omega
  have eG : g b.1 2 = nI G := hR.1.1
  have hG6 : G ≤ 6 := hR.1.2
  have eT : g b.1 4 = nI T := hR.2.1.1
  have hT8 : T ≤ 8 := hR.2.1.2
  by_cases hx : (0 ≤ x ∧ x < nI T) ∧ 0 ≤ y ∧ y ≤ 1
  · rw [if_pos hx]
    obtain ⟨d, hd, rfl⟩ := xin (n := T) (by omega) hx.1
    obtain ⟨t, ht, rfl⟩ := xinl (n := 1) (by omega) hx.2
    rw [xN_nI (by omega), xN_nI (by omega)]
    exact (c_X11_term_ok hb1 hR hp hd (by omega)).weak (fun r M w => w.2)
  · rw [if_neg hx]
    exact (c_X11_term_bad hb1 (by rw [eT]; exact hx)).weak (fun r M w => w.2)
theorem eb_term (hI : xIc b g G T Lw m) (hJ : xIr b g G T Lw m) : xT 10 190 [.ref 73, .int x, .int y] (xH b g l) (fun r _ => r = some (.int (if (0 ≤ x ∧ x < nI T) ∧ 0 ≤ y ∧ y ≤ 1 then g (b.1 + 3) (2 * xN x + xN y) else -1))) := by
  obtain ⟨hb, hp, hRm, htx, ⟨_, hm⟩, hDk, hK, hZc, hY⟩ := hI
  obtain ⟨hR, hs, hD, hKr, hQ, hYr⟩ := hJ
  have hZ : ∀ r, r < 6 → xsz (g 74 r) 40 := fun r h => by rw [(hQ r h).1]; exact hZc r h
  have eG : g 73 10 = nI G := hR.1.1
  have hG6 : G ≤ 6 := hR.1.2
  have hT8 : T ≤ 8 := hR.2.1.2
  have hZ6 : ∀ q, q < 6 → xsz (g 74 q) 60 := fun q h => (hZ q h).elim Or.inl (fun ⟨n, a1, a2⟩ => Or.inr ⟨n, by omega, a2⟩)
  have hY6 : ∀ q, q < 4 → xsz (g 76 q) 60 := fun q h => by rw [(hYr q h).1]; exact hY q h
  have hK6 : ∀ q, q < 3 → xsz (g 86 q) 60 := fun q h => by
    rw [(hKr q h).1]
    rcases hK q h with z | ⟨n, z1, z2, _⟩
    · exact Or.inl z
    · exact Or.inr ⟨n, by omega, z2⟩
  by_cases hx : (0 ≤ x ∧ x < nI T) ∧ 0 ≤ y ∧ y ≤ 1
  · rw [if_pos hx]
    obtain ⟨d, hd, rfl⟩ := xin (n := T) (by omega) hx.1
    obtain ⟨t, ht, rfl⟩ := xinl (n := 1) (by omega) hx.2
    rw [xN_nI (by omega), xN_nI (by omega)]
    exact (c_X12_term_ok hR hd (by omega)).weak (fun r M w => w.2)
  · rw [if_neg hx]
    exact (c_X12_term_bad hR hx).weak (fun r M w => w.2)
theorem ea_deed (hI : xIc b g G T Lw m) : xT 10 93 [.ref 0, .int x, .int y] (xH b g l) (fun r _ => r = some (.int (if (0 ≤ x ∧ x < nI m) ∧ 0 ≤ y ∧ y ≤ 3 then (1 : Int32) else -1))) := by
  obtain ⟨hb, hp, hR, htx, ⟨hs, hm⟩, hD, hK, hZ, hY⟩ := hI
  obtain ⟨hb1, hb2⟩ := xro_b hb
  have hq := xb2 hb
  have hbv : b.1 = 7 ∨ b.1 = 11 := by omega
  have hbw : b.2 = 7 ∨ b.2 = 11 := by omega
  have eG : g b.1 2 = nI G := hR.1.1
  have hG6 : G ≤ 6 := hR.1.2
  have eT : g b.1 4 = nI T := hR.2.1.1
  have hT8 : T ≤ 8 := hR.2.1.2
  by_cases hx : (0 ≤ x ∧ x < nI m) ∧ 0 ≤ y ∧ y ≤ 3
  · rw [if_pos hx]
    obtain ⟨d, hd, rfl⟩ := xin (n := m) (by omega) hx.1
    obtain ⟨t, ht, rfl⟩ := xinl (n := 3) (by omega) hx.2
    exact (c_X11_deed_ok hs hm hd (by omega)).weak (fun r M w => w.2)
  · rw [if_neg hx]
    exact (c_X11_deed_bad (by rw [hs]; exact hx)).weak (fun r M w => w.2)
theorem eb_deed (hI : xIc b g G T Lw m) (hJ : xIr b g G T Lw m) : xT 10 193 [.ref 73, .int x, .int y] (xH b g l) (fun r _ => r = some (.int (if (0 ≤ x ∧ x < nI m) ∧ 0 ≤ y ∧ y ≤ 3 then (1 : Int32) else -1))) := by
  obtain ⟨hb, hp, hRm, htx, ⟨_, hm⟩, hDk, hK, hZc, hY⟩ := hI
  obtain ⟨hR, hs, hD, hKr, hQ, hYr⟩ := hJ
  have hZ : ∀ r, r < 6 → xsz (g 74 r) 40 := fun r h => by rw [(hQ r h).1]; exact hZc r h
  have eG : g 73 10 = nI G := hR.1.1
  have hG6 : G ≤ 6 := hR.1.2
  have hT8 : T ≤ 8 := hR.2.1.2
  have hZ6 : ∀ q, q < 6 → xsz (g 74 q) 60 := fun q h => (hZ q h).elim Or.inl (fun ⟨n, a1, a2⟩ => Or.inr ⟨n, by omega, a2⟩)
  have hY6 : ∀ q, q < 4 → xsz (g 76 q) 60 := fun q h => by rw [(hYr q h).1]; exact hY q h
  have hK6 : ∀ q, q < 3 → xsz (g 86 q) 60 := fun q h => by
    rw [(hKr q h).1]
    rcases hK q h with z | ⟨n, z1, z2, _⟩
    · exact Or.inl z
    · exact Or.inr ⟨n, by omega, z2⟩
  by_cases hx : (0 ≤ x ∧ x < nI m) ∧ 0 ≤ y ∧ y ≤ 3
  · rw [if_pos hx]
    obtain ⟨d, hd, rfl⟩ := xin (n := m) (by omega) hx.1
    obtain ⟨t, ht, rfl⟩ := xinl (n := 3) (by omega) hx.2
    rcases (show t = 0 ∨ t = 1 ∨ t = 2 ∨ t = 3 by omega) with rfl | rfl | rfl | rfl
    · exact (c_X12_deed_0 hR hD hm hs hd).weak (fun r M w => w.2)
    · exact (c_X12_deed_1 hR hD hm hs hd).weak (fun r M w => w.2)
    · exact (c_X12_deed_2 hR hD hm hs hd).weak (fun r M w => w.2)
    · exact (c_X12_deed_3 hR hD hm hs hd).weak (fun r M w => w.2)
  · rw [if_neg hx]
    exact (c_X12_deed_bad hs hm hx).weak (fun r M w => w.2)
theorem ea_broken (hI : xIc b g G T Lw m) : xT 10 94 [.ref 0] (xH b g l) (fun r _ => r = some (.int (nI (xcnt (fun d => !decide (g 5 (4 * d + 3) = -9)) m)))) := by
  obtain ⟨hb, hp, hR, htx, ⟨hs, hm⟩, hD, hK, hZ, hY⟩ := hI
  obtain ⟨hb1, hb2⟩ := xro_b hb
  have hq := xb2 hb
  have hbv : b.1 = 7 ∨ b.1 = 11 := by omega
  have hbw : b.2 = 7 ∨ b.2 = 11 := by omega
  have eG : g b.1 2 = nI G := hR.1.1
  have hG6 : G ≤ 6 := hR.1.2
  have eT : g b.1 4 = nI T := hR.2.1.1
  have hT8 : T ≤ 8 := hR.2.1.2
  exact (c_X11_broken_ok hs hm).weak (fun r M w => w.2)
theorem eb_broken (hI : xIc b g G T Lw m) (hJ : xIr b g G T Lw m) : xT 10 195 [.ref 73] (xH b g l) (fun r _ => r = some (.int (nI (xcnt (fun d => !decide (g 5 (4 * d + 3) = -9)) m)))) := by
  obtain ⟨hb, hp, hRm, htx, ⟨_, hm⟩, hDk, hK, hZc, hY⟩ := hI
  obtain ⟨hR, hs, hD, hKr, hQ, hYr⟩ := hJ
  have hZ : ∀ r, r < 6 → xsz (g 74 r) 40 := fun r h => by rw [(hQ r h).1]; exact hZc r h
  have eG : g 73 10 = nI G := hR.1.1
  have hG6 : G ≤ 6 := hR.1.2
  have hT8 : T ≤ 8 := hR.2.1.2
  have hZ6 : ∀ q, q < 6 → xsz (g 74 q) 60 := fun q h => (hZ q h).elim Or.inl (fun ⟨n, a1, a2⟩ => Or.inr ⟨n, by omega, a2⟩)
  have hY6 : ∀ q, q < 4 → xsz (g 76 q) 60 := fun q h => by rw [(hYr q h).1]; exact hY q h
  have hK6 : ∀ q, q < 3 → xsz (g 86 q) 60 := fun q h => by
    rw [(hKr q h).1]
    rcases hK q h with z | ⟨n, z1, z2, _⟩
    · exact Or.inl z
    · exact Or.inr ⟨n, by omega, z2⟩
  exact (c_X12_broken hR hD hm hs).weak (fun r M w => w.2)
theorem ea_keeps (hI : xIc b g G T Lw m) : xT 10 108 [.ref 0, .int x, .int y] (xH b g l) (fun r _ => r = some (.int (if (0 ≤ x ∧ x < nI G) ∧ 0 ≤ y ∧ y ≤ 5 then (1 : Int32) else -1))) := by
  obtain ⟨hb, hp, hR, htx, ⟨hs, hm⟩, hD, hK, hZ, hY⟩ := hI
  obtain ⟨hb1, hb2⟩ := xro_b hb
  have hq := xb2 hb
  have hbv : b.1 = 7 ∨ b.1 = 11 := by omega
  have hbw : b.2 = 7 ∨ b.2 = 11 := by omega
  have eG : g b.1 2 = nI G := hR.1.1
  have hG6 : G ≤ 6 := hR.1.2
  have eT : g b.1 4 = nI T := hR.2.1.1
  have hT8 : T ≤ 8 := hR.2.1.2
  by_cases hx : (0 ≤ x ∧ x < nI G) ∧ 0 ≤ y ∧ y ≤ 5
  · rw [if_pos hx]
    obtain ⟨s, hk, rfl⟩ := xin (n := G) (by omega) hx.1
    obtain ⟨n, hn, rfl⟩ := xinl (n := 5) (by omega) hx.2
    exact (c_X11_keeps_ok hb1 (by omega) hR hp hk hn).weak (fun r M w => by obtain ⟨_, _, _, e3⟩ := w; exact e3)
  · rw [if_neg hx]
    exact (c_X11_keeps_bad hb1 hR hx).weak (fun r M w => w.2)
theorem eb_keeps (hI : xIc b g G T Lw m) (hJ : xIr b g G T Lw m) : xT 10 219 [.ref 73, .int x, .int y] (xH b g l) (fun r _ => r = some (.int (if (0 ≤ x ∧ x < nI G) ∧ 0 ≤ y ∧ y ≤ 5 then (1 : Int32) else -1))) := by
  obtain ⟨hb, hp, hRm, htx, ⟨_, hm⟩, hDk, hK, hZc, hY⟩ := hI
  obtain ⟨hR, hs, hD, hKr, hQ, hYr⟩ := hJ
  have hZ : ∀ r, r < 6 → xsz (g 74 r) 40 := fun r h => by rw [(hQ r h).1]; exact hZc r h
  have eG : g 73 10 = nI G := hR.1.1
  have hG6 : G ≤ 6 := hR.1.2
  have hT8 : T ≤ 8 := hR.2.1.2
  have hZ6 : ∀ q, q < 6 → xsz (g 74 q) 60 := fun q h => (hZ q h).elim Or.inl (fun ⟨n, a1, a2⟩ => Or.inr ⟨n, by omega, a2⟩)
  have hY6 : ∀ q, q < 4 → xsz (g 76 q) 60 := fun q h => by rw [(hYr q h).1]; exact hY q h
  have hK6 : ∀ q, q < 3 → xsz (g 86 q) 60 := fun q h => by
    rw [(hKr q h).1]
    rcases hK q h with z | ⟨n, z1, z2, _⟩
    · exact Or.inl z
    · exact Or.inr ⟨n, by omega, z2⟩
  by_cases hx : (0 ≤ x ∧ x < nI G) ∧ 0 ≤ y ∧ y ≤ 5
  · rw [if_pos hx]
    obtain ⟨s, hk, rfl⟩ := xin (n := G) (by omega) hx.1
    obtain ⟨n, hn, rfl⟩ := xinl (n := 5) (by omega) hx.2
    by_cases h0 : n = 0
    · exact (c_X12_keeps_0 hR hk hn h0).weak (fun r M w => by obtain ⟨_, _, _, e3⟩ := w; exact e3)
    · exact (c_X12_keeps_ok hR hk hn (by omega)).weak (fun r M w => by obtain ⟨_, _, _, e3⟩ := w; exact e3)
  · rw [if_neg hx]
    exact (c_X12_keeps_bad hR hx).weak (fun r M w => w.2)
theorem ea_mark (hI : xIc b g G T Lw m) : xT 10 89 [.ref 0, .int x, .int y] (xH b g l) (fun r _ => r = some (.int (if (0 ≤ x ∧ x < nI G) ∧ 1 ≤ y ∧ y ≤ 5 then (if xiso (Lw (xN x) / 4) y = false then (-3 : Int32) else (if xN y = 1 then (if Lw (xN x) % 4 = 0 then (-9 : Int32) else (xshw (g (b.1 + 1)) (Lw (xN x) / 4) (Lw (xN x) % 4) (fun i => xN (g 5 (4 * i)))) m) else if xN y = 2 then nI (xcnt (fun i => decide ((xshw (g (b.1 + 1)) (Lw (xN x) / 4) (Lw (xN x) % 4) (fun i => xN (g 5 (4 * i)))) i = 0)) m) else if xN y = 3 then nI (xcnt (fun q => decide (g (b.1 + 1) q = 0)) 6) else if xN y = 4 then 2 - nI (m % 3) else (if m % 2 = 1 then xmir (g (b.1 + 1) 0) else 0))) else -1))) := by
  obtain ⟨hb, hp, hR, htx, ⟨hs, hm⟩, hD, hK, hZ, hY⟩ := hI
  obtain ⟨hb1, hb2⟩ := xro_b hb
  have hq := xb2 hb
  have hbv : b.1 = 7 ∨ b.1 = 11 := by omega
  have hbw : b.2 = 7 ∨ b.2 = 11 := by omega
  have eG : g b.1 2 = nI G := hR.1.1
  have hG6 : G ≤ 6 := hR.1.2
  have eT : g b.1 4 = nI T := hR.2.1.1
  have hT8 : T ≤ 8 := hR.2.1.2
  by_cases hx : (0 ≤ x ∧ x < nI G) ∧ 1 ≤ y ∧ y ≤ 5
  · rw [if_pos hx]
    obtain ⟨s, hk, rfl⟩ := xin (n := G) (by omega) hx.1
    obtain ⟨t, ht1, ht, rfl⟩ := nI_1le hx.2
    rw [xN_nI (by omega), xN_nI (by omega)]
    cases hi : xiso (Lw s / 4) (nI t) with
    | false =>
      rw [if_pos rfl]
      exact (c_X11_mark_ref hb1 hR hp hs hm hk ht1 ht hi).weak (fun r M w => w.2)
    | true =>
      rw [if_neg (by decide)]
      rcases (show t = 1 ∨ t = 2 ∨ t = 3 ∨ t = 4 ∨ t = 5 by omega) with rfl | rfl | rfl | rfl | rfl
      · rw [if_pos rfl]
        exact (c_X11_mark_1 hb1 hR hp hs hm (xDk_x hD) hk hi).weak (fun r M w => w.2)
      · rw [if_neg (by decide), if_pos rfl]
        exact (c_X11_mark_2 hb1 hR hp hs hm (xDk_x hD) hk hi).weak (fun r M w => w.2)
      · rw [if_neg (by decide), if_neg (by decide), if_pos rfl]
        have k3 : Lw s / 4 = 3 := by
          have h24 := (hR.2.2.1 s hk).2
          rcases (show Lw s / 4 = 0 ∨ Lw s / 4 = 1 ∨ Lw s / 4 = 2 ∨ Lw s / 4 = 3 ∨ Lw s / 4 = 4 ∨ Lw s / 4 = 5 by omega) with z | z | z | z | z | z <;> rw [z] at hi <;> first | exact z | exact absurd hi (by decide)
        have e6 : nI (xcnt (fun q => decide (g (b.1 + 1) q = 0)) 6) = xbc (xbits (fun q => decide (xseen (g (b.1 + 1)) (Lw s / 4) m q = 0)) 6) := by
          rw [xbc_6, xcnt_congr (p := fun q => decide (g (b.1 + 1) q = 0)) (p' := fun q => decide (xseen (g (b.1 + 1)) (Lw s / 4) m q = 0)) (fun q hq => ?_)]
          rw [k3]
          show decide (g (b.1 + 1) q = 0) = decide (xmir (g (b.1 + 1) q) = 0)
          exact decide_eq_decide.mpr (xmir_0 (hR.2.2.2 q hq)).symm
        rw [e6]
        exact (c_X11_mark_3 hb1 hR hp hs hm (xDk_x hD) hk hi).weak (fun r M w => w.2)
      · rw [if_neg (by decide), if_neg (by decide), if_neg (by decide), if_pos rfl]
        exact (c_X11_mark_4 hb1 hR hp hs hm (xDk_x hD) hk hi).weak (fun r M w => w.2)
      · rw [if_neg (by decide), if_neg (by decide), if_neg (by decide), if_neg (by decide)]
        have k5 : Lw s / 4 = 5 := by
          have h24 := (hR.2.2.1 s hk).2
          rcases (show Lw s / 4 = 0 ∨ Lw s / 4 = 1 ∨ Lw s / 4 = 2 ∨ Lw s / 4 = 3 ∨ Lw s / 4 = 4 ∨ Lw s / 4 = 5 by omega) with z | z | z | z | z | z <;> rw [z] at hi <;> first | exact z | exact absurd hi (by decide)
        have e6 : (if m % 2 = 1 then xmir (g (b.1 + 1) 0) else 0) = xseen (g (b.1 + 1)) (Lw s / 4) m 0 := by
          rw [k5]
          unfold xseen xth
          by_cases e : m % 2 = 1
          · rw [if_pos e, decide_eq_true e]
            rfl
          · rw [if_neg e, decide_eq_false e]
            rfl
        rw [e6]
        exact (c_X11_mark_5 hb1 hR hp hs hm (xDk_x hD) hk hi).weak (fun r M w => w.2)
  · rw [if_neg hx]
    exact (c_X11_mark_bad hb1 (by rw [eG]; exact hx)).weak (fun r M w => w.2)
theorem eb_mark (hI : xIc b g G T Lw m) (hJ : xIr b g G T Lw m) : xT 10 188 [.ref 73, .int x, .int y] (xH b g l) (fun r _ => r = some (.int (if (0 ≤ x ∧ x < nI G) ∧ 1 ≤ y ∧ y ≤ 5 then (if xiso (Lw (xN x) / 4) y = false then (-3 : Int32) else (if xN y = 1 then (if Lw (xN x) % 4 = 0 then (-9 : Int32) else (xshw (g (b.1 + 1)) (Lw (xN x) / 4) (Lw (xN x) % 4) (fun i => xN (g 5 (4 * i)))) m) else if xN y = 2 then nI (xcnt (fun i => decide ((xshw (g (b.1 + 1)) (Lw (xN x) / 4) (Lw (xN x) % 4) (fun i => xN (g 5 (4 * i)))) i = 0)) m) else if xN y = 3 then nI (xcnt (fun q => decide (g (b.1 + 1) q = 0)) 6) else if xN y = 4 then 2 - nI (m % 3) else (if m % 2 = 1 then xmir (g (b.1 + 1) 0) else 0))) else -1))) := by
  obtain ⟨hb, hp, hRm, htx, ⟨_, hm⟩, hDk, hK, hZc, hY⟩ := hI
  obtain ⟨hR, hs, hD, hKr, hQ, hYr⟩ := hJ
  have hZ : ∀ r, r < 6 → xsz (g 74 r) 40 := fun r h => by rw [(hQ r h).1]; exact hZc r h
  have eG : g 73 10 = nI G := hR.1.1
  have hG6 : G ≤ 6 := hR.1.2
  have hT8 : T ≤ 8 := hR.2.1.2
  have hZ6 : ∀ q, q < 6 → xsz (g 74 q) 60 := fun q h => (hZ q h).elim Or.inl (fun ⟨n, a1, a2⟩ => Or.inr ⟨n, by omega, a2⟩)
  have hY6 : ∀ q, q < 4 → xsz (g 76 q) 60 := fun q h => by rw [(hYr q h).1]; exact hY q h
  have hK6 : ∀ q, q < 3 → xsz (g 86 q) 60 := fun q h => by
    rw [(hKr q h).1]
    rcases hK q h with z | ⟨n, z1, z2, _⟩
    · exact Or.inl z
    · exact Or.inr ⟨n, by omega, z2⟩
  by_cases hx : (0 ≤ x ∧ x < nI G) ∧ 1 ≤ y ∧ y ≤ 5
  · rw [if_pos hx]
    obtain ⟨s, hk, rfl⟩ := xin (n := G) (by omega) hx.1
    obtain ⟨t, ht1, ht, rfl⟩ := nI_1le hx.2
    rw [xN_nI (by omega), xN_nI (by omega)]
    cases hi : xiso (Lw s / 4) (nI t) with
    | false =>
      rw [if_pos rfl]
      exact (c_X12_mark_ref hR hk ht1 ht hi).weak (fun r M w => w.2)
    | true =>
      rw [if_neg (by decide)]
      rcases (show t = 1 ∨ t = 2 ∨ t = 3 ∨ t = 4 ∨ t = 5 by omega) with rfl | rfl | rfl | rfl | rfl
      · rw [if_pos rfl]
        exact (c_X12_mark_1 hR hD hm hs hk hi).weak (fun r M w => w.2)
      · rw [if_neg (by decide), if_pos rfl]
        exact (c_X12_mark_2 hR hD hm hs hk hi).weak (fun r M w => w.2)
      · rw [if_neg (by decide), if_neg (by decide), if_pos rfl]
        exact (c_X12_mark_3 hR hD hm hs hk hi).weak (fun r M w => w.2)
      · rw [if_neg (by decide), if_neg (by decide), if_neg (by decide), if_pos rfl]
        exact (c_X12_mark_4 hR hD hm hs hk hi).weak (fun r M w => w.2)
      · rw [if_neg (by decide), if_neg (by decide), if_neg (by decide), if_neg (by decide)]
        exact (c_X12_mark_5 hR hD hm hs hk hi).weak (fun r M w => w.2)
  · rw [if_neg hx]
    exact (c_X12_mark_bad hR hx).weak (fun r M w => w.2)
theorem ea_still (hI : xIc b g G T Lw m) : xT 10 109 [.ref 0, .int x, .int y] (xH b g l) (fun r _ => r = some (.int (if (0 ≤ x ∧ x < nI G) ∧ 0 ≤ y ∧ y ≤ 5 then xfI (xfw (xnbc (g (b.1 + 1)) (g (b.1 + 3)) T (Lw (xN x) / 4) (Lw (xN x) % 4) (xN y)) (fun c => xcnt (fun i => decide (xd6 (xN y) c i = 0)) (xN y)) (6 ^ (xN y))) else -1))) := by
  obtain ⟨hb, hp, hR, htx, ⟨hs, hm⟩, hD, hK, hZ, hY⟩ := hI
  obtain ⟨hb1, hb2⟩ := xro_b hb
  have hq := xb2 hb
  have hbv : b.1 = 7 ∨ b.1 = 11 := by omega
  have hbw : b.2 = 7 ∨ b.2 = 11 := by omega
  have eG : g b.1 2 = nI G := hR.1.1
  have hG6 : G ≤ 6 := hR.1.2
  have eT : g b.1 4 = nI T := hR.2.1.1
  have hT8 : T ≤ 8 := hR.2.1.2
  by_cases hx : (0 ≤ x ∧ x < nI G) ∧ 0 ≤ y ∧ y ≤ 5
  · rw [if_pos hx]
    obtain ⟨s, hk, rfl⟩ := xin (n := G) (by omega) hx.1
    obtain ⟨n, hn, rfl⟩ := xinl (n := 5) (by omega) hx.2
    rw [xN_nI (by omega), xN_nI (by omega)]
    refine (c_X11_still_ok hb1 (by omega) hR hp hk hn).weak (fun r M w => ?_)
    obtain ⟨_, _, _, e3⟩ := w
    rw [e3, ← xFw_still hn]
    by_cases z : xPr (Lw s / 4) (Lw s % 4) n (xW (g (b.1 + 1)) (g (b.1 + 3)) T (Lw s / 4) (Lw s % 4) n (n + 2)) n = 0
    · rw [if_pos z, if_pos z]
      rfl
    · rw [if_neg z, if_neg z]
      rfl
  · rw [if_neg hx]
    exact (c_X11_still_bad hb1 hR hx).weak (fun r M w => w.2)
theorem eb_still (hI : xIc b g G T Lw m) (hJ : xIr b g G T Lw m) : xT 10 220 [.ref 73, .int x, .int y] (xH b g l) (fun r _ => r = some (.int (if (0 ≤ x ∧ x < nI G) ∧ 0 ≤ y ∧ y ≤ 5 then xfI (xfw (xnbc (g (b.1 + 1)) (g (b.1 + 3)) T (Lw (xN x) / 4) (Lw (xN x) % 4) (xN y)) (fun c => xcnt (fun i => decide (xd6 (xN y) c i = 0)) (xN y)) (6 ^ (xN y))) else -1))) := by
  obtain ⟨hb, hp, hRm, htx, ⟨_, hm⟩, hDk, hK, hZc, hY⟩ := hI
  obtain ⟨hR, hs, hD, hKr, hQ, hYr⟩ := hJ
  have hZ : ∀ r, r < 6 → xsz (g 74 r) 40 := fun r h => by rw [(hQ r h).1]; exact hZc r h
  have eG : g 73 10 = nI G := hR.1.1
  have hG6 : G ≤ 6 := hR.1.2
  have hT8 : T ≤ 8 := hR.2.1.2
  have hZ6 : ∀ q, q < 6 → xsz (g 74 q) 60 := fun q h => (hZ q h).elim Or.inl (fun ⟨n, a1, a2⟩ => Or.inr ⟨n, by omega, a2⟩)
  have hY6 : ∀ q, q < 4 → xsz (g 76 q) 60 := fun q h => by rw [(hYr q h).1]; exact hY q h
  have hK6 : ∀ q, q < 3 → xsz (g 86 q) 60 := fun q h => by
    rw [(hKr q h).1]
    rcases hK q h with z | ⟨n, z1, z2, _⟩
    · exact Or.inl z
    · exact Or.inr ⟨n, by omega, z2⟩
  by_cases hx : (0 ≤ x ∧ x < nI G) ∧ 0 ≤ y ∧ y ≤ 5
  · rw [if_pos hx]
    obtain ⟨s, hk, rfl⟩ := xin (n := G) (by omega) hx.1
    obtain ⟨n, hn, rfl⟩ := xinl (n := 5) (by omega) hx.2
    rw [xN_nI (by omega), xN_nI (by omega)]
    exact (c_X12_still_ok hR hk hn).weak (fun r M w => by obtain ⟨_, _, _, e3⟩ := w; exact e3)
  · rw [if_neg hx]
    exact (c_X12_still_bad hR hx).weak (fun r M w => w.2)
theorem ea_game (hI : xIc b g G T Lw m) : xT 10 110 [.ref 0, .int x] (xH b g l) (fun r _ => r = some (.int (if 0 ≤ x ∧ x ≤ 3 then (if G = 0 then (-4 : Int32) else if (xfst (fun c => decide (xfst (fun i => !xsafe (g (b.1 + 1)) (g (b.1 + 3)) T G Lw (xd6 (xN x) c) i) (xN x) = none)) (6 ^ (xN x))) = none then 0 else 1) else -1))) := by
  obtain ⟨hb, hp, hR, htx, ⟨hs, hm⟩, hD, hK, hZ, hY⟩ := hI
  obtain ⟨hb1, hb2⟩ := xro_b hb
  have hq := xb2 hb
  have hbv : b.1 = 7 ∨ b.1 = 11 := by omega
  have hbw : b.2 = 7 ∨ b.2 = 11 := by omega
  have eG : g b.1 2 = nI G := hR.1.1
  have hG6 : G ≤ 6 := hR.1.2
  have eT : g b.1 4 = nI T := hR.2.1.1
  have hT8 : T ≤ 8 := hR.2.1.2
  by_cases hx : 0 ≤ x ∧ x ≤ 3
  · rw [if_pos hx]
    obtain ⟨n, hn, rfl⟩ := xinl (n := 3) (by omega) hx
    rw [xN_nI (by omega)]
    by_cases hg : G = 0
    · rw [if_pos hg]
      exact (c_X11_game_state hb1 hn (by rw [eG, hg]; rfl)).weak (fun r M w => w.2)
    · rw [if_neg hg]
      have hgg : ¬ g b.1 2 = 0 := fun z => hg (nI_inj (b := 0) (by omega) (by omega) (eG.symm.trans z))
      by_cases h0 : n = 0
      · subst h0
        rw [show (xfst (fun c => decide (xfst (fun i => !xsafe (g (b.1 + 1)) (g (b.1 + 3)) T G Lw (xd6 0 c) i) 0 = none)) (6 ^ 0)) = some 0 from rfl, if_neg (by intro z; cases z)]
        exact (c_X11_game_zero hb1 hgg).weak (fun r M w => w.2)
      · refine (c_X11_game_ok hb1 hR hp hbv hn (by omega) hgg).weak (fun r M w => ?_)
        obtain ⟨_, _, _, e3⟩ := w
        rw [e3, xlp_code (by omega) hn]
        cases (xfst (fun c => decide (xfst (fun i => !xsafe (g (b.1 + 1)) (g (b.1 + 3)) T G Lw (xd6 n c) i) n = none)) (6 ^ n)) <;> rfl
  · rw [if_neg hx]
    exact (c_X11_game_bad hx).weak (fun r M w => w.2)
theorem eb_game (hI : xIc b g G T Lw m) (hJ : xIr b g G T Lw m) : xT 10 223 [.ref 73, .int x] (xH b g l) (fun r _ => r = some (.int (if 0 ≤ x ∧ x ≤ 3 then (if G = 0 then (-4 : Int32) else if (xfst (fun c => decide (xfst (fun i => !xsafe (g (b.1 + 1)) (g (b.1 + 3)) T G Lw (xd6 (xN x) c) i) (xN x) = none)) (6 ^ (xN x))) = none then 0 else 1) else -1))) := by
  obtain ⟨hb, hp, hRm, htx, ⟨_, hm⟩, hDk, hK, hZc, hY⟩ := hI
  obtain ⟨hR, hs, hD, hKr, hQ, hYr⟩ := hJ
  have hZ : ∀ r, r < 6 → xsz (g 74 r) 40 := fun r h => by rw [(hQ r h).1]; exact hZc r h
  have eG : g 73 10 = nI G := hR.1.1
  have hG6 : G ≤ 6 := hR.1.2
  have hT8 : T ≤ 8 := hR.2.1.2
  have hZ6 : ∀ q, q < 6 → xsz (g 74 q) 60 := fun q h => (hZ q h).elim Or.inl (fun ⟨n, a1, a2⟩ => Or.inr ⟨n, by omega, a2⟩)
  have hY6 : ∀ q, q < 4 → xsz (g 76 q) 60 := fun q h => by rw [(hYr q h).1]; exact hY q h
  have hK6 : ∀ q, q < 3 → xsz (g 86 q) 60 := fun q h => by
    rw [(hKr q h).1]
    rcases hK q h with z | ⟨n, z1, z2, _⟩
    · exact Or.inl z
    · exact Or.inr ⟨n, by omega, z2⟩
  by_cases hx : 0 ≤ x ∧ x ≤ 3
  · rw [if_pos hx]
    obtain ⟨n, hn, rfl⟩ := xinl (n := 3) (by omega) hx
    rw [xN_nI (by omega)]
    by_cases hg : G = 0
    · rw [if_pos hg]
      exact (c_X12_game_state hn (by rw [eG, hg]; rfl)).weak (fun r M w => w.2)
    · rw [if_neg hg]
      exact (c_X12_game_ok hR hn (by rw [eG]; exact fun z => hg (nI_inj (b := 0) (by omega) (by omega) z))).weak (fun r M w => by obtain ⟨_, _, _, e3⟩ := w; exact e3)
  · rw [if_neg hx]
    exact (c_X12_game_bad hx).weak (fun r M w => w.2)
theorem ea_picks (hI : xIc b g G T Lw m) : xT 10 111 [.ref 0, .int x] (xH b g l) (fun r _ => r = some (.int (if 1 ≤ x ∧ x ≤ 3 then (if G = 0 then (-4 : Int32) else match (xfst (fun c => decide (xfst (fun i => !xsafe (g (b.1 + 1)) (g (b.1 + 3)) T G Lw (xd6 (xN x) c) i) (xN x) = none)) (6 ^ (xN x))) with | none => -9 | some c => nI (xd6 (xN x) c 0)) else -1))) := by
  obtain ⟨hb, hp, hR, htx, ⟨hs, hm⟩, hD, hK, hZ, hY⟩ := hI
  obtain ⟨hb1, hb2⟩ := xro_b hb
  have hq := xb2 hb
  have hbv : b.1 = 7 ∨ b.1 = 11 := by omega
  have hbw : b.2 = 7 ∨ b.2 = 11 := by omega
  have eG : g b.1 2 = nI G := hR.1.1
  have hG6 : G ≤ 6 := hR.1.2
  have eT : g b.1 4 = nI T := hR.2.1.1
  have hT8 : T ≤ 8 := hR.2.1.2
  by_cases hx : 1 ≤ x ∧ x ≤ 3
  · rw [if_pos hx]
    obtain ⟨n, hn, rfl⟩ := xinl (n := 3) (by omega) ⟨Int32.le_trans (by decide) hx.1, hx.2⟩
    have h0 : 0 < n := (nI_leI (a := 1) (by omega) (by omega)).mp hx.1
    rw [xN_nI (by omega)]
    by_cases hg : G = 0
    · rw [if_pos hg]
      exact (c_X11_picks_state hb1 hn h0 (by rw [eG, hg]; rfl)).weak (fun r M w => w.2)
    · rw [if_neg hg]
      have hgg : ¬ g b.1 2 = 0 := fun z => hg (nI_inj (b := 0) (by omega) (by omega) (eG.symm.trans z))
      refine (c_X11_picks_ok hb1 hR hp hbv hn h0 hgg).weak (fun r M w => ?_)
      obtain ⟨_, _, _, e3⟩ := w
      rw [e3, xlp_code h0 hn]
      cases (xfst (fun c => decide (xfst (fun i => !xsafe (g (b.1 + 1)) (g (b.1 + 3)) T G Lw (xd6 n c) i) n = none)) (6 ^ n)) <;> rfl
  · rw [if_neg hx]
    exact (c_X11_picks_bad hx).weak (fun r M w => w.2)
theorem eb_picks (hI : xIc b g G T Lw m) (hJ : xIr b g G T Lw m) : xT 10 224 [.ref 73, .int x] (xH b g l) (fun r _ => r = some (.int (if 1 ≤ x ∧ x ≤ 3 then (if G = 0 then (-4 : Int32) else match (xfst (fun c => decide (xfst (fun i => !xsafe (g (b.1 + 1)) (g (b.1 + 3)) T G Lw (xd6 (xN x) c) i) (xN x) = none)) (6 ^ (xN x))) with | none => -9 | some c => nI (xd6 (xN x) c 0)) else -1))) := by
  obtain ⟨hb, hp, hRm, htx, ⟨_, hm⟩, hDk, hK, hZc, hY⟩ := hI
  obtain ⟨hR, hs, hD, hKr, hQ, hYr⟩ := hJ
  have hZ : ∀ r, r < 6 → xsz (g 74 r) 40 := fun r h => by rw [(hQ r h).1]; exact hZc r h
  have eG : g 73 10 = nI G := hR.1.1
  have hG6 : G ≤ 6 := hR.1.2
  have hT8 : T ≤ 8 := hR.2.1.2
  have hZ6 : ∀ q, q < 6 → xsz (g 74 q) 60 := fun q h => (hZ q h).elim Or.inl (fun ⟨n, a1, a2⟩ => Or.inr ⟨n, by omega, a2⟩)
  have hY6 : ∀ q, q < 4 → xsz (g 76 q) 60 := fun q h => by rw [(hYr q h).1]; exact hY q h
  have hK6 : ∀ q, q < 3 → xsz (g 86 q) 60 := fun q h => by
    rw [(hKr q h).1]
    rcases hK q h with z | ⟨n, z1, z2, _⟩
    · exact Or.inl z
    · exact Or.inr ⟨n, by omega, z2⟩
  by_cases hx : 1 ≤ x ∧ x ≤ 3
  · rw [if_pos hx]
    obtain ⟨n, hn, rfl⟩ := xinl (n := 3) (by omega) ⟨Int32.le_trans (by decide) hx.1, hx.2⟩
    have h0 : 0 < n := (nI_leI (a := 1) (by omega) (by omega)).mp hx.1
    rw [xN_nI (by omega)]
    by_cases hg : G = 0
    · rw [if_pos hg]
      exact (c_X12_picks_state hn h0 (by rw [eG, hg]; rfl)).weak (fun r M w => w.2)
    · rw [if_neg hg]
      exact (c_X12_picks_ok hR hn h0 (by rw [eG]; exact fun z => hg (nI_inj (b := 0) (by omega) (by omega) z))).weak (fun r M w => by obtain ⟨_, _, _, e3⟩ := w; exact e3)
  · rw [if_neg hx]
    exact (c_X12_picks_bad hx).weak (fun r M w => w.2)
theorem ea_digest (hI : xIc b g G T Lw m) : xT 10 121 [.ref 0] (xH b g l) (fun r _ => r = some (.long (xda (fun r => g (35 + 2 * r) 1) (fun r => g (35 + 2 * r + 1)) (xda (fun r => g (23 + 2 * r) 1) (fun r => g (23 + 2 * r + 1)) (xdl (fun k => g (67 + 2 * k) 1) (xdl (g 5) (xdl (g (b.1 + 3)) (xdG (xgf g Lw m) 4 (xdl (g (b.1 + 1)) (xdl (xct g G T m Lw) 17 9) 6) G) (2 * T)) (4 * m)) 3) 6) 4))) := by
  obtain ⟨hb, hp, hR, htx, ⟨hs, hm⟩, hD, hK, hZ, hY⟩ := hI
  obtain ⟨hb1, hb2⟩ := xro_b hb
  have hq := xb2 hb
  have hbv : b.1 = 7 ∨ b.1 = 11 := by omega
  have hbw : b.2 = 7 ∨ b.2 = 11 := by omega
  have eG : g b.1 2 = nI G := hR.1.1
  have hG6 : G ≤ 6 := hR.1.2
  have eT : g b.1 4 = nI T := hR.2.1.1
  have hT8 : T ≤ 8 := hR.2.1.2
  exact (c_X11_digest hb1 hR hp hs hm hZ hY).weak (fun r M w => w.2)
theorem eb_digest (hI : xIc b g G T Lw m) (hJ : xIr b g G T Lw m) : xT 10 238 [.ref 73] (xH b g l) (fun r _ => r = some (.long (xda (fun r => g (35 + 2 * r) 1) (fun r => g (35 + 2 * r + 1)) (xda (fun r => g (23 + 2 * r) 1) (fun r => g (23 + 2 * r + 1)) (xdl (fun k => g (67 + 2 * k) 1) (xdl (g 5) (xdl (g (b.1 + 3)) (xdG (xgf g Lw m) 4 (xdl (g (b.1 + 1)) (xdl (xct g G T m Lw) 17 9) 6) G) (2 * T)) (4 * m)) 3) 6) 4))) := by
  obtain ⟨hb, hp, hRm, htx, ⟨_, hm⟩, hDk, hK, hZc, hY⟩ := hI
  obtain ⟨hR, hs, hD, hKr, hQ, hYr⟩ := hJ
  have hZ : ∀ r, r < 6 → xsz (g 74 r) 40 := fun r h => by rw [(hQ r h).1]; exact hZc r h
  have eG : g 73 10 = nI G := hR.1.1
  have hG6 : G ≤ 6 := hR.1.2
  have hT8 : T ≤ 8 := hR.2.1.2
  have hZ6 : ∀ q, q < 6 → xsz (g 74 q) 60 := fun q h => (hZ q h).elim Or.inl (fun ⟨n, a1, a2⟩ => Or.inr ⟨n, by omega, a2⟩)
  have hY6 : ∀ q, q < 4 → xsz (g 76 q) 60 := fun q h => by rw [(hYr q h).1]; exact hY q h
  have hK6 : ∀ q, q < 3 → xsz (g 86 q) 60 := fun q h => by
    rw [(hKr q h).1]
    rcases hK q h with z | ⟨n, z1, z2, _⟩
    · exact Or.inl z
    · exact Or.inr ⟨n, by omega, z2⟩
  have ec : xct g G T m Lw = xctr g (g 5) G T m Lw := funext (fun t => by
    unfold xct xctr
    rw [xcnt_congr (p := fun k => !decide (g (23 + 2 * k) 1 = -1)) (p' := fun q => !decide (g 74 q = -1)) (n := 6) (fun q hq => by rw [(hQ q hq).1]), xcnt_congr (p := fun k => !decide (g (35 + 2 * k) 1 = -1)) (p' := fun q => !decide (g 76 q = -1)) (n := 4) (fun q hq => by rw [(hYr q hq).1]), xcnt_congr (p := fun k => !decide (g (67 + 2 * k) 1 = -1)) (p' := fun q => !decide (g 86 q = -1)) (n := 3) (fun q hq => by rw [(hKr q hq).1])])
  refine (c_X12_digest hR hD hm hs hZ6 hY6 hK6 hZ).weak (fun r M w => ?_)
  rw [w.2, ec, xdl_c (f := fun k => g (67 + 2 * k) 1) (f' := g 86) 3 (fun k hk => (hKr k hk).1.symm), xda_c (S := fun r => g (23 + 2 * r) 1) (F := fun r => g (23 + 2 * r + 1)) (S' := g 74) (F' := fun r i => g 75 (40 * r + i)) 6 (fun r hr => ⟨(hQ r hr).1.symm, fun i hi => ?_⟩), xda_c (S := fun r => g (35 + 2 * r) 1) (F := fun r => g (35 + 2 * r + 1)) (S' := g 76) (F' := fun r i => g 77 (60 * r + i)) 4 (fun r hr => ⟨(hYr r hr).1.symm, fun i hi => ?_⟩)]
  · rfl
  · obtain ⟨n, h1, h2, h3⟩ := xsz_i (hY6 r hr) (by decide) hi
    exact ((hYr r hr).2 n h1 ((hYr r hr).1.symm.trans h2) i h3).symm
  · obtain ⟨n, h1, h2, h3⟩ := xsz_i (hZ r hr) (by decide) hi
    exact ((hQ r hr).2 n h1 ((hQ r hr).1.symm.trans h2) i h3).symm
theorem j_at (hJ : xJ b g) : xJ2 Value.int True 80 161 [.int x, .int i] b g l := by
  have hJ0 := hJ
  obtain ⟨G, T, Lw, m, hI, hr⟩ := hJ
  have hq := xb2 hI.1
  refine xJ2.lightE hJ0 (k_at hI) (fun g1 l1 h => ?_) (ea_at hI) (fun g1 l1 hA => ?_)
  · obtain ⟨G, T, Lw, m, h1, h2⟩ := h
    exact q_at h1 h2
  · have hc : ∀ a, ¬ xSc b a → a ≠ 73 → g1 a = g a := hA.1
    have e := eb_at (x := x) (i := i) (l := l1) (xIc_ag hA hI) (xIr_ag hI.1 hA hr)
    refine e.weak (fun r _ w => ?_)
    rw [w]
    congr 2
    by_cases hx : 0 ≤ x ∧ x < 6
    · rw [if_pos hx, if_pos hx]
      have h_x : xN x < 6 := xN_lt (n := 6) (by omega) hx
      try rw [hc (23 + 2 * xN x) (by unfold xSc; omega) (by omega)]
      try rw [hc (23 + 2 * xN x + 1) (by unfold xSc; omega) (by omega)]
      try rfl
    · rw [if_neg hx, if_neg hx]
theorem j_mean (hJ : xJ b g) : xJ2 Value.int True 83 165 [.int x] b g l := by
  have hJ0 := hJ
  obtain ⟨G, T, Lw, m, hI, hr⟩ := hJ
  have hq := xb2 hI.1
  refine xJ2.lightE hJ0 (k_mean hI) (fun g1 l1 h => ?_) (ea_mean hI) (fun g1 l1 hA => ?_)
  · obtain ⟨G, T, Lw, m, h1, h2⟩ := h
    exact q_mean h1 h2
  · have hc : ∀ a, ¬ xSc b a → a ≠ 73 → g1 a = g a := hA.1
    have e := eb_mean (x := x) (l := l1) (xIc_ag hA hI) (xIr_ag hI.1 hA hr)
    refine e.weak (fun r _ w => ?_)
    rw [w]
    congr 2
    by_cases hx : 0 ≤ x ∧ x < 6
    · rw [if_pos hx, if_pos hx]
      have h_x : xN x < 6 := xN_lt (n := 6) (by omega) hx
      try rw [hc (23 + 2 * xN x) (by unfold xSc; omega) (by omega)]
      try rw [hc (23 + 2 * xN x + 1) (by unfold xSc; omega) (by omega)]
      try rfl
    · rw [if_neg hx, if_neg hx]
theorem j_fault (hJ : xJ b g) : xJ2 Value.int True 86 176 [.int x] b g l := by
  have hJ0 := hJ
  obtain ⟨G, T, Lw, m, hI, hr⟩ := hJ
  have hq := xb2 hI.1
  refine xJ2.lightE hJ0 (k_fault hI) (fun g1 l1 h => ?_) (ea_fault hI) (fun g1 l1 hA => ?_)
  · obtain ⟨G, T, Lw, m, h1, h2⟩ := h
    exact q_fault h1 h2
  · have hc : ∀ a, ¬ xSc b a → a ≠ 73 → g1 a = g a := hA.1
    have e := eb_fault (x := x) (l := l1) (xIc_ag hA hI) (xIr_ag hI.1 hA hr)
    refine e.weak (fun r _ w => ?_)
    rw [w]
    congr 2
    by_cases hx : 0 ≤ x ∧ x < 4
    · rw [if_pos hx, if_pos hx]
      have h_x : xN x < 4 := xN_lt (n := 4) (by omega) hx
      try rw [hc (35 + 2 * xN x) (by unfold xSc; omega) (by omega)]
      try rw [hc (35 + 2 * xN x + 1) (by unfold xSc; omega) (by omega)]
      try rfl
    · rw [if_neg hx, if_neg hx]
theorem j_glass (hJ : xJ b g) : xJ2 Value.int True 88 187 [.int x, .int y] b g l := by
  have hJ0 := hJ
  obtain ⟨G, T, Lw, m, hI, hr⟩ := hJ
  have hq := xb2 hI.1
  refine xJ2.lightE hJ0 (k_glass hI) (fun g1 l1 h => ?_) (ea_glass hI) (fun g1 l1 hA => ?_)
  · obtain ⟨G, T, Lw, m, h1, h2⟩ := h
    exact q_glass h1 h2
  · have hc : ∀ a, ¬ xSc b a → a ≠ 73 → g1 a = g a := hA.1
    have e := eb_glass (x := x) (y := y) (l := l1) (xIc_ag hA hI) (xIr_ag hI.1 hA hr)
    exact e
theorem j_mark (hJ : xJ b g) : xJ2 Value.int True 89 188 [.int x, .int y] b g l := by
  have hJ0 := hJ
  obtain ⟨G, T, Lw, m, hI, hr⟩ := hJ
  have hq := xb2 hI.1
  refine xJ2.lightE hJ0 (k_mark hI) (fun g1 l1 h => ?_) (ea_mark hI) (fun g1 l1 hA => ?_)
  · obtain ⟨G, T, Lw, m, h1, h2⟩ := h
    exact q_mark h1 h2
  · have hc : ∀ a, ¬ xSc b a → a ≠ 73 → g1 a = g a := hA.1
    have e := eb_mark (x := x) (y := y) (l := l1) (xIc_ag hA hI) (xIr_ag hI.1 hA hr)
    refine e.weak (fun r _ w => ?_)
    rw [w]
    congr 2
    rw [hc (b.1 + 1) (by unfold xSc; omega) (by omega), hc (5) (by unfold xSc; omega) (by omega)]
theorem j_habit (hJ : xJ b g) : xJ2 Value.int True 90 189 [.int x] b g l := by
  have hJ0 := hJ
  obtain ⟨G, T, Lw, m, hI, hr⟩ := hJ
  have hq := xb2 hI.1
  refine xJ2.lightE hJ0 (k_habit hI) (fun g1 l1 h => ?_) (ea_habit hI) (fun g1 l1 hA => ?_)
  · obtain ⟨G, T, Lw, m, h1, h2⟩ := h
    exact q_habit h1 h2
  · have hc : ∀ a, ¬ xSc b a → a ≠ 73 → g1 a = g a := hA.1
    have e := eb_habit (x := x) (l := l1) (xIc_ag hA hI) (xIr_ag hI.1 hA hr)
    refine e.weak (fun r _ w => ?_)
    rw [w]
    congr 2
    rw [hc (b.1 + 1) (by unfold xSc; omega) (by omega)]
theorem j_term (hJ : xJ b g) : xJ2 Value.int True 91 190 [.int x, .int y] b g l := by
  have hJ0 := hJ
  obtain ⟨G, T, Lw, m, hI, hr⟩ := hJ
  have hq := xb2 hI.1
  refine xJ2.lightE hJ0 (k_term hI) (fun g1 l1 h => ?_) (ea_term hI) (fun g1 l1 hA => ?_)
  · obtain ⟨G, T, Lw, m, h1, h2⟩ := h
    exact q_term h1 h2
  · have hc : ∀ a, ¬ xSc b a → a ≠ 73 → g1 a = g a := hA.1
    have e := eb_term (x := x) (y := y) (l := l1) (xIc_ag hA hI) (xIr_ag hI.1 hA hr)
    refine e.weak (fun r _ w => ?_)
    rw [w]
    congr 2
    rw [hc (b.1 + 3) (by unfold xSc; omega) (by omega)]
theorem j_deed (hJ : xJ b g) : xJ2 Value.int True 93 193 [.int x, .int y] b g l := by
  have hJ0 := hJ
  obtain ⟨G, T, Lw, m, hI, hr⟩ := hJ
  have hq := xb2 hI.1
  refine xJ2.lightE hJ0 (k_deed hI) (fun g1 l1 h => ?_) (ea_deed hI) (fun g1 l1 hA => ?_)
  · obtain ⟨G, T, Lw, m, h1, h2⟩ := h
    exact q_deed h1 h2
  · have hc : ∀ a, ¬ xSc b a → a ≠ 73 → g1 a = g a := hA.1
    have e := eb_deed (x := x) (y := y) (l := l1) (xIc_ag hA hI) (xIr_ag hI.1 hA hr)
    exact e
theorem j_broken (hJ : xJ b g) : xJ2 Value.int True 94 195 [] b g l := by
  have hJ0 := hJ
  obtain ⟨G, T, Lw, m, hI, hr⟩ := hJ
  have hq := xb2 hI.1
  refine xJ2.lightE hJ0 (k_broken hI) (fun g1 l1 h => ?_) (ea_broken hI) (fun g1 l1 hA => ?_)
  · obtain ⟨G, T, Lw, m, h1, h2⟩ := h
    exact q_broken h1 h2
  · have hc : ∀ a, ¬ xSc b a → a ≠ 73 → g1 a = g a := hA.1
    have e := eb_broken (l := l1) (xIc_ag hA hI) (xIr_ag hI.1 hA hr)
    refine e.weak (fun r _ w => ?_)
    rw [w]
    congr 2
    rw [hc (5) (by unfold xSc; omega) (by omega)]
theorem j_breaks (hJ : xJ b g) : xJ2 Value.int True 99 204 [.int x, .int y] b g l := by
  have hJ0 := hJ
  obtain ⟨G, T, Lw, m, hI, hr⟩ := hJ
  have hq := xb2 hI.1
  refine xJ2.lightE hJ0 (k_breaks hI) (fun g1 l1 h => ?_) (ea_breaks hI) (fun g1 l1 hA => ?_)
  · obtain ⟨G, T, Lw, m, h1, h2⟩ := h
    exact q_breaks h1 h2
  · have hc : ∀ a, ¬ xSc b a → a ≠ 73 → g1 a = g a := hA.1
    have e := eb_breaks (x := x) (y := y) (l := l1) (xIc_ag hA hI) (xIr_ag hI.1 hA hr)
    refine e.weak (fun r _ w => ?_)
    rw [w]
    congr 2
    by_cases hx : (0 ≤ x ∧ x < nI G) ∧ 0 ≤ y ∧ y < 6
    · rw [if_pos hx, if_pos hx]
      have h_y : xN y < 6 := xN_lt (n := 6) (by omega) hx.2
      try rw [hc (23 + 2 * xN y) (by unfold xSc; omega) (by omega)]
      try rw [hc (23 + 2 * xN y + 1) (by unfold xSc; omega) (by omega)]
      try rw [hc (b.1 + 1) (by unfold xSc; omega) (by omega)]
      try rw [hc (b.1 + 3) (by unfold xSc; omega) (by omega)]
      try rfl
    · rw [if_neg hx, if_neg hx]
theorem j_alike (hJ : xJ b g) : xJ2 Value.int True 100 205 [.int x, .int y] b g l := by
  have hJ0 := hJ
  obtain ⟨G, T, Lw, m, hI, hr⟩ := hJ
  have hq := xb2 hI.1
  refine xJ2.lightE hJ0 (k_alike hI) (fun g1 l1 h => ?_) (ea_alike hI) (fun g1 l1 hA => ?_)
  · obtain ⟨G, T, Lw, m, h1, h2⟩ := h
    exact q_alike h1 h2
  · have hc : ∀ a, ¬ xSc b a → a ≠ 73 → g1 a = g a := hA.1
    have e := eb_alike (x := x) (y := y) (l := l1) (xIc_ag hA hI) (xIr_ag hI.1 hA hr)
    refine e.weak (fun r _ w => ?_)
    rw [w]
    congr 2
    by_cases hx : (0 ≤ x ∧ x < nI G) ∧ 0 ≤ y ∧ y < 6
    · rw [if_pos hx, if_pos hx]
      have h_y : xN y < 6 := xN_lt (n := 6) (by omega) hx.2
      try rw [hc (23 + 2 * xN y) (by unfold xSc; omega) (by omega)]
      try rw [hc (23 + 2 * xN y + 1) (by unfold xSc; omega) (by omega)]
      try rw [hc (b.1 + 1) (by unfold xSc; omega) (by omega)]
      try rw [hc (b.1 + 3) (by unfold xSc; omega) (by omega)]
      try rfl
    · rw [if_neg hx, if_neg hx]
theorem j_fit (hJ : xJ b g) : xJ2 Value.int True 101 206 [.int x, .int y] b g l := by
  have hJ0 := hJ
  obtain ⟨G, T, Lw, m, hI, hr⟩ := hJ
  have hq := xb2 hI.1
  refine xJ2.lightE hJ0 (k_fit hI) (fun g1 l1 h => ?_) (ea_fit hI) (fun g1 l1 hA => ?_)
  · obtain ⟨G, T, Lw, m, h1, h2⟩ := h
    exact q_fit h1 h2
  · have hc : ∀ a, ¬ xSc b a → a ≠ 73 → g1 a = g a := hA.1
    have e := eb_fit (x := x) (y := y) (l := l1) (xIc_ag hA hI) (xIr_ag hI.1 hA hr)
    refine e.weak (fun r _ w => ?_)
    rw [w]
    congr 2
    by_cases hx : (0 ≤ x ∧ x < 6) ∧ 0 ≤ y ∧ y < 6
    · rw [if_pos hx, if_pos hx]
      have h_x : xN x < 6 := xN_lt (n := 6) (by omega) hx.1
      have h_y : xN y < 6 := xN_lt (n := 6) (by omega) hx.2
      try rw [hc (23 + 2 * xN x) (by unfold xSc; omega) (by omega)]
      try rw [hc (23 + 2 * xN x + 1) (by unfold xSc; omega) (by omega)]
      try rw [hc (23 + 2 * xN y) (by unfold xSc; omega) (by omega)]
      try rw [hc (23 + 2 * xN y + 1) (by unfold xSc; omega) (by omega)]
      try rw [hc (b.1 + 1) (by unfold xSc; omega) (by omega)]
      try rw [hc (b.1 + 3) (by unfold xSc; omega) (by omega)]
      try rfl
    · rw [if_neg hx, if_neg hx]
theorem j_ways (hJ : xJ b g) : xJ2 Value.int True 102 210 [.int x, .int y] b g l := by
  have hJ0 := hJ
  obtain ⟨G, T, Lw, m, hI, hr⟩ := hJ
  have hq := xb2 hI.1
  refine xJ2.lightE hJ0 (k_ways hI) (fun g1 l1 h => ?_) (ea_ways hI) (fun g1 l1 hA => ?_)
  · obtain ⟨G, T, Lw, m, h1, h2⟩ := h
    exact q_ways h1 h2
  · have hc : ∀ a, ¬ xSc b a → a ≠ 73 → g1 a = g a := hA.1
    have e := eb_ways (x := x) (y := y) (l := l1) (xIc_ag hA hI) (xIr_ag hI.1 hA hr)
    refine e.weak (fun r _ w => ?_)
    rw [w]
    congr 2
    by_cases hx : (0 ≤ x ∧ x < nI G) ∧ 0 ≤ y ∧ y < 6
    · rw [if_pos hx, if_pos hx]
      have h_y : xN y < 6 := xN_lt (n := 6) (by omega) hx.2
      try rw [hc (23 + 2 * xN y) (by unfold xSc; omega) (by omega)]
      try rw [hc (23 + 2 * xN y + 1) (by unfold xSc; omega) (by omega)]
      try rw [hc (b.1 + 1) (by unfold xSc; omega) (by omega)]
      try rw [hc (b.1 + 3) (by unfold xSc; omega) (by omega)]
      try rfl
    · rw [if_neg hx, if_neg hx]
theorem j_can (hJ : xJ b g) : xJ2 Value.int True 104 212 [.int x, .int y, .int z] b g l := by
  have hJ0 := hJ
  obtain ⟨G, T, Lw, m, hI, hr⟩ := hJ
  have hq := xb2 hI.1
  refine xJ2.lightE hJ0 (k_can hI) (fun g1 l1 h => ?_) (ea_can hI) (fun g1 l1 hA => ?_)
  · obtain ⟨G, T, Lw, m, h1, h2⟩ := h
    exact q_can h1 h2
  · have hc : ∀ a, ¬ xSc b a → a ≠ 73 → g1 a = g a := hA.1
    have e := eb_can (x := x) (y := y) (z := z) (l := l1) (xIc_ag hA hI) (xIr_ag hI.1 hA hr)
    refine e.weak (fun r _ w => ?_)
    rw [w]
    congr 2
    by_cases hx : (0 ≤ x ∧ x < nI G) ∧ (0 ≤ y ∧ y < 6) ∧ 0 ≤ z
    · rw [if_pos hx, if_pos hx]
      have h_y : xN y < 6 := xN_lt (n := 6) (by omega) hx.2.1
      try rw [hc (23 + 2 * xN y) (by unfold xSc; omega) (by omega)]
      try rw [hc (23 + 2 * xN y + 1) (by unfold xSc; omega) (by omega)]
      try rw [hc (b.1 + 1) (by unfold xSc; omega) (by omega)]
      try rw [hc (b.1 + 3) (by unfold xSc; omega) (by omega)]
      try rfl
    · rw [if_neg hx, if_neg hx]
theorem j_laws (hJ : xJ b g) : xJ2 Value.int True 105 214 [.int x, .int y] b g l := by
  have hJ0 := hJ
  obtain ⟨G, T, Lw, m, hI, hr⟩ := hJ
  have hq := xb2 hI.1
  refine xJ2.lightE hJ0 (k_laws hI) (fun g1 l1 h => ?_) (ea_laws hI) (fun g1 l1 hA => ?_)
  · obtain ⟨G, T, Lw, m, h1, h2⟩ := h
    exact q_laws h1 h2
  · have hc : ∀ a, ¬ xSc b a → a ≠ 73 → g1 a = g a := hA.1
    have e := eb_laws (x := x) (y := y) (l := l1) (xIc_ag hA hI) (xIr_ag hI.1 hA hr)
    refine e.weak (fun r _ w => ?_)
    rw [w]
    congr 2
    by_cases hx : (0 ≤ x ∧ x < 6) ∧ 0 ≤ y ∧ y < 6
    · rw [if_pos hx, if_pos hx]
      have h_x : xN x < 6 := xN_lt (n := 6) (by omega) hx.1
      have h_y : xN y < 6 := xN_lt (n := 6) (by omega) hx.2
      try rw [hc (23 + 2 * xN x) (by unfold xSc; omega) (by omega)]
      try rw [hc (23 + 2 * xN x + 1) (by unfold xSc; omega) (by omega)]
      try rw [hc (23 + 2 * xN y) (by unfold xSc; omega) (by omega)]
      try rw [hc (23 + 2 * xN y + 1) (by unfold xSc; omega) (by omega)]
      try rw [hc (b.1 + 1) (by unfold xSc; omega) (by omega)]
      try rw [hc (b.1 + 3) (by unfold xSc; omega) (by omega)]
      try rfl
    · rw [if_neg hx, if_neg hx]
theorem j_next (hJ : xJ b g) : xJ2 Value.int True 106 216 [.int x, .int y] b g l := by
  have hJ0 := hJ
  obtain ⟨G, T, Lw, m, hI, hr⟩ := hJ
  have hq := xb2 hI.1
  refine xJ2.lightE hJ0 (k_next hI) (fun g1 l1 h => ?_) (ea_next hI) (fun g1 l1 hA => ?_)
  · obtain ⟨G, T, Lw, m, h1, h2⟩ := h
    exact q_next h1 h2
  · have hc : ∀ a, ¬ xSc b a → a ≠ 73 → g1 a = g a := hA.1
    have e := eb_next (x := x) (y := y) (l := l1) (xIc_ag hA hI) (xIr_ag hI.1 hA hr)
    refine e.weak (fun r _ w => ?_)
    rw [w]
    congr 2
    by_cases hx : (0 ≤ x ∧ x < 6) ∧ 0 ≤ y ∧ y < 6
    · rw [if_pos hx, if_pos hx]
      have h_x : xN x < 6 := xN_lt (n := 6) (by omega) hx.1
      have h_y : xN y < 6 := xN_lt (n := 6) (by omega) hx.2
      try rw [hc (23 + 2 * xN x) (by unfold xSc; omega) (by omega)]
      try rw [hc (23 + 2 * xN x + 1) (by unfold xSc; omega) (by omega)]
      try rw [hc (23 + 2 * xN y) (by unfold xSc; omega) (by omega)]
      try rw [hc (23 + 2 * xN y + 1) (by unfold xSc; omega) (by omega)]
      try rw [hc (b.1 + 1) (by unfold xSc; omega) (by omega)]
      try rw [hc (b.1 + 3) (by unfold xSc; omega) (by omega)]
      try rfl
    · rw [if_neg hx, if_neg hx]
theorem j_he (hJ : xJ b g) : xJ2 Value.int True 107 217 [.int x, .int y, .int z] b g l := by
  have hJ0 := hJ
  obtain ⟨G, T, Lw, m, hI, hr⟩ := hJ
  have hq := xb2 hI.1
  refine xJ2.lightE hJ0 (k_he hI) (fun g1 l1 h => ?_) (ea_he hI) (fun g1 l1 hA => ?_)
  · obtain ⟨G, T, Lw, m, h1, h2⟩ := h
    exact q_he h1 h2
  · have hc : ∀ a, ¬ xSc b a → a ≠ 73 → g1 a = g a := hA.1
    have e := eb_he (x := x) (y := y) (z := z) (l := l1) (xIc_ag hA hI) (xIr_ag hI.1 hA hr)
    refine e.weak (fun r _ w => ?_)
    rw [w]
    congr 2
    by_cases hx : (0 ≤ x ∧ x < nI G) ∧ (0 ≤ y ∧ y < 6) ∧ 0 ≤ z ∧ z < 6
    · rw [if_pos hx, if_pos hx]
      have h_y : xN y < 6 := xN_lt (n := 6) (by omega) hx.2.1
      have h_z : xN z < 6 := xN_lt (n := 6) (by omega) hx.2.2
      try rw [hc (23 + 2 * xN y) (by unfold xSc; omega) (by omega)]
      try rw [hc (23 + 2 * xN y + 1) (by unfold xSc; omega) (by omega)]
      try rw [hc (23 + 2 * xN z) (by unfold xSc; omega) (by omega)]
      try rw [hc (23 + 2 * xN z + 1) (by unfold xSc; omega) (by omega)]
      try rw [hc (b.1 + 1) (by unfold xSc; omega) (by omega)]
      try rw [hc (b.1 + 3) (by unfold xSc; omega) (by omega)]
      try rfl
    · rw [if_neg hx, if_neg hx]
theorem j_keeps (hJ : xJ b g) : xJ2 Value.int True 108 219 [.int x, .int y] b g l := by
  have hJ0 := hJ
  obtain ⟨G, T, Lw, m, hI, hr⟩ := hJ
  have hq := xb2 hI.1
  refine xJ2.lightE hJ0 (k_keeps hI) (fun g1 l1 h => ?_) (ea_keeps hI) (fun g1 l1 hA => ?_)
  · obtain ⟨G, T, Lw, m, h1, h2⟩ := h
    exact q_keeps h1 h2
  · have hc : ∀ a, ¬ xSc b a → a ≠ 73 → g1 a = g a := hA.1
    have e := eb_keeps (x := x) (y := y) (l := l1) (xIc_ag hA hI) (xIr_ag hI.1 hA hr)
    exact e
theorem j_still (hJ : xJ b g) : xJ2 Value.int True 109 220 [.int x, .int y] b g l := by
  have hJ0 := hJ
  obtain ⟨G, T, Lw, m, hI, hr⟩ := hJ
  have hq := xb2 hI.1
  refine xJ2.lightE hJ0 (k_still hI) (fun g1 l1 h => ?_) (ea_still hI) (fun g1 l1 hA => ?_)
  · obtain ⟨G, T, Lw, m, h1, h2⟩ := h
    exact q_still h1 h2
  · have hc : ∀ a, ¬ xSc b a → a ≠ 73 → g1 a = g a := hA.1
    have e := eb_still (x := x) (y := y) (l := l1) (xIc_ag hA hI) (xIr_ag hI.1 hA hr)
    refine e.weak (fun r _ w => ?_)
    rw [w]
    congr 2
    rw [hc (b.1 + 1) (by unfold xSc; omega) (by omega), hc (b.1 + 3) (by unfold xSc; omega) (by omega)]
theorem j_game (hJ : xJ b g) : xJ2 Value.int True 110 223 [.int x] b g l := by
  have hJ0 := hJ
  obtain ⟨G, T, Lw, m, hI, hr⟩ := hJ
  have hq := xb2 hI.1
  refine xJ2.lightE hJ0 (k_game hI) (fun g1 l1 h => ?_) (ea_game hI) (fun g1 l1 hA => ?_)
  · obtain ⟨G, T, Lw, m, h1, h2⟩ := h
    exact q_game h1 h2
  · have hc : ∀ a, ¬ xSc b a → a ≠ 73 → g1 a = g a := hA.1
    have e := eb_game (x := x) (l := l1) (xIc_ag hA hI) (xIr_ag hI.1 hA hr)
    refine e.weak (fun r _ w => ?_)
    rw [w]
    congr 2
    rw [hc (b.1 + 1) (by unfold xSc; omega) (by omega), hc (b.1 + 3) (by unfold xSc; omega) (by omega)]
theorem j_picks (hJ : xJ b g) : xJ2 Value.int True 111 224 [.int x] b g l := by
  have hJ0 := hJ
  obtain ⟨G, T, Lw, m, hI, hr⟩ := hJ
  have hq := xb2 hI.1
  refine xJ2.lightE hJ0 (k_picks hI) (fun g1 l1 h => ?_) (ea_picks hI) (fun g1 l1 hA => ?_)
  · obtain ⟨G, T, Lw, m, h1, h2⟩ := h
    exact q_picks h1 h2
  · have hc : ∀ a, ¬ xSc b a → a ≠ 73 → g1 a = g a := hA.1
    have e := eb_picks (x := x) (l := l1) (xIc_ag hA hI) (xIr_ag hI.1 hA hr)
    refine e.weak (fun r _ w => ?_)
    rw [w]
    congr 2
    rw [hc (b.1 + 1) (by unfold xSc; omega) (by omega), hc (b.1 + 3) (by unfold xSc; omega) (by omega)]
theorem j_odds (hJ : xJ b g) : xJ2 Value.int True 112 225 [.int x, .int y, .int z] b g l := by
  have hJ0 := hJ
  obtain ⟨G, T, Lw, m, hI, hr⟩ := hJ
  have hq := xb2 hI.1
  refine xJ2.lightE hJ0 (k_odds hI) (fun g1 l1 h => ?_) (ea_odds hI) (fun g1 l1 hA => ?_)
  · obtain ⟨G, T, Lw, m, h1, h2⟩ := h
    exact q_odds h1 h2
  · have hc : ∀ a, ¬ xSc b a → a ≠ 73 → g1 a = g a := hA.1
    have e := eb_odds (x := x) (y := y) (z := z) (l := l1) (xIc_ag hA hI) (xIr_ag hI.1 hA hr)
    refine e.weak (fun r _ w => ?_)
    rw [w]
    congr 2
    by_cases hx : (0 ≤ x ∧ x < nI G) ∧ (0 ≤ y ∧ y < 6) ∧ 0 ≤ z ∧ z ≤ 12
    · rw [if_pos hx, if_pos hx]
      have h_y : xN y < 6 := xN_lt (n := 6) (by omega) hx.2.1
      try rw [hc (23 + 2 * xN y) (by unfold xSc; omega) (by omega)]
      try rw [hc (23 + 2 * xN y + 1) (by unfold xSc; omega) (by omega)]
      try rw [hc (b.1 + 1) (by unfold xSc; omega) (by omega)]
      try rw [hc (b.1 + 3) (by unfold xSc; omega) (by omega)]
      try rfl
    · rw [if_neg hx, if_neg hx]
theorem j_mid (hJ : xJ b g) : xJ2 Value.int True 113 226 [.int x, .int y, .int z] b g l := by
  have hJ0 := hJ
  obtain ⟨G, T, Lw, m, hI, hr⟩ := hJ
  have hq := xb2 hI.1
  refine xJ2.lightE hJ0 (k_mid hI) (fun g1 l1 h => ?_) (ea_mid hI) (fun g1 l1 hA => ?_)
  · obtain ⟨G, T, Lw, m, h1, h2⟩ := h
    exact q_mid h1 h2
  · have hc : ∀ a, ¬ xSc b a → a ≠ 73 → g1 a = g a := hA.1
    have e := eb_mid (x := x) (y := y) (z := z) (l := l1) (xIc_ag hA hI) (xIr_ag hI.1 hA hr)
    refine e.weak (fun r _ w => ?_)
    rw [w]
    congr 2
    by_cases hx : (0 ≤ x ∧ x < nI G) ∧ (0 ≤ y ∧ y < 6) ∧ 0 ≤ z ∧ z ≤ 12
    · rw [if_pos hx, if_pos hx]
      have h_y : xN y < 6 := xN_lt (n := 6) (by omega) hx.2.1
      try rw [hc (23 + 2 * xN y) (by unfold xSc; omega) (by omega)]
      try rw [hc (23 + 2 * xN y + 1) (by unfold xSc; omega) (by omega)]
      try rw [hc (b.1 + 1) (by unfold xSc; omega) (by omega)]
      try rw [hc (b.1 + 3) (by unfold xSc; omega) (by omega)]
      try rfl
    · rw [if_neg hx, if_neg hx]
theorem j_asked (hJ : xJ b g) : xJ2 Value.int False 115 228 [] b g l := by
  refine xJ2.light hJ ?_ (fun g1 l1 h => ?_)
  · obtain ⟨G, T, Lw, m, h1, _⟩ := hJ
    exact k_asked h1
  · obtain ⟨G, T, Lw, m, h1, h2⟩ := h
    exact q_asked h1 h2
theorem j_upper (hJ : xJ b g) : xJ2 Value.long False 116 229 [] b g l := by
  refine xJ2.light hJ ?_ (fun g1 l1 h => ?_)
  · obtain ⟨G, T, Lw, m, h1, _⟩ := hJ
    exact k_upper h1
  · obtain ⟨G, T, Lw, m, h1, h2⟩ := h
    exact q_upper h1 h2
theorem j_lower (hJ : xJ b g) : xJ2 Value.long False 117 230 [] b g l := by
  refine xJ2.light hJ ?_ (fun g1 l1 h => ?_)
  · obtain ⟨G, T, Lw, m, h1, _⟩ := hJ
    exact k_lower h1
  · obtain ⟨G, T, Lw, m, h1, h2⟩ := h
    exact q_lower h1 h2
theorem j_count (hJ : xJ b g) : xJ2 Value.int True 118 234 [.int x] b g l := by
  have hJ0 := hJ
  obtain ⟨G, T, Lw, m, hI, hr⟩ := hJ
  have hq := xb2 hI.1
  refine xJ2.lightE hJ0 (k_count hI) (fun g1 l1 h => ?_) (ea_count hI) (fun g1 l1 hA => ?_)
  · obtain ⟨G, T, Lw, m, h1, h2⟩ := h
    exact q_count h1 h2
  · have hc : ∀ a, ¬ xSc b a → a ≠ 73 → g1 a = g a := hA.1
    have e := eb_count (x := x) (l := l1) (xIc_ag hA hI) (xIr_ag hI.1 hA hr)
    refine e.weak (fun r _ w => ?_)
    rw [w]
    congr 2
    unfold xct
    rw [hc (5) (by unfold xSc; omega) (by omega), xcnt_congr (p := fun k => !decide (g1 (23 + 2 * k) 1 = -1)) (p' := fun k => !decide (g (23 + 2 * k) 1 = -1)) (n := 6) (fun q hq => by rw [hc (23 + 2 * q) (by unfold xSc; omega) (by omega)]), xcnt_congr (p := fun k => !decide (g1 (35 + 2 * k) 1 = -1)) (p' := fun k => !decide (g (35 + 2 * k) 1 = -1)) (n := 4) (fun q hq => by rw [hc (35 + 2 * q) (by unfold xSc; omega) (by omega)]), xcnt_congr (p := fun k => !decide (g1 (67 + 2 * k) 1 = -1)) (p' := fun k => !decide (g (67 + 2 * k) 1 = -1)) (n := 3) (fun q hq => by rw [hc (67 + 2 * q) (by unfold xSc; omega) (by omega)])]
theorem j_finding (hJ : xJ b g) : xJ2 Value.int False 119 235 [] b g l := by
  refine xJ2.light hJ ?_ (fun g1 l1 h => ?_)
  · obtain ⟨G, T, Lw, m, h1, _⟩ := hJ
    exact k_finding h1
  · obtain ⟨G, T, Lw, m, h1, h2⟩ := h
    exact q_finding h1 h2
theorem j_findings (hJ : xJ b g) : xJ2 Value.int False 120 236 [.int x] b g l := by
  refine xJ2.light hJ ?_ (fun g1 l1 h => ?_)
  · obtain ⟨G, T, Lw, m, h1, _⟩ := hJ
    exact k_findings h1
  · obtain ⟨G, T, Lw, m, h1, h2⟩ := h
    exact q_findings h1 h2
theorem j_digest (hJ : xJ b g) : xJ2 Value.long True 121 238 [] b g l := by
  have hJ0 := hJ
  obtain ⟨G, T, Lw, m, hI, hr⟩ := hJ
  have hq := xb2 hI.1
  refine xJ2.lightL hJ0 (k_digest hI) (fun g1 l1 h => ?_) (ea_digest hI) (fun g1 l1 hA => ?_)
  · obtain ⟨G, T, Lw, m, h1, h2⟩ := h
    exact q_digest h1 h2
  · have hc : ∀ a, ¬ xSc b a → a ≠ 73 → g1 a = g a := hA.1
    have e := eb_digest (l := l1) (xIc_ag hA hI) (xIr_ag hI.1 hA hr)
    refine e.weak (fun r _ w => ?_)
    have e5 := hc 5 (by unfold xSc; omega) (by omega)
    have ec : xct g1 G T m Lw = xct g G T m Lw := funext (fun t => by
      unfold xct
      rw [e5, xcnt_congr (p := fun k => !decide (g1 (23 + 2 * k) 1 = -1)) (p' := fun k => !decide (g (23 + 2 * k) 1 = -1)) (n := 6) (fun q hq => by rw [hc (23 + 2 * q) (by unfold xSc; omega) (by omega)]), xcnt_congr (p := fun k => !decide (g1 (35 + 2 * k) 1 = -1)) (p' := fun k => !decide (g (35 + 2 * k) 1 = -1)) (n := 4) (fun q hq => by rw [hc (35 + 2 * q) (by unfold xSc; omega) (by omega)]), xcnt_congr (p := fun k => !decide (g1 (67 + 2 * k) 1 = -1)) (p' := fun k => !decide (g (67 + 2 * k) 1 = -1)) (n := 3) (fun q hq => by rw [hc (67 + 2 * q) (by unfold xSc; omega) (by omega)])])
    have eg : xgf g1 Lw m = xgf g Lw m := funext (fun s => funext (fun w => by unfold xgf; rw [e5]))
    rw [w, ec, eg, e5, hc (b.1 + 1) (by unfold xSc; omega) (by omega), hc (b.1 + 3) (by unfold xSc; omega) (by omega), xdl_c (f := fun k => g1 (67 + 2 * k) 1) (f' := fun k => g (67 + 2 * k) 1) 3 (fun k hk => by rw [hc (67 + 2 * k) (by unfold xSc; omega) (by omega)]), xda_c (S := fun r => g1 (23 + 2 * r) 1) (F := fun r => g1 (23 + 2 * r + 1)) (S' := fun r => g (23 + 2 * r) 1) (F' := fun r => g (23 + 2 * r + 1)) 6 (fun r hr => ⟨by rw [hc (23 + 2 * r) (by unfold xSc; omega) (by omega)], fun i _ => by rw [hc (23 + 2 * r + 1) (by unfold xSc; omega) (by omega)]⟩), xda_c (S := fun r => g1 (35 + 2 * r) 1) (F := fun r => g1 (35 + 2 * r + 1)) (S' := fun r => g (35 + 2 * r) 1) (F' := fun r => g (35 + 2 * r + 1)) 4 (fun r hr => ⟨by rw [hc (35 + 2 * r) (by unfold xSc; omega) (by omega)], fun i _ => by rw [hc (35 + 2 * r + 1) (by unfold xSc; omega) (by omega)]⟩)]
end
