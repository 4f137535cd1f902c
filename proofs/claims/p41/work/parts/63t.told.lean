/-! what is told, op by op -/
theorem xTm {k mn : Nat} {as : List Value} {M0 : xM} {b : Nat × Nat} {X : Nat → Nat → Int32} {Y : Nat → Nat → Int64} {R : Option Value} {c r : Int32 × Int64 × Int64} (h : xT k mn as M0 (fun q M => M = xH b X Y ∧ q = R)) (h1 : (X 0 11, Y 0 12, Y 0 13) = c) (h2 : (X 73 20, Y 73 21, Y 73 22) = r) : xT k mn as M0 (fun _ M => xTo M c r) := h.weak (fun _ _ z => ⟨b, X, Y, z.1, h1, h2⟩)
theorem xTd_e {g : Nat → Nat → Int32} {l : Nat → Nat → Int64} (h : xTd g l) : (g 73 20, l 73 21, l 73 22) = (g 0 11, l 0 12, l 0 13) := by
  rw [h.1, h.2.1, h.2.2]
theorem xJ3.light {α : Type} {kv : α → Value} {eq : Prop} {mc mr : Nat} {as : List Value} {b : Nat × Nat} {g : Nat → Nat → Int32} {l : Nat → Nat → Int64} {A : Int32 × Int64 × Int64} (hj : xJ2 kv eq mc mr as b g l) (hc : xCo kv mc as b g l) (ha : xT 10 mc (.ref 0 :: as) (xH b g l) (fun _ M => xTo M A (g 73 20, l 73 21, l 73 22))) (hb : ∀ g1 l1, xAg b g g1 → (g1 73 20, l1 73 21, l1 73 22) = (g 73 20, l 73 21, l 73 22) → xTd g l → xT 10 mr (.ref 73 :: as) (xH b g1 l1) (fun _ M => xTo M (g1 0 11, l1 0 12, l1 0 13) A)) : xJ3 kv eq mc mr as b g l := by
  refine (xT.and (xT.and hj hc) ha).weak (fun r M z => ?_)
  obtain ⟨⟨⟨v, b1, g1, l1, e1, e2, hT⟩, ⟨v9, g9, l9, e9, e8, hA⟩⟩, hto⟩ := z
  refine ⟨v, b1, g1, l1, e1, e2, ?_⟩
  by_cases hTd : xTd g l
  · rw [e8] at hto
    obtain ⟨q1, q2⟩ := hto.get
    have h2 := hb g9 l9 hA q2 hTd
    rw [show xH b g9 l9 = xH b1 g1 l1 from e8.symm.trans e2] at h2
    refine (xT.and hT h2).weak (fun r' M' w => ?_)
    obtain ⟨⟨v', b2, g2, l2, f1, f2, hJ', he⟩, ht2⟩ := w
    refine ⟨v', b2, g2, l2, f1, f2, hJ', he, fun _ => ?_⟩
    rw [f2] at ht2
    obtain ⟨p1, p2⟩ := ht2.get
    have p3 := p2.trans (q1.symm.trans p1.symm)
    exact ⟨congrArg (fun q => q.1) p3, congrArg (fun q => q.2.1) p3, congrArg (fun q => q.2.2) p3⟩
  · exact hT.weak (fun r' M' w => by
      obtain ⟨v', b2, g2, l2, f1, f2, hJ', he⟩ := w
      exact ⟨v', b2, g2, l2, f1, f2, hJ', he, fun h => absurd h hTd⟩)
theorem xsum_c {f f' : Nat → Int32} : ∀ n, (∀ i, i < n → f i = f' i) → xsum f n = xsum f' n
  | 0, _ => rfl
  | n + 1, h => by
    show xsum f n + (f n).toInt64 = xsum f' n + (f' n).toInt64
    rw [xsum_c n (fun i hi => h i (by omega)), h n (by omega)]
theorem xmean_c {f f' : Nat → Int32} {n : Nat} (h : ∀ i, i < n → f i = f' i) : xmean f n = xmean f' n := by
  unfold xmean
  rw [xsum_c n h]
theorem xsm_c {f f' : Nat → Nat} : ∀ n, (∀ i, i < n → f i = f' i) → xsm f n = xsm f' n
  | 0, _ => rfl
  | n + 1, h => by rw [xsm_s, xsm_s, xsm_c n (fun i hi => h i (by omega)), h n (by omega)]
theorem xnext1 {h : Nat → Int32} (hh : ∀ s, s < 6 → xstp (h s)) {p : Nat → Bool} {F : Nat → Nat} {m : Nat} (hF : ∀ j, j < m → F j < 6) : (xnxr (fun y => xmv (fun v => xcnt (fun q => decide ((xbits p 24 >>> (nI q &&& 31)) &&& 1 = 1) && decide (xshw h (q / 4) (q % 4) (fup F m y) m = nI v)) 24) 6) 6).1 = (xnx (fun s => xmx (fun j => decide ((xbits p 24 >>> (nI j &&& 31)) &&& 1 = 1)) (fun q => xN (xshw h (q / 4) (q % 4) (fup F m s) m)) 24) 6).1 := by
  have key : ∀ y, y < 6 → xmv (fun v => xcnt (fun q => decide ((xbits p 24 >>> (nI q &&& 31)) &&& 1 = 1) && decide (xshw h (q / 4) (q % 4) (fup F m y) m = nI v)) 24) 6 = xmx (fun j => decide ((xbits p 24 >>> (nI j &&& 31)) &&& 1 = 1)) (fun q => xN (xshw h (q / 4) (q % 4) (fup F m y) m)) 24 := fun y hy => by
    have hst : ∀ q, xstp (xshw h (q / 4) (q % 4) (fup F m y) m) := fun q => xshw_stp hh (fun j hj => by
      show (if j = m then y else F j) < 6
      by_cases e : j = m
      · rw [if_pos e]; exact hy
      · rw [if_neg e]; exact hF j (by omega))
    rw [xmx_mv 24 (fun j _ => by
      obtain ⟨v, hv, ev⟩ := hst j
      rw [ev, xN_nI (by omega)]
      exact hv)]
    refine xmv_c 6 (fun v hv => ?_)
    refine xcnt_congr (fun q _ => ?_)
    congr 1
    obtain ⟨u, hu, eu⟩ := hst q
    show decide (xshw h (q / 4) (q % 4) (fup F m y) m = nI v) = decide (xN (xshw h (q / 4) (q % 4) (fup F m y) m) = v)
    refine decide_eq_decide.mpr ?_
    rw [eu, xN_nI (by omega)]
    exact ⟨fun z => nI_inj (by omega) (by omega) z, fun z => by rw [z]⟩
  rw [xnxr_c 6 key]
  exact (xnx_r (fun s => xmx_le _ _ 24) 5).1
section
variable {b : Nat × Nat} {g g1 : Nat → Nat → Int32} {l : Nat → Nat → Int64} {G T m : Nat} {Lw : Nat → Nat} {x y z i j v : Int32}
theorem ta_at (hI : xIc b g G T Lw m) : xT 10 80 [.ref 0, .int x, .int i] (xH b g l) (fun _ M => xTo M (if 0 ≤ x ∧ x < 6 then (if g (23 + 2 * xN x) 1 = -1 then (g 0 11, l 0 12, l 0 13) else if 0 ≤ i ∧ i < g (23 + 2 * xN x) 1 then (g (23 + 2 * xN x + 1) (xN i), l 0 12, l 0 13) else (g 0 11, l 0 12, l 0 13)) else (g 0 11, l 0 12, l 0 13)) (g 73 20, l 73 21, l 73 22)) := by
  obtain ⟨hb, hp, hR, htx, ⟨hs, hm⟩, hD, hK, hZ, hY⟩ := hI
  obtain ⟨hb1, hb2⟩ := xro_b hb
  have hq := xb2 hb
  have hbv : b.1 = 7 ∨ b.1 = 11 := by omega
  have hbw : b.2 = 7 ∨ b.2 = 11 := by omega
  have eG : g b.1 2 = nI G := hR.1.1
  have hG6 : G ≤ 6 := hR.1.2
  have eT : g b.1 4 = nI T := hR.2.1.1
  have hT8 : T ≤ 8 := hR.2.1.2
  by_cases hx : 0 ≤ x ∧ x < 6
  · rw [if_pos hx]
    obtain ⟨p, hp1, rfl⟩ := xin (n := 6) (by omega) hx
    rw [xN_nI (by omega)]
    rcases hZ p hp1 with e | ⟨m1, hm1, e⟩
    · rw [if_pos e]
      exact xTm (c_X11_at_no hp1 e) (by first | rfl | (simp (disch := omega) only [xfC, xfR, up_na, up_ni, up_same, gfill_na, gset_na, gcopy_na, gseg_na])) (by first | rfl | (simp (disch := omega) only [xfC, xfR, up_na, up_ni, up_same, gfill_na, gset_na, gcopy_na, gseg_na]))
    · rw [e, if_neg (nI_nm1 (by omega))]
      by_cases hi : 0 ≤ i ∧ i < nI m1
      · rw [if_pos hi]
        obtain ⟨t, ht, rfl⟩ := xin (n := m1) (by omega) hi
        rw [xN_nI (by omega)]
        exact xTm (c_X11_at_ok hp1 e hm1 ht) (by first | rfl | (simp (disch := omega) only [xfC, xfR, up_na, up_ni, up_same, gfill_na, gset_na, gcopy_na, gseg_na])) (by first | rfl | (simp (disch := omega) only [xfC, xfR, up_na, up_ni, up_same, gfill_na, gset_na, gcopy_na, gseg_na]))
      · rw [if_neg hi]
        exact xTm (c_X11_at_bey hp1 e hm1 hi) (by first | rfl | (simp (disch := omega) only [xfC, xfR, up_na, up_ni, up_same, gfill_na, gset_na, gcopy_na, gseg_na])) (by first | rfl | (simp (disch := omega) only [xfC, xfR, up_na, up_ni, up_same, gfill_na, gset_na, gcopy_na, gseg_na]))
  · rw [if_neg hx]
    exact xTm (c_X11_at_bad hx) (by first | rfl | (simp (disch := omega) only [xfC, xfR, up_na, up_ni, up_same, gfill_na, gset_na, gcopy_na, gseg_na])) (by first | rfl | (simp (disch := omega) only [xfC, xfR, up_na, up_ni, up_same, gfill_na, gset_na, gcopy_na, gseg_na]))
theorem tb_at (hI : xIc b g G T Lw m) (hJ : xIr b g G T Lw m) : xT 10 161 [.ref 73, .int x, .int i] (xH b g l) (fun _ M => xTo M (g 0 11, l 0 12, l 0 13) (if 0 ≤ x ∧ x < 6 then (if g (23 + 2 * xN x) 1 = -1 then (g 73 20, l 73 21, l 73 22) else if 0 ≤ i ∧ i < g (23 + 2 * xN x) 1 then (g (23 + 2 * xN x + 1) (xN i), l 73 21, l 73 22) else (g 73 20, l 73 21, l 73 22)) else (g 73 20, l 73 21, l 73 22))) := by
  obtain ⟨hb, hp, hRm, htx, ⟨_, hm⟩, hDk, hK, hZc, hY⟩ := hI
  obtain ⟨hR, hs, hD, hKr, hQ, hYr⟩ := hJ
  have hZ : ∀ r, r < 6 → xsz (g 74 r) 40 := fun r h => by rw [(hQ r h).1]; exact hZc r h
  have eG : g 73 10 = nI G := hR.1.1
  have hG6 : G ≤ 6 := hR.1.2
  have hT8 : T ≤ 8 := hR.2.1.2
  have hZ6 : ∀ q, q < 6 → xsz (g 74 q) 60 := fun q h => (hZ q h).elim Or.inl (fun ⟨n, a1, a2⟩ => Or.inr ⟨n, by omega, a2⟩)
  have hY6 : ∀ q, q < 4 → xsz (g 76 q) 60 := fun q h => by rw [(hYr q h).1]; exact hY q h
  have hK6 : ∀ q, q < 3 → xsz (g 86 q) 60 := fun q h => by
    rw [(hKr q h).1]
    rcases hK q h with z | ⟨n, z1, z2, _⟩
    · exact Or.inl z
    · exact Or.inr ⟨n, by omega, z2⟩
  by_cases hx : 0 ≤ x ∧ x < 6
  · rw [if_pos hx]
    obtain ⟨p, hp1, rfl⟩ := xin (n := 6) (by omega) hx
    rw [xN_nI (by omega)]
    rcases hZc p hp1 with e | ⟨m1, hm1, e⟩
    · rw [if_pos e]
      exact xTm (c_X12_at_no hp1 (by rw [(hQ p hp1).1]; exact e)) (by first | rfl | (simp (disch := omega) only [xfC, xfR, up_na, up_ni, up_same, gfill_na, gset_na, gcopy_na, gseg_na])) (by first | rfl | (simp (disch := omega) only [xfC, xfR, up_na, up_ni, up_same, gfill_na, gset_na, gcopy_na, gseg_na]))
    · rw [e, if_neg (nI_nm1 (by omega))]
      by_cases hi : 0 ≤ i ∧ i < nI m1
      · rw [if_pos hi]
        obtain ⟨t, ht, rfl⟩ := xin (n := m1) (by omega) hi
        rw [xN_nI (by omega)]
        exact xTm (c_X12_at_ok hp1 (by rw [(hQ p hp1).1]; exact e) hm1 ht) (by first | rfl | (simp (disch := omega) only [xfC, xfR, up_na, up_ni, up_same, gfill_na, gset_na, gcopy_na, gseg_na])) (by rw [up_same, (hQ p hp1).2 m1 hm1 e t ht])
      · rw [if_neg hi]
        exact xTm (c_X12_at_bey hp1 (by rw [(hQ p hp1).1]; exact e) hm1 hi) (by first | rfl | (simp (disch := omega) only [xfC, xfR, up_na, up_ni, up_same, gfill_na, gset_na, gcopy_na, gseg_na])) (by first | rfl | (simp (disch := omega) only [xfC, xfR, up_na, up_ni, up_same, gfill_na, gset_na, gcopy_na, gseg_na]))
  · rw [if_neg hx]
    exact xTm (c_X12_at_bad hx) (by first | rfl | (simp (disch := omega) only [xfC, xfR, up_na, up_ni, up_same, gfill_na, gset_na, gcopy_na, gseg_na])) (by first | rfl | (simp (disch := omega) only [xfC, xfR, up_na, up_ni, up_same, gfill_na, gset_na, gcopy_na, gseg_na]))
theorem ta_mean (hI : xIc b g G T Lw m) : xT 10 83 [.ref 0, .int x] (xH b g l) (fun _ M => xTo M (if 0 ≤ x ∧ x < 6 then (if g (23 + 2 * xN x) 1 = -1 then (g 0 11, l 0 12, l 0 13) else if g (23 + 2 * xN x) 1 = nI 0 then (g 0 11, l 0 12, l 0 13) else (xmean (g (23 + 2 * xN x + 1)) (xN (g (23 + 2 * xN x) 1)), l 0 12, l 0 13)) else (g 0 11, l 0 12, l 0 13)) (g 73 20, l 73 21, l 73 22)) := by
  obtain ⟨hb, hp, hR, htx, ⟨hs, hm⟩, hD, hK, hZ, hY⟩ := hI
  obtain ⟨hb1, hb2⟩ := xro_b hb
  have hq := xb2 hb
  have hbv : b.1 = 7 ∨ b.1 = 11 := by omega
  have hbw : b.2 = 7 ∨ b.2 = 11 := by omega
  have eG : g b.1 2 = nI G := hR.1.1
  have hG6 : G ≤ 6 := hR.1.2
  have eT : g b.1 4 = nI T := hR.2.1.1
  have hT8 : T ≤ 8 := hR.2.1.2
  by_cases hx : 0 ≤ x ∧ x < 6
  · rw [if_pos hx]
    obtain ⟨p, hp1, rfl⟩ := xin (n := 6) (by omega) hx
    rw [xN_nI (by omega)]
    rcases hZ p hp1 with e | ⟨m1, hm1, e⟩
    · rw [if_pos e]
      exact xTm (c_X11_mean_no hp1 e) (by first | rfl | (simp (disch := omega) only [xfC, xfR, up_na, up_ni, up_same, gfill_na, gset_na, gcopy_na, gseg_na])) (by first | rfl | (simp (disch := omega) only [xfC, xfR, up_na, up_ni, up_same, gfill_na, gset_na, gcopy_na, gseg_na]))
    · rw [if_neg (by rw [e]; exact nI_nm1 (by omega))]
      by_cases h0 : m1 = 0
      · subst h0
        rw [if_pos e]
        exact xTm (c_X11_mean_nought hp1 e) (by first | rfl | (simp (disch := omega) only [xfC, xfR, up_na, up_ni, up_same, gfill_na, gset_na, gcopy_na, gseg_na])) (by first | rfl | (simp (disch := omega) only [xfC, xfR, up_na, up_ni, up_same, gfill_na, gset_na, gcopy_na, gseg_na]))
      · rw [if_neg (by rw [e]; exact fun z => h0 (nI_inj (by omega) (by omega) z)), show xN (g (23 + 2 * p) 1) = m1 from by rw [e]; exact xN_nI (by omega)]
        exact xTm (c_X11_mean_ok hp1 e hm1 (by omega)) (by first | rfl | (simp (disch := omega) only [xfC, xfR, up_na, up_ni, up_same, gfill_na, gset_na, gcopy_na, gseg_na])) (by first | rfl | (simp (disch := omega) only [xfC, xfR, up_na, up_ni, up_same, gfill_na, gset_na, gcopy_na, gseg_na]))
  · rw [if_neg hx]
    exact xTm (c_X11_mean_bad hx) (by first | rfl | (simp (disch := omega) only [xfC, xfR, up_na, up_ni, up_same, gfill_na, gset_na, gcopy_na, gseg_na])) (by first | rfl | (simp (disch := omega) only [xfC, xfR, up_na, up_ni, up_same, gfill_na, gset_na, gcopy_na, gseg_na]))
theorem tb_mean (hI : xIc b g G T Lw m) (hJ : xIr b g G T Lw m) : xT 10 165 [.ref 73, .int x] (xH b g l) (fun _ M => xTo M (g 0 11, l 0 12, l 0 13) (if 0 ≤ x ∧ x < 6 then (if g (23 + 2 * xN x) 1 = -1 then (g 73 20, l 73 21, l 73 22) else if g (23 + 2 * xN x) 1 = nI 0 then (g 73 20, l 73 21, l 73 22) else (xmean (g (23 + 2 * xN x + 1)) (xN (g (23 + 2 * xN x) 1)), l 73 21, l 73 22)) else (g 73 20, l 73 21, l 73 22))) := by
  obtain ⟨hb, hp, hRm, htx, ⟨_, hm⟩, hDk, hK, hZc, hY⟩ := hI
  obtain ⟨hR, hs, hD, hKr, hQ, hYr⟩ := hJ
  have hZ : ∀ r, r < 6 → xsz (g 74 r) 40 := fun r h => by rw [(hQ r h).1]; exact hZc r h
  have eG : g 73 10 = nI G := hR.1.1
  have hG6 : G ≤ 6 := hR.1.2
  have hT8 : T ≤ 8 := hR.2.1.2
  have hZ6 : ∀ q, q < 6 → xsz (g 74 q) 60 := fun q h => (hZ q h).elim Or.inl (fun ⟨n, a1, a2⟩ => Or.inr ⟨n, by omega, a2⟩)
  have hY6 : ∀ q, q < 4 → xsz (g 76 q) 60 := fun q h => by rw [(hYr q h).1]; exact hY q h
  have hK6 : ∀ q, q < 3 → xsz (g 86 q) 60 := fun q h => by
    rw [(hKr q h).1]
    rcases hK q h with z | ⟨n, z1, z2, _⟩
    · exact Or.inl z
    · exact Or.inr ⟨n, by omega, z2⟩
  by_cases hx : 0 ≤ x ∧ x < 6
  · rw [if_pos hx]
    obtain ⟨p, hp1, rfl⟩ := xin (n := 6) (by omega) hx
    rw [xN_nI (by omega)]
    rcases hZc p hp1 with e | ⟨m1, hm1, e⟩
    · rw [if_pos e]
      exact xTm (c_X12_mean_no hp1 (by rw [(hQ p hp1).1]; exact e)) (by first | rfl | (simp (disch := omega) only [xfC, xfR, up_na, up_ni, up_same, gfill_na, gset_na, gcopy_na, gseg_na])) (by first | rfl | (simp (disch := omega) only [xfC, xfR, up_na, up_ni, up_same, gfill_na, gset_na, gcopy_na, gseg_na]))
    · rw [if_neg (by rw [e]; exact nI_nm1 (by omega))]
      by_cases h0 : m1 = 0
      · subst h0
        rw [if_pos e]
        exact xTm (c_X12_mean_nought hp1 (by rw [(hQ p hp1).1]; exact e)) (by first | rfl | (simp (disch := omega) only [xfC, xfR, up_na, up_ni, up_same, gfill_na, gset_na, gcopy_na, gseg_na])) (by first | rfl | (simp (disch := omega) only [xfC, xfR, up_na, up_ni, up_same, gfill_na, gset_na, gcopy_na, gseg_na]))
      · rw [if_neg (by rw [e]; exact fun z => h0 (nI_inj (by omega) (by omega) z)), show xN (g (23 + 2 * p) 1) = m1 from by rw [e]; exact xN_nI (by omega)]
        exact xTm (c_X12_mean_ok hp1 (by rw [(hQ p hp1).1]; exact e) hm1 (by omega)) (by first | rfl | (simp (disch := omega) only [xfC, xfR, up_na, up_ni, up_same, gfill_na, gset_na, gcopy_na, gseg_na])) (by rw [up_same, xmean_c (fun i hi => (hQ p hp1).2 m1 hm1 e i hi)])
  · rw [if_neg hx]
    exact xTm (c_X12_mean_bad hx) (by first | rfl | (simp (disch := omega) only [xfC, xfR, up_na, up_ni, up_same, gfill_na, gset_na, gcopy_na, gseg_na])) (by first | rfl | (simp (disch := omega) only [xfC, xfR, up_na, up_ni, up_same, gfill_na, gset_na, gcopy_na, gseg_na]))
theorem ta_glass (hI : xIc b g G T Lw m) : xT 10 88 [.ref 0, .int x, .int y] (xH b g l) (fun _ M => xTo M (if (0 ≤ x ∧ x < nI G) ∧ 0 ≤ y ∧ y ≤ 3 then (xgf g Lw m (xN x) (xN y), l 0 12, l 0 13) else (g 0 11, l 0 12, l 0 13)) (g 73 20, l 73 21, l 73 22)) := by
  obtain ⟨hb, hp, hR, htx, ⟨hs, hm⟩, hD, hK, hZ, hY⟩ := hI
  obtain ⟨hb1, hb2⟩ := xro_b hb
  have hq := xb2 hb
  have hbv : b.1 = 7 ∨ b.1 = 11 := by omega
  have hbw : b.2 = 7 ∨ b.2 = 11 := by omega
  have eG : g b.1 2 = nI G := hR.1.1
  have hG6 : G ≤ 6 := hR.1.2
  have eT : g b.1 4 = nI T := hR.2.1.1
  have hT8 : T ≤ 8 := hR.2.1.2
  by_cases hx : (0 ≤ x ∧ x < nI G) ∧ 0 ≤ y ∧ y ≤ 3
  · rw [if_pos hx]
    obtain ⟨s, hk, rfl⟩ := xin (n := G) (by omega) hx.1
    obtain ⟨t, ht, rfl⟩ := xinl (n := 3) (by omega) hx.2
    rw [xN_nI (show s < 2 ^ 31 by omega), xN_nI (show t < 2 ^ 31 by omega)]
    exact xTm (c_X11_glass_ok hb1 hR hp hs hm hk (by omega)) (by first | rfl | (simp (disch := omega) only [xfC, xfR, up_na, up_ni, up_same, gfill_na, gset_na, gcopy_na, gseg_na])) (by first | rfl | (simp (disch := omega) only [xfC, xfR, up_na, up_ni, up_same, gfill_na, gset_na, gcopy_na, gseg_na]))
  · rw [if_neg hx]
    exact xTm (c_X11_glass_bad hb1 (by rw [eG]; exact hx)) (by first | rfl | (simp (disch := omega) only [xfC, xfR, up_na, up_ni, up_same, gfill_na, gset_na, gcopy_na, gseg_na])) (by first | rfl | (simp (disch := omega) only [xfC, xfR, up_na, up_ni, up_same, gfill_na, gset_na, gcopy_na, gseg_na]))
theorem tb_glass (hI : xIc b g G T Lw m) (hJ : xIr b g G T Lw m) : xT 10 187 [.ref 73, .int x, .int y] (xH b g l) (fun _ M => xTo M (g 0 11, l 0 12, l 0 13) (if (0 ≤ x ∧ x < nI G) ∧ 0 ≤ y ∧ y ≤ 3 then (xgf g Lw m (xN x) (xN y), l 73 21, l 73 22) else (g 73 20, l 73 21, l 73 22))) := by
  obtain ⟨hb, hp, hRm, htx, ⟨_, hm⟩, hDk, hK, hZc, hY⟩ := hI
  obtain ⟨hR, hs, hD, hKr, hQ, hYr⟩ := hJ
  have hZ : ∀ r, r < 6 → xsz (g 74 r) 40 := fun r h => by rw [(hQ r h).1]; exact hZc r h
  have eG : g 73 10 = nI G := hR.1.1
  have hG6 : G ≤ 6 := hR.1.2
  have hT8 : T ≤ 8 := hR.2.1.2
  have hZ6 : ∀ q, q < 6 → xsz (g 74 q) 60 := fun q h => (hZ q h).elim Or.inl (fun ⟨n, a1, a2⟩ => Or.inr ⟨n, by omega, a2⟩)
  have hY6 : ∀ q, q < 4 → xsz (g 76 q) 60 := fun q h => by rw [(hYr q h).1]; exact hY q h
  have hK6 : ∀ q, q < 3 → xsz (g 86 q) 60 := fun q h => by
    rw [(hKr q h).1]
    rcases hK q h with z | ⟨n, z1, z2, _⟩
    · exact Or.inl z
    · exact Or.inr ⟨n, by omega, z2⟩
  by_cases hx : (0 ≤ x ∧ x < nI G) ∧ 0 ≤ y ∧ y ≤ 3
  · rw [if_pos hx]
    obtain ⟨s, hk, rfl⟩ := xin (n := G) (by omega) hx.1
    obtain ⟨t, ht, rfl⟩ := xinl (n := 3) (by omega) hx.2
    rw [xN_nI (show s < 2 ^ 31 by omega), xN_nI (show t < 2 ^ 31 by omega)]
    rcases (show t = 0 ∨ t = 1 ∨ t = 2 ∨ t = 3 by omega) with rfl | rfl | rfl | rfl
    · exact xTm (c_X12_glass_0 hR hk hD hm hs) (by first | rfl | (simp (disch := omega) only [xfC, xfR, up_na, up_ni, up_same, gfill_na, gset_na, gcopy_na, gseg_na])) (by first | rfl | (simp (disch := omega) only [xfC, xfR, up_na, up_ni, up_same, gfill_na, gset_na, gcopy_na, gseg_na]))
    · exact xTm (c_X12_glass_1 hR hk hD hm hs) (by first | rfl | (simp (disch := omega) only [xfC, xfR, up_na, up_ni, up_same, gfill_na, gset_na, gcopy_na, gseg_na])) (by first | rfl | (simp (disch := omega) only [xfC, xfR, up_na, up_ni, up_same, gfill_na, gset_na, gcopy_na, gseg_na]))
    · exact xTm (c_X12_glass_2 hR hk hD hm hs) (by first | rfl | (simp (disch := omega) only [xfC, xfR, up_na, up_ni, up_same, gfill_na, gset_na, gcopy_na, gseg_na])) (by first | rfl | (simp (disch := omega) only [xfC, xfR, up_na, up_ni, up_same, gfill_na, gset_na, gcopy_na, gseg_na]))
    · exact xTm (c_X12_glass_3 hR hk hD hm hs) (by first | rfl | (simp (disch := omega) only [xfC, xfR, up_na, up_ni, up_same, gfill_na, gset_na, gcopy_na, gseg_na])) (by first | rfl | (simp (disch := omega) only [xfC, xfR, up_na, up_ni, up_same, gfill_na, gset_na, gcopy_na, gseg_na]))
  · rw [if_neg hx]
    exact xTm (c_X12_glass_bad hR hx) (by first | rfl | (simp (disch := omega) only [xfC, xfR, up_na, up_ni, up_same, gfill_na, gset_na, gcopy_na, gseg_na])) (by first | rfl | (simp (disch := omega) only [xfC, xfR, up_na, up_ni, up_same, gfill_na, gset_na, gcopy_na, gseg_na]))
theorem ta_deed (hI : xIc b g G T Lw m) : xT 10 93 [.ref 0, .int x, .int y] (xH b g l) (fun _ M => xTo M (if (0 ≤ x ∧ x < nI m) ∧ 0 ≤ y ∧ y ≤ 3 then (g 5 (4 * xN x + xN y), l 0 12, l 0 13) else (g 0 11, l 0 12, l 0 13)) (g 73 20, l 73 21, l 73 22)) := by
  obtain ⟨hb, hp, hR, htx, ⟨hs, hm⟩, hD, hK, hZ, hY⟩ := hI
  obtain ⟨hb1, hb2⟩ := xro_b hb
  have hq := xb2 hb
  have hbv : b.1 = 7 ∨ b.1 = 11 := by omega
  have hbw : b.2 = 7 ∨ b.2 = 11 := by omega
  have eG : g b.1 2 = nI G := hR.1.1
  have hG6 : G ≤ 6 := hR.1.2
  have eT : g b.1 4 = nI T := hR.2.1.1
  have hT8 : T ≤ 8 := hR.2.1.2
  by_cases hx : (0 ≤ x ∧ x < nI m) ∧ 0 ≤ y ∧ y ≤ 3
  · rw [if_pos hx]
    obtain ⟨d, hd, rfl⟩ := xin (n := m) (by omega) hx.1
    obtain ⟨t, ht, rfl⟩ := xinl (n := 3) (by omega) hx.2
    rw [xN_nI (show d < 2 ^ 31 by omega), xN_nI (show t < 2 ^ 31 by omega)]
    exact xTm (c_X11_deed_ok hs hm hd (by omega)) (by first | rfl | (simp (disch := omega) only [xfC, xfR, up_na, up_ni, up_same, gfill_na, gset_na, gcopy_na, gseg_na])) (by first | rfl | (simp (disch := omega) only [xfC, xfR, up_na, up_ni, up_same, gfill_na, gset_na, gcopy_na, gseg_na]))
  · rw [if_neg hx]
    exact xTm (c_X11_deed_bad (by rw [hs]; exact hx)) (by first | rfl | (simp (disch := omega) only [xfC, xfR, up_na, up_ni, up_same, gfill_na, gset_na, gcopy_na, gseg_na])) (by first | rfl | (simp (disch := omega) only [xfC, xfR, up_na, up_ni, up_same, gfill_na, gset_na, gcopy_na, gseg_na]))
theorem tb_deed (hI : xIc b g G T Lw m) (hJ : xIr b g G T Lw m) : xT 10 193 [.ref 73, .int x, .int y] (xH b g l) (fun _ M => xTo M (g 0 11, l 0 12, l 0 13) (if (0 ≤ x ∧ x < nI m) ∧ 0 ≤ y ∧ y ≤ 3 then (g 5 (4 * xN x + xN y), l 73 21, l 73 22) else (g 73 20, l 73 21, l 73 22))) := by
  obtain ⟨hb, hp, hRm, htx, ⟨_, hm⟩, hDk, hK, hZc, hY⟩ := hI
  obtain ⟨hR, hs, hD, hKr, hQ, hYr⟩ := hJ
  have hZ : ∀ r, r < 6 → xsz (g 74 r) 40 := fun r h => by rw [(hQ r h).1]; exact hZc r h
  have eG : g 73 10 = nI G := hR.1.1
  have hG6 : G ≤ 6 := hR.1.2
  have hT8 : T ≤ 8 := hR.2.1.2
  have hZ6 : ∀ q, q < 6 → xsz (g 74 q) 60 := fun q h => (hZ q h).elim Or.inl (fun ⟨n, a1, a2⟩ => Or.inr ⟨n, by omega, a2⟩)
  have hY6 : ∀ q, q < 4 → xsz (g 76 q) 60 := fun q h => by rw [(hYr q h).1]; exact hY q h
  have hK6 : ∀ q, q < 3 → xsz (g 86 q) 60 := fun q h => by
    rw [(hKr q h).1]
    rcases hK q h with z | ⟨n, z1, z2, _⟩
    · exact Or.inl z
    · exact Or.inr ⟨n, by omega, z2⟩
  by_cases hx : (0 ≤ x ∧ x < nI m) ∧ 0 ≤ y ∧ y ≤ 3
  · rw [if_pos hx]
    obtain ⟨d, hd, rfl⟩ := xin (n := m) (by omega) hx.1
    obtain ⟨t, ht, rfl⟩ := xinl (n := 3) (by omega) hx.2
    rw [xN_nI (show d < 2 ^ 31 by omega), xN_nI (show t < 2 ^ 31 by omega)]
    rcases (show t = 0 ∨ t = 1 ∨ t = 2 ∨ t = 3 by omega) with rfl | rfl | rfl | rfl
    · exact xTm (c_X12_deed_0 hR hD hm hs hd) (by first | rfl | (simp (disch := omega) only [xfC, xfR, up_na, up_ni, up_same, gfill_na, gset_na, gcopy_na, gseg_na])) (by first | rfl | (simp (disch := omega) only [xfC, xfR, up_na, up_ni, up_same, gfill_na, gset_na, gcopy_na, gseg_na]))
    · exact xTm (c_X12_deed_1 hR hD hm hs hd) (by first | rfl | (simp (disch := omega) only [xfC, xfR, up_na, up_ni, up_same, gfill_na, gset_na, gcopy_na, gseg_na])) (by first | rfl | (simp (disch := omega) only [xfC, xfR, up_na, up_ni, up_same, gfill_na, gset_na, gcopy_na, gseg_na]))
    · exact xTm (c_X12_deed_2 hR hD hm hs hd) (by first | rfl | (simp (disch := omega) only [xfC, xfR, up_na, up_ni, up_same, gfill_na, gset_na, gcopy_na, gseg_na])) (by first | rfl | (simp (disch := omega) only [xfC, xfR, up_na, up_ni, up_same, gfill_na, gset_na, gcopy_na, gseg_na]))
    · exact xTm (c_X12_deed_3 hR hD hm hs hd) (by first | rfl | (simp (disch := omega) only [xfC, xfR, up_na, up_ni, up_same, gfill_na, gset_na, gcopy_na, gseg_na])) (by first | rfl | (simp (disch := omega) only [xfC, xfR, up_na, up_ni, up_same, gfill_na, gset_na, gcopy_na, gseg_na]))
  · rw [if_neg hx]
    exact xTm (c_X12_deed_bad hs hm hx) (by first | rfl | (simp (disch := omega) only [xfC, xfR, up_na, up_ni, up_same, gfill_na, gset_na, gcopy_na, gseg_na])) (by first | rfl | (simp (disch := omega) only [xfC, xfR, up_na, up_ni, up_same, gfill_na, gset_na, gcopy_na, gseg_na]))
theorem ta_broken (hI : xIc b g G T Lw m) : xT 10 94 [.ref 0] (xH b g l) (fun _ M => xTo M (xfI (xfst (fun d => !decide (g 5 (4 * d + 3) = -9)) m), l 0 12, l 0 13) (g 73 20, l 73 21, l 73 22)) := by
  obtain ⟨hb, hp, hR, htx, ⟨hs, hm⟩, hD, hK, hZ, hY⟩ := hI
  obtain ⟨hb1, hb2⟩ := xro_b hb
  have hq := xb2 hb
  have hbv : b.1 = 7 ∨ b.1 = 11 := by omega
  have hbw : b.2 = 7 ∨ b.2 = 11 := by omega
  have eG : g b.1 2 = nI G := hR.1.1
  have hG6 : G ≤ 6 := hR.1.2
  have eT : g b.1 4 = nI T := hR.2.1.1
  have hT8 : T ≤ 8 := hR.2.1.2
  exact xTm (c_X11_broken_ok hs hm) (by first | rfl | (simp (disch := omega) only [xfC, xfR, up_na, up_ni, up_same, gfill_na, gset_na, gcopy_na, gseg_na])) (by first | rfl | (simp (disch := omega) only [xfC, xfR, up_na, up_ni, up_same, gfill_na, gset_na, gcopy_na, gseg_na]))
theorem tb_broken (hI : xIc b g G T Lw m) (hJ : xIr b g G T Lw m) : xT 10 195 [.ref 73] (xH b g l) (fun _ M => xTo M (g 0 11, l 0 12, l 0 13) (xfI (xfst (fun d => !decide (g 5 (4 * d + 3) = -9)) m), l 73 21, l 73 22)) := by
  obtain ⟨hb, hp, hRm, htx, ⟨_, hm⟩, hDk, hK, hZc, hY⟩ := hI
  obtain ⟨hR, hs, hD, hKr, hQ, hYr⟩ := hJ
  have hZ : ∀ r, r < 6 → xsz (g 74 r) 40 := fun r h => by rw [(hQ r h).1]; exact hZc r h
  have eG : g 73 10 = nI G := hR.1.1
  have hG6 : G ≤ 6 := hR.1.2
  have hT8 : T ≤ 8 := hR.2.1.2
  have hZ6 : ∀ q, q < 6 → xsz (g 74 q) 60 := fun q h => (hZ q h).elim Or.inl (fun ⟨n, a1, a2⟩ => Or.inr ⟨n, by omega, a2⟩)
  have hY6 : ∀ q, q < 4 → xsz (g 76 q) 60 := fun q h => by rw [(hYr q h).1]; exact hY q h
  have hK6 : ∀ q, q < 3 → xsz (g 86 q) 60 := fun q h => by
    rw [(hKr q h).1]
    rcases hK q h with z | ⟨n, z1, z2, _⟩
    · exact Or.inl z
    · exact Or.inr ⟨n, by omega, z2⟩
  exact xTm (c_X12_broken hR hD hm hs) (by first | rfl | (simp (disch := omega) only [xfC, xfR, up_na, up_ni, up_same, gfill_na, gset_na, gcopy_na, gseg_na])) (by first | rfl | (simp (disch := omega) only [xfC, xfR, up_na, up_ni, up_same, gfill_na, gset_na, gcopy_na, gseg_na]))
theorem ta_ways (hI : xIc b g G T Lw m) : xT 10 102 [.ref 0, .int x, .int y] (xH b g l) (fun _ M => xTo M (if (0 ≤ x ∧ x < nI G) ∧ 0 ≤ y ∧ y < 6 then (if xfos (g (23 + 2 * xN y) 1) (g (23 + 2 * xN y + 1)) 6 = 0 then (g 0 11, lN (xpr (fun i => xpc (xN ((xst (Lw (xN x) / 4) (Lw (xN x) % 4) (xB (g (b.1 + 1)) (Lw (xN x) / 4) (g (23 + 2 * xN y + 1))) (xN (g (23 + 2 * xN y) 1))) i))) (if xnz (xst (Lw (xN x) / 4) (Lw (xN x) % 4) (xB (g (b.1 + 1)) (Lw (xN x) / 4) (g (23 + 2 * xN y + 1))) (xN (g (23 + 2 * xN y) 1))) (xN (g (23 + 2 * xN y) 1)) (xps (Lw (xN x) / 4) (Lw (xN x) % 4) (g (23 + 2 * xN y + 1)) (xN (g (23 + 2 * xN y) 1))) = true then 1 else 0) (xN (g (23 + 2 * xN y) 1)) / 1), 1) else (g 0 11, l 0 12, l 0 13)) else (g 0 11, l 0 12, l 0 13)) (g 73 20, l 73 21, l 73 22)) := by
  obtain ⟨hb, hp, hR, htx, ⟨hs, hm⟩, hD, hK, hZ, hY⟩ := hI
  obtain ⟨hb1, hb2⟩ := xro_b hb
  have hq := xb2 hb
  have hbv : b.1 = 7 ∨ b.1 = 11 := by omega
  have hbw : b.2 = 7 ∨ b.2 = 11 := by omega
  have eG : g b.1 2 = nI G := hR.1.1
  have hG6 : G ≤ 6 := hR.1.2
  have eT : g b.1 4 = nI T := hR.2.1.1
  have hT8 : T ≤ 8 := hR.2.1.2
  by_cases hx : (0 ≤ x ∧ x < nI G) ∧ 0 ≤ y ∧ y < 6
  · rw [if_pos hx]
    obtain ⟨s, hk, rfl⟩ := xin (n := G) (by omega) hx.1
    obtain ⟨t, ht, rfl⟩ := xin (n := 6) (by omega) hx.2
    simp only [xN_nI (show s < 2 ^ 31 by omega), xN_nI (show t < 2 ^ 31 by omega)]
    by_cases hf : xfos (g (23 + 2 * t) 1) (g (23 + 2 * t + 1)) 6 = 0
    · rw [if_pos hf]
      obtain ⟨m1, e, h12, h40, hxs⟩ := xfos_0 (hZ t ht) (by decide) (by decide) hf
      rw [show xN (g (23 + 2 * t) 1) = m1 from by rw [e]; exact xN_nI (by omega)]
      exact xTm (c_X11_ways_ok hb1 hR hp hbv hk ht e h12 hf hxs) (by first | rfl | (simp (disch := omega) only [xfC, xfR, up_na, up_ni, up_same, gfill_na, gset_na, gcopy_na, gseg_na])) (by first | rfl | (simp (disch := omega) only [xfC, xfR, up_na, up_ni, up_same, gfill_na, gset_na, gcopy_na, gseg_na]))
    · rw [if_neg hf]
      exact xTm (c_X11_ways_ref hb1 hR hk ht (hZ t ht) hf) (by first | rfl | (simp (disch := omega) only [xfC, xfR, up_na, up_ni, up_same, gfill_na, gset_na, gcopy_na, gseg_na])) (by first | rfl | (simp (disch := omega) only [xfC, xfR, up_na, up_ni, up_same, gfill_na, gset_na, gcopy_na, gseg_na]))
  · rw [if_neg hx]
    exact xTm (c_X11_ways_bad hb1 (by rw [eG]; exact hx)) (by first | rfl | (simp (disch := omega) only [xfC, xfR, up_na, up_ni, up_same, gfill_na, gset_na, gcopy_na, gseg_na])) (by first | rfl | (simp (disch := omega) only [xfC, xfR, up_na, up_ni, up_same, gfill_na, gset_na, gcopy_na, gseg_na]))
theorem tb_ways (hI : xIc b g G T Lw m) (hJ : xIr b g G T Lw m) : xT 10 210 [.ref 73, .int x, .int y] (xH b g l) (fun _ M => xTo M (g 0 11, l 0 12, l 0 13) (if (0 ≤ x ∧ x < nI G) ∧ 0 ≤ y ∧ y < 6 then (if xfos (g (23 + 2 * xN y) 1) (g (23 + 2 * xN y + 1)) 6 = 0 then (g 73 20, lN (xpr (fun i => xpc (xN ((xst (Lw (xN x) / 4) (Lw (xN x) % 4) (xB (g (b.1 + 1)) (Lw (xN x) / 4) (g (23 + 2 * xN y + 1))) (xN (g (23 + 2 * xN y) 1))) i))) (if xnz (xst (Lw (xN x) / 4) (Lw (xN x) % 4) (xB (g (b.1 + 1)) (Lw (xN x) / 4) (g (23 + 2 * xN y + 1))) (xN (g (23 + 2 * xN y) 1))) (xN (g (23 + 2 * xN y) 1)) (xps (Lw (xN x) / 4) (Lw (xN x) % 4) (g (23 + 2 * xN y + 1)) (xN (g (23 + 2 * xN y) 1))) = true then 1 else 0) (xN (g (23 + 2 * xN y) 1)) / 1), 1) else (g 73 20, l 73 21, l 73 22)) else (g 73 20, l 73 21, l 73 22))) := by
  obtain ⟨hb, hp, hRm, htx, ⟨_, hm⟩, hDk, hK, hZc, hY⟩ := hI
  obtain ⟨hR, hs, hD, hKr, hQ, hYr⟩ := hJ
  have hZ : ∀ r, r < 6 → xsz (g 74 r) 40 := fun r h => by rw [(hQ r h).1]; exact hZc r h
  have eG : g 73 10 = nI G := hR.1.1
  have hG6 : G ≤ 6 := hR.1.2
  have hT8 : T ≤ 8 := hR.2.1.2
  have hZ6 : ∀ q, q < 6 → xsz (g 74 q) 60 := fun q h => (hZ q h).elim Or.inl (fun ⟨n, a1, a2⟩ => Or.inr ⟨n, by omega, a2⟩)
  have hY6 : ∀ q, q < 4 → xsz (g 76 q) 60 := fun q h => by rw [(hYr q h).1]; exact hY q h
  have hK6 : ∀ q, q < 3 → xsz (g 86 q) 60 := fun q h => by
    rw [(hKr q h).1]
    rcases hK q h with z | ⟨n, z1, z2, _⟩
    · exact Or.inl z
    · exact Or.inr ⟨n, by omega, z2⟩
  by_cases hx : (0 ≤ x ∧ x < nI G) ∧ 0 ≤ y ∧ y < 6
  · rw [if_pos hx]
    obtain ⟨s, hk, rfl⟩ := xin (n := G) (by omega) hx.1
    obtain ⟨p, hp1, rfl⟩ := xin (n := 6) (by omega) hx.2
    simp only [xN_nI (show s < 2 ^ 31 by omega), xN_nI (show p < 2 ^ 31 by omega)]
    have eS : g 74 p = g (23 + 2 * p) 1 := (hQ p hp1).1
    have eF : xfos (g 74 p) (fun i => g 75 (40 * p + i)) 6 = xfos (g (23 + 2 * p) 1) (g (23 + 2 * p + 1)) 6 := by
      rw [eS]
      exact xfos_c (hZc p hp1) (fun n hn en i hi => (hQ p hp1).2 n hn en i hi)
    by_cases hf : xfos (g (23 + 2 * p) 1) (g (23 + 2 * p + 1)) 6 = 0
    · rw [if_pos hf]
      obtain ⟨m1, e, h12, h40, hxs⟩ := xfos_0 (hZc p hp1) (by decide) (by decide) hf
      rw [show xN (g (23 + 2 * p) 1) = m1 from by rw [e]; exact xN_nI (by omega)]
      have er : g 74 p = nI m1 := by rw [eS]; exact e
      have hrow : ∀ i, i < m1 → g 75 (40 * p + i) = g (23 + 2 * p + 1) i := (hQ p hp1).2 m1 h40 e
      have hf2 : xfos (g 74 p) (fun i => g 75 (40 * p + i)) 6 = 0 := by rw [eF]; exact hf
      have hxs2 : ∀ i, i < m1 → xstp (g 75 (40 * p + i)) := fun i hi => by rw [hrow i hi]; exact hxs i hi
      refine (c_X12_ways_ok hR hk hp1 er h12 hf2 hxs2).weak (fun r M w => ?_)
      obtain ⟨g1, e2, e1, _⟩ := w
      refine ⟨b, _, _, e1, by rw [e2.1 0 (by decide) (by decide)] <;> rfl, ?_⟩
      have eC : xcnt (fun c => decide (xfst (fun i => !decide (xshw (g (b.1 + 1)) (Lw s / 4) (Lw s % 4) (xd6 m1 c) i = g 75 (40 * p + i))) m1 = none)) (6 ^ m1) = xcnt (fun c => decide (xfst (fun i => !decide (xshw (g (b.1 + 1)) (Lw s / 4) (Lw s % 4) (xd6 m1 c) i = g (23 + 2 * p + 1) i)) m1 = none)) (6 ^ m1) := xcnt_congr (fun c _ => by
        rw [xfst_congr (p := fun i => !decide (xshw (g (b.1 + 1)) (Lw s / 4) (Lw s % 4) (xd6 m1 c) i = g 75 (40 * p + i))) (p' := fun i => !decide (xshw (g (b.1 + 1)) (Lw s / 4) (Lw s % 4) (xd6 m1 c) i = g (23 + 2 * p + 1) i)) (fun i hi => by rw [hrow i hi])])
      rw [e2.2 20 (by decide), up_same, up_ni (by decide), up_same, eC, xways]
    · rw [if_neg hf]
      exact (c_X12_ways_ref hR hk hp1 (hZ p hp1) (by rw [eF]; exact hf)).weak (fun r M w => by obtain ⟨g1, e2, e1, _⟩ := w; exact ⟨b, _, _, e1, by rw [e2.1 0 (by decide) (by decide)], by rw [e2.2 20 (by decide)]⟩)
  · rw [if_neg hx]
    exact xTm (c_X12_ways_bad hR hx) (by first | rfl | (simp (disch := omega) only [xfC, xfR, up_na, up_ni, up_same, gfill_na, gset_na, gcopy_na, gseg_na])) (by first | rfl | (simp (disch := omega) only [xfC, xfR, up_na, up_ni, up_same, gfill_na, gset_na, gcopy_na, gseg_na]))
theorem ta_odds (hI : xIc b g G T Lw m) : xT 10 112 [.ref 0, .int x, .int y, .int z] (xH b g l) (fun _ M => xTo M (if (0 ≤ x ∧ x < nI G) ∧ (0 ≤ y ∧ y < 6) ∧ 0 ≤ z ∧ z ≤ 12 then (if xfos (g (23 + 2 * xN y) 1) (g (23 + 2 * xN y + 1)) 12 = 0 then (g 0 11, lN (xpr (fun i => 12 - xbt (xfb (g (b.1 + 3)) T (g (23 + 2 * xN y + 1) i) 0 = none) (xfb (g (b.1 + 3)) T (g (23 + 2 * xN y + 1) i) (xshw (g (b.1 + 1)) (Lw (xN x) / 4) (Lw (xN x) % 4) (fun i => xN (g (23 + 2 * xN y + 1) i)) i) = none) (xN z)) 1 (xN (g (23 + 2 * xN y) 1)) / Nat.gcd (xpr (fun i => 12 - xbt (xfb (g (b.1 + 3)) T (g (23 + 2 * xN y + 1) i) 0 = none) (xfb (g (b.1 + 3)) T (g (23 + 2 * xN y + 1) i) (xshw (g (b.1 + 1)) (Lw (xN x) / 4) (Lw (xN x) % 4) (fun i => xN (g (23 + 2 * xN y + 1) i)) i) = none) (xN z)) 1 (xN (g (23 + 2 * xN y) 1))) (12 ^ (xN (g (23 + 2 * xN y) 1)))), lN (12 ^ (xN (g (23 + 2 * xN y) 1)) / Nat.gcd (xpr (fun i => 12 - xbt (xfb (g (b.1 + 3)) T (g (23 + 2 * xN y + 1) i) 0 = none) (xfb (g (b.1 + 3)) T (g (23 + 2 * xN y + 1) i) (xshw (g (b.1 + 1)) (Lw (xN x) / 4) (Lw (xN x) % 4) (fun i => xN (g (23 + 2 * xN y + 1) i)) i) = none) (xN z)) 1 (xN (g (23 + 2 * xN y) 1))) (12 ^ (xN (g (23 + 2 * xN y) 1))))) else (g 0 11, l 0 12, l 0 13)) else (g 0 11, l 0 12, l 0 13)) (g 73 20, l 73 21, l 73 22)) := by
  obtain ⟨hb, hp, hR, htx, ⟨hs, hm⟩, hD, hK, hZ, hY⟩ := hI
  obtain ⟨hb1, hb2⟩ := xro_b hb
  have hq := xb2 hb
  have hbv : b.1 = 7 ∨ b.1 = 11 := by omega
  have hbw : b.2 = 7 ∨ b.2 = 11 := by omega
  have eG : g b.1 2 = nI G := hR.1.1
  have hG6 : G ≤ 6 := hR.1.2
  have eT : g b.1 4 = nI T := hR.2.1.1
  have hT8 : T ≤ 8 := hR.2.1.2
  by_cases hx : (0 ≤ x ∧ x < nI G) ∧ (0 ≤ y ∧ y < 6) ∧ 0 ≤ z ∧ z ≤ 12
  · rw [if_pos hx]
    obtain ⟨s, hk, rfl⟩ := xin (n := G) (by omega) hx.1
    obtain ⟨t, ht, rfl⟩ := xin (n := 6) (by omega) hx.2.1
    obtain ⟨e1, he, rfl⟩ := xinl (n := 12) (by omega) hx.2.2
    simp only [xN_nI (show s < 2 ^ 31 by omega), xN_nI (show t < 2 ^ 31 by omega), xN_nI (show e1 < 2 ^ 31 by omega)]
    by_cases hf : xfos (g (23 + 2 * t) 1) (g (23 + 2 * t + 1)) 12 = 0
    · rw [if_pos hf]
      obtain ⟨m1, e, h12, h40, hxs⟩ := xfos_0 (hZ t ht) (by decide) (by decide) hf
      rw [show xN (g (23 + 2 * t) 1) = m1 from by rw [e]; exact xN_nI (by omega)]
      exact xTm (c_X11_odds_ok hb1 hR hp hk ht he e h12 hf hxs) (by first | rfl | (simp (disch := omega) only [xfC, xfR, up_na, up_ni, up_same, gfill_na, gset_na, gcopy_na, gseg_na])) (by first | rfl | (simp (disch := omega) only [xfC, xfR, up_na, up_ni, up_same, gfill_na, gset_na, gcopy_na, gseg_na]))
    · rw [if_neg hf]
      exact xTm (c_X11_odds_ref hb1 hR hk ht (hZ t ht) he hf) (by first | rfl | (simp (disch := omega) only [xfC, xfR, up_na, up_ni, up_same, gfill_na, gset_na, gcopy_na, gseg_na])) (by first | rfl | (simp (disch := omega) only [xfC, xfR, up_na, up_ni, up_same, gfill_na, gset_na, gcopy_na, gseg_na]))
  · rw [if_neg hx]
    exact xTm (c_X11_odds_bad hb1 (by rw [eG]; exact hx)) (by first | rfl | (simp (disch := omega) only [xfC, xfR, up_na, up_ni, up_same, gfill_na, gset_na, gcopy_na, gseg_na])) (by first | rfl | (simp (disch := omega) only [xfC, xfR, up_na, up_ni, up_same, gfill_na, gset_na, gcopy_na, gseg_na]))
theorem tb_odds (hI : xIc b g G T Lw m) (hJ : xIr b g G T Lw m) : xT 10 225 [.ref 73, .int x, .int y, .int z] (xH b g l) (fun _ M => xTo M (g 0 11, l 0 12, l 0 13) (if (0 ≤ x ∧ x < nI G) ∧ (0 ≤ y ∧ y < 6) ∧ 0 ≤ z ∧ z ≤ 12 then (if xfos (g (23 + 2 * xN y) 1) (g (23 + 2 * xN y + 1)) 12 = 0 then (g 73 20, lN (xpr (fun i => 12 - xbt (xfb (g (b.1 + 3)) T (g (23 + 2 * xN y + 1) i) 0 = none) (xfb (g (b.1 + 3)) T (g (23 + 2 * xN y + 1) i) (xshw (g (b.1 + 1)) (Lw (xN x) / 4) (Lw (xN x) % 4) (fun i => xN (g (23 + 2 * xN y + 1) i)) i) = none) (xN z)) 1 (xN (g (23 + 2 * xN y) 1)) / Nat.gcd (xpr (fun i => 12 - xbt (xfb (g (b.1 + 3)) T (g (23 + 2 * xN y + 1) i) 0 = none) (xfb (g (b.1 + 3)) T (g (23 + 2 * xN y + 1) i) (xshw (g (b.1 + 1)) (Lw (xN x) / 4) (Lw (xN x) % 4) (fun i => xN (g (23 + 2 * xN y + 1) i)) i) = none) (xN z)) 1 (xN (g (23 + 2 * xN y) 1))) (12 ^ (xN (g (23 + 2 * xN y) 1)))), lN (12 ^ (xN (g (23 + 2 * xN y) 1)) / Nat.gcd (xpr (fun i => 12 - xbt (xfb (g (b.1 + 3)) T (g (23 + 2 * xN y + 1) i) 0 = none) (xfb (g (b.1 + 3)) T (g (23 + 2 * xN y + 1) i) (xshw (g (b.1 + 1)) (Lw (xN x) / 4) (Lw (xN x) % 4) (fun i => xN (g (23 + 2 * xN y + 1) i)) i) = none) (xN z)) 1 (xN (g (23 + 2 * xN y) 1))) (12 ^ (xN (g (23 + 2 * xN y) 1))))) else (g 73 20, l 73 21, l 73 22)) else (g 73 20, l 73 21, l 73 22))) := by
  obtain ⟨hb, hp, hRm, htx, ⟨_, hm⟩, hDk, hK, hZc, hY⟩ := hI
  obtain ⟨hR, hs, hD, hKr, hQ, hYr⟩ := hJ
  have hZ : ∀ r, r < 6 → xsz (g 74 r) 40 := fun r h => by rw [(hQ r h).1]; exact hZc r h
  have eG : g 73 10 = nI G := hR.1.1
  have hG6 : G ≤ 6 := hR.1.2
  have hT8 : T ≤ 8 := hR.2.1.2
  have hZ6 : ∀ q, q < 6 → xsz (g 74 q) 60 := fun q h => (hZ q h).elim Or.inl (fun ⟨n, a1, a2⟩ => Or.inr ⟨n, by omega, a2⟩)
  have hY6 : ∀ q, q < 4 → xsz (g 76 q) 60 := fun q h => by rw [(hYr q h).1]; exact hY q h
  have hK6 : ∀ q, q < 3 → xsz (g 86 q) 60 := fun q h => by
    rw [(hKr q h).1]
    rcases hK q h with z | ⟨n, z1, z2, _⟩
    · exact Or.inl z
    · exact Or.inr ⟨n, by omega, z2⟩
  by_cases hx : (0 ≤ x ∧ x < nI G) ∧ (0 ≤ y ∧ y < 6) ∧ 0 ≤ z ∧ z ≤ 12
  · rw [if_pos hx]
    obtain ⟨s, hk, rfl⟩ := xin (n := G) (by omega) hx.1
    obtain ⟨p, hp1, rfl⟩ := xin (n := 6) (by omega) hx.2.1
    obtain ⟨e1, he, rfl⟩ := xinl (n := 12) (by omega) hx.2.2
    simp only [xN_nI (show s < 2 ^ 31 by omega), xN_nI (show p < 2 ^ 31 by omega), xN_nI (show e1 < 2 ^ 31 by omega)]
    have eS : g 74 p = g (23 + 2 * p) 1 := (hQ p hp1).1
    have eF : xfos (g 74 p) (fun i => g 75 (40 * p + i)) 12 = xfos (g (23 + 2 * p) 1) (g (23 + 2 * p + 1)) 12 := by
      rw [eS]
      exact xfos_c (hZc p hp1) (fun n hn en i hi => (hQ p hp1).2 n hn en i hi)
    by_cases hf : xfos (g (23 + 2 * p) 1) (g (23 + 2 * p + 1)) 12 = 0
    · rw [if_pos hf]
      obtain ⟨m1, e, h12, h40, hxs⟩ := xfos_0 (hZc p hp1) (by decide) (by decide) hf
      rw [show xN (g (23 + 2 * p) 1) = m1 from by rw [e]; exact xN_nI (by omega)]
      have er : g 74 p = nI m1 := by rw [eS]; exact e
      have hrow : ∀ i, i < m1 → g 75 (40 * p + i) = g (23 + 2 * p + 1) i := (hQ p hp1).2 m1 h40 e
      have hf2 : xfos (g 74 p) (fun i => g 75 (40 * p + i)) 12 = 0 := by rw [eF]; exact hf
      have hxs2 : ∀ i, i < m1 → xstp (g 75 (40 * p + i)) := fun i hi => by rw [hrow i hi]; exact hxs i hi
      have e7 : ∀ i, i < m1 → nI (xN (g 75 (40 * p + i))) = g (23 + 2 * p + 1) i := fun i hi => by
        rw [hrow i hi]
        obtain ⟨v, hv, ev⟩ := hxs i hi
        rw [ev, xN_nI (by omega)]
      have e8 : ∀ i, i < m1 → xshw (g (b.1 + 1)) (Lw s / 4) (Lw s % 4) (fun i => xN (g 75 (40 * p + i))) i = xshw (g (b.1 + 1)) (Lw s / 4) (Lw s % 4) (fun i => xN (g (23 + 2 * p + 1) i)) i := fun i hi => xshw_c (fun j hj => by show xN (g 75 (40 * p + j)) = xN (g (23 + 2 * p + 1) j); rw [hrow j (by omega)])
      have eC : xpr (fun i => 12 - xbt (xfb (g (b.1 + 3)) T (nI ((fun i => xN (g 75 (40 * p + i))) i)) 0 = none) (xfb (g (b.1 + 3)) T (nI ((fun i => xN (g 75 (40 * p + i))) i)) ((xshw (g (b.1 + 1)) (Lw s / 4) (Lw s % 4) (fun i => xN (g 75 (40 * p + i)))) i) = none) e1) 1 m1 = xpr (fun i => 12 - xbt (xfb (g (b.1 + 3)) T (g (23 + 2 * p + 1) i) 0 = none) (xfb (g (b.1 + 3)) T (g (23 + 2 * p + 1) i) (xshw (g (b.1 + 1)) (Lw s / 4) (Lw s % 4) (fun i => xN (g (23 + 2 * p + 1) i)) i) = none) e1) 1 m1 := xpr_c m1 (fun i hi => by
        dsimp only
        rw [e7 i hi, e8 i hi])
      refine (c_X12_odds_ok hR hk he hp1 er h12 hf2 hxs2).weak (fun r M w => ?_)
      obtain ⟨g1, e2, eM, _⟩ := w
      refine ⟨b, _, _, eM, by rw [e2.1 0 (by decide) (by decide)] <;> rfl, ?_⟩
      rw [e2.2 20 (by decide), up_same, up_ni (by decide), up_same, eC]
    · rw [if_neg hf]
      exact (c_X12_odds_ref hR hk hp1 he (hZ p hp1) (by rw [eF]; exact hf)).weak (fun r M w => by obtain ⟨g1, e2, e1, _⟩ := w; exact ⟨b, _, _, e1, by rw [e2.1 0 (by decide) (by decide)], by rw [e2.2 20 (by decide)]⟩)
  · rw [if_neg hx]
    exact xTm (c_X12_odds_bad hR hx) (by first | rfl | (simp (disch := omega) only [xfC, xfR, up_na, up_ni, up_same, gfill_na, gset_na, gcopy_na, gseg_na])) (by first | rfl | (simp (disch := omega) only [xfC, xfR, up_na, up_ni, up_same, gfill_na, gset_na, gcopy_na, gseg_na]))
theorem ta_mid (hI : xIc b g G T Lw m) : xT 10 113 [.ref 0, .int x, .int y, .int z] (xH b g l) (fun _ M => xTo M (if (0 ≤ x ∧ x < nI G) ∧ (0 ≤ y ∧ y < 6) ∧ 0 ≤ z ∧ z ≤ 12 then (if xfos (g (23 + 2 * xN y) 1) (g (23 + 2 * xN y + 1)) 12 = 0 then (g 0 11, lN (xsm (fun i => xbt (xfb (g (b.1 + 3)) T (g (23 + 2 * xN y + 1) i) 0 = none) (xfb (g (b.1 + 3)) T (g (23 + 2 * xN y + 1) i) (xshw (g (b.1 + 1)) (Lw (xN x) / 4) (Lw (xN x) % 4) (fun i => xN (g (23 + 2 * xN y + 1) i)) i) = none) (xN z)) (xN (g (23 + 2 * xN y) 1)) / Nat.gcd (xsm (fun i => xbt (xfb (g (b.1 + 3)) T (g (23 + 2 * xN y + 1) i) 0 = none) (xfb (g (b.1 + 3)) T (g (23 + 2 * xN y + 1) i) (xshw (g (b.1 + 1)) (Lw (xN x) / 4) (Lw (xN x) % 4) (fun i => xN (g (23 + 2 * xN y + 1) i)) i) = none) (xN z)) (xN (g (23 + 2 * xN y) 1))) 12), lN (12 / Nat.gcd (xsm (fun i => xbt (xfb (g (b.1 + 3)) T (g (23 + 2 * xN y + 1) i) 0 = none) (xfb (g (b.1 + 3)) T (g (23 + 2 * xN y + 1) i) (xshw (g (b.1 + 1)) (Lw (xN x) / 4) (Lw (xN x) % 4) (fun i => xN (g (23 + 2 * xN y + 1) i)) i) = none) (xN z)) (xN (g (23 + 2 * xN y) 1))) 12)) else (g 0 11, l 0 12, l 0 13)) else (g 0 11, l 0 12, l 0 13)) (g 73 20, l 73 21, l 73 22)) := by
  obtain ⟨hb, hp, hR, htx, ⟨hs, hm⟩, hD, hK, hZ, hY⟩ := hI
  obtain ⟨hb1, hb2⟩ := xro_b hb
  have hq := xb2 hb
  have hbv : b.1 = 7 ∨ b.1 = 11 := by omega
  have hbw : b.2 = 7 ∨ b.2 = 11 := by omega
  have eG : g b.1 2 = nI G := hR.1.1
  have hG6 : G ≤ 6 := hR.1.2
  have eT : g b.1 4 = nI T := hR.2.1.1
  have hT8 : T ≤ 8 := hR.2.1.2
  by_cases hx : (0 ≤ x ∧ x < nI G) ∧ (0 ≤ y ∧ y < 6) ∧ 0 ≤ z ∧ z ≤ 12
  · rw [if_pos hx]
    obtain ⟨s, hk, rfl⟩ := xin (n := G) (by omega) hx.1
    obtain ⟨t, ht, rfl⟩ := xin (n := 6) (by omega) hx.2.1
    obtain ⟨e1, he, rfl⟩ := xinl (n := 12) (by omega) hx.2.2
    simp only [xN_nI (show s < 2 ^ 31 by omega), xN_nI (show t < 2 ^ 31 by omega), xN_nI (show e1 < 2 ^ 31 by omega)]
    by_cases hf : xfos (g (23 + 2 * t) 1) (g (23 + 2 * t + 1)) 12 = 0
    · rw [if_pos hf]
      obtain ⟨m1, e, h12, h40, hxs⟩ := xfos_0 (hZ t ht) (by decide) (by decide) hf
      rw [show xN (g (23 + 2 * t) 1) = m1 from by rw [e]; exact xN_nI (by omega)]
      exact xTm (c_X11_mid_ok hb1 hR hp hk ht he e h12 hf hxs) (by first | rfl | (simp (disch := omega) only [xfC, xfR, up_na, up_ni, up_same, gfill_na, gset_na, gcopy_na, gseg_na])) (by first | rfl | (simp (disch := omega) only [xfC, xfR, up_na, up_ni, up_same, gfill_na, gset_na, gcopy_na, gseg_na]))
    · rw [if_neg hf]
      exact xTm (c_X11_mid_ref hb1 hR hk ht (hZ t ht) he hf) (by first | rfl | (simp (disch := omega) only [xfC, xfR, up_na, up_ni, up_same, gfill_na, gset_na, gcopy_na, gseg_na])) (by first | rfl | (simp (disch := omega) only [xfC, xfR, up_na, up_ni, up_same, gfill_na, gset_na, gcopy_na, gseg_na]))
  · rw [if_neg hx]
    exact xTm (c_X11_mid_bad hb1 (by rw [eG]; exact hx)) (by first | rfl | (simp (disch := omega) only [xfC, xfR, up_na, up_ni, up_same, gfill_na, gset_na, gcopy_na, gseg_na])) (by first | rfl | (simp (disch := omega) only [xfC, xfR, up_na, up_ni, up_same, gfill_na, gset_na, gcopy_na, gseg_na]))
theorem tb_mid (hI : xIc b g G T Lw m) (hJ : xIr b g G T Lw m) : xT 10 226 [.ref 73, .int x, .int y, .int z] (xH b g l) (fun _ M => xTo M (g 0 11, l 0 12, l 0 13) (if (0 ≤ x ∧ x < nI G) ∧ (0 ≤ y ∧ y < 6) ∧ 0 ≤ z ∧ z ≤ 12 then (if xfos (g (23 + 2 * xN y) 1) (g (23 + 2 * xN y + 1)) 12 = 0 then (g 73 20, lN (xsm (fun i => xbt (xfb (g (b.1 + 3)) T (g (23 + 2 * xN y + 1) i) 0 = none) (xfb (g (b.1 + 3)) T (g (23 + 2 * xN y + 1) i) (xshw (g (b.1 + 1)) (Lw (xN x) / 4) (Lw (xN x) % 4) (fun i => xN (g (23 + 2 * xN y + 1) i)) i) = none) (xN z)) (xN (g (23 + 2 * xN y) 1)) / Nat.gcd (xsm (fun i => xbt (xfb (g (b.1 + 3)) T (g (23 + 2 * xN y + 1) i) 0 = none) (xfb (g (b.1 + 3)) T (g (23 + 2 * xN y + 1) i) (xshw (g (b.1 + 1)) (Lw (xN x) / 4) (Lw (xN x) % 4) (fun i => xN (g (23 + 2 * xN y + 1) i)) i) = none) (xN z)) (xN (g (23 + 2 * xN y) 1))) 12), lN (12 / Nat.gcd (xsm (fun i => xbt (xfb (g (b.1 + 3)) T (g (23 + 2 * xN y + 1) i) 0 = none) (xfb (g (b.1 + 3)) T (g (23 + 2 * xN y + 1) i) (xshw (g (b.1 + 1)) (Lw (xN x) / 4) (Lw (xN x) % 4) (fun i => xN (g (23 + 2 * xN y + 1) i)) i) = none) (xN z)) (xN (g (23 + 2 * xN y) 1))) 12)) else (g 73 20, l 73 21, l 73 22)) else (g 73 20, l 73 21, l 73 22))) := by
  obtain ⟨hb, hp, hRm, htx, ⟨_, hm⟩, hDk, hK, hZc, hY⟩ := hI
  obtain ⟨hR, hs, hD, hKr, hQ, hYr⟩ := hJ
  have hZ : ∀ r, r < 6 → xsz (g 74 r) 40 := fun r h => by rw [(hQ r h).1]; exact hZc r h
  have eG : g 73 10 = nI G := hR.1.1
  have hG6 : G ≤ 6 := hR.1.2
  have hT8 : T ≤ 8 := hR.2.1.2
  have hZ6 : ∀ q, q < 6 → xsz (g 74 q) 60 := fun q h => (hZ q h).elim Or.inl (fun ⟨n, a1, a2⟩ => Or.inr ⟨n, by omega, a2⟩)
  have hY6 : ∀ q, q < 4 → xsz (g 76 q) 60 := fun q h => by rw [(hYr q h).1]; exact hY q h
  have hK6 : ∀ q, q < 3 → xsz (g 86 q) 60 := fun q h => by
    rw [(hKr q h).1]
    rcases hK q h with z | ⟨n, z1, z2, _⟩
    · exact Or.inl z
    · exact Or.inr ⟨n, by omega, z2⟩
  by_cases hx : (0 ≤ x ∧ x < nI G) ∧ (0 ≤ y ∧ y < 6) ∧ 0 ≤ z ∧ z ≤ 12
  · rw [if_pos hx]
    obtain ⟨s, hk, rfl⟩ := xin (n := G) (by omega) hx.1
    obtain ⟨p, hp1, rfl⟩ := xin (n := 6) (by omega) hx.2.1
    obtain ⟨e1, he, rfl⟩ := xinl (n := 12) (by omega) hx.2.2
    simp only [xN_nI (show s < 2 ^ 31 by omega), xN_nI (show p < 2 ^ 31 by omega), xN_nI (show e1 < 2 ^ 31 by omega)]
    have eS : g 74 p = g (23 + 2 * p) 1 := (hQ p hp1).1
    have eF : xfos (g 74 p) (fun i => g 75 (40 * p + i)) 12 = xfos (g (23 + 2 * p) 1) (g (23 + 2 * p + 1)) 12 := by
      rw [eS]
      exact xfos_c (hZc p hp1) (fun n hn en i hi => (hQ p hp1).2 n hn en i hi)
    by_cases hf : xfos (g (23 + 2 * p) 1) (g (23 + 2 * p + 1)) 12 = 0
    · rw [if_pos hf]
      obtain ⟨m1, e, h12, h40, hxs⟩ := xfos_0 (hZc p hp1) (by decide) (by decide) hf
      rw [show xN (g (23 + 2 * p) 1) = m1 from by rw [e]; exact xN_nI (by omega)]
      have er : g 74 p = nI m1 := by rw [eS]; exact e
      have hrow : ∀ i, i < m1 → g 75 (40 * p + i) = g (23 + 2 * p + 1) i := (hQ p hp1).2 m1 h40 e
      have hf2 : xfos (g 74 p) (fun i => g 75 (40 * p + i)) 12 = 0 := by rw [eF]; exact hf
      have hxs2 : ∀ i, i < m1 → xstp (g 75 (40 * p + i)) := fun i hi => by rw [hrow i hi]; exact hxs i hi
      have e7 : ∀ i, i < m1 → nI (xN (g 75 (40 * p + i))) = g (23 + 2 * p + 1) i := fun i hi => by
        rw [hrow i hi]
        obtain ⟨v, hv, ev⟩ := hxs i hi
        rw [ev, xN_nI (by omega)]
      have e8 : ∀ i, i < m1 → xshw (g (b.1 + 1)) (Lw s / 4) (Lw s % 4) (fun i => xN (g 75 (40 * p + i))) i = xshw (g (b.1 + 1)) (Lw s / 4) (Lw s % 4) (fun i => xN (g (23 + 2 * p + 1) i)) i := fun i hi => xshw_c (fun j hj => by show xN (g 75 (40 * p + j)) = xN (g (23 + 2 * p + 1) j); rw [hrow j (by omega)])
      have eC : xsm (fun i => xbt (xfb (g (b.1 + 3)) T (nI ((fun i => xN (g 75 (40 * p + i))) i)) 0 = none) (xfb (g (b.1 + 3)) T (nI ((fun i => xN (g 75 (40 * p + i))) i)) ((xshw (g (b.1 + 1)) (Lw s / 4) (Lw s % 4) (fun i => xN (g 75 (40 * p + i)))) i) = none) e1) m1 = xsm (fun i => xbt (xfb (g (b.1 + 3)) T (g (23 + 2 * p + 1) i) 0 = none) (xfb (g (b.1 + 3)) T (g (23 + 2 * p + 1) i) (xshw (g (b.1 + 1)) (Lw s / 4) (Lw s % 4) (fun i => xN (g (23 + 2 * p + 1) i)) i) = none) e1) m1 := xsm_c m1 (fun i hi => by
        dsimp only
        rw [e7 i hi, e8 i hi])
      refine (c_X12_mid_ok hR hk he hp1 er h12 hf2 hxs2).weak (fun r M w => ?_)
      obtain ⟨g1, e2, eM, _⟩ := w
      refine ⟨b, _, _, eM, by rw [e2.1 0 (by decide) (by decide)] <;> rfl, ?_⟩
      rw [e2.2 20 (by decide), up_same, up_ni (by decide), up_same, eC]
    · rw [if_neg hf]
      exact (c_X12_mid_ref hR hk hp1 he (hZ p hp1) (by rw [eF]; exact hf)).weak (fun r M w => by obtain ⟨g1, e2, e1, _⟩ := w; exact ⟨b, _, _, e1, by rw [e2.1 0 (by decide) (by decide)], by rw [e2.2 20 (by decide)]⟩)
  · rw [if_neg hx]
    exact xTm (c_X12_mid_bad hR hx) (by first | rfl | (simp (disch := omega) only [xfC, xfR, up_na, up_ni, up_same, gfill_na, gset_na, gcopy_na, gseg_na])) (by first | rfl | (simp (disch := omega) only [xfC, xfR, up_na, up_ni, up_same, gfill_na, gset_na, gcopy_na, gseg_na]))
theorem ta_breaks (hI : xIc b g G T Lw m) : xT 10 99 [.ref 0, .int x, .int y] (xH b g l) (fun _ M => xTo M (if (0 ≤ x ∧ x < nI G) ∧ 0 ≤ y ∧ y < 6 then (if xfos (g (23 + 2 * xN y) 1) (g (23 + 2 * xN y + 1)) 12 = 0 then (nI (xcnt (fun i => !decide (xfb (g (b.1 + 3)) T (g (23 + 2 * xN y + 1) i) (xshw (g (b.1 + 1)) (Lw (xN x) / 4) (Lw (xN x) % 4) (fun i => xN (g (23 + 2 * xN y + 1) i)) i) = none)) (xN (g (23 + 2 * xN y) 1))), l 0 12, l 0 13) else (g 0 11, l 0 12, l 0 13)) else (g 0 11, l 0 12, l 0 13)) (g 73 20, l 73 21, l 73 22)) := by
  obtain ⟨hb, hp, hR, htx, ⟨hs, hm⟩, hD, hK, hZ, hY⟩ := hI
  obtain ⟨hb1, hb2⟩ := xro_b hb
  have hq := xb2 hb
  have hbv : b.1 = 7 ∨ b.1 = 11 := by omega
  have hbw : b.2 = 7 ∨ b.2 = 11 := by omega
  have eG : g b.1 2 = nI G := hR.1.1
  have hG6 : G ≤ 6 := hR.1.2
  have eT : g b.1 4 = nI T := hR.2.1.1
  have hT8 : T ≤ 8 := hR.2.1.2
  by_cases hx : (0 ≤ x ∧ x < nI G) ∧ 0 ≤ y ∧ y < 6
  · rw [if_pos hx]
    obtain ⟨s, hk, rfl⟩ := xin (n := G) (by omega) hx.1
    obtain ⟨t, ht, rfl⟩ := xin (n := 6) (by omega) hx.2
    simp only [xN_nI (show s < 2 ^ 31 by omega), xN_nI (show t < 2 ^ 31 by omega)]
    by_cases hf : xfos (g (23 + 2 * t) 1) (g (23 + 2 * t + 1)) 12 = 0
    · rw [if_pos hf]
      obtain ⟨m1, e, h12, h40, hxs⟩ := xfos_0 (hZ t ht) (by decide) (by decide) hf
      rw [show xN (g (23 + 2 * t) 1) = m1 from by rw [e]; exact xN_nI (by omega)]
      exact xTm (c_X11_breaks_ok hb1 hR hp hk ht e h12 hf hxs) (by first | rfl | (simp (disch := omega) only [xfC, xfR, up_na, up_ni, up_same, gfill_na, gset_na, gcopy_na, gseg_na])) (by first | rfl | (simp (disch := omega) only [xfC, xfR, up_na, up_ni, up_same, gfill_na, gset_na, gcopy_na, gseg_na]))
    · rw [if_neg hf]
      exact xTm (c_X11_breaks_ref hb1 hR hk ht (hZ t ht) hf) (by first | rfl | (simp (disch := omega) only [xfC, xfR, up_na, up_ni, up_same, gfill_na, gset_na, gcopy_na, gseg_na])) (by first | rfl | (simp (disch := omega) only [xfC, xfR, up_na, up_ni, up_same, gfill_na, gset_na, gcopy_na, gseg_na]))
  · rw [if_neg hx]
    exact xTm (c_X11_breaks_bad hb1 (by rw [eG]; exact hx)) (by first | rfl | (simp (disch := omega) only [xfC, xfR, up_na, up_ni, up_same, gfill_na, gset_na, gcopy_na, gseg_na])) (by first | rfl | (simp (disch := omega) only [xfC, xfR, up_na, up_ni, up_same, gfill_na, gset_na, gcopy_na, gseg_na]))
theorem tb_breaks (hI : xIc b g G T Lw m) (hJ : xIr b g G T Lw m) : xT 10 204 [.ref 73, .int x, .int y] (xH b g l) (fun _ M => xTo M (g 0 11, l 0 12, l 0 13) (if (0 ≤ x ∧ x < nI G) ∧ 0 ≤ y ∧ y < 6 then (if xfos (g (23 + 2 * xN y) 1) (g (23 + 2 * xN y + 1)) 12 = 0 then (nI (xcnt (fun i => !decide (xfb (g (b.1 + 3)) T (g (23 + 2 * xN y + 1) i) (xshw (g (b.1 + 1)) (Lw (xN x) / 4) (Lw (xN x) % 4) (fun i => xN (g (23 + 2 * xN y + 1) i)) i) = none)) (xN (g (23 + 2 * xN y) 1))), l 73 21, l 73 22) else (g 73 20, l 73 21, l 73 22)) else (g 73 20, l 73 21, l 73 22))) := by
  obtain ⟨hb, hp, hRm, htx, ⟨_, hm⟩, hDk, hK, hZc, hY⟩ := hI
  obtain ⟨hR, hs, hD, hKr, hQ, hYr⟩ := hJ
  have hZ : ∀ r, r < 6 → xsz (g 74 r) 40 := fun r h => by rw [(hQ r h).1]; exact hZc r h
  have eG : g 73 10 = nI G := hR.1.1
  have hG6 : G ≤ 6 := hR.1.2
  have hT8 : T ≤ 8 := hR.2.1.2
  have hZ6 : ∀ q, q < 6 → xsz (g 74 q) 60 := fun q h => (hZ q h).elim Or.inl (fun ⟨n, a1, a2⟩ => Or.inr ⟨n, by omega, a2⟩)
  have hY6 : ∀ q, q < 4 → xsz (g 76 q) 60 := fun q h => by rw [(hYr q h).1]; exact hY q h
  have hK6 : ∀ q, q < 3 → xsz (g 86 q) 60 := fun q h => by
    rw [(hKr q h).1]
    rcases hK q h with z | ⟨n, z1, z2, _⟩
    · exact Or.inl z
    · exact Or.inr ⟨n, by omega, z2⟩
  by_cases hx : (0 ≤ x ∧ x < nI G) ∧ 0 ≤ y ∧ y < 6
  · rw [if_pos hx]
    obtain ⟨s, hk, rfl⟩ := xin (n := G) (by omega) hx.1
    obtain ⟨p, hp1, rfl⟩ := xin (n := 6) (by omega) hx.2
    simp only [xN_nI (show s < 2 ^ 31 by omega), xN_nI (show p < 2 ^ 31 by omega)]
    have eS : g 74 p = g (23 + 2 * p) 1 := (hQ p hp1).1
    have eF : xfos (g 74 p) (fun i => g 75 (40 * p + i)) 12 = xfos (g (23 + 2 * p) 1) (g (23 + 2 * p + 1)) 12 := by
      rw [eS]
      exact xfos_c (hZc p hp1) (fun n hn en i hi => (hQ p hp1).2 n hn en i hi)
    by_cases hf : xfos (g (23 + 2 * p) 1) (g (23 + 2 * p + 1)) 12 = 0
    · rw [if_pos hf]
      obtain ⟨m1, e, h12, h40, hxs⟩ := xfos_0 (hZc p hp1) (by decide) (by decide) hf
      rw [show xN (g (23 + 2 * p) 1) = m1 from by rw [e]; exact xN_nI (by omega)]
      have er : g 74 p = nI m1 := by rw [eS]; exact e
      have hrow : ∀ i, i < m1 → g 75 (40 * p + i) = g (23 + 2 * p + 1) i := (hQ p hp1).2 m1 h40 e
      have hf2 : xfos (g 74 p) (fun i => g 75 (40 * p + i)) 12 = 0 := by rw [eF]; exact hf
      have hxs2 : ∀ i, i < m1 → xstp (g 75 (40 * p + i)) := fun i hi => by rw [hrow i hi]; exact hxs i hi
      have e7 : ∀ i, i < m1 → nI (xN (g 75 (40 * p + i))) = g (23 + 2 * p + 1) i := fun i hi => by
        rw [hrow i hi]
        obtain ⟨v, hv, ev⟩ := hxs i hi
        rw [ev, xN_nI (by omega)]
      have e8 : ∀ i, i < m1 → xshw (g (b.1 + 1)) (Lw s / 4) (Lw s % 4) (fun i => xN (g 75 (40 * p + i))) i = xshw (g (b.1 + 1)) (Lw s / 4) (Lw s % 4) (fun i => xN (g (23 + 2 * p + 1) i)) i := fun i hi => xshw_c (fun j hj => by show xN (g 75 (40 * p + j)) = xN (g (23 + 2 * p + 1) j); rw [hrow j (by omega)])
      refine (c_X12_breaks_ok hR hk hp1 er h12 hf2 hxs2).weak (fun r M w => ?_)
      obtain ⟨g1, e2, e1, _⟩ := w
      refine ⟨b, _, _, e1, by rw [up_na (by decide), e2.1 0 (by decide) (by decide)] <;> rfl, ?_⟩
      rw [up_same]
      refine congrArg (fun z => (nI z, l 73 21, l 73 22)) ?_
      refine xcnt_congr (fun i hi => ?_)
      dsimp only
      rw [e7 i hi, e8 i hi]
    · rw [if_neg hf]
      exact (c_X12_breaks_ref hR hk hp1 (hZ p hp1) (by rw [eF]; exact hf)).weak (fun r M w => by obtain ⟨g1, e2, e1, _⟩ := w; exact ⟨b, _, _, e1, by rw [e2.1 0 (by decide) (by decide)], by rw [e2.2 20 (by decide)]⟩)
  · rw [if_neg hx]
    exact xTm (c_X12_breaks_bad hR hx) (by first | rfl | (simp (disch := omega) only [xfC, xfR, up_na, up_ni, up_same, gfill_na, gset_na, gcopy_na, gseg_na])) (by first | rfl | (simp (disch := omega) only [xfC, xfR, up_na, up_ni, up_same, gfill_na, gset_na, gcopy_na, gseg_na]))
theorem ta_fit (hI : xIc b g G T Lw m) : xT 10 101 [.ref 0, .int x, .int y] (xH b g l) (fun _ M => xTo M (if (0 ≤ x ∧ x < 6) ∧ 0 ≤ y ∧ y < 6 then (if xfop (g (23 + 2 * xN x) 1) (g (23 + 2 * xN x + 1)) (g (23 + 2 * xN y) 1) (g (23 + 2 * xN y + 1)) 12 = 0 then (xfI (xfst (fun i => !decide (g (23 + 2 * xN x + 1) i = g (23 + 2 * xN y + 1) i)) (xN (g (23 + 2 * xN x) 1))), l 0 12, l 0 13) else (g 0 11, l 0 12, l 0 13)) else (g 0 11, l 0 12, l 0 13)) (g 73 20, l 73 21, l 73 22)) := by
  obtain ⟨hb, hp, hR, htx, ⟨hs, hm⟩, hD, hK, hZ, hY⟩ := hI
  obtain ⟨hb1, hb2⟩ := xro_b hb
  have hq := xb2 hb
  have hbv : b.1 = 7 ∨ b.1 = 11 := by omega
  have hbw : b.2 = 7 ∨ b.2 = 11 := by omega
  have eG : g b.1 2 = nI G := hR.1.1
  have hG6 : G ≤ 6 := hR.1.2
  have eT : g b.1 4 = nI T := hR.2.1.1
  have hT8 : T ≤ 8 := hR.2.1.2
  by_cases hx : (0 ≤ x ∧ x < 6) ∧ 0 ≤ y ∧ y < 6
  · rw [if_pos hx]
    obtain ⟨t, ht, rfl⟩ := xin (n := 6) (by omega) hx.1
    obtain ⟨p, hp1, rfl⟩ := xin (n := 6) (by omega) hx.2
    simp only [xN_nI (show t < 2 ^ 31 by omega), xN_nI (show p < 2 ^ 31 by omega)]
    by_cases hf : xfop (g (23 + 2 * t) 1) (g (23 + 2 * t + 1)) (g (23 + 2 * p) 1) (g (23 + 2 * p + 1)) 12 = 0
    · rw [if_pos hf]
      obtain ⟨f1, f2, f3⟩ := xfop_0 hf
      obtain ⟨m1, e, h12, h40, hxs⟩ := xfos_0 (hZ t ht) (by decide) (by decide) f1
      obtain ⟨m2, e0, _, h402, hxs2⟩ := xfos_0 (hZ p hp1) (by decide) (by decide) f2
      obtain rfl : m1 = m2 := nI_inj (by omega) (by omega) (by rw [← e, f3, e0])
      rw [show xN (g (23 + 2 * t) 1) = m1 from by rw [e]; exact xN_nI (by omega)]
      exact xTm (c_X11_fit_ok ht hp1 e e0 h12 hf hxs hxs2) (by first | rfl | (simp (disch := omega) only [xfC, xfR, up_na, up_ni, up_same, gfill_na, gset_na, gcopy_na, gseg_na])) (by first | rfl | (simp (disch := omega) only [xfC, xfR, up_na, up_ni, up_same, gfill_na, gset_na, gcopy_na, gseg_na]))
    · rw [if_neg hf]
      exact xTm (c_X11_fit_ref ht (hZ t ht) hp1 (hZ p hp1) hf) (by first | rfl | (simp (disch := omega) only [xfC, xfR, up_na, up_ni, up_same, gfill_na, gset_na, gcopy_na, gseg_na])) (by first | rfl | (simp (disch := omega) only [xfC, xfR, up_na, up_ni, up_same, gfill_na, gset_na, gcopy_na, gseg_na]))
  · rw [if_neg hx]
    exact xTm (c_X11_fit_bad hx) (by first | rfl | (simp (disch := omega) only [xfC, xfR, up_na, up_ni, up_same, gfill_na, gset_na, gcopy_na, gseg_na])) (by first | rfl | (simp (disch := omega) only [xfC, xfR, up_na, up_ni, up_same, gfill_na, gset_na, gcopy_na, gseg_na]))
theorem tb_fit (hI : xIc b g G T Lw m) (hJ : xIr b g G T Lw m) : xT 10 206 [.ref 73, .int x, .int y] (xH b g l) (fun _ M => xTo M (g 0 11, l 0 12, l 0 13) (if (0 ≤ x ∧ x < 6) ∧ 0 ≤ y ∧ y < 6 then (if xfop (g (23 + 2 * xN x) 1) (g (23 + 2 * xN x + 1)) (g (23 + 2 * xN y) 1) (g (23 + 2 * xN y + 1)) 12 = 0 then (xfI (xfst (fun i => !decide (g (23 + 2 * xN x + 1) i = g (23 + 2 * xN y + 1) i)) (xN (g (23 + 2 * xN x) 1))), l 73 21, l 73 22) else (g 73 20, l 73 21, l 73 22)) else (g 73 20, l 73 21, l 73 22))) := by
  obtain ⟨hb, hp, hRm, htx, ⟨_, hm⟩, hDk, hK, hZc, hY⟩ := hI
  obtain ⟨hR, hs, hD, hKr, hQ, hYr⟩ := hJ
  have hZ : ∀ r, r < 6 → xsz (g 74 r) 40 := fun r h => by rw [(hQ r h).1]; exact hZc r h
  have eG : g 73 10 = nI G := hR.1.1
  have hG6 : G ≤ 6 := hR.1.2
  have hT8 : T ≤ 8 := hR.2.1.2
  have hZ6 : ∀ q, q < 6 → xsz (g 74 q) 60 := fun q h => (hZ q h).elim Or.inl (fun ⟨n, a1, a2⟩ => Or.inr ⟨n, by omega, a2⟩)
  have hY6 : ∀ q, q < 4 → xsz (g 76 q) 60 := fun q h => by rw [(hYr q h).1]; exact hY q h
  have hK6 : ∀ q, q < 3 → xsz (g 86 q) 60 := fun q h => by
    rw [(hKr q h).1]
    rcases hK q h with z | ⟨n, z1, z2, _⟩
    · exact Or.inl z
    · exact Or.inr ⟨n, by omega, z2⟩
  by_cases hx : (0 ≤ x ∧ x < 6) ∧ 0 ≤ y ∧ y < 6
  · rw [if_pos hx]
    obtain ⟨p, hp1, rfl⟩ := xin (n := 6) (by omega) hx.1
    obtain ⟨s, hs1, rfl⟩ := xin (n := 6) (by omega) hx.2
    simp only [xN_nI (show p < 2 ^ 31 by omega), xN_nI (show s < 2 ^ 31 by omega)]
    have eF : xfop (g 74 p) (fun i => g 75 (40 * p + i)) (g 74 s) (fun i => g 75 (40 * s + i)) 12 = xfop (g (23 + 2 * p) 1) (g (23 + 2 * p + 1)) (g (23 + 2 * s) 1) (g (23 + 2 * s + 1)) 12 := by
      rw [(hQ p hp1).1, (hQ s hs1).1]
      exact xfop_c (hZc p hp1) (hZc s hs1) (fun n hn en i hi => (hQ p hp1).2 n hn en i hi) (fun n hn en i hi => (hQ s hs1).2 n hn en i hi)
    by_cases hf : xfop (g (23 + 2 * p) 1) (g (23 + 2 * p + 1)) (g (23 + 2 * s) 1) (g (23 + 2 * s + 1)) 12 = 0
    · rw [if_pos hf]
      obtain ⟨f1, f2, f3⟩ := xfop_0 hf
      obtain ⟨m1, e, h12, h40, hxs⟩ := xfos_0 (hZc p hp1) (by decide) (by decide) f1
      obtain ⟨m2, e0, _, h402, hxs2⟩ := xfos_0 (hZc s hs1) (by decide) (by decide) f2
      obtain rfl : m1 = m2 := nI_inj (by omega) (by omega) (by rw [← e, f3, e0])
      rw [show xN (g (23 + 2 * p) 1) = m1 from by rw [e]; exact xN_nI (by omega)]
      have er : g 74 p = nI m1 := by rw [(hQ p hp1).1]; exact e
      have er2 : g 74 s = nI m1 := by rw [(hQ s hs1).1]; exact e0
      have hrow : ∀ i, i < m1 → g 75 (40 * p + i) = g (23 + 2 * p + 1) i := (hQ p hp1).2 m1 h40 e
      have hrow2 : ∀ i, i < m1 → g 75 (40 * s + i) = g (23 + 2 * s + 1) i := (hQ s hs1).2 m1 h40 e0
      have hg := xfop_0 (eF.trans hf)
      have hy1 : ∀ i, i < m1 → xstp (g 75 (40 * p + i)) := fun i hi => by rw [hrow i hi]; exact hxs i hi
      have hy2 : ∀ i, i < m1 → xstp (g 75 (40 * s + i)) := fun i hi => by rw [hrow2 i hi]; exact hxs2 i hi
      refine (c_X12_fit_ok hp1 hs1 er er2 h12 hg.1 hg.2.1 hy1 hy2).weak (fun r M w => ?_)
      obtain ⟨g1, e2, e1, _⟩ := w
      refine ⟨b, _, _, e1, by rw [up_na (by decide), e2.1 0 (by decide) (by decide)] <;> rfl, ?_⟩
      rw [up_same]
      refine congrArg (fun z => (xfI z, l 73 21, l 73 22)) ?_
      exact xfst_congr (fun i hi => by rw [hrow i hi, hrow2 i hi])
    · rw [if_neg hf]
      exact (c_X12_fit_ref hp1 (hZ p hp1) hs1 (hZ s hs1) (by rw [eF]; exact hf)).weak (fun r M w => by obtain ⟨g1, e2, e1, _⟩ := w; exact ⟨b, _, _, e1, by rw [e2.1 0 (by decide) (by decide)], by rw [e2.2 20 (by decide)]⟩)
  · rw [if_neg hx]
    exact xTm (c_X12_fit_bad hx) (by first | rfl | (simp (disch := omega) only [xfC, xfR, up_na, up_ni, up_same, gfill_na, gset_na, gcopy_na, gseg_na])) (by first | rfl | (simp (disch := omega) only [xfC, xfR, up_na, up_ni, up_same, gfill_na, gset_na, gcopy_na, gseg_na]))
theorem ta_he (hI : xIc b g G T Lw m) : xT 10 107 [.ref 0, .int x, .int y, .int z] (xH b g l) (fun _ M => xTo M (if (0 ≤ x ∧ x < nI G) ∧ (0 ≤ y ∧ y < 6) ∧ 0 ≤ z ∧ z < 6 then (if xfop (g (23 + 2 * xN y) 1) (g (23 + 2 * xN y + 1)) (g (23 + 2 * xN z) 1) (g (23 + 2 * xN z + 1)) 12 = 0 then (xhe (xfst (fun i => !decide (xshw (g (b.1 + 1)) (Lw (xN x) / 4) (Lw (xN x) % 4) (fun i => xN (g (23 + 2 * xN y + 1) i)) i = g (23 + 2 * xN z + 1) i)) (xN (g (23 + 2 * xN y) 1))) (xfst (fun i => !decide (xshw (g (b.1 + 1)) (Lw (xN x) / 4) (Lw (xN x) % 4) (fun i => xN (g (23 + 2 * xN z + 1) i)) i = g (23 + 2 * xN y + 1) i)) (xN (g (23 + 2 * xN y) 1))), l 0 12, l 0 13) else (g 0 11, l 0 12, l 0 13)) else (g 0 11, l 0 12, l 0 13)) (g 73 20, l 73 21, l 73 22)) := by
  obtain ⟨hb, hp, hR, htx, ⟨hs, hm⟩, hD, hK, hZ, hY⟩ := hI
  obtain ⟨hb1, hb2⟩ := xro_b hb
  have hq := xb2 hb
  have hbv : b.1 = 7 ∨ b.1 = 11 := by omega
  have hbw : b.2 = 7 ∨ b.2 = 11 := by omega
  have eG : g b.1 2 = nI G := hR.1.1
  have hG6 : G ≤ 6 := hR.1.2
  have eT : g b.1 4 = nI T := hR.2.1.1
  have hT8 : T ≤ 8 := hR.2.1.2
  by_cases hx : (0 ≤ x ∧ x < nI G) ∧ (0 ≤ y ∧ y < 6) ∧ 0 ≤ z ∧ z < 6
  · rw [if_pos hx]
    obtain ⟨s, hk, rfl⟩ := xin (n := G) (by omega) hx.1
    obtain ⟨t, ht, rfl⟩ := xin (n := 6) (by omega) hx.2.1
    obtain ⟨p, hp1, rfl⟩ := xin (n := 6) (by omega) hx.2.2
    simp only [xN_nI (show s < 2 ^ 31 by omega), xN_nI (show t < 2 ^ 31 by omega), xN_nI (show p < 2 ^ 31 by omega)]
    by_cases hf : xfop (g (23 + 2 * t) 1) (g (23 + 2 * t + 1)) (g (23 + 2 * p) 1) (g (23 + 2 * p + 1)) 12 = 0
    · rw [if_pos hf]
      obtain ⟨f1, f2, f3⟩ := xfop_0 hf
      obtain ⟨m1, e, h12, h40, hxs⟩ := xfos_0 (hZ t ht) (by decide) (by decide) f1
      obtain ⟨m2, e0, _, h402, hxs2⟩ := xfos_0 (hZ p hp1) (by decide) (by decide) f2
      obtain rfl : m1 = m2 := nI_inj (by omega) (by omega) (by rw [← e, f3, e0])
      rw [show xN (g (23 + 2 * t) 1) = m1 from by rw [e]; exact xN_nI (by omega)]
      exact xTm (c_X11_he_ok hb1 hR hp hk ht hp1 e e0 h12 hf hxs hxs2) (by first | rfl | (simp (disch := omega) only [xfC, xfR, up_na, up_ni, up_same, gfill_na, gset_na, gcopy_na, gseg_na])) (by first | rfl | (simp (disch := omega) only [xfC, xfR, up_na, up_ni, up_same, gfill_na, gset_na, gcopy_na, gseg_na]))
    · rw [if_neg hf]
      exact xTm (c_X11_he_ref hb1 hR hk ht (hZ t ht) hp1 (hZ p hp1) hf) (by first | rfl | (simp (disch := omega) only [xfC, xfR, up_na, up_ni, up_same, gfill_na, gset_na, gcopy_na, gseg_na])) (by first | rfl | (simp (disch := omega) only [xfC, xfR, up_na, up_ni, up_same, gfill_na, gset_na, gcopy_na, gseg_na]))
  · rw [if_neg hx]
    exact xTm (c_X11_he_bad hb1 (by rw [eG]; exact hx)) (by first | rfl | (simp (disch := omega) only [xfC, xfR, up_na, up_ni, up_same, gfill_na, gset_na, gcopy_na, gseg_na])) (by first | rfl | (simp (disch := omega) only [xfC, xfR, up_na, up_ni, up_same, gfill_na, gset_na, gcopy_na, gseg_na]))
theorem tb_he (hI : xIc b g G T Lw m) (hJ : xIr b g G T Lw m) : xT 10 217 [.ref 73, .int x, .int y, .int z] (xH b g l) (fun _ M => xTo M (g 0 11, l 0 12, l 0 13) (if (0 ≤ x ∧ x < nI G) ∧ (0 ≤ y ∧ y < 6) ∧ 0 ≤ z ∧ z < 6 then (if xfop (g (23 + 2 * xN y) 1) (g (23 + 2 * xN y + 1)) (g (23 + 2 * xN z) 1) (g (23 + 2 * xN z + 1)) 12 = 0 then (xhe (xfst (fun i => !decide (xshw (g (b.1 + 1)) (Lw (xN x) / 4) (Lw (xN x) % 4) (fun i => xN (g (23 + 2 * xN y + 1) i)) i = g (23 + 2 * xN z + 1) i)) (xN (g (23 + 2 * xN y) 1))) (xfst (fun i => !decide (xshw (g (b.1 + 1)) (Lw (xN x) / 4) (Lw (xN x) % 4) (fun i => xN (g (23 + 2 * xN z + 1) i)) i = g (23 + 2 * xN y + 1) i)) (xN (g (23 + 2 * xN y) 1))), l 73 21, l 73 22) else (g 73 20, l 73 21, l 73 22)) else (g 73 20, l 73 21, l 73 22))) := by
  obtain ⟨hb, hp, hRm, htx, ⟨_, hm⟩, hDk, hK, hZc, hY⟩ := hI
  obtain ⟨hR, hs, hD, hKr, hQ, hYr⟩ := hJ
  have hZ : ∀ r, r < 6 → xsz (g 74 r) 40 := fun r h => by rw [(hQ r h).1]; exact hZc r h
  have eG : g 73 10 = nI G := hR.1.1
  have hG6 : G ≤ 6 := hR.1.2
  have hT8 : T ≤ 8 := hR.2.1.2
  have hZ6 : ∀ q, q < 6 → xsz (g 74 q) 60 := fun q h => (hZ q h).elim Or.inl (fun ⟨n, a1, a2⟩ => Or.inr ⟨n, by omega, a2⟩)
  have hY6 : ∀ q, q < 4 → xsz (g 76 q) 60 := fun q h => by rw [(hYr q h).1]; exact hY q h
  have hK6 : ∀ q, q < 3 → xsz (g 86 q) 60 := fun q h => by
    rw [(hKr q h).1]
    rcases hK q h with z | ⟨n, z1, z2, _⟩
    · exact Or.inl z
    · exact Or.inr ⟨n, by omega, z2⟩
  by_cases hx : (0 ≤ x ∧ x < nI G) ∧ (0 ≤ y ∧ y < 6) ∧ 0 ≤ z ∧ z < 6
  · rw [if_pos hx]
    obtain ⟨t, hk, rfl⟩ := xin (n := G) (by omega) hx.1
    obtain ⟨p, hp1, rfl⟩ := xin (n := 6) (by omega) hx.2.1
    obtain ⟨s, hs1, rfl⟩ := xin (n := 6) (by omega) hx.2.2
    simp only [xN_nI (show t < 2 ^ 31 by omega), xN_nI (show p < 2 ^ 31 by omega), xN_nI (show s < 2 ^ 31 by omega)]
    have eF : xfop (g 74 p) (fun i => g 75 (40 * p + i)) (g 74 s) (fun i => g 75 (40 * s + i)) 12 = xfop (g (23 + 2 * p) 1) (g (23 + 2 * p + 1)) (g (23 + 2 * s) 1) (g (23 + 2 * s + 1)) 12 := by
      rw [(hQ p hp1).1, (hQ s hs1).1]
      exact xfop_c (hZc p hp1) (hZc s hs1) (fun n hn en i hi => (hQ p hp1).2 n hn en i hi) (fun n hn en i hi => (hQ s hs1).2 n hn en i hi)
    by_cases hf : xfop (g (23 + 2 * p) 1) (g (23 + 2 * p + 1)) (g (23 + 2 * s) 1) (g (23 + 2 * s + 1)) 12 = 0
    · rw [if_pos hf]
      obtain ⟨f1, f2, f3⟩ := xfop_0 hf
      obtain ⟨m1, e, h12, h40, hxs⟩ := xfos_0 (hZc p hp1) (by decide) (by decide) f1
      obtain ⟨m2, e0, _, h402, hxs2⟩ := xfos_0 (hZc s hs1) (by decide) (by decide) f2
      obtain rfl : m1 = m2 := nI_inj (by omega) (by omega) (by rw [← e, f3, e0])
      rw [show xN (g (23 + 2 * p) 1) = m1 from by rw [e]; exact xN_nI (by omega)]
      have er : g 74 p = nI m1 := by rw [(hQ p hp1).1]; exact e
      have er2 : g 74 s = nI m1 := by rw [(hQ s hs1).1]; exact e0
      have hrow : ∀ i, i < m1 → g 75 (40 * p + i) = g (23 + 2 * p + 1) i := (hQ p hp1).2 m1 h40 e
      have hrow2 : ∀ i, i < m1 → g 75 (40 * s + i) = g (23 + 2 * s + 1) i := (hQ s hs1).2 m1 h40 e0
      have hg := xfop_0 (eF.trans hf)
      have hy1 : ∀ i, i < m1 → xstp (g 75 (40 * p + i)) := fun i hi => by rw [hrow i hi]; exact hxs i hi
      have hy2 : ∀ i, i < m1 → xstp (g 75 (40 * s + i)) := fun i hi => by rw [hrow2 i hi]; exact hxs2 i hi
      have e8 : xfst (fun i => !decide (xshw (g (b.1 + 1)) (Lw t / 4) (Lw t % 4) (fun i => xN (g 75 (40 * p + i))) i = g 75 (40 * s + i))) m1 = xfst (fun i => !decide (xshw (g (b.1 + 1)) (Lw t / 4) (Lw t % 4) (fun i => xN (g (23 + 2 * p + 1) i)) i = g (23 + 2 * s + 1) i)) m1 := xfst_congr (fun i hi => by
        rw [hrow2 i hi, show xshw (g (b.1 + 1)) (Lw t / 4) (Lw t % 4) (fun i => xN (g 75 (40 * p + i))) i = xshw (g (b.1 + 1)) (Lw t / 4) (Lw t % 4) (fun i => xN (g (23 + 2 * p + 1) i)) i from xshw_c (fun j hj => by show xN (g 75 (40 * p + j)) = xN (g (23 + 2 * p + 1) j); rw [hrow j (by omega)])])
      have e9 : xfst (fun i => !decide (xshw (g (b.1 + 1)) (Lw t / 4) (Lw t % 4) (fun i => xN (g 75 (40 * s + i))) i = g 75 (40 * p + i))) m1 = xfst (fun i => !decide (xshw (g (b.1 + 1)) (Lw t / 4) (Lw t % 4) (fun i => xN (g (23 + 2 * s + 1) i)) i = g (23 + 2 * p + 1) i)) m1 := xfst_congr (fun i hi => by
        rw [hrow i hi, show xshw (g (b.1 + 1)) (Lw t / 4) (Lw t % 4) (fun i => xN (g 75 (40 * s + i))) i = xshw (g (b.1 + 1)) (Lw t / 4) (Lw t % 4) (fun i => xN (g (23 + 2 * s + 1) i)) i from xshw_c (fun j hj => by show xN (g 75 (40 * s + j)) = xN (g (23 + 2 * s + 1) j); rw [hrow2 j (by omega)])])
      refine (c_X12_he_ok hR hk hp1 hs1 er er2 h12 hg.1 hg.2.1 hy1 hy2).weak (fun r M w => ?_)
      obtain ⟨g1, e2, e1, _⟩ := w
      refine ⟨b, _, _, e1, by rw [up_na (by decide), e2.1 0 (by decide) (by decide)] <;> rfl, ?_⟩
      rw [up_same]
      refine congrArg (fun z => (z, l 73 21, l 73 22)) ?_
      rw [← e8, ← e9]
      exact xhe_e.symm
    · rw [if_neg hf]
      exact (c_X12_he_ref hR hk hp1 (hZ p hp1) hs1 (hZ s hs1) (by rw [eF]; exact hf)).weak (fun r M w => by obtain ⟨g1, e2, e1, _⟩ := w; exact ⟨b, _, _, e1, by rw [e2.1 0 (by decide) (by decide)], by rw [e2.2 20 (by decide)]⟩)
  · rw [if_neg hx]
    exact xTm (c_X12_he_bad hR hx) (by first | rfl | (simp (disch := omega) only [xfC, xfR, up_na, up_ni, up_same, gfill_na, gset_na, gcopy_na, gseg_na])) (by first | rfl | (simp (disch := omega) only [xfC, xfR, up_na, up_ni, up_same, gfill_na, gset_na, gcopy_na, gseg_na]))
theorem ta_next (hI : xIc b g G T Lw m) : xT 10 106 [.ref 0, .int x, .int y] (xH b g l) (fun _ M => xTo M (if (0 ≤ x ∧ x < 6) ∧ 0 ≤ y ∧ y < 6 then (if xfop (g (23 + 2 * xN x) 1) (g (23 + 2 * xN x + 1)) (g (23 + 2 * xN y) 1) (g (23 + 2 * xN y + 1)) 11 = 0 then (if xcnt (fun q => decide (xfst (fun i => !decide (xshw (g (b.1 + 1)) (q / 4) (q % 4) (fun i => xN (g (23 + 2 * xN x + 1) i)) i = g (23 + 2 * xN y + 1) i)) (xN (g (23 + 2 * xN x) 1)) = none)) 24 < 2 then (g 0 11, l 0 12, l 0 13) else ((nI (xnx (fun s => xmx (fun j => decide ((xbits (fun q => decide (xfst (fun i => !decide (xshw (g (b.1 + 1)) (q / 4) (q % 4) (fun i => xN (g (23 + 2 * xN x + 1) i)) i = g (23 + 2 * xN y + 1) i)) (xN (g (23 + 2 * xN x) 1)) = none)) 24 >>> (nI j &&& 31)) &&& 1 = 1)) (fun q => xN (xshw (g (b.1 + 1)) (q / 4) (q % 4) (fup (fun i => xN (g (23 + 2 * xN x + 1) i)) (xN (g (23 + 2 * xN x) 1)) s) (xN (g (23 + 2 * xN x) 1)))) 24) 6).1), l 0 12, l 0 13)) else (g 0 11, l 0 12, l 0 13)) else (g 0 11, l 0 12, l 0 13)) (g 73 20, l 73 21, l 73 22)) := by
  obtain ⟨hb, hp, hR, htx, ⟨hs, hm⟩, hD, hK, hZ, hY⟩ := hI
  obtain ⟨hb1, hb2⟩ := xro_b hb
  have hq := xb2 hb
  have hbv : b.1 = 7 ∨ b.1 = 11 := by omega
  have hbw : b.2 = 7 ∨ b.2 = 11 := by omega
  have eG : g b.1 2 = nI G := hR.1.1
  have hG6 : G ≤ 6 := hR.1.2
  have eT : g b.1 4 = nI T := hR.2.1.1
  have hT8 : T ≤ 8 := hR.2.1.2
  by_cases hx : (0 ≤ x ∧ x < 6) ∧ 0 ≤ y ∧ y < 6
  · rw [if_pos hx]
    obtain ⟨t, ht, rfl⟩ := xin (n := 6) (by omega) hx.1
    obtain ⟨p, hp1, rfl⟩ := xin (n := 6) (by omega) hx.2
    simp only [xN_nI (show t < 2 ^ 31 by omega), xN_nI (show p < 2 ^ 31 by omega)]
    by_cases hf : xfop (g (23 + 2 * t) 1) (g (23 + 2 * t + 1)) (g (23 + 2 * p) 1) (g (23 + 2 * p + 1)) 11 = 0
    · rw [if_pos hf]
      obtain ⟨f1, f2, f3⟩ := xfop_0 hf
      obtain ⟨m1, e, h11, h40, hxs⟩ := xfos_0 (hZ t ht) (by decide) (by decide) f1
      obtain ⟨m2, e2, _, h402, hxs2⟩ := xfos_0 (hZ p hp1) (by decide) (by decide) f2
      obtain rfl : m1 = m2 := nI_inj (by omega) (by omega) (by rw [← e, f3, e2])
      rw [show xN (g (23 + 2 * t) 1) = m1 from by rw [e]; exact xN_nI (by omega)]
      have hc24 := xcnt_le (fun q => decide (xfst (fun i => !decide (xshw (g (b.1 + 1)) (q / 4) (q % 4) (fun i => xN (g (23 + 2 * t + 1) i)) i = g (23 + 2 * p + 1) i)) m1 = none)) 24
      have hbc := xcnt_24 (fun q => decide (xfst (fun i => !decide (xshw (g (b.1 + 1)) (q / 4) (q % 4) (fun i => xN (g (23 + 2 * t + 1) i)) i = g (23 + 2 * p + 1) i)) m1 = none))
      by_cases h2 : xcnt (fun q => decide (xfst (fun i => !decide (xshw (g (b.1 + 1)) (q / 4) (q % 4) (fun i => xN (g (23 + 2 * t + 1) i)) i = g (23 + 2 * p + 1) i)) m1 = none)) 24 < 2
      · rw [if_pos h2]
        exact xTm (c_X11_next_none hb1 hR hp ht hp1 e e2 h11 hf hxs hxs2 (by rw [hbc]; exact (nI_lt2 (by omega)).mpr h2)) (by first | rfl | (simp (disch := omega) only [xfC, xfR, up_na, up_ni, up_same, gfill_na, gset_na, gcopy_na, gseg_na])) (by first | rfl | (simp (disch := omega) only [xfC, xfR, up_na, up_ni, up_same, gfill_na, gset_na, gcopy_na, gseg_na]))
      · rw [if_neg h2]
        exact (c_X11_next_ok hb1 hR hp hbv ht hp1 e e2 h11 hf hxs hxs2 (by rw [hbc]; exact fun z => h2 ((nI_lt2 (by omega)).mp z))).weak (fun r M w => by
          obtain ⟨S, ⟨q1, _, _⟩, q2, _⟩ := w
          exact ⟨b, _, _, q2, rfl, by rw [up_na (by decide), q1 73 (by decide) (by decide) (by decide)]⟩)
    · rw [if_neg hf]
      exact xTm (c_X11_next_ref ht (hZ t ht) hp1 (hZ p hp1) hf) (by first | rfl | (simp (disch := omega) only [xfC, xfR, up_na, up_ni, up_same, gfill_na, gset_na, gcopy_na, gseg_na])) (by first | rfl | (simp (disch := omega) only [xfC, xfR, up_na, up_ni, up_same, gfill_na, gset_na, gcopy_na, gseg_na]))
  · rw [if_neg hx]
    exact xTm (c_X11_next_bad hx) (by first | rfl | (simp (disch := omega) only [xfC, xfR, up_na, up_ni, up_same, gfill_na, gset_na, gcopy_na, gseg_na])) (by first | rfl | (simp (disch := omega) only [xfC, xfR, up_na, up_ni, up_same, gfill_na, gset_na, gcopy_na, gseg_na]))
theorem tb_next (hI : xIc b g G T Lw m) (hJ : xIr b g G T Lw m) : xT 10 216 [.ref 73, .int x, .int y] (xH b g l) (fun _ M => xTo M (g 0 11, l 0 12, l 0 13) (if (0 ≤ x ∧ x < 6) ∧ 0 ≤ y ∧ y < 6 then (if xfop (g (23 + 2 * xN x) 1) (g (23 + 2 * xN x + 1)) (g (23 + 2 * xN y) 1) (g (23 + 2 * xN y + 1)) 11 = 0 then (if xcnt (fun q => decide (xfst (fun i => !decide (xshw (g (b.1 + 1)) (q / 4) (q % 4) (fun i => xN (g (23 + 2 * xN x + 1) i)) i = g (23 + 2 * xN y + 1) i)) (xN (g (23 + 2 * xN x) 1)) = none)) 24 < 2 then (g 73 20, l 73 21, l 73 22) else ((nI (xnx (fun s => xmx (fun j => decide ((xbits (fun q => decide (xfst (fun i => !decide (xshw (g (b.1 + 1)) (q / 4) (q % 4) (fun i => xN (g (23 + 2 * xN x + 1) i)) i = g (23 + 2 * xN y + 1) i)) (xN (g (23 + 2 * xN x) 1)) = none)) 24 >>> (nI j &&& 31)) &&& 1 = 1)) (fun q => xN (xshw (g (b.1 + 1)) (q / 4) (q % 4) (fup (fun i => xN (g (23 + 2 * xN x + 1) i)) (xN (g (23 + 2 * xN x) 1)) s) (xN (g (23 + 2 * xN x) 1)))) 24) 6).1), l 73 21, l 73 22)) else (g 73 20, l 73 21, l 73 22)) else (g 73 20, l 73 21, l 73 22))) := by
  obtain ⟨hb, hp, hRm, htx, ⟨_, hm⟩, hDk, hK, hZc, hY⟩ := hI
  obtain ⟨hR, hs, hD, hKr, hQ, hYr⟩ := hJ
  have hZ : ∀ r, r < 6 → xsz (g 74 r) 40 := fun r h => by rw [(hQ r h).1]; exact hZc r h
  have eG : g 73 10 = nI G := hR.1.1
  have hG6 : G ≤ 6 := hR.1.2
  have hT8 : T ≤ 8 := hR.2.1.2
  have hZ6 : ∀ q, q < 6 → xsz (g 74 q) 60 := fun q h => (hZ q h).elim Or.inl (fun ⟨n, a1, a2⟩ => Or.inr ⟨n, by omega, a2⟩)
  have hY6 : ∀ q, q < 4 → xsz (g 76 q) 60 := fun q h => by rw [(hYr q h).1]; exact hY q h
  have hK6 : ∀ q, q < 3 → xsz (g 86 q) 60 := fun q h => by
    rw [(hKr q h).1]
    rcases hK q h with z | ⟨n, z1, z2, _⟩
    · exact Or.inl z
    · exact Or.inr ⟨n, by omega, z2⟩
  by_cases hx : (0 ≤ x ∧ x < 6) ∧ 0 ≤ y ∧ y < 6
  · rw [if_pos hx]
    obtain ⟨p, hp1, rfl⟩ := xin (n := 6) (by omega) hx.1
    obtain ⟨s, hs1, rfl⟩ := xin (n := 6) (by omega) hx.2
    simp only [xN_nI (show p < 2 ^ 31 by omega), xN_nI (show s < 2 ^ 31 by omega)]
    have eF : xfop (g 74 p) (fun i => g 75 (40 * p + i)) (g 74 s) (fun i => g 75 (40 * s + i)) 12 = xfop (g (23 + 2 * p) 1) (g (23 + 2 * p + 1)) (g (23 + 2 * s) 1) (g (23 + 2 * s + 1)) 12 := by
      rw [(hQ p hp1).1, (hQ s hs1).1]
      exact xfop_c (hZc p hp1) (hZc s hs1) (fun n hn en i hi => (hQ p hp1).2 n hn en i hi) (fun n hn en i hi => (hQ s hs1).2 n hn en i hi)
    by_cases hf : xfop (g (23 + 2 * p) 1) (g (23 + 2 * p + 1)) (g (23 + 2 * s) 1) (g (23 + 2 * s + 1)) 11 = 0
    · rw [if_pos hf]
      obtain ⟨f1, f2, f3⟩ := xfop_0 hf
      obtain ⟨m1, e, h11, h40, hxs⟩ := xfos_0 (hZc p hp1) (by decide) (by decide) f1
      obtain ⟨m2, e2, _, h402, hxs2⟩ := xfos_0 (hZc s hs1) (by decide) (by decide) f2
      obtain rfl : m1 = m2 := nI_inj (by omega) (by omega) (by rw [← e, f3, e2])
      rw [show xN (g (23 + 2 * p) 1) = m1 from by rw [e]; exact xN_nI (by omega)]
      have hc24 := xcnt_le (fun q => decide (xfst (fun i => !decide (xshw (g (b.1 + 1)) (q / 4) (q % 4) (fun i => xN (g (23 + 2 * p + 1) i)) i = g (23 + 2 * s + 1) i)) m1 = none)) 24
      have f12 := (xfop_11 h40 e).mp hf
      have hg := xfop_0 (eF.trans f12.1)
      have er : g 74 p = nI m1 := by rw [(hQ p hp1).1]; exact e
      have er2 : g 74 s = nI m1 := by rw [(hQ s hs1).1]; exact e2
      have hrow : ∀ i, i < m1 → g 75 (40 * p + i) = g (23 + 2 * p + 1) i := (hQ p hp1).2 m1 h40 e
      have hrow2 : ∀ i, i < m1 → g 75 (40 * s + i) = g (23 + 2 * s + 1) i := (hQ s hs1).2 m1 h40 e2
      have hy1 : ∀ i, i < m1 → xstp (g 75 (40 * p + i)) := fun i hi => by rw [hrow i hi]; exact hxs i hi
      have hy2 : ∀ i, i < m1 → xstp (g 75 (40 * s + i)) := fun i hi => by rw [hrow2 i hi]; exact hxs2 i hi
      have hB : xbits (fun q => decide (xfst (fun i => !decide (xshw (g (b.1 + 1)) (q / 4) (q % 4) (fun i => xN (g 75 (40 * p + i))) i = g 75 (40 * s + i))) m1 = none)) 24 = xbits (fun q => decide (xfst (fun i => !decide (xshw (g (b.1 + 1)) (q / 4) (q % 4) (fun i => xN (g (23 + 2 * p + 1) i)) i = g (23 + 2 * s + 1) i)) m1 = none)) 24 := xbits_c 24 (fun q _ => by
        have e8 : xfst (fun i => !decide (xshw (g (b.1 + 1)) (q / 4) (q % 4) (fun i => xN (g 75 (40 * p + i))) i = g 75 (40 * s + i))) m1 = xfst (fun i => !decide (xshw (g (b.1 + 1)) (q / 4) (q % 4) (fun i => xN (g (23 + 2 * p + 1) i)) i = g (23 + 2 * s + 1) i)) m1 := xfst_congr (fun i hi => by
          rw [hrow2 i hi, show xshw (g (b.1 + 1)) (q / 4) (q % 4) (fun i => xN (g 75 (40 * p + i))) i = xshw (g (b.1 + 1)) (q / 4) (q % 4) (fun i => xN (g (23 + 2 * p + 1) i)) i from xshw_c (fun j hj => by show xN (g 75 (40 * p + j)) = xN (g (23 + 2 * p + 1) j); rw [hrow j (by omega)])])
        rw [e8])
      have hbs := xbs_24 (fun q => decide (xfst (fun i => !decide (xshw (g (b.1 + 1)) (q / 4) (q % 4) (fun i => xN (g (23 + 2 * p + 1) i)) i = g (23 + 2 * s + 1) i)) m1 = none))
      by_cases h2 : xcnt (fun q => decide (xfst (fun i => !decide (xshw (g (b.1 + 1)) (q / 4) (q % 4) (fun i => xN (g (23 + 2 * p + 1) i)) i = g (23 + 2 * s + 1) i)) m1 = none)) 24 < 2
      · rw [if_pos h2]
        exact (c_X12_next_none hR hp1 hs1 er er2 (by omega) hg.1 hg.2.1 hy1 hy2 f12.2 (by rw [hB, hbs]; exact (nI_lt2 (by omega)).mpr h2)).weak (fun r M w => by obtain ⟨g1, e2, e1, _⟩ := w; exact ⟨b, _, _, e1, by rw [e2.1 0 (by decide) (by decide)], by rw [e2.2 20 (by decide)]⟩)
      · rw [if_neg h2]
        refine (c_X12_next_ok hR hp1 hs1 er er2 (by omega) hg.1 hg.2.1 hy1 hy2 f12.2 (by rw [hB, hbs]; exact fun z => h2 ((nI_lt2 (by omega)).mp z))).weak (fun r M w => ?_)
        obtain ⟨g1, eFr, e1, _⟩ := w
        refine ⟨b, _, _, e1, by rw [up_na (by decide), eFr.1 0 (by decide) (by decide)], ?_⟩
        rw [up_same]
        refine congrArg (fun z => (nI z, l 73 21, l 73 22)) ?_
        rw [hB, ← xnext1 (fun s hs => hRm.2.2.2 s hs) (fun j hj => by obtain ⟨v, hv, ev⟩ := hxs j hj; rw [ev, xN_nI (by omega)]; exact hv)]
        rw [xnxr_c 6 (fun y _ => xmv_c 6 (fun v _ => xcnt_congr (fun q _ => ?_)))]
        congr 1
        have e9 : xshw (g (b.1 + 1)) (q / 4) (q % 4) (fup (fun i => xN (g 75 (40 * p + i))) m1 y) m1 = xshw (g (b.1 + 1)) (q / 4) (q % 4) (fup (fun i => xN (g (23 + 2 * p + 1) i)) m1 y) m1 := xshw_c (fun j hj => by
          show (if j = m1 then y else xN (g 75 (40 * p + j))) = (if j = m1 then y else xN (g (23 + 2 * p + 1) j))
          by_cases e7 : j = m1
          · rw [if_pos e7, if_pos e7]
          · rw [if_neg e7, if_neg e7, hrow j (by omega)])
        rw [e9]
    · rw [if_neg hf]
      by_cases hf12 : xfop (g (23 + 2 * p) 1) (g (23 + 2 * p + 1)) (g (23 + 2 * s) 1) (g (23 + 2 * s + 1)) 12 = 0
      · obtain ⟨f1, f2, f3⟩ := xfop_0 hf12
        obtain ⟨m1, e, h12, h40, hxs⟩ := xfos_0 (hZc p hp1) (by decide) (by decide) f1
        obtain ⟨m2, e2, _, h402, hxs2⟩ := xfos_0 (hZc s hs1) (by decide) (by decide) f2
        obtain rfl : m1 = m2 := nI_inj (by omega) (by omega) (by rw [← e, f3, e2])
        have hg := xfop_0 (eF.trans hf12)
        have er : g 74 p = nI m1 := by rw [(hQ p hp1).1]; exact e
        have er2 : g 74 s = nI m1 := by rw [(hQ s hs1).1]; exact e2
        have hy1 : ∀ i, i < m1 → xstp (g 75 (40 * p + i)) := fun i hi => by rw [(hQ p hp1).2 m1 h40 e i hi]; exact hxs i hi
        have hy2 : ∀ i, i < m1 → xstp (g 75 (40 * s + i)) := fun i hi => by rw [(hQ s hs1).2 m1 h40 e2 i hi]; exact hxs2 i hi
        have hm12 : m1 = 12 := by
          by_cases z : m1 ≤ 11
          · exact absurd ((xfop_11 h40 e).mpr ⟨hf12, z⟩) hf
          · omega
        exact (c_X12_next_12 hp1 hs1 er er2 hm12 hg.1 hg.2.1 hy1 hy2).weak (fun r M w => by obtain ⟨g1, e2, e1, _⟩ := w; exact ⟨b, _, _, e1, by rw [e2.1 0 (by decide) (by decide)], by rw [e2.2 20 (by decide)]⟩)
      · exact (c_X12_next_ref hp1 (hZ p hp1) hs1 (hZ s hs1) (by rw [eF]; exact hf12)).weak (fun r M w => by obtain ⟨g1, e2, e1, _⟩ := w; exact ⟨b, _, _, e1, by rw [e2.1 0 (by decide) (by decide)], by rw [e2.2 20 (by decide)]⟩)
  · rw [if_neg hx]
    exact xTm (c_X12_next_bad hx) (by first | rfl | (simp (disch := omega) only [xfC, xfR, up_na, up_ni, up_same, gfill_na, gset_na, gcopy_na, gseg_na])) (by first | rfl | (simp (disch := omega) only [xfC, xfR, up_na, up_ni, up_same, gfill_na, gset_na, gcopy_na, gseg_na]))
theorem ta_keeps (hI : xIc b g G T Lw m) : xT 10 108 [.ref 0, .int x, .int y] (xH b g l) (fun _ M => xTo M (if (0 ≤ x ∧ x < nI G) ∧ 0 ≤ y ∧ y ≤ 5 then ((if (xPr (Lw (xN x) / 4) (Lw (xN x) % 4) (xN y) (xW (g (b.1 + 1)) (g (b.1 + 3)) T (Lw (xN x) / 4) (Lw (xN x) % 4) (xN y) ((xN y) + 2)) (xN y)) = 0 then 0 else if (xN y) = 0 then 0 else (xbits (fun u => decide (0 < (xW (g (b.1 + 1)) (g (b.1 + 3)) T (Lw (xN x) / 4) (Lw (xN x) % 4) (xN y) ((xN y) + 2)) 0 u)) 6)), lN (xPr (Lw (xN x) / 4) (Lw (xN x) % 4) (xN y) (xW (g (b.1 + 1)) (g (b.1 + 3)) T (Lw (xN x) / 4) (Lw (xN x) % 4) (xN y) ((xN y) + 2)) (xN y)), lN 1) else (g 0 11, l 0 12, l 0 13)) (g 73 20, l 73 21, l 73 22)) := by
  obtain ⟨hb, hp, hR, htx, ⟨hs, hm⟩, hD, hK, hZ, hY⟩ := hI
  obtain ⟨hb1, hb2⟩ := xro_b hb
  have hq := xb2 hb
  have hbv : b.1 = 7 ∨ b.1 = 11 := by omega
  have hbw : b.2 = 7 ∨ b.2 = 11 := by omega
  have eG : g b.1 2 = nI G := hR.1.1
  have hG6 : G ≤ 6 := hR.1.2
  have eT : g b.1 4 = nI T := hR.2.1.1
  have hT8 : T ≤ 8 := hR.2.1.2
  by_cases hx : (0 ≤ x ∧ x < nI G) ∧ 0 ≤ y ∧ y ≤ 5
  · rw [if_pos hx]
    obtain ⟨s, hk, rfl⟩ := xin (n := G) (by omega) hx.1
    obtain ⟨n, hn, rfl⟩ := xinl (n := 5) (by omega) hx.2
    simp only [xN_nI (show s < 2 ^ 31 by omega), xN_nI (show n < 2 ^ 31 by omega)]
    exact (c_X11_keeps_ok hb1 (by omega) hR hp hk hn).weak (fun r M w => by
      obtain ⟨g1, e1, e2, _⟩ := w
      exact ⟨b, _, _, e1, rfl, by rw [up_na (by decide), e2 73 (by decide) (by decide) (by decide)] <;> rfl⟩)
  · rw [if_neg hx]
    exact xTm (c_X11_keeps_bad hb1 hR hx) (by first | rfl | (simp (disch := omega) only [xfC, xfR, up_na, up_ni, up_same, gfill_na, gset_na, gcopy_na, gseg_na])) (by first | rfl | (simp (disch := omega) only [xfC, xfR, up_na, up_ni, up_same, gfill_na, gset_na, gcopy_na, gseg_na]))
theorem tb_keeps (hI : xIc b g G T Lw m) (hJ : xIr b g G T Lw m) : xT 10 219 [.ref 73, .int x, .int y] (xH b g l) (fun _ M => xTo M (g 0 11, l 0 12, l 0 13) (if (0 ≤ x ∧ x < nI G) ∧ 0 ≤ y ∧ y ≤ 5 then ((if (xPr (Lw (xN x) / 4) (Lw (xN x) % 4) (xN y) (xW (g (b.1 + 1)) (g (b.1 + 3)) T (Lw (xN x) / 4) (Lw (xN x) % 4) (xN y) ((xN y) + 2)) (xN y)) = 0 then 0 else if (xN y) = 0 then 0 else (xbits (fun u => decide (0 < (xW (g (b.1 + 1)) (g (b.1 + 3)) T (Lw (xN x) / 4) (Lw (xN x) % 4) (xN y) ((xN y) + 2)) 0 u)) 6)), lN (xPr (Lw (xN x) / 4) (Lw (xN x) % 4) (xN y) (xW (g (b.1 + 1)) (g (b.1 + 3)) T (Lw (xN x) / 4) (Lw (xN x) % 4) (xN y) ((xN y) + 2)) (xN y)), lN 1) else (g 73 20, l 73 21, l 73 22))) := by
  obtain ⟨hb, hp, hRm, htx, ⟨_, hm⟩, hDk, hK, hZc, hY⟩ := hI
  obtain ⟨hR, hs, hD, hKr, hQ, hYr⟩ := hJ
  have hZ : ∀ r, r < 6 → xsz (g 74 r) 40 := fun r h => by rw [(hQ r h).1]; exact hZc r h
  have eG : g 73 10 = nI G := hR.1.1
  have hG6 : G ≤ 6 := hR.1.2
  have hT8 : T ≤ 8 := hR.2.1.2
  have hZ6 : ∀ q, q < 6 → xsz (g 74 q) 60 := fun q h => (hZ q h).elim Or.inl (fun ⟨n, a1, a2⟩ => Or.inr ⟨n, by omega, a2⟩)
  have hY6 : ∀ q, q < 4 → xsz (g 76 q) 60 := fun q h => by rw [(hYr q h).1]; exact hY q h
  have hK6 : ∀ q, q < 3 → xsz (g 86 q) 60 := fun q h => by
    rw [(hKr q h).1]
    rcases hK q h with z | ⟨n, z1, z2, _⟩
    · exact Or.inl z
    · exact Or.inr ⟨n, by omega, z2⟩
  by_cases hx : (0 ≤ x ∧ x < nI G) ∧ 0 ≤ y ∧ y ≤ 5
  · rw [if_pos hx]
    obtain ⟨s, hk, rfl⟩ := xin (n := G) (by omega) hx.1
    obtain ⟨n, hn, rfl⟩ := xinl (n := 5) (by omega) hx.2
    simp only [xN_nI (show s < 2 ^ 31 by omega), xN_nI (show n < 2 ^ 31 by omega)]
    have ePr := xPr_cnt (h := g (b.1 + 1)) (tx := g (b.1 + 3)) (T := T) (κ := Lw s / 4) (δ := Lw s % 4) (n := n)
    by_cases h0 : n = 0
    · refine (c_X12_keeps_0 hR hk hn h0).weak (fun r M w => ?_)
      obtain ⟨g1, e2, e1, _⟩ := w
      refine ⟨b, _, _, e1, by rw [up_na (by decide), e2.1 0 (by decide) (by decide)] <;> rfl, ?_⟩
      rw [ePr, up_same, up_same, up_ni (by decide), up_same, Nat.div_one]
      by_cases z : xcnt (xnbc (g (b.1 + 1)) (g (b.1 + 3)) T (Lw s / 4) (Lw s % 4) n) (6 ^ n) = 0
      · rw [if_pos z]
        rfl
      · rw [if_neg z, if_pos h0]
        rfl
    · refine (c_X12_keeps_ok hR hk hn (by omega)).weak (fun r M w => ?_)
      obtain ⟨g1, e2, e1, _⟩ := w
      refine ⟨b, _, _, e1, by rw [up_na (by decide), e2.1 0 (by decide) (by decide)] <;> rfl, ?_⟩
      rw [xfirsts (by omega), ePr, up_same, up_same, up_ni (by decide), up_same, Nat.div_one]
      rfl
  · rw [if_neg hx]
    exact xTm (c_X12_keeps_bad hR hx) (by first | rfl | (simp (disch := omega) only [xfC, xfR, up_na, up_ni, up_same, gfill_na, gset_na, gcopy_na, gseg_na])) (by first | rfl | (simp (disch := omega) only [xfC, xfR, up_na, up_ni, up_same, gfill_na, gset_na, gcopy_na, gseg_na]))
theorem ta_fault (hI : xIc b g G T Lw m) : xT 10 86 [.ref 0, .int x] (xH b g l) (fun _ M => xTo M (g 0 11, l 0 12, l 0 13) (g 73 20, l 73 21, l 73 22)) := by
  obtain ⟨hb, hp, hR, htx, ⟨hs, hm⟩, hD, hK, hZ, hY⟩ := hI
  obtain ⟨hb1, hb2⟩ := xro_b hb
  have hq := xb2 hb
  have hbv : b.1 = 7 ∨ b.1 = 11 := by omega
  have hbw : b.2 = 7 ∨ b.2 = 11 := by omega
  have eG : g b.1 2 = nI G := hR.1.1
  have hG6 : G ≤ 6 := hR.1.2
  have eT : g b.1 4 = nI T := hR.2.1.1
  have hT8 : T ≤ 8 := hR.2.1.2
  by_cases hx : 0 ≤ x ∧ x < 4
  · obtain ⟨t, ht, rfl⟩ := xin (n := 4) (by omega) hx
    rcases hY t ht with e | ⟨m1, hm1, e⟩
    · exact xTm (c_X11_fault_no ht e) (by first | rfl | (simp (disch := omega) only [xfC, xfR, up_na, up_ni, up_same, gfill_na, gset_na, gcopy_na, gseg_na])) (by first | rfl | (simp (disch := omega) only [xfC, xfR, up_na, up_ni, up_same, gfill_na, gset_na, gcopy_na, gseg_na]))
    · exact (c_X11_fault_ok ht e hm1 rfl hb2 (by omega)).weak (fun r M w => by obtain ⟨g1, e1, e2, e3⟩ := w; exact ⟨b, _, _, e1, by rw [e2 0 (by omega) (by omega) (by omega) (by omega)], by rw [e2 73 (by omega) (by omega) (by omega) (by omega)]⟩)
  · exact xTm (c_X11_fault_bad hx) (by first | rfl | (simp (disch := omega) only [xfC, xfR, up_na, up_ni, up_same, gfill_na, gset_na, gcopy_na, gseg_na])) (by first | rfl | (simp (disch := omega) only [xfC, xfR, up_na, up_ni, up_same, gfill_na, gset_na, gcopy_na, gseg_na]))
theorem tb_fault (hI : xIc b g G T Lw m) (hJ : xIr b g G T Lw m) : xT 10 176 [.ref 73, .int x] (xH b g l) (fun _ M => xTo M (g 0 11, l 0 12, l 0 13) (g 73 20, l 73 21, l 73 22)) := by
  obtain ⟨hb, hp, hRm, htx, ⟨_, hm⟩, hDk, hK, hZc, hY⟩ := hI
  obtain ⟨hR, hs, hD, hKr, hQ, hYr⟩ := hJ
  have hZ : ∀ r, r < 6 → xsz (g 74 r) 40 := fun r h => by rw [(hQ r h).1]; exact hZc r h
  have eG : g 73 10 = nI G := hR.1.1
  have hG6 : G ≤ 6 := hR.1.2
  have hT8 : T ≤ 8 := hR.2.1.2
  have hZ6 : ∀ q, q < 6 → xsz (g 74 q) 60 := fun q h => (hZ q h).elim Or.inl (fun ⟨n, a1, a2⟩ => Or.inr ⟨n, by omega, a2⟩)
  have hY6 : ∀ q, q < 4 → xsz (g 76 q) 60 := fun q h => by rw [(hYr q h).1]; exact hY q h
  have hK6 : ∀ q, q < 3 → xsz (g 86 q) 60 := fun q h => by
    rw [(hKr q h).1]
    rcases hK q h with z | ⟨n, z1, z2, _⟩
    · exact Or.inl z
    · exact Or.inr ⟨n, by omega, z2⟩
  by_cases hx : 0 ≤ x ∧ x < 4
  · obtain ⟨t, ht, rfl⟩ := xin (n := 4) (by omega) hx
    rcases hY t ht with e | ⟨m1, hm1, e⟩
    · exact xTm (c_X12_fault_no ht (by rw [(hYr t ht).1]; exact e)) (by first | rfl | (simp (disch := omega) only [xfC, xfR, up_na, up_ni, up_same, gfill_na, gset_na, gcopy_na, gseg_na])) (by first | rfl | (simp (disch := omega) only [xfC, xfR, up_na, up_ni, up_same, gfill_na, gset_na, gcopy_na, gseg_na]))
    · exact (c_X12_fault_ok (f := fun i => g 77 (60 * t + i)) ht (by rw [(hYr t ht).1]; exact e) hm1 (fun _ _ => rfl)).weak (fun r M w => by obtain ⟨g1, e1, e2, e3⟩ := w; exact ⟨b, _, _, e1, by rw [e2.1 0 (by decide) (by decide) (by decide) (by decide)], by rw [e2.2 20 (by decide) (by decide) (by decide) (by decide) (by decide)]⟩)
  · exact xTm (c_X12_fault_bad hx) (by first | rfl | (simp (disch := omega) only [xfC, xfR, up_na, up_ni, up_same, gfill_na, gset_na, gcopy_na, gseg_na])) (by first | rfl | (simp (disch := omega) only [xfC, xfR, up_na, up_ni, up_same, gfill_na, gset_na, gcopy_na, gseg_na]))
theorem ta_mark (hI : xIc b g G T Lw m) : xT 10 89 [.ref 0, .int x, .int y] (xH b g l) (fun _ M => xTo M (g 0 11, l 0 12, l 0 13) (g 73 20, l 73 21, l 73 22)) := by
  obtain ⟨hb, hp, hR, htx, ⟨hs, hm⟩, hD, hK, hZ, hY⟩ := hI
  obtain ⟨hb1, hb2⟩ := xro_b hb
  have hq := xb2 hb
  have hbv : b.1 = 7 ∨ b.1 = 11 := by omega
  have hbw : b.2 = 7 ∨ b.2 = 11 := by omega
  have eG : g b.1 2 = nI G := hR.1.1
  have hG6 : G ≤ 6 := hR.1.2
  have eT : g b.1 4 = nI T := hR.2.1.1
  have hT8 : T ≤ 8 := hR.2.1.2
  by_cases hx : (0 ≤ x ∧ x < g b.1 2) ∧ 1 ≤ y ∧ y ≤ 5
  · obtain ⟨s, hk, rfl⟩ := xin (n := G) (by omega) ⟨hx.1.1, by rw [← eG]; exact hx.1.2⟩
    obtain ⟨t, ht1, ht, rfl⟩ := nI_1le hx.2
    cases hi : xiso (Lw s / 4) (nI t) with
    | false => exact xTm (c_X11_mark_ref hb1 hR hp hs hm hk ht1 ht hi) (by first | rfl | (simp (disch := omega) only [xfC, xfR, up_na, up_ni, up_same, gfill_na, gset_na, gcopy_na, gseg_na])) (by first | rfl | (simp (disch := omega) only [xfC, xfR, up_na, up_ni, up_same, gfill_na, gset_na, gcopy_na, gseg_na]))
    | true =>
      rcases (show t = 1 ∨ t = 2 ∨ t = 3 ∨ t = 4 ∨ t = 5 by omega) with rfl | rfl | rfl | rfl | rfl
      · exact xTm (c_X11_mark_1 hb1 hR hp hs hm (xDk_x hD) hk hi) (by first | rfl | (simp (disch := omega) only [xfC, xfR, up_na, up_ni, up_same, gfill_na, gset_na, gcopy_na, gseg_na])) (by first | rfl | (simp (disch := omega) only [xfC, xfR, up_na, up_ni, up_same, gfill_na, gset_na, gcopy_na, gseg_na]))
      · exact xTm (c_X11_mark_2 hb1 hR hp hs hm (xDk_x hD) hk hi) (by first | rfl | (simp (disch := omega) only [xfC, xfR, up_na, up_ni, up_same, gfill_na, gset_na, gcopy_na, gseg_na])) (by first | rfl | (simp (disch := omega) only [xfC, xfR, up_na, up_ni, up_same, gfill_na, gset_na, gcopy_na, gseg_na]))
      · exact xTm (c_X11_mark_3 hb1 hR hp hs hm (xDk_x hD) hk hi) (by first | rfl | (simp (disch := omega) only [xfC, xfR, up_na, up_ni, up_same, gfill_na, gset_na, gcopy_na, gseg_na])) (by first | rfl | (simp (disch := omega) only [xfC, xfR, up_na, up_ni, up_same, gfill_na, gset_na, gcopy_na, gseg_na]))
      · exact xTm (c_X11_mark_4 hb1 hR hp hs hm (xDk_x hD) hk hi) (by first | rfl | (simp (disch := omega) only [xfC, xfR, up_na, up_ni, up_same, gfill_na, gset_na, gcopy_na, gseg_na])) (by first | rfl | (simp (disch := omega) only [xfC, xfR, up_na, up_ni, up_same, gfill_na, gset_na, gcopy_na, gseg_na]))
      · exact xTm (c_X11_mark_5 hb1 hR hp hs hm (xDk_x hD) hk hi) (by first | rfl | (simp (disch := omega) only [xfC, xfR, up_na, up_ni, up_same, gfill_na, gset_na, gcopy_na, gseg_na])) (by first | rfl | (simp (disch := omega) only [xfC, xfR, up_na, up_ni, up_same, gfill_na, gset_na, gcopy_na, gseg_na]))
  · exact xTm (c_X11_mark_bad hb1 hx) (by first | rfl | (simp (disch := omega) only [xfC, xfR, up_na, up_ni, up_same, gfill_na, gset_na, gcopy_na, gseg_na])) (by first | rfl | (simp (disch := omega) only [xfC, xfR, up_na, up_ni, up_same, gfill_na, gset_na, gcopy_na, gseg_na]))
theorem tb_mark (hI : xIc b g G T Lw m) (hJ : xIr b g G T Lw m) : xT 10 188 [.ref 73, .int x, .int y] (xH b g l) (fun _ M => xTo M (g 0 11, l 0 12, l 0 13) (g 73 20, l 73 21, l 73 22)) := by
  obtain ⟨hb, hp, hRm, htx, ⟨_, hm⟩, hDk, hK, hZc, hY⟩ := hI
  obtain ⟨hR, hs, hD, hKr, hQ, hYr⟩ := hJ
  have hZ : ∀ r, r < 6 → xsz (g 74 r) 40 := fun r h => by rw [(hQ r h).1]; exact hZc r h
  have eG : g 73 10 = nI G := hR.1.1
  have hG6 : G ≤ 6 := hR.1.2
  have hT8 : T ≤ 8 := hR.2.1.2
  have hZ6 : ∀ q, q < 6 → xsz (g 74 q) 60 := fun q h => (hZ q h).elim Or.inl (fun ⟨n, a1, a2⟩ => Or.inr ⟨n, by omega, a2⟩)
  have hY6 : ∀ q, q < 4 → xsz (g 76 q) 60 := fun q h => by rw [(hYr q h).1]; exact hY q h
  have hK6 : ∀ q, q < 3 → xsz (g 86 q) 60 := fun q h => by
    rw [(hKr q h).1]
    rcases hK q h with z | ⟨n, z1, z2, _⟩
    · exact Or.inl z
    · exact Or.inr ⟨n, by omega, z2⟩
  by_cases hx : (0 ≤ x ∧ x < nI G) ∧ 1 ≤ y ∧ y ≤ 5
  · obtain ⟨s, hk, rfl⟩ := xin (n := G) (by omega) hx.1
    obtain ⟨t, ht1, ht, rfl⟩ := nI_1le hx.2
    cases hi : xiso (Lw s / 4) (nI t) with
    | false => exact xTm (c_X12_mark_ref hR hk ht1 ht hi) (by first | rfl | (simp (disch := omega) only [xfC, xfR, up_na, up_ni, up_same, gfill_na, gset_na, gcopy_na, gseg_na])) (by first | rfl | (simp (disch := omega) only [xfC, xfR, up_na, up_ni, up_same, gfill_na, gset_na, gcopy_na, gseg_na]))
    | true =>
      rcases (show t = 1 ∨ t = 2 ∨ t = 3 ∨ t = 4 ∨ t = 5 by omega) with rfl | rfl | rfl | rfl | rfl
      · exact xTm (c_X12_mark_1 hR hD hm hs hk hi) (by first | rfl | (simp (disch := omega) only [xfC, xfR, up_na, up_ni, up_same, gfill_na, gset_na, gcopy_na, gseg_na])) (by first | rfl | (simp (disch := omega) only [xfC, xfR, up_na, up_ni, up_same, gfill_na, gset_na, gcopy_na, gseg_na]))
      · exact xTm (c_X12_mark_2 hR hD hm hs hk hi) (by first | rfl | (simp (disch := omega) only [xfC, xfR, up_na, up_ni, up_same, gfill_na, gset_na, gcopy_na, gseg_na])) (by first | rfl | (simp (disch := omega) only [xfC, xfR, up_na, up_ni, up_same, gfill_na, gset_na, gcopy_na, gseg_na]))
      · exact xTm (c_X12_mark_3 hR hD hm hs hk hi) (by first | rfl | (simp (disch := omega) only [xfC, xfR, up_na, up_ni, up_same, gfill_na, gset_na, gcopy_na, gseg_na])) (by first | rfl | (simp (disch := omega) only [xfC, xfR, up_na, up_ni, up_same, gfill_na, gset_na, gcopy_na, gseg_na]))
      · exact xTm (c_X12_mark_4 hR hD hm hs hk hi) (by first | rfl | (simp (disch := omega) only [xfC, xfR, up_na, up_ni, up_same, gfill_na, gset_na, gcopy_na, gseg_na])) (by first | rfl | (simp (disch := omega) only [xfC, xfR, up_na, up_ni, up_same, gfill_na, gset_na, gcopy_na, gseg_na]))
      · exact xTm (c_X12_mark_5 hR hD hm hs hk hi) (by first | rfl | (simp (disch := omega) only [xfC, xfR, up_na, up_ni, up_same, gfill_na, gset_na, gcopy_na, gseg_na])) (by first | rfl | (simp (disch := omega) only [xfC, xfR, up_na, up_ni, up_same, gfill_na, gset_na, gcopy_na, gseg_na]))
  · exact xTm (c_X12_mark_bad hR hx) (by first | rfl | (simp (disch := omega) only [xfC, xfR, up_na, up_ni, up_same, gfill_na, gset_na, gcopy_na, gseg_na])) (by first | rfl | (simp (disch := omega) only [xfC, xfR, up_na, up_ni, up_same, gfill_na, gset_na, gcopy_na, gseg_na]))
theorem ta_habit (hI : xIc b g G T Lw m) : xT 10 90 [.ref 0, .int x] (xH b g l) (fun _ M => xTo M (g 0 11, l 0 12, l 0 13) (g 73 20, l 73 21, l 73 22)) := by
  obtain ⟨hb, hp, hR, htx, ⟨hs, hm⟩, hD, hK, hZ, hY⟩ := hI
  obtain ⟨hb1, hb2⟩ := xro_b hb
  have hq := xb2 hb
  have hbv : b.1 = 7 ∨ b.1 = 11 := by omega
  have hbw : b.2 = 7 ∨ b.2 = 11 := by omega
  have eG : g b.1 2 = nI G := hR.1.1
  have hG6 : G ≤ 6 := hR.1.2
  have eT : g b.1 4 = nI T := hR.2.1.1
  have hT8 : T ≤ 8 := hR.2.1.2
  by_cases hx : 0 ≤ x ∧ x < 6
  · obtain ⟨t, ht, rfl⟩ := xin (n := 6) (by omega) hx
    exact xTm (c_X11_habit_ok hb1 ht) (by first | rfl | (simp (disch := omega) only [xfC, xfR, up_na, up_ni, up_same, gfill_na, gset_na, gcopy_na, gseg_na])) (by first | rfl | (simp (disch := omega) only [xfC, xfR, up_na, up_ni, up_same, gfill_na, gset_na, gcopy_na, gseg_na]))
  · exact xTm (c_X11_habit_bad hx) (by first | rfl | (simp (disch := omega) only [xfC, xfR, up_na, up_ni, up_same, gfill_na, gset_na, gcopy_na, gseg_na])) (by first | rfl | (simp (disch := omega) only [xfC, xfR, up_na, up_ni, up_same, gfill_na, gset_na, gcopy_na, gseg_na]))
theorem tb_habit (hI : xIc b g G T Lw m) (hJ : xIr b g G T Lw m) : xT 10 189 [.ref 73, .int x] (xH b g l) (fun _ M => xTo M (g 0 11, l 0 12, l 0 13) (g 73 20, l 73 21, l 73 22)) := by
  obtain ⟨hb, hp, hRm, htx, ⟨_, hm⟩, hDk, hK, hZc, hY⟩ := hI
  obtain ⟨hR, hs, hD, hKr, hQ, hYr⟩ := hJ
  have hZ : ∀ r, r < 6 → xsz (g 74 r) 40 := fun r h => by rw [(hQ r h).1]; exact hZc r h
  have eG : g 73 10 = nI G := hR.1.1
  have hG6 : G ≤ 6 := hR.1.2
  have hT8 : T ≤ 8 := hR.2.1.2
  have hZ6 : ∀ q, q < 6 → xsz (g 74 q) 60 := fun q h => (hZ q h).elim Or.inl (fun ⟨n, a1, a2⟩ => Or.inr ⟨n, by omega, a2⟩)
  have hY6 : ∀ q, q < 4 → xsz (g 76 q) 60 := fun q h => by rw [(hYr q h).1]; exact hY q h
  have hK6 : ∀ q, q < 3 → xsz (g 86 q) 60 := fun q h => by
    rw [(hKr q h).1]
    rcases hK q h with z | ⟨n, z1, z2, _⟩
    · exact Or.inl z
    · exact Or.inr ⟨n, by omega, z2⟩
  by_cases hx : 0 ≤ x ∧ x < 6
  · obtain ⟨t, ht, rfl⟩ := xin (n := 6) (by omega) hx
    exact xTm (c_X12_habit_ok hR ht) (by first | rfl | (simp (disch := omega) only [xfC, xfR, up_na, up_ni, up_same, gfill_na, gset_na, gcopy_na, gseg_na])) (by first | rfl | (simp (disch := omega) only [xfC, xfR, up_na, up_ni, up_same, gfill_na, gset_na, gcopy_na, gseg_na]))
  · exact xTm (c_X12_habit_bad hx) (by first | rfl | (simp (disch := omega) only [xfC, xfR, up_na, up_ni, up_same, gfill_na, gset_na, gcopy_na, gseg_na])) (by first | rfl | (simp (disch := omega) only [xfC, xfR, up_na, up_ni, up_same, gfill_na, gset_na, gcopy_na, gseg_na]))
theorem ta_term (hI : xIc b g G T Lw m) : xT 10 91 [.ref 0, .int x, .int y] (xH b g l) (fun _ M => xTo M (g 0 11, l 0 12, l 0 13) (g 73 20, l 73 21, l 73 22)) := by
  obtain ⟨hb, hp, hR, htx, ⟨hs, hm⟩, hD, hK, hZ, hY⟩ := hI
  obtain ⟨hb1, hb2⟩ := xro_b hb
  have hq := xb2 hb
  have hbv : b.1 = 7 ∨ b.1 = 11 := by omega
  have hbw : b.2 = 7 ∨ b.2 = 11 := by omega
  have eG : g b.1 2 = nI G := hR.1.1
  have hG6 : G ≤ 6 := hR.1.2
  have eT : g b.1 4 = nI T := hR.2.1.1
  have hT8 : T ≤ 8 := hR.2.1.2
  by_cases hx : (0 ≤ x ∧ x < g b.1 4) ∧ 0 ≤ y ∧ y ≤ 1
  · obtain ⟨d, hd, rfl⟩ := xin (n := T) (by omega) ⟨hx.1.1, by rw [← eT]; exact hx.1.2⟩
    obtain ⟨t, ht, rfl⟩ := xinl (n := 1) (by omega) hx.2
    exact xTm (c_X11_term_ok hb1 hR hp hd (by omega)) (by first | rfl | (simp (disch := omega) only [xfC, xfR, up_na, up_ni, up_same, gfill_na, gset_na, gcopy_na, gseg_na])) (by first | rfl | (simp (disch := omega) only [xfC, xfR, up_na, up_ni, up_same, gfill_na, gset_na, gcopy_na, gseg_na]))
  · exact xTm (c_X11_term_bad hb1 hx) (by first | rfl | (simp (disch := omega) only [xfC, xfR, up_na, up_ni, up_same, gfill_na, gset_na, gcopy_na, gseg_na])) (by first | rfl | (simp (disch := omega) only [xfC, xfR, up_na, up_ni, up_same, gfill_na, gset_na, gcopy_na, gseg_na]))
theorem tb_term (hI : xIc b g G T Lw m) (hJ : xIr b g G T Lw m) : xT 10 190 [.ref 73, .int x, .int y] (xH b g l) (fun _ M => xTo M (g 0 11, l 0 12, l 0 13) (g 73 20, l 73 21, l 73 22)) := by
  obtain ⟨hb, hp, hRm, htx, ⟨_, hm⟩, hDk, hK, hZc, hY⟩ := hI
  obtain ⟨hR, hs, hD, hKr, hQ, hYr⟩ := hJ
  have hZ : ∀ r, r < 6 → xsz (g 74 r) 40 := fun r h => by rw [(hQ r h).1]; exact hZc r h
  have eG : g 73 10 = nI G := hR.1.1
  have hG6 : G ≤ 6 := hR.1.2
  have hT8 : T ≤ 8 := hR.2.1.2
  have hZ6 : ∀ q, q < 6 → xsz (g 74 q) 60 := fun q h => (hZ q h).elim Or.inl (fun ⟨n, a1, a2⟩ => Or.inr ⟨n, by omega, a2⟩)
  have hY6 : ∀ q, q < 4 → xsz (g 76 q) 60 := fun q h => by rw [(hYr q h).1]; exact hY q h
  have hK6 : ∀ q, q < 3 → xsz (g 86 q) 60 := fun q h => by
    rw [(hKr q h).1]
    rcases hK q h with z | ⟨n, z1, z2, _⟩
    · exact Or.inl z
    · exact Or.inr ⟨n, by omega, z2⟩
  by_cases hx : (0 ≤ x ∧ x < nI T) ∧ 0 ≤ y ∧ y ≤ 1
  · obtain ⟨d, hd, rfl⟩ := xin (n := T) (by omega) hx.1
    obtain ⟨t, ht, rfl⟩ := xinl (n := 1) (by omega) hx.2
    exact xTm (c_X12_term_ok hR hd (by omega)) (by first | rfl | (simp (disch := omega) only [xfC, xfR, up_na, up_ni, up_same, gfill_na, gset_na, gcopy_na, gseg_na])) (by first | rfl | (simp (disch := omega) only [xfC, xfR, up_na, up_ni, up_same, gfill_na, gset_na, gcopy_na, gseg_na]))
  · exact xTm (c_X12_term_bad hR hx) (by first | rfl | (simp (disch := omega) only [xfC, xfR, up_na, up_ni, up_same, gfill_na, gset_na, gcopy_na, gseg_na])) (by first | rfl | (simp (disch := omega) only [xfC, xfR, up_na, up_ni, up_same, gfill_na, gset_na, gcopy_na, gseg_na]))
theorem ta_alike (hI : xIc b g G T Lw m) : xT 10 100 [.ref 0, .int x, .int y] (xH b g l) (fun _ M => xTo M (g 0 11, l 0 12, l 0 13) (g 73 20, l 73 21, l 73 22)) := by
  obtain ⟨hb, hp, hR, htx, ⟨hs, hm⟩, hD, hK, hZ, hY⟩ := hI
  obtain ⟨hb1, hb2⟩ := xro_b hb
  have hq := xb2 hb
  have hbv : b.1 = 7 ∨ b.1 = 11 := by omega
  have hbw : b.2 = 7 ∨ b.2 = 11 := by omega
  have eG : g b.1 2 = nI G := hR.1.1
  have hG6 : G ≤ 6 := hR.1.2
  have eT : g b.1 4 = nI T := hR.2.1.1
  have hT8 : T ≤ 8 := hR.2.1.2
  by_cases hx : (0 ≤ x ∧ x < g b.1 2) ∧ 0 ≤ y ∧ y < 6
  · obtain ⟨s, hk, rfl⟩ := xin (n := G) (by omega) ⟨hx.1.1, by rw [← eG]; exact hx.1.2⟩
    obtain ⟨t, ht, rfl⟩ := xin (n := 6) (by omega) hx.2
    by_cases hf : xfos (g (23 + 2 * t) 1) (g (23 + 2 * t + 1)) 12 = 0
    · obtain ⟨m1, e, h12, _, hxs⟩ := xfos_0 (hZ t ht) (by decide) (by decide) hf
      exact xTm (c_X11_alike_ok hb1 hR hp hk ht e h12 hf hxs) (by first | rfl | (simp (disch := omega) only [xfC, xfR, up_na, up_ni, up_same, gfill_na, gset_na, gcopy_na, gseg_na])) (by first | rfl | (simp (disch := omega) only [xfC, xfR, up_na, up_ni, up_same, gfill_na, gset_na, gcopy_na, gseg_na]))
    · exact xTm (c_X11_alike_ref hb1 hR hk ht (hZ t ht) hf) (by first | rfl | (simp (disch := omega) only [xfC, xfR, up_na, up_ni, up_same, gfill_na, gset_na, gcopy_na, gseg_na])) (by first | rfl | (simp (disch := omega) only [xfC, xfR, up_na, up_ni, up_same, gfill_na, gset_na, gcopy_na, gseg_na]))
  · exact xTm (c_X11_alike_bad hb1 hx) (by first | rfl | (simp (disch := omega) only [xfC, xfR, up_na, up_ni, up_same, gfill_na, gset_na, gcopy_na, gseg_na])) (by first | rfl | (simp (disch := omega) only [xfC, xfR, up_na, up_ni, up_same, gfill_na, gset_na, gcopy_na, gseg_na]))
theorem tb_alike (hI : xIc b g G T Lw m) (hJ : xIr b g G T Lw m) : xT 10 205 [.ref 73, .int x, .int y] (xH b g l) (fun _ M => xTo M (g 0 11, l 0 12, l 0 13) (g 73 20, l 73 21, l 73 22)) := by
  obtain ⟨hb, hp, hRm, htx, ⟨_, hm⟩, hDk, hK, hZc, hY⟩ := hI
  obtain ⟨hR, hs, hD, hKr, hQ, hYr⟩ := hJ
  have hZ : ∀ r, r < 6 → xsz (g 74 r) 40 := fun r h => by rw [(hQ r h).1]; exact hZc r h
  have eG : g 73 10 = nI G := hR.1.1
  have hG6 : G ≤ 6 := hR.1.2
  have hT8 : T ≤ 8 := hR.2.1.2
  have hZ6 : ∀ q, q < 6 → xsz (g 74 q) 60 := fun q h => (hZ q h).elim Or.inl (fun ⟨n, a1, a2⟩ => Or.inr ⟨n, by omega, a2⟩)
  have hY6 : ∀ q, q < 4 → xsz (g 76 q) 60 := fun q h => by rw [(hYr q h).1]; exact hY q h
  have hK6 : ∀ q, q < 3 → xsz (g 86 q) 60 := fun q h => by
    rw [(hKr q h).1]
    rcases hK q h with z | ⟨n, z1, z2, _⟩
    · exact Or.inl z
    · exact Or.inr ⟨n, by omega, z2⟩
  by_cases hx : (0 ≤ x ∧ x < nI G) ∧ 0 ≤ y ∧ y < 6
  · obtain ⟨s, hk, rfl⟩ := xin (n := G) (by omega) hx.1
    obtain ⟨p, hp1, rfl⟩ := xin (n := 6) (by omega) hx.2
    by_cases hf : xfos (g 74 p) (fun i => g 75 (40 * p + i)) 12 = 0
    · obtain ⟨m1, e, h12, _, hxs⟩ := xfos_0 (hZ p hp1) (by decide) (by decide) hf
      exact (c_X12_alike_ok hR hk hp1 e h12 hf hxs).weak (fun r M w => by obtain ⟨g1, e2, e1, e3⟩ := w; exact ⟨b, _, _, e1, by rw [e2.1 0 (by decide) (by decide)], by rw [e2.2 20 (by decide)]⟩)
    · exact (c_X12_alike_ref hR hk hp1 (hZ p hp1) hf).weak (fun r M w => by obtain ⟨g1, e2, e1, e3⟩ := w; exact ⟨b, _, _, e1, by rw [e2.1 0 (by decide) (by decide)], by rw [e2.2 20 (by decide)]⟩)
  · exact xTm (c_X12_alike_bad hR hx) (by first | rfl | (simp (disch := omega) only [xfC, xfR, up_na, up_ni, up_same, gfill_na, gset_na, gcopy_na, gseg_na])) (by first | rfl | (simp (disch := omega) only [xfC, xfR, up_na, up_ni, up_same, gfill_na, gset_na, gcopy_na, gseg_na]))
theorem ta_can (hI : xIc b g G T Lw m) : xT 10 104 [.ref 0, .int x, .int y, .int z] (xH b g l) (fun _ M => xTo M (g 0 11, l 0 12, l 0 13) (g 73 20, l 73 21, l 73 22)) := by
  obtain ⟨hb, hp, hR, htx, ⟨hs, hm⟩, hD, hK, hZ, hY⟩ := hI
  obtain ⟨hb1, hb2⟩ := xro_b hb
  have hq := xb2 hb
  have hbv : b.1 = 7 ∨ b.1 = 11 := by omega
  have hbw : b.2 = 7 ∨ b.2 = 11 := by omega
  have eG : g b.1 2 = nI G := hR.1.1
  have hG6 : G ≤ 6 := hR.1.2
  have eT : g b.1 4 = nI T := hR.2.1.1
  have hT8 : T ≤ 8 := hR.2.1.2
  by_cases hx : (0 ≤ x ∧ x < g b.1 2) ∧ (0 ≤ y ∧ y < 6) ∧ 0 ≤ z
  · obtain ⟨s, hk, rfl⟩ := xin (n := G) (by omega) ⟨hx.1.1, by rw [← eG]; exact hx.1.2⟩
    obtain ⟨t, ht, rfl⟩ := xin (n := 6) (by omega) hx.2.1
    obtain ⟨d, hd31, rfl⟩ := nI_of (Int32.not_lt.mpr hx.2.2)
    by_cases hf : xfos (g (23 + 2 * t) 1) (g (23 + 2 * t + 1)) 6 = 0
    · obtain ⟨m1, e, h12, _, hxs⟩ := xfos_0 (hZ t ht) (by decide) (by decide) hf
      by_cases hd : d < m1
      · exact xTm (c_X11_can_ok hb1 hR hp hbv hk ht e h12 hf hxs hd) (by first | rfl | (simp (disch := omega) only [xfC, xfR, up_na, up_ni, up_same, gfill_na, gset_na, gcopy_na, gseg_na])) (by first | rfl | (simp (disch := omega) only [xfC, xfR, up_na, up_ni, up_same, gfill_na, gset_na, gcopy_na, gseg_na]))
      · exact xTm (c_X11_can_bad2 hb1 hR hk ht e h12 hf hxs hd31 hd) (by first | rfl | (simp (disch := omega) only [xfC, xfR, up_na, up_ni, up_same, gfill_na, gset_na, gcopy_na, gseg_na])) (by first | rfl | (simp (disch := omega) only [xfC, xfR, up_na, up_ni, up_same, gfill_na, gset_na, gcopy_na, gseg_na]))
    · exact xTm (c_X11_can_ref hb1 hR hk ht (hZ t ht) hd31 hf) (by first | rfl | (simp (disch := omega) only [xfC, xfR, up_na, up_ni, up_same, gfill_na, gset_na, gcopy_na, gseg_na])) (by first | rfl | (simp (disch := omega) only [xfC, xfR, up_na, up_ni, up_same, gfill_na, gset_na, gcopy_na, gseg_na]))
  · exact xTm (c_X11_can_bad hb1 hx) (by first | rfl | (simp (disch := omega) only [xfC, xfR, up_na, up_ni, up_same, gfill_na, gset_na, gcopy_na, gseg_na])) (by first | rfl | (simp (disch := omega) only [xfC, xfR, up_na, up_ni, up_same, gfill_na, gset_na, gcopy_na, gseg_na]))
theorem tb_can (hI : xIc b g G T Lw m) (hJ : xIr b g G T Lw m) : xT 10 212 [.ref 73, .int x, .int y, .int z] (xH b g l) (fun _ M => xTo M (g 0 11, l 0 12, l 0 13) (g 73 20, l 73 21, l 73 22)) := by
  obtain ⟨hb, hp, hRm, htx, ⟨_, hm⟩, hDk, hK, hZc, hY⟩ := hI
  obtain ⟨hR, hs, hD, hKr, hQ, hYr⟩ := hJ
  have hZ : ∀ r, r < 6 → xsz (g 74 r) 40 := fun r h => by rw [(hQ r h).1]; exact hZc r h
  have eG : g 73 10 = nI G := hR.1.1
  have hG6 : G ≤ 6 := hR.1.2
  have hT8 : T ≤ 8 := hR.2.1.2
  have hZ6 : ∀ q, q < 6 → xsz (g 74 q) 60 := fun q h => (hZ q h).elim Or.inl (fun ⟨n, a1, a2⟩ => Or.inr ⟨n, by omega, a2⟩)
  have hY6 : ∀ q, q < 4 → xsz (g 76 q) 60 := fun q h => by rw [(hYr q h).1]; exact hY q h
  have hK6 : ∀ q, q < 3 → xsz (g 86 q) 60 := fun q h => by
    rw [(hKr q h).1]
    rcases hK q h with z | ⟨n, z1, z2, _⟩
    · exact Or.inl z
    · exact Or.inr ⟨n, by omega, z2⟩
  by_cases hx : (0 ≤ x ∧ x < nI G) ∧ (0 ≤ y ∧ y < 6) ∧ 0 ≤ z
  · obtain ⟨s, hk, rfl⟩ := xin (n := G) (by omega) hx.1
    obtain ⟨p, hp1, rfl⟩ := xin (n := 6) (by omega) hx.2.1
    obtain ⟨d, hd31, rfl⟩ := nI_of (Int32.not_lt.mpr hx.2.2)
    by_cases hf : xfos (g 74 p) (fun i => g 75 (40 * p + i)) 6 = 0
    · obtain ⟨m1, e, h12, _, hxs⟩ := xfos_0 (hZ p hp1) (by decide) (by decide) hf
      by_cases hd : d < m1
      · exact (c_X12_can_ok hR hk hp1 e h12 hf hxs hd).weak (fun r M w => by obtain ⟨g1, e2, e1, e3⟩ := w; exact ⟨b, _, _, e1, by rw [e2.1 0 (by decide) (by decide)], by rw [e2.2 20 (by decide)]⟩)
      · exact (c_X12_can_bad2 hR hk hp1 e h12 hf hxs hd31 hd).weak (fun r M w => by obtain ⟨g1, e2, e1, e3⟩ := w; exact ⟨b, _, _, e1, by rw [e2.1 0 (by decide) (by decide)], by rw [e2.2 20 (by decide)]⟩)
    · exact (c_X12_can_ref hR hk hp1 hd31 (hZ p hp1) hf).weak (fun r M w => by obtain ⟨g1, e2, e1, e3⟩ := w; exact ⟨b, _, _, e1, by rw [e2.1 0 (by decide) (by decide)], by rw [e2.2 20 (by decide)]⟩)
  · exact xTm (c_X12_can_bad hR hx) (by first | rfl | (simp (disch := omega) only [xfC, xfR, up_na, up_ni, up_same, gfill_na, gset_na, gcopy_na, gseg_na])) (by first | rfl | (simp (disch := omega) only [xfC, xfR, up_na, up_ni, up_same, gfill_na, gset_na, gcopy_na, gseg_na]))
theorem ta_laws (hI : xIc b g G T Lw m) : xT 10 105 [.ref 0, .int x, .int y] (xH b g l) (fun _ M => xTo M (g 0 11, l 0 12, l 0 13) (g 73 20, l 73 21, l 73 22)) := by
  obtain ⟨hb, hp, hR, htx, ⟨hs, hm⟩, hD, hK, hZ, hY⟩ := hI
  obtain ⟨hb1, hb2⟩ := xro_b hb
  have hq := xb2 hb
  have hbv : b.1 = 7 ∨ b.1 = 11 := by omega
  have hbw : b.2 = 7 ∨ b.2 = 11 := by omega
  have eG : g b.1 2 = nI G := hR.1.1
  have hG6 : G ≤ 6 := hR.1.2
  have eT : g b.1 4 = nI T := hR.2.1.1
  have hT8 : T ≤ 8 := hR.2.1.2
  by_cases hx : (0 ≤ x ∧ x < 6) ∧ 0 ≤ y ∧ y < 6
  · obtain ⟨t, ht, rfl⟩ := xin (n := 6) (by omega) hx.1
    obtain ⟨p, hp1, rfl⟩ := xin (n := 6) (by omega) hx.2
    by_cases hf : xfop (g (23 + 2 * t) 1) (g (23 + 2 * t + 1)) (g (23 + 2 * p) 1) (g (23 + 2 * p + 1)) 12 = 0
    · obtain ⟨f1, f2, f3⟩ := xfop_0 hf
      obtain ⟨m1, e, h12, _, hxs⟩ := xfos_0 (hZ t ht) (by decide) (by decide) f1
      obtain ⟨m2, e2, _, h40, hxs2⟩ := xfos_0 (hZ p hp1) (by decide) (by decide) f2
      obtain rfl : m1 = m2 := nI_inj (by omega) (by omega) (by rw [← e, f3, e2])
      exact xTm (c_X11_laws_ok hb1 hR hp ht hp1 e e2 h12 hf hxs hxs2) (by first | rfl | (simp (disch := omega) only [xfC, xfR, up_na, up_ni, up_same, gfill_na, gset_na, gcopy_na, gseg_na])) (by first | rfl | (simp (disch := omega) only [xfC, xfR, up_na, up_ni, up_same, gfill_na, gset_na, gcopy_na, gseg_na]))
    · exact xTm (c_X11_laws_ref ht (hZ t ht) hp1 (hZ p hp1) hf) (by first | rfl | (simp (disch := omega) only [xfC, xfR, up_na, up_ni, up_same, gfill_na, gset_na, gcopy_na, gseg_na])) (by first | rfl | (simp (disch := omega) only [xfC, xfR, up_na, up_ni, up_same, gfill_na, gset_na, gcopy_na, gseg_na]))
  · exact xTm (c_X11_laws_bad hx) (by first | rfl | (simp (disch := omega) only [xfC, xfR, up_na, up_ni, up_same, gfill_na, gset_na, gcopy_na, gseg_na])) (by first | rfl | (simp (disch := omega) only [xfC, xfR, up_na, up_ni, up_same, gfill_na, gset_na, gcopy_na, gseg_na]))
theorem tb_laws (hI : xIc b g G T Lw m) (hJ : xIr b g G T Lw m) : xT 10 214 [.ref 73, .int x, .int y] (xH b g l) (fun _ M => xTo M (g 0 11, l 0 12, l 0 13) (g 73 20, l 73 21, l 73 22)) := by
  obtain ⟨hb, hp, hRm, htx, ⟨_, hm⟩, hDk, hK, hZc, hY⟩ := hI
  obtain ⟨hR, hs, hD, hKr, hQ, hYr⟩ := hJ
  have hZ : ∀ r, r < 6 → xsz (g 74 r) 40 := fun r h => by rw [(hQ r h).1]; exact hZc r h
  have eG : g 73 10 = nI G := hR.1.1
  have hG6 : G ≤ 6 := hR.1.2
  have hT8 : T ≤ 8 := hR.2.1.2
  have hZ6 : ∀ q, q < 6 → xsz (g 74 q) 60 := fun q h => (hZ q h).elim Or.inl (fun ⟨n, a1, a2⟩ => Or.inr ⟨n, by omega, a2⟩)
  have hY6 : ∀ q, q < 4 → xsz (g 76 q) 60 := fun q h => by rw [(hYr q h).1]; exact hY q h
  have hK6 : ∀ q, q < 3 → xsz (g 86 q) 60 := fun q h => by
    rw [(hKr q h).1]
    rcases hK q h with z | ⟨n, z1, z2, _⟩
    · exact Or.inl z
    · exact Or.inr ⟨n, by omega, z2⟩
  by_cases hx : (0 ≤ x ∧ x < 6) ∧ 0 ≤ y ∧ y < 6
  · obtain ⟨p, hp1, rfl⟩ := xin (n := 6) (by omega) hx.1
    obtain ⟨s, hs1, rfl⟩ := xin (n := 6) (by omega) hx.2
    by_cases hf : xfop (g 74 p) (fun i => g 75 (40 * p + i)) (g 74 s) (fun i => g 75 (40 * s + i)) 12 = 0
    · obtain ⟨f1, f2, f3⟩ := xfop_0 hf
      obtain ⟨m1, e, h12, _, hxs⟩ := xfos_0 (hZ p hp1) (by decide) (by decide) f1
      obtain ⟨m2, e2, _, h40, hxs2⟩ := xfos_0 (hZ s hs1) (by decide) (by decide) f2
      obtain rfl : m1 = m2 := nI_inj (by omega) (by omega) (by rw [← e, f3, e2])
      exact (c_X12_laws_ok hR hp1 hs1 e e2 h12 f1 f2 hxs hxs2).weak (fun r M w => by obtain ⟨g1, e2, e1, e3⟩ := w; exact ⟨b, _, _, e1, by rw [e2.1 0 (by decide) (by decide)], by rw [e2.2 20 (by decide)]⟩)
    · exact (c_X12_laws_ref hp1 (hZ p hp1) hs1 (hZ s hs1) hf).weak (fun r M w => by obtain ⟨g1, e2, e1, e3⟩ := w; exact ⟨b, _, _, e1, by rw [e2.1 0 (by decide) (by decide)], by rw [e2.2 20 (by decide)]⟩)
  · exact xTm (c_X12_laws_bad hx) (by first | rfl | (simp (disch := omega) only [xfC, xfR, up_na, up_ni, up_same, gfill_na, gset_na, gcopy_na, gseg_na])) (by first | rfl | (simp (disch := omega) only [xfC, xfR, up_na, up_ni, up_same, gfill_na, gset_na, gcopy_na, gseg_na]))
theorem ta_still (hI : xIc b g G T Lw m) : xT 10 109 [.ref 0, .int x, .int y] (xH b g l) (fun _ M => xTo M (g 0 11, l 0 12, l 0 13) (g 73 20, l 73 21, l 73 22)) := by
  obtain ⟨hb, hp, hR, htx, ⟨hs, hm⟩, hD, hK, hZ, hY⟩ := hI
  obtain ⟨hb1, hb2⟩ := xro_b hb
  have hq := xb2 hb
  have hbv : b.1 = 7 ∨ b.1 = 11 := by omega
  have hbw : b.2 = 7 ∨ b.2 = 11 := by omega
  have eG : g b.1 2 = nI G := hR.1.1
  have hG6 : G ≤ 6 := hR.1.2
  have eT : g b.1 4 = nI T := hR.2.1.1
  have hT8 : T ≤ 8 := hR.2.1.2
  by_cases hx : (0 ≤ x ∧ x < nI G) ∧ 0 ≤ y ∧ y ≤ 5
  · obtain ⟨s, hk, rfl⟩ := xin (n := G) (by omega) hx.1
    obtain ⟨n, hn, rfl⟩ := xinl (n := 5) (by omega) hx.2
    exact (c_X11_still_ok hb1 (by omega) hR hp hk hn).weak (fun r M w => by obtain ⟨g1, e1, e2, e3⟩ := w; exact ⟨b, _, _, e1, by rw [e2 0 (by omega) (by omega) (by omega)], by rw [e2 73 (by omega) (by omega) (by omega)]⟩)
  · exact xTm (c_X11_still_bad hb1 hR hx) (by first | rfl | (simp (disch := omega) only [xfC, xfR, up_na, up_ni, up_same, gfill_na, gset_na, gcopy_na, gseg_na])) (by first | rfl | (simp (disch := omega) only [xfC, xfR, up_na, up_ni, up_same, gfill_na, gset_na, gcopy_na, gseg_na]))
theorem tb_still (hI : xIc b g G T Lw m) (hJ : xIr b g G T Lw m) : xT 10 220 [.ref 73, .int x, .int y] (xH b g l) (fun _ M => xTo M (g 0 11, l 0 12, l 0 13) (g 73 20, l 73 21, l 73 22)) := by
  obtain ⟨hb, hp, hRm, htx, ⟨_, hm⟩, hDk, hK, hZc, hY⟩ := hI
  obtain ⟨hR, hs, hD, hKr, hQ, hYr⟩ := hJ
  have hZ : ∀ r, r < 6 → xsz (g 74 r) 40 := fun r h => by rw [(hQ r h).1]; exact hZc r h
  have eG : g 73 10 = nI G := hR.1.1
  have hG6 : G ≤ 6 := hR.1.2
  have hT8 : T ≤ 8 := hR.2.1.2
  have hZ6 : ∀ q, q < 6 → xsz (g 74 q) 60 := fun q h => (hZ q h).elim Or.inl (fun ⟨n, a1, a2⟩ => Or.inr ⟨n, by omega, a2⟩)
  have hY6 : ∀ q, q < 4 → xsz (g 76 q) 60 := fun q h => by rw [(hYr q h).1]; exact hY q h
  have hK6 : ∀ q, q < 3 → xsz (g 86 q) 60 := fun q h => by
    rw [(hKr q h).1]
    rcases hK q h with z | ⟨n, z1, z2, _⟩
    · exact Or.inl z
    · exact Or.inr ⟨n, by omega, z2⟩
  by_cases hx : (0 ≤ x ∧ x < nI G) ∧ 0 ≤ y ∧ y ≤ 5
  · obtain ⟨s, hk, rfl⟩ := xin (n := G) (by omega) hx.1
    obtain ⟨n, hn, rfl⟩ := xinl (n := 5) (by omega) hx.2
    exact (c_X12_still_ok hR hk hn).weak (fun r M w => by obtain ⟨g1, e2, e1, e3⟩ := w; exact ⟨b, _, _, e1, by rw [e2.1 0 (by decide) (by decide)], by rw [e2.2 20 (by decide)]⟩)
  · exact xTm (c_X12_still_bad hR hx) (by first | rfl | (simp (disch := omega) only [xfC, xfR, up_na, up_ni, up_same, gfill_na, gset_na, gcopy_na, gseg_na])) (by first | rfl | (simp (disch := omega) only [xfC, xfR, up_na, up_ni, up_same, gfill_na, gset_na, gcopy_na, gseg_na]))
theorem ta_game (hI : xIc b g G T Lw m) : xT 10 110 [.ref 0, .int x] (xH b g l) (fun _ M => xTo M (g 0 11, l 0 12, l 0 13) (g 73 20, l 73 21, l 73 22)) := by
  obtain ⟨hb, hp, hR, htx, ⟨hs, hm⟩, hD, hK, hZ, hY⟩ := hI
  obtain ⟨hb1, hb2⟩ := xro_b hb
  have hq := xb2 hb
  have hbv : b.1 = 7 ∨ b.1 = 11 := by omega
  have hbw : b.2 = 7 ∨ b.2 = 11 := by omega
  have eG : g b.1 2 = nI G := hR.1.1
  have hG6 : G ≤ 6 := hR.1.2
  have eT : g b.1 4 = nI T := hR.2.1.1
  have hT8 : T ≤ 8 := hR.2.1.2
  by_cases hx : 0 ≤ x ∧ x ≤ 3
  · obtain ⟨n, hn, rfl⟩ := xinl (n := 3) (by omega) hx
    by_cases hg : g b.1 2 = 0
    · exact xTm (c_X11_game_state hb1 hn hg) (by first | rfl | (simp (disch := omega) only [xfC, xfR, up_na, up_ni, up_same, gfill_na, gset_na, gcopy_na, gseg_na])) (by first | rfl | (simp (disch := omega) only [xfC, xfR, up_na, up_ni, up_same, gfill_na, gset_na, gcopy_na, gseg_na]))
    · by_cases h0 : n = 0
      · subst h0
        exact xTm (c_X11_game_zero hb1 hg) (by first | rfl | (simp (disch := omega) only [xfC, xfR, up_na, up_ni, up_same, gfill_na, gset_na, gcopy_na, gseg_na])) (by first | rfl | (simp (disch := omega) only [xfC, xfR, up_na, up_ni, up_same, gfill_na, gset_na, gcopy_na, gseg_na]))
      · exact (c_X11_game_ok hb1 hR hp hbv hn (by omega) hg).weak (fun r M w => by obtain ⟨g1, e2, e1, e3⟩ := w; exact ⟨b, _, _, e1, by rw [e2 0 (by omega) (by omega)], by rw [e2 73 (by omega) (by omega)]⟩)
  · exact xTm (c_X11_game_bad hx) (by first | rfl | (simp (disch := omega) only [xfC, xfR, up_na, up_ni, up_same, gfill_na, gset_na, gcopy_na, gseg_na])) (by first | rfl | (simp (disch := omega) only [xfC, xfR, up_na, up_ni, up_same, gfill_na, gset_na, gcopy_na, gseg_na]))
theorem tb_game (hI : xIc b g G T Lw m) (hJ : xIr b g G T Lw m) : xT 10 223 [.ref 73, .int x] (xH b g l) (fun _ M => xTo M (g 0 11, l 0 12, l 0 13) (g 73 20, l 73 21, l 73 22)) := by
  obtain ⟨hb, hp, hRm, htx, ⟨_, hm⟩, hDk, hK, hZc, hY⟩ := hI
  obtain ⟨hR, hs, hD, hKr, hQ, hYr⟩ := hJ
  have hZ : ∀ r, r < 6 → xsz (g 74 r) 40 := fun r h => by rw [(hQ r h).1]; exact hZc r h
  have eG : g 73 10 = nI G := hR.1.1
  have hG6 : G ≤ 6 := hR.1.2
  have hT8 : T ≤ 8 := hR.2.1.2
  have hZ6 : ∀ q, q < 6 → xsz (g 74 q) 60 := fun q h => (hZ q h).elim Or.inl (fun ⟨n, a1, a2⟩ => Or.inr ⟨n, by omega, a2⟩)
  have hY6 : ∀ q, q < 4 → xsz (g 76 q) 60 := fun q h => by rw [(hYr q h).1]; exact hY q h
  have hK6 : ∀ q, q < 3 → xsz (g 86 q) 60 := fun q h => by
    rw [(hKr q h).1]
    rcases hK q h with z | ⟨n, z1, z2, _⟩
    · exact Or.inl z
    · exact Or.inr ⟨n, by omega, z2⟩
  by_cases hx : 0 ≤ x ∧ x ≤ 3
  · obtain ⟨n, hn, rfl⟩ := xinl (n := 3) (by omega) hx
    by_cases hg : g 73 10 = 0
    · exact xTm (c_X12_game_state hn hg) (by first | rfl | (simp (disch := omega) only [xfC, xfR, up_na, up_ni, up_same, gfill_na, gset_na, gcopy_na, gseg_na])) (by first | rfl | (simp (disch := omega) only [xfC, xfR, up_na, up_ni, up_same, gfill_na, gset_na, gcopy_na, gseg_na]))
    · exact (c_X12_game_ok hR hn hg).weak (fun r M w => by obtain ⟨g1, e2, e1, e3⟩ := w; exact ⟨b, _, _, e1, by rw [e2.1 0 (by decide) (by decide)], by rw [e2.2 20 (by decide)]⟩)
  · exact xTm (c_X12_game_bad hx) (by first | rfl | (simp (disch := omega) only [xfC, xfR, up_na, up_ni, up_same, gfill_na, gset_na, gcopy_na, gseg_na])) (by first | rfl | (simp (disch := omega) only [xfC, xfR, up_na, up_ni, up_same, gfill_na, gset_na, gcopy_na, gseg_na]))
theorem ta_picks (hI : xIc b g G T Lw m) : xT 10 111 [.ref 0, .int x] (xH b g l) (fun _ M => xTo M (g 0 11, l 0 12, l 0 13) (g 73 20, l 73 21, l 73 22)) := by
  obtain ⟨hb, hp, hR, htx, ⟨hs, hm⟩, hD, hK, hZ, hY⟩ := hI
  obtain ⟨hb1, hb2⟩ := xro_b hb
  have hq := xb2 hb
  have hbv : b.1 = 7 ∨ b.1 = 11 := by omega
  have hbw : b.2 = 7 ∨ b.2 = 11 := by omega
  have eG : g b.1 2 = nI G := hR.1.1
  have hG6 : G ≤ 6 := hR.1.2
  have eT : g b.1 4 = nI T := hR.2.1.1
  have hT8 : T ≤ 8 := hR.2.1.2
  by_cases hx : 1 ≤ x ∧ x ≤ 3
  · obtain ⟨n, hn, rfl⟩ := xinl (n := 3) (by omega) ⟨Int32.le_trans (by decide) hx.1, hx.2⟩
    have h0 : 0 < n := (nI_leI (a := 1) (by omega) (by omega)).mp hx.1
    by_cases hg : g b.1 2 = 0
    · exact xTm (c_X11_picks_state hb1 hn h0 hg) (by first | rfl | (simp (disch := omega) only [xfC, xfR, up_na, up_ni, up_same, gfill_na, gset_na, gcopy_na, gseg_na])) (by first | rfl | (simp (disch := omega) only [xfC, xfR, up_na, up_ni, up_same, gfill_na, gset_na, gcopy_na, gseg_na]))
    · exact (c_X11_picks_ok hb1 hR hp hbv hn h0 hg).weak (fun r M w => by obtain ⟨g1, e2, e1, e3⟩ := w; exact ⟨b, _, _, e1, by rw [e2 0 (by omega) (by omega)], by rw [e2 73 (by omega) (by omega)]⟩)
  · exact xTm (c_X11_picks_bad hx) (by first | rfl | (simp (disch := omega) only [xfC, xfR, up_na, up_ni, up_same, gfill_na, gset_na, gcopy_na, gseg_na])) (by first | rfl | (simp (disch := omega) only [xfC, xfR, up_na, up_ni, up_same, gfill_na, gset_na, gcopy_na, gseg_na]))
theorem tb_picks (hI : xIc b g G T Lw m) (hJ : xIr b g G T Lw m) : xT 10 224 [.ref 73, .int x] (xH b g l) (fun _ M => xTo M (g 0 11, l 0 12, l 0 13) (g 73 20, l 73 21, l 73 22)) := by
  obtain ⟨hb, hp, hRm, htx, ⟨_, hm⟩, hDk, hK, hZc, hY⟩ := hI
  obtain ⟨hR, hs, hD, hKr, hQ, hYr⟩ := hJ
  have hZ : ∀ r, r < 6 → xsz (g 74 r) 40 := fun r h => by rw [(hQ r h).1]; exact hZc r h
  have eG : g 73 10 = nI G := hR.1.1
  have hG6 : G ≤ 6 := hR.1.2
  have hT8 : T ≤ 8 := hR.2.1.2
  have hZ6 : ∀ q, q < 6 → xsz (g 74 q) 60 := fun q h => (hZ q h).elim Or.inl (fun ⟨n, a1, a2⟩ => Or.inr ⟨n, by omega, a2⟩)
  have hY6 : ∀ q, q < 4 → xsz (g 76 q) 60 := fun q h => by rw [(hYr q h).1]; exact hY q h
  have hK6 : ∀ q, q < 3 → xsz (g 86 q) 60 := fun q h => by
    rw [(hKr q h).1]
    rcases hK q h with z | ⟨n, z1, z2, _⟩
    · exact Or.inl z
    · exact Or.inr ⟨n, by omega, z2⟩
  by_cases hx : 1 ≤ x ∧ x ≤ 3
  · obtain ⟨n, hn, rfl⟩ := xinl (n := 3) (by omega) ⟨Int32.le_trans (by decide) hx.1, hx.2⟩
    have h0 : 0 < n := (nI_leI (a := 1) (by omega) (by omega)).mp hx.1
    by_cases hg : g 73 10 = 0
    · exact xTm (c_X12_picks_state hn h0 hg) (by first | rfl | (simp (disch := omega) only [xfC, xfR, up_na, up_ni, up_same, gfill_na, gset_na, gcopy_na, gseg_na])) (by first | rfl | (simp (disch := omega) only [xfC, xfR, up_na, up_ni, up_same, gfill_na, gset_na, gcopy_na, gseg_na]))
    · exact (c_X12_picks_ok hR hn h0 hg).weak (fun r M w => by obtain ⟨g1, e2, e1, e3⟩ := w; exact ⟨b, _, _, e1, by rw [e2.1 0 (by decide) (by decide)], by rw [e2.2 20 (by decide)]⟩)
  · exact xTm (c_X12_picks_bad hx) (by first | rfl | (simp (disch := omega) only [xfC, xfR, up_na, up_ni, up_same, gfill_na, gset_na, gcopy_na, gseg_na])) (by first | rfl | (simp (disch := omega) only [xfC, xfR, up_na, up_ni, up_same, gfill_na, gset_na, gcopy_na, gseg_na]))
theorem ta_count (hI : xIc b g G T Lw m) : xT 10 118 [.ref 0, .int x] (xH b g l) (fun _ M => xTo M (g 0 11, l 0 12, l 0 13) (g 73 20, l 73 21, l 73 22)) := by
  obtain ⟨hb, hp, hR, htx, ⟨hs, hm⟩, hD, hK, hZ, hY⟩ := hI
  obtain ⟨hb1, hb2⟩ := xro_b hb
  have hq := xb2 hb
  have hbv : b.1 = 7 ∨ b.1 = 11 := by omega
  have hbw : b.2 = 7 ∨ b.2 = 11 := by omega
  have eG : g b.1 2 = nI G := hR.1.1
  have hG6 : G ≤ 6 := hR.1.2
  have eT : g b.1 4 = nI T := hR.2.1.1
  have hT8 : T ≤ 8 := hR.2.1.2
  by_cases hx : 0 ≤ x ∧ x < 9
  · obtain ⟨t, ht, rfl⟩ := xin (n := 9) (by omega) hx
    exact xTm (c_X11_count hb1 hR hp hs hm ht) (by first | rfl | (simp (disch := omega) only [xfC, xfR, up_na, up_ni, up_same, gfill_na, gset_na, gcopy_na, gseg_na])) (by first | rfl | (simp (disch := omega) only [xfC, xfR, up_na, up_ni, up_same, gfill_na, gset_na, gcopy_na, gseg_na]))
  · exact xTm (c_X11_count_bad hx) (by first | rfl | (simp (disch := omega) only [xfC, xfR, up_na, up_ni, up_same, gfill_na, gset_na, gcopy_na, gseg_na])) (by first | rfl | (simp (disch := omega) only [xfC, xfR, up_na, up_ni, up_same, gfill_na, gset_na, gcopy_na, gseg_na]))
theorem tb_count (hI : xIc b g G T Lw m) (hJ : xIr b g G T Lw m) : xT 10 234 [.ref 73, .int x] (xH b g l) (fun _ M => xTo M (g 0 11, l 0 12, l 0 13) (g 73 20, l 73 21, l 73 22)) := by
  obtain ⟨hb, hp, hRm, htx, ⟨_, hm⟩, hDk, hK, hZc, hY⟩ := hI
  obtain ⟨hR, hs, hD, hKr, hQ, hYr⟩ := hJ
  have hZ : ∀ r, r < 6 → xsz (g 74 r) 40 := fun r h => by rw [(hQ r h).1]; exact hZc r h
  have eG : g 73 10 = nI G := hR.1.1
  have hG6 : G ≤ 6 := hR.1.2
  have hT8 : T ≤ 8 := hR.2.1.2
  have hZ6 : ∀ q, q < 6 → xsz (g 74 q) 60 := fun q h => (hZ q h).elim Or.inl (fun ⟨n, a1, a2⟩ => Or.inr ⟨n, by omega, a2⟩)
  have hY6 : ∀ q, q < 4 → xsz (g 76 q) 60 := fun q h => by rw [(hYr q h).1]; exact hY q h
  have hK6 : ∀ q, q < 3 → xsz (g 86 q) 60 := fun q h => by
    rw [(hKr q h).1]
    rcases hK q h with z | ⟨n, z1, z2, _⟩
    · exact Or.inl z
    · exact Or.inr ⟨n, by omega, z2⟩
  by_cases hx : 0 ≤ x ∧ x < 9
  · obtain ⟨t, ht, rfl⟩ := xin (n := 9) (by omega) hx
    exact xTm (c_X12_count_ok hR hD hm hs hZ6 hY6 hK6 ht) (by first | rfl | (simp (disch := omega) only [xfC, xfR, up_na, up_ni, up_same, gfill_na, gset_na, gcopy_na, gseg_na])) (by first | rfl | (simp (disch := omega) only [xfC, xfR, up_na, up_ni, up_same, gfill_na, gset_na, gcopy_na, gseg_na]))
  · exact xTm (c_X12_count_bad hx) (by first | rfl | (simp (disch := omega) only [xfC, xfR, up_na, up_ni, up_same, gfill_na, gset_na, gcopy_na, gseg_na])) (by first | rfl | (simp (disch := omega) only [xfC, xfR, up_na, up_ni, up_same, gfill_na, gset_na, gcopy_na, gseg_na]))
theorem ta_finding (hI : xIc b g G T Lw m) : xT 10 119 [.ref 0] (xH b g l) (fun _ M => xTo M (g 0 11, l 0 12, l 0 13) (g 73 20, l 73 21, l 73 22)) := by
  obtain ⟨hb, hp, hR, htx, ⟨hs, hm⟩, hD, hK, hZ, hY⟩ := hI
  obtain ⟨hb1, hb2⟩ := xro_b hb
  have hq := xb2 hb
  have hbv : b.1 = 7 ∨ b.1 = 11 := by omega
  have hbw : b.2 = 7 ∨ b.2 = 11 := by omega
  have eG : g b.1 2 = nI G := hR.1.1
  have hG6 : G ≤ 6 := hR.1.2
  have eT : g b.1 4 = nI T := hR.2.1.1
  have hT8 : T ≤ 8 := hR.2.1.2
  exact xTm (c_X11_finding) (by first | rfl | (simp (disch := omega) only [xfC, xfR, up_na, up_ni, up_same, gfill_na, gset_na, gcopy_na, gseg_na])) (by first | rfl | (simp (disch := omega) only [xfC, xfR, up_na, up_ni, up_same, gfill_na, gset_na, gcopy_na, gseg_na]))
theorem tb_finding (hI : xIc b g G T Lw m) (hJ : xIr b g G T Lw m) : xT 10 235 [.ref 73] (xH b g l) (fun _ M => xTo M (g 0 11, l 0 12, l 0 13) (g 73 20, l 73 21, l 73 22)) := by
  obtain ⟨hb, hp, hRm, htx, ⟨_, hm⟩, hDk, hK, hZc, hY⟩ := hI
  obtain ⟨hR, hs, hD, hKr, hQ, hYr⟩ := hJ
  have hZ : ∀ r, r < 6 → xsz (g 74 r) 40 := fun r h => by rw [(hQ r h).1]; exact hZc r h
  have eG : g 73 10 = nI G := hR.1.1
  have hG6 : G ≤ 6 := hR.1.2
  have hT8 : T ≤ 8 := hR.2.1.2
  have hZ6 : ∀ q, q < 6 → xsz (g 74 q) 60 := fun q h => (hZ q h).elim Or.inl (fun ⟨n, a1, a2⟩ => Or.inr ⟨n, by omega, a2⟩)
  have hY6 : ∀ q, q < 4 → xsz (g 76 q) 60 := fun q h => by rw [(hYr q h).1]; exact hY q h
  have hK6 : ∀ q, q < 3 → xsz (g 86 q) 60 := fun q h => by
    rw [(hKr q h).1]
    rcases hK q h with z | ⟨n, z1, z2, _⟩
    · exact Or.inl z
    · exact Or.inr ⟨n, by omega, z2⟩
  exact xTm (c_X12_finding) (by first | rfl | (simp (disch := omega) only [xfC, xfR, up_na, up_ni, up_same, gfill_na, gset_na, gcopy_na, gseg_na])) (by first | rfl | (simp (disch := omega) only [xfC, xfR, up_na, up_ni, up_same, gfill_na, gset_na, gcopy_na, gseg_na]))
theorem ta_findings (hI : xIc b g G T Lw m) : xT 10 120 [.ref 0, .int x] (xH b g l) (fun _ M => xTo M (g 0 11, l 0 12, l 0 13) (g 73 20, l 73 21, l 73 22)) := by
  obtain ⟨hb, hp, hR, htx, ⟨hs, hm⟩, hD, hK, hZ, hY⟩ := hI
  obtain ⟨hb1, hb2⟩ := xro_b hb
  have hq := xb2 hb
  have hbv : b.1 = 7 ∨ b.1 = 11 := by omega
  have hbw : b.2 = 7 ∨ b.2 = 11 := by omega
  have eG : g b.1 2 = nI G := hR.1.1
  have hG6 : G ≤ 6 := hR.1.2
  have eT : g b.1 4 = nI T := hR.2.1.1
  have hT8 : T ≤ 8 := hR.2.1.2
  by_cases hx : 1 ≤ x ∧ x ≤ 5
  · obtain ⟨t, ht1, ht, rfl⟩ := nI_1le hx
    exact xTm (c_X11_findings_ok ht1 ht) (by first | rfl | (simp (disch := omega) only [xfC, xfR, up_na, up_ni, up_same, gfill_na, gset_na, gcopy_na, gseg_na])) (by first | rfl | (simp (disch := omega) only [xfC, xfR, up_na, up_ni, up_same, gfill_na, gset_na, gcopy_na, gseg_na]))
  · exact xTm (c_X11_findings_bad hx) (by first | rfl | (simp (disch := omega) only [xfC, xfR, up_na, up_ni, up_same, gfill_na, gset_na, gcopy_na, gseg_na])) (by first | rfl | (simp (disch := omega) only [xfC, xfR, up_na, up_ni, up_same, gfill_na, gset_na, gcopy_na, gseg_na]))
theorem tb_findings (hI : xIc b g G T Lw m) (hJ : xIr b g G T Lw m) : xT 10 236 [.ref 73, .int x] (xH b g l) (fun _ M => xTo M (g 0 11, l 0 12, l 0 13) (g 73 20, l 73 21, l 73 22)) := by
  obtain ⟨hb, hp, hRm, htx, ⟨_, hm⟩, hDk, hK, hZc, hY⟩ := hI
  obtain ⟨hR, hs, hD, hKr, hQ, hYr⟩ := hJ
  have hZ : ∀ r, r < 6 → xsz (g 74 r) 40 := fun r h => by rw [(hQ r h).1]; exact hZc r h
  have eG : g 73 10 = nI G := hR.1.1
  have hG6 : G ≤ 6 := hR.1.2
  have hT8 : T ≤ 8 := hR.2.1.2
  have hZ6 : ∀ q, q < 6 → xsz (g 74 q) 60 := fun q h => (hZ q h).elim Or.inl (fun ⟨n, a1, a2⟩ => Or.inr ⟨n, by omega, a2⟩)
  have hY6 : ∀ q, q < 4 → xsz (g 76 q) 60 := fun q h => by rw [(hYr q h).1]; exact hY q h
  have hK6 : ∀ q, q < 3 → xsz (g 86 q) 60 := fun q h => by
    rw [(hKr q h).1]
    rcases hK q h with z | ⟨n, z1, z2, _⟩
    · exact Or.inl z
    · exact Or.inr ⟨n, by omega, z2⟩
  by_cases hx : 1 ≤ x ∧ x ≤ 5
  · obtain ⟨t, ht1, ht, rfl⟩ := nI_1le hx
    exact xTm (c_X12_findings_ok ht1 ht) (by first | rfl | (simp (disch := omega) only [xfC, xfR, up_na, up_ni, up_same, gfill_na, gset_na, gcopy_na, gseg_na])) (by first | rfl | (simp (disch := omega) only [xfC, xfR, up_na, up_ni, up_same, gfill_na, gset_na, gcopy_na, gseg_na]))
  · exact xTm (c_X12_findings_bad hx) (by first | rfl | (simp (disch := omega) only [xfC, xfR, up_na, up_ni, up_same, gfill_na, gset_na, gcopy_na, gseg_na])) (by first | rfl | (simp (disch := omega) only [xfC, xfR, up_na, up_ni, up_same, gfill_na, gset_na, gcopy_na, gseg_na]))
theorem ta_digest (hI : xIc b g G T Lw m) : xT 10 121 [.ref 0] (xH b g l) (fun _ M => xTo M (g 0 11, l 0 12, l 0 13) (g 73 20, l 73 21, l 73 22)) := by
  obtain ⟨hb, hp, hR, htx, ⟨hs, hm⟩, hD, hK, hZ, hY⟩ := hI
  obtain ⟨hb1, hb2⟩ := xro_b hb
  have hq := xb2 hb
  have hbv : b.1 = 7 ∨ b.1 = 11 := by omega
  have hbw : b.2 = 7 ∨ b.2 = 11 := by omega
  have eG : g b.1 2 = nI G := hR.1.1
  have hG6 : G ≤ 6 := hR.1.2
  have eT : g b.1 4 = nI T := hR.2.1.1
  have hT8 : T ≤ 8 := hR.2.1.2
  exact xTm (c_X11_digest hb1 hR hp hs hm hZ hY) (by first | rfl | (simp (disch := omega) only [xfC, xfR, up_na, up_ni, up_same, gfill_na, gset_na, gcopy_na, gseg_na])) (by first | rfl | (simp (disch := omega) only [xfC, xfR, up_na, up_ni, up_same, gfill_na, gset_na, gcopy_na, gseg_na]))
theorem tb_digest (hI : xIc b g G T Lw m) (hJ : xIr b g G T Lw m) : xT 10 238 [.ref 73] (xH b g l) (fun _ M => xTo M (g 0 11, l 0 12, l 0 13) (g 73 20, l 73 21, l 73 22)) := by
  obtain ⟨hb, hp, hRm, htx, ⟨_, hm⟩, hDk, hK, hZc, hY⟩ := hI
  obtain ⟨hR, hs, hD, hKr, hQ, hYr⟩ := hJ
  have hZ : ∀ r, r < 6 → xsz (g 74 r) 40 := fun r h => by rw [(hQ r h).1]; exact hZc r h
  have eG : g 73 10 = nI G := hR.1.1
  have hG6 : G ≤ 6 := hR.1.2
  have hT8 : T ≤ 8 := hR.2.1.2
  have hZ6 : ∀ q, q < 6 → xsz (g 74 q) 60 := fun q h => (hZ q h).elim Or.inl (fun ⟨n, a1, a2⟩ => Or.inr ⟨n, by omega, a2⟩)
  have hY6 : ∀ q, q < 4 → xsz (g 76 q) 60 := fun q h => by rw [(hYr q h).1]; exact hY q h
  have hK6 : ∀ q, q < 3 → xsz (g 86 q) 60 := fun q h => by
    rw [(hKr q h).1]
    rcases hK q h with z | ⟨n, z1, z2, _⟩
    · exact Or.inl z
    · exact Or.inr ⟨n, by omega, z2⟩
  exact xTm (c_X12_digest hR hD hm hs hZ6 hY6 hK6 hZ) (by first | rfl | (simp (disch := omega) only [xfC, xfR, up_na, up_ni, up_same, gfill_na, gset_na, gcopy_na, gseg_na])) (by first | rfl | (simp (disch := omega) only [xfC, xfR, up_na, up_ni, up_same, gfill_na, gset_na, gcopy_na, gseg_na]))
theorem j3_at (hJ : xJ b g) : xJ3 Value.int True 80 161 [.int x, .int i] b g l := by
  have hJ0 := hJ
  obtain ⟨G, T, Lw, m, hI, hr⟩ := hJ
  have hq := xb2 hI.1
  refine xJ3.light (j_at hJ0) (k_at hI) (ta_at hI) (fun g1 l1 hA ho hT => ?_)
  have eo := ho.trans (xTd_e hT)
  have hc : ∀ a, ¬ xSc b a → a ≠ 73 → g1 a = g a := hA.1
  refine (tb_at (x := x) (i := i) (l := l1) (xIc_ag hA hI) (xIr_ag hI.1 hA hr)).weak (fun _ M w => ?_)
  have ea : (if 0 ≤ x ∧ x < 6 then (if g1 (23 + 2 * xN x) 1 = -1 then (g1 73 20, l1 73 21, l1 73 22) else if 0 ≤ i ∧ i < g1 (23 + 2 * xN x) 1 then (g1 (23 + 2 * xN x + 1) (xN i), l1 73 21, l1 73 22) else (g1 73 20, l1 73 21, l1 73 22)) else (g1 73 20, l1 73 21, l1 73 22)) = (if 0 ≤ x ∧ x < 6 then (if g (23 + 2 * xN x) 1 = -1 then (g 0 11, l 0 12, l 0 13) else if 0 ≤ i ∧ i < g (23 + 2 * xN x) 1 then (g (23 + 2 * xN x + 1) (xN i), l 0 12, l 0 13) else (g 0 11, l 0 12, l 0 13)) else (g 0 11, l 0 12, l 0 13)) := by
    have eu : l1 73 21 = l 0 12 := congrArg (fun q => q.2.1) eo
    have ew : l1 73 22 = l 0 13 := congrArg (fun q => q.2.2) eo
    try rw [eo]
    try rw [eu]
    try rw [ew]
    by_cases hx : 0 ≤ x ∧ x < 6
    · rw [if_pos hx, if_pos hx]
      have h_x : xN x < 6 := xN_lt (n := 6) (by omega) hx
      try rw [hc (23 + 2 * xN x) (by unfold xSc; omega) (by omega)]
      try rw [hc (23 + 2 * xN x + 1) (by unfold xSc; omega) (by omega)]
      try rfl
    · rw [if_neg hx, if_neg hx]
  exact Eq.mp (congrArg (xTo M (g1 0 11, l1 0 12, l1 0 13)) ea) w
theorem j3_mean (hJ : xJ b g) : xJ3 Value.int True 83 165 [.int x] b g l := by
  have hJ0 := hJ
  obtain ⟨G, T, Lw, m, hI, hr⟩ := hJ
  have hq := xb2 hI.1
  refine xJ3.light (j_mean hJ0) (k_mean hI) (ta_mean hI) (fun g1 l1 hA ho hT => ?_)
  have eo := ho.trans (xTd_e hT)
  have hc : ∀ a, ¬ xSc b a → a ≠ 73 → g1 a = g a := hA.1
  refine (tb_mean (x := x) (l := l1) (xIc_ag hA hI) (xIr_ag hI.1 hA hr)).weak (fun _ M w => ?_)
  have ea : (if 0 ≤ x ∧ x < 6 then (if g1 (23 + 2 * xN x) 1 = -1 then (g1 73 20, l1 73 21, l1 73 22) else if g1 (23 + 2 * xN x) 1 = nI 0 then (g1 73 20, l1 73 21, l1 73 22) else (xmean (g1 (23 + 2 * xN x + 1)) (xN (g1 (23 + 2 * xN x) 1)), l1 73 21, l1 73 22)) else (g1 73 20, l1 73 21, l1 73 22)) = (if 0 ≤ x ∧ x < 6 then (if g (23 + 2 * xN x) 1 = -1 then (g 0 11, l 0 12, l 0 13) else if g (23 + 2 * xN x) 1 = nI 0 then (g 0 11, l 0 12, l 0 13) else (xmean (g (23 + 2 * xN x + 1)) (xN (g (23 + 2 * xN x) 1)), l 0 12, l 0 13)) else (g 0 11, l 0 12, l 0 13)) := by
    have eu : l1 73 21 = l 0 12 := congrArg (fun q => q.2.1) eo
    have ew : l1 73 22 = l 0 13 := congrArg (fun q => q.2.2) eo
    try rw [eo]
    try rw [eu]
    try rw [ew]
    by_cases hx : 0 ≤ x ∧ x < 6
    · rw [if_pos hx, if_pos hx]
      have h_x : xN x < 6 := xN_lt (n := 6) (by omega) hx
      try rw [hc (23 + 2 * xN x) (by unfold xSc; omega) (by omega)]
      try rw [hc (23 + 2 * xN x + 1) (by unfold xSc; omega) (by omega)]
      try rfl
    · rw [if_neg hx, if_neg hx]
  exact Eq.mp (congrArg (xTo M (g1 0 11, l1 0 12, l1 0 13)) ea) w
theorem j3_fault (hJ : xJ b g) : xJ3 Value.int True 86 176 [.int x] b g l := by
  have hJ0 := hJ
  obtain ⟨G, T, Lw, m, hI, hr⟩ := hJ
  have hq := xb2 hI.1
  refine xJ3.light (j_fault hJ0) (k_fault hI) (ta_fault hI) (fun g1 l1 hA ho hT => ?_)
  have eo := ho.trans (xTd_e hT)
  have hc : ∀ a, ¬ xSc b a → a ≠ 73 → g1 a = g a := hA.1
  refine (tb_fault (x := x) (l := l1) (xIc_ag hA hI) (xIr_ag hI.1 hA hr)).weak (fun _ M w => ?_)
  rw [eo] at w
  exact w
theorem j3_glass (hJ : xJ b g) : xJ3 Value.int True 88 187 [.int x, .int y] b g l := by
  have hJ0 := hJ
  obtain ⟨G, T, Lw, m, hI, hr⟩ := hJ
  have hq := xb2 hI.1
  refine xJ3.light (j_glass hJ0) (k_glass hI) (ta_glass hI) (fun g1 l1 hA ho hT => ?_)
  have eo := ho.trans (xTd_e hT)
  have hc : ∀ a, ¬ xSc b a → a ≠ 73 → g1 a = g a := hA.1
  refine (tb_glass (x := x) (y := y) (l := l1) (xIc_ag hA hI) (xIr_ag hI.1 hA hr)).weak (fun _ M w => ?_)
  have ea : (if (0 ≤ x ∧ x < nI G) ∧ 0 ≤ y ∧ y ≤ 3 then (xgf g1 Lw m (xN x) (xN y), l1 73 21, l1 73 22) else (g1 73 20, l1 73 21, l1 73 22)) = (if (0 ≤ x ∧ x < nI G) ∧ 0 ≤ y ∧ y ≤ 3 then (xgf g Lw m (xN x) (xN y), l 0 12, l 0 13) else (g 0 11, l 0 12, l 0 13)) := by
    have eu : l1 73 21 = l 0 12 := congrArg (fun q => q.2.1) eo
    have ew : l1 73 22 = l 0 13 := congrArg (fun q => q.2.2) eo
    try rw [eo]
    try rw [eu]
    try rw [ew]
    unfold xgf
    rw [hc 5 (by unfold xSc; omega) (by omega)]
  exact Eq.mp (congrArg (xTo M (g1 0 11, l1 0 12, l1 0 13)) ea) w
theorem j3_mark (hJ : xJ b g) : xJ3 Value.int True 89 188 [.int x, .int y] b g l := by
  have hJ0 := hJ
  obtain ⟨G, T, Lw, m, hI, hr⟩ := hJ
  have hq := xb2 hI.1
  refine xJ3.light (j_mark hJ0) (k_mark hI) (ta_mark hI) (fun g1 l1 hA ho hT => ?_)
  have eo := ho.trans (xTd_e hT)
  have hc : ∀ a, ¬ xSc b a → a ≠ 73 → g1 a = g a := hA.1
  refine (tb_mark (x := x) (y := y) (l := l1) (xIc_ag hA hI) (xIr_ag hI.1 hA hr)).weak (fun _ M w => ?_)
  rw [eo] at w
  exact w
theorem j3_habit (hJ : xJ b g) : xJ3 Value.int True 90 189 [.int x] b g l := by
  have hJ0 := hJ
  obtain ⟨G, T, Lw, m, hI, hr⟩ := hJ
  have hq := xb2 hI.1
  refine xJ3.light (j_habit hJ0) (k_habit hI) (ta_habit hI) (fun g1 l1 hA ho hT => ?_)
  have eo := ho.trans (xTd_e hT)
  have hc : ∀ a, ¬ xSc b a → a ≠ 73 → g1 a = g a := hA.1
  refine (tb_habit (x := x) (l := l1) (xIc_ag hA hI) (xIr_ag hI.1 hA hr)).weak (fun _ M w => ?_)
  rw [eo] at w
  exact w
theorem j3_term (hJ : xJ b g) : xJ3 Value.int True 91 190 [.int x, .int y] b g l := by
  have hJ0 := hJ
  obtain ⟨G, T, Lw, m, hI, hr⟩ := hJ
  have hq := xb2 hI.1
  refine xJ3.light (j_term hJ0) (k_term hI) (ta_term hI) (fun g1 l1 hA ho hT => ?_)
  have eo := ho.trans (xTd_e hT)
  have hc : ∀ a, ¬ xSc b a → a ≠ 73 → g1 a = g a := hA.1
  refine (tb_term (x := x) (y := y) (l := l1) (xIc_ag hA hI) (xIr_ag hI.1 hA hr)).weak (fun _ M w => ?_)
  rw [eo] at w
  exact w
theorem j3_deed (hJ : xJ b g) : xJ3 Value.int True 93 193 [.int x, .int y] b g l := by
  have hJ0 := hJ
  obtain ⟨G, T, Lw, m, hI, hr⟩ := hJ
  have hq := xb2 hI.1
  refine xJ3.light (j_deed hJ0) (k_deed hI) (ta_deed hI) (fun g1 l1 hA ho hT => ?_)
  have eo := ho.trans (xTd_e hT)
  have hc : ∀ a, ¬ xSc b a → a ≠ 73 → g1 a = g a := hA.1
  refine (tb_deed (x := x) (y := y) (l := l1) (xIc_ag hA hI) (xIr_ag hI.1 hA hr)).weak (fun _ M w => ?_)
  have ea : (if (0 ≤ x ∧ x < nI m) ∧ 0 ≤ y ∧ y ≤ 3 then (g1 5 (4 * xN x + xN y), l1 73 21, l1 73 22) else (g1 73 20, l1 73 21, l1 73 22)) = (if (0 ≤ x ∧ x < nI m) ∧ 0 ≤ y ∧ y ≤ 3 then (g 5 (4 * xN x + xN y), l 0 12, l 0 13) else (g 0 11, l 0 12, l 0 13)) := by
    have eu : l1 73 21 = l 0 12 := congrArg (fun q => q.2.1) eo
    have ew : l1 73 22 = l 0 13 := congrArg (fun q => q.2.2) eo
    try rw [eo]
    try rw [eu]
    try rw [ew]
    rw [hc 5 (by unfold xSc; omega) (by omega)]
  exact Eq.mp (congrArg (xTo M (g1 0 11, l1 0 12, l1 0 13)) ea) w
theorem j3_broken (hJ : xJ b g) : xJ3 Value.int True 94 195 [] b g l := by
  have hJ0 := hJ
  obtain ⟨G, T, Lw, m, hI, hr⟩ := hJ
  have hq := xb2 hI.1
  refine xJ3.light (j_broken hJ0) (k_broken hI) (ta_broken hI) (fun g1 l1 hA ho hT => ?_)
  have eo := ho.trans (xTd_e hT)
  have hc : ∀ a, ¬ xSc b a → a ≠ 73 → g1 a = g a := hA.1
  refine (tb_broken (l := l1) (xIc_ag hA hI) (xIr_ag hI.1 hA hr)).weak (fun _ M w => ?_)
  have ea : (xfI (xfst (fun d => !decide (g1 5 (4 * d + 3) = -9)) m), l1 73 21, l1 73 22) = (xfI (xfst (fun d => !decide (g 5 (4 * d + 3) = -9)) m), l 0 12, l 0 13) := by
    have eu : l1 73 21 = l 0 12 := congrArg (fun q => q.2.1) eo
    have ew : l1 73 22 = l 0 13 := congrArg (fun q => q.2.2) eo
    try rw [eo]
    try rw [eu]
    try rw [ew]
    rw [hc 5 (by unfold xSc; omega) (by omega)]
  exact Eq.mp (congrArg (xTo M (g1 0 11, l1 0 12, l1 0 13)) ea) w
theorem j3_breaks (hJ : xJ b g) : xJ3 Value.int True 99 204 [.int x, .int y] b g l := by
  have hJ0 := hJ
  obtain ⟨G, T, Lw, m, hI, hr⟩ := hJ
  have hq := xb2 hI.1
  refine xJ3.light (j_breaks hJ0) (k_breaks hI) (ta_breaks hI) (fun g1 l1 hA ho hT => ?_)
  have eo := ho.trans (xTd_e hT)
  have hc : ∀ a, ¬ xSc b a → a ≠ 73 → g1 a = g a := hA.1
  refine (tb_breaks (x := x) (y := y) (l := l1) (xIc_ag hA hI) (xIr_ag hI.1 hA hr)).weak (fun _ M w => ?_)
  have ea : (if (0 ≤ x ∧ x < nI G) ∧ 0 ≤ y ∧ y < 6 then (if xfos (g1 (23 + 2 * xN y) 1) (g1 (23 + 2 * xN y + 1)) 12 = 0 then (nI (xcnt (fun i => !decide (xfb (g1 (b.1 + 3)) T (g1 (23 + 2 * xN y + 1) i) (xshw (g1 (b.1 + 1)) (Lw (xN x) / 4) (Lw (xN x) % 4) (fun i => xN (g1 (23 + 2 * xN y + 1) i)) i) = none)) (xN (g1 (23 + 2 * xN y) 1))), l1 73 21, l1 73 22) else (g1 73 20, l1 73 21, l1 73 22)) else (g1 73 20, l1 73 21, l1 73 22)) = (if (0 ≤ x ∧ x < nI G) ∧ 0 ≤ y ∧ y < 6 then (if xfos (g (23 + 2 * xN y) 1) (g (23 + 2 * xN y + 1)) 12 = 0 then (nI (xcnt (fun i => !decide (xfb (g (b.1 + 3)) T (g (23 + 2 * xN y + 1) i) (xshw (g (b.1 + 1)) (Lw (xN x) / 4) (Lw (xN x) % 4) (fun i => xN (g (23 + 2 * xN y + 1) i)) i) = none)) (xN (g (23 + 2 * xN y) 1))), l 0 12, l 0 13) else (g 0 11, l 0 12, l 0 13)) else (g 0 11, l 0 12, l 0 13)) := by
    have eu : l1 73 21 = l 0 12 := congrArg (fun q => q.2.1) eo
    have ew : l1 73 22 = l 0 13 := congrArg (fun q => q.2.2) eo
    try rw [eo]
    try rw [eu]
    try rw [ew]
    by_cases hx : (0 ≤ x ∧ x < nI G) ∧ 0 ≤ y ∧ y < 6
    · rw [if_pos hx, if_pos hx]
      have h_y : xN y < 6 := xN_lt (n := 6) (by omega) hx.2
      try rw [hc (23 + 2 * xN y) (by unfold xSc; omega) (by omega)]
      try rw [hc (23 + 2 * xN y + 1) (by unfold xSc; omega) (by omega)]
      try rw [hc (b.1 + 1) (by unfold xSc; omega) (by omega)]
      try rw [hc (b.1 + 3) (by unfold xSc; omega) (by omega)]
      try rfl
    · rw [if_neg hx, if_neg hx]
  exact Eq.mp (congrArg (xTo M (g1 0 11, l1 0 12, l1 0 13)) ea) w
theorem j3_alike (hJ : xJ b g) : xJ3 Value.int True 100 205 [.int x, .int y] b g l := by
  have hJ0 := hJ
  obtain ⟨G, T, Lw, m, hI, hr⟩ := hJ
  have hq := xb2 hI.1
  refine xJ3.light (j_alike hJ0) (k_alike hI) (ta_alike hI) (fun g1 l1 hA ho hT => ?_)
  have eo := ho.trans (xTd_e hT)
  have hc : ∀ a, ¬ xSc b a → a ≠ 73 → g1 a = g a := hA.1
  refine (tb_alike (x := x) (y := y) (l := l1) (xIc_ag hA hI) (xIr_ag hI.1 hA hr)).weak (fun _ M w => ?_)
  rw [eo] at w
  exact w
theorem j3_fit (hJ : xJ b g) : xJ3 Value.int True 101 206 [.int x, .int y] b g l := by
  have hJ0 := hJ
  obtain ⟨G, T, Lw, m, hI, hr⟩ := hJ
  have hq := xb2 hI.1
  refine xJ3.light (j_fit hJ0) (k_fit hI) (ta_fit hI) (fun g1 l1 hA ho hT => ?_)
  have eo := ho.trans (xTd_e hT)
  have hc : ∀ a, ¬ xSc b a → a ≠ 73 → g1 a = g a := hA.1
  refine (tb_fit (x := x) (y := y) (l := l1) (xIc_ag hA hI) (xIr_ag hI.1 hA hr)).weak (fun _ M w => ?_)
  have ea : (if (0 ≤ x ∧ x < 6) ∧ 0 ≤ y ∧ y < 6 then (if xfop (g1 (23 + 2 * xN x) 1) (g1 (23 + 2 * xN x + 1)) (g1 (23 + 2 * xN y) 1) (g1 (23 + 2 * xN y + 1)) 12 = 0 then (xfI (xfst (fun i => !decide (g1 (23 + 2 * xN x + 1) i = g1 (23 + 2 * xN y + 1) i)) (xN (g1 (23 + 2 * xN x) 1))), l1 73 21, l1 73 22) else (g1 73 20, l1 73 21, l1 73 22)) else (g1 73 20, l1 73 21, l1 73 22)) = (if (0 ≤ x ∧ x < 6) ∧ 0 ≤ y ∧ y < 6 then (if xfop (g (23 + 2 * xN x) 1) (g (23 + 2 * xN x + 1)) (g (23 + 2 * xN y) 1) (g (23 + 2 * xN y + 1)) 12 = 0 then (xfI (xfst (fun i => !decide (g (23 + 2 * xN x + 1) i = g (23 + 2 * xN y + 1) i)) (xN (g (23 + 2 * xN x) 1))), l 0 12, l 0 13) else (g 0 11, l 0 12, l 0 13)) else (g 0 11, l 0 12, l 0 13)) := by
    have eu : l1 73 21 = l 0 12 := congrArg (fun q => q.2.1) eo
    have ew : l1 73 22 = l 0 13 := congrArg (fun q => q.2.2) eo
    try rw [eo]
    try rw [eu]
    try rw [ew]
    by_cases hx : (0 ≤ x ∧ x < 6) ∧ 0 ≤ y ∧ y < 6
    · rw [if_pos hx, if_pos hx]
      have h_x : xN x < 6 := xN_lt (n := 6) (by omega) hx.1
      have h_y : xN y < 6 := xN_lt (n := 6) (by omega) hx.2
      try rw [hc (23 + 2 * xN x) (by unfold xSc; omega) (by omega)]
      try rw [hc (23 + 2 * xN x + 1) (by unfold xSc; omega) (by omega)]
      try rw [hc (23 + 2 * xN y) (by unfold xSc; omega) (by omega)]
      try rw [hc (23 + 2 * xN y + 1) (by unfold xSc; omega) (by omega)]
      try rfl
    · rw [if_neg hx, if_neg hx]
  exact Eq.mp (congrArg (xTo M (g1 0 11, l1 0 12, l1 0 13)) ea) w
theorem j3_ways (hJ : xJ b g) : xJ3 Value.int True 102 210 [.int x, .int y] b g l := by
  have hJ0 := hJ
  obtain ⟨G, T, Lw, m, hI, hr⟩ := hJ
  have hq := xb2 hI.1
  refine xJ3.light (j_ways hJ0) (k_ways hI) (ta_ways hI) (fun g1 l1 hA ho hT => ?_)
  have eo := ho.trans (xTd_e hT)
  have hc : ∀ a, ¬ xSc b a → a ≠ 73 → g1 a = g a := hA.1
  refine (tb_ways (x := x) (y := y) (l := l1) (xIc_ag hA hI) (xIr_ag hI.1 hA hr)).weak (fun _ M w => ?_)
  have ea : (if (0 ≤ x ∧ x < nI G) ∧ 0 ≤ y ∧ y < 6 then (if xfos (g1 (23 + 2 * xN y) 1) (g1 (23 + 2 * xN y + 1)) 6 = 0 then (g1 73 20, lN (xpr (fun i => xpc (xN ((xst (Lw (xN x) / 4) (Lw (xN x) % 4) (xB (g1 (b.1 + 1)) (Lw (xN x) / 4) (g1 (23 + 2 * xN y + 1))) (xN (g1 (23 + 2 * xN y) 1))) i))) (if xnz (xst (Lw (xN x) / 4) (Lw (xN x) % 4) (xB (g1 (b.1 + 1)) (Lw (xN x) / 4) (g1 (23 + 2 * xN y + 1))) (xN (g1 (23 + 2 * xN y) 1))) (xN (g1 (23 + 2 * xN y) 1)) (xps (Lw (xN x) / 4) (Lw (xN x) % 4) (g1 (23 + 2 * xN y + 1)) (xN (g1 (23 + 2 * xN y) 1))) = true then 1 else 0) (xN (g1 (23 + 2 * xN y) 1)) / 1), 1) else (g1 73 20, l1 73 21, l1 73 22)) else (g1 73 20, l1 73 21, l1 73 22)) = (if (0 ≤ x ∧ x < nI G) ∧ 0 ≤ y ∧ y < 6 then (if xfos (g (23 + 2 * xN y) 1) (g (23 + 2 * xN y + 1)) 6 = 0 then (g 0 11, lN (xpr (fun i => xpc (xN ((xst (Lw (xN x) / 4) (Lw (xN x) % 4) (xB (g (b.1 + 1)) (Lw (xN x) / 4) (g (23 + 2 * xN y + 1))) (xN (g (23 + 2 * xN y) 1))) i))) (if xnz (xst (Lw (xN x) / 4) (Lw (xN x) % 4) (xB (g (b.1 + 1)) (Lw (xN x) / 4) (g (23 + 2 * xN y + 1))) (xN (g (23 + 2 * xN y) 1))) (xN (g (23 + 2 * xN y) 1)) (xps (Lw (xN x) / 4) (Lw (xN x) % 4) (g (23 + 2 * xN y + 1)) (xN (g (23 + 2 * xN y) 1))) = true then 1 else 0) (xN (g (23 + 2 * xN y) 1)) / 1), 1) else (g 0 11, l 0 12, l 0 13)) else (g 0 11, l 0 12, l 0 13)) := by
    have eu : g1 73 20 = g 0 11 := congrArg (fun q => q.1) eo
    try rw [eo]
    try rw [eu]
    by_cases hx : (0 ≤ x ∧ x < nI G) ∧ 0 ≤ y ∧ y < 6
    · rw [if_pos hx, if_pos hx]
      have h_y : xN y < 6 := xN_lt (n := 6) (by omega) hx.2
      try rw [hc (23 + 2 * xN y) (by unfold xSc; omega) (by omega)]
      try rw [hc (23 + 2 * xN y + 1) (by unfold xSc; omega) (by omega)]
      try rw [hc (b.1 + 1) (by unfold xSc; omega) (by omega)]
      try rw [hc (b.1 + 3) (by unfold xSc; omega) (by omega)]
      try rfl
    · rw [if_neg hx, if_neg hx]
  exact Eq.mp (congrArg (xTo M (g1 0 11, l1 0 12, l1 0 13)) ea) w
theorem j3_can (hJ : xJ b g) : xJ3 Value.int True 104 212 [.int x, .int y, .int z] b g l := by
  have hJ0 := hJ
  obtain ⟨G, T, Lw, m, hI, hr⟩ := hJ
  have hq := xb2 hI.1
  refine xJ3.light (j_can hJ0) (k_can hI) (ta_can hI) (fun g1 l1 hA ho hT => ?_)
  have eo := ho.trans (xTd_e hT)
  have hc : ∀ a, ¬ xSc b a → a ≠ 73 → g1 a = g a := hA.1
  refine (tb_can (x := x) (y := y) (z := z) (l := l1) (xIc_ag hA hI) (xIr_ag hI.1 hA hr)).weak (fun _ M w => ?_)
  rw [eo] at w
  exact w
theorem j3_laws (hJ : xJ b g) : xJ3 Value.int True 105 214 [.int x, .int y] b g l := by
  have hJ0 := hJ
  obtain ⟨G, T, Lw, m, hI, hr⟩ := hJ
  have hq := xb2 hI.1
  refine xJ3.light (j_laws hJ0) (k_laws hI) (ta_laws hI) (fun g1 l1 hA ho hT => ?_)
  have eo := ho.trans (xTd_e hT)
  have hc : ∀ a, ¬ xSc b a → a ≠ 73 → g1 a = g a := hA.1
  refine (tb_laws (x := x) (y := y) (l := l1) (xIc_ag hA hI) (xIr_ag hI.1 hA hr)).weak (fun _ M w => ?_)
  rw [eo] at w
  exact w
theorem j3_next (hJ : xJ b g) : xJ3 Value.int True 106 216 [.int x, .int y] b g l := by
  have hJ0 := hJ
  obtain ⟨G, T, Lw, m, hI, hr⟩ := hJ
  have hq := xb2 hI.1
  refine xJ3.light (j_next hJ0) (k_next hI) (ta_next hI) (fun g1 l1 hA ho hT => ?_)
  have eo := ho.trans (xTd_e hT)
  have hc : ∀ a, ¬ xSc b a → a ≠ 73 → g1 a = g a := hA.1
  refine (tb_next (x := x) (y := y) (l := l1) (xIc_ag hA hI) (xIr_ag hI.1 hA hr)).weak (fun _ M w => ?_)
  have ea : (if (0 ≤ x ∧ x < 6) ∧ 0 ≤ y ∧ y < 6 then (if xfop (g1 (23 + 2 * xN x) 1) (g1 (23 + 2 * xN x + 1)) (g1 (23 + 2 * xN y) 1) (g1 (23 + 2 * xN y + 1)) 11 = 0 then (if xcnt (fun q => decide (xfst (fun i => !decide (xshw (g1 (b.1 + 1)) (q / 4) (q % 4) (fun i => xN (g1 (23 + 2 * xN x + 1) i)) i = g1 (23 + 2 * xN y + 1) i)) (xN (g1 (23 + 2 * xN x) 1)) = none)) 24 < 2 then (g1 73 20, l1 73 21, l1 73 22) else ((nI (xnx (fun s => xmx (fun j => decide ((xbits (fun q => decide (xfst (fun i => !decide (xshw (g1 (b.1 + 1)) (q / 4) (q % 4) (fun i => xN (g1 (23 + 2 * xN x + 1) i)) i = g1 (23 + 2 * xN y + 1) i)) (xN (g1 (23 + 2 * xN x) 1)) = none)) 24 >>> (nI j &&& 31)) &&& 1 = 1)) (fun q => xN (xshw (g1 (b.1 + 1)) (q / 4) (q % 4) (fup (fun i => xN (g1 (23 + 2 * xN x + 1) i)) (xN (g1 (23 + 2 * xN x) 1)) s) (xN (g1 (23 + 2 * xN x) 1)))) 24) 6).1), l1 73 21, l1 73 22)) else (g1 73 20, l1 73 21, l1 73 22)) else (g1 73 20, l1 73 21, l1 73 22)) = (if (0 ≤ x ∧ x < 6) ∧ 0 ≤ y ∧ y < 6 then (if xfop (g (23 + 2 * xN x) 1) (g (23 + 2 * xN x + 1)) (g (23 + 2 * xN y) 1) (g (23 + 2 * xN y + 1)) 11 = 0 then (if xcnt (fun q => decide (xfst (fun i => !decide (xshw (g (b.1 + 1)) (q / 4) (q % 4) (fun i => xN (g (23 + 2 * xN x + 1) i)) i = g (23 + 2 * xN y + 1) i)) (xN (g (23 + 2 * xN x) 1)) = none)) 24 < 2 then (g 0 11, l 0 12, l 0 13) else ((nI (xnx (fun s => xmx (fun j => decide ((xbits (fun q => decide (xfst (fun i => !decide (xshw (g (b.1 + 1)) (q / 4) (q % 4) (fun i => xN (g (23 + 2 * xN x + 1) i)) i = g (23 + 2 * xN y + 1) i)) (xN (g (23 + 2 * xN x) 1)) = none)) 24 >>> (nI j &&& 31)) &&& 1 = 1)) (fun q => xN (xshw (g (b.1 + 1)) (q / 4) (q % 4) (fup (fun i => xN (g (23 + 2 * xN x + 1) i)) (xN (g (23 + 2 * xN x) 1)) s) (xN (g (23 + 2 * xN x) 1)))) 24) 6).1), l 0 12, l 0 13)) else (g 0 11, l 0 12, l 0 13)) else (g 0 11, l 0 12, l 0 13)) := by
    have eu : l1 73 21 = l 0 12 := congrArg (fun q => q.2.1) eo
    have ew : l1 73 22 = l 0 13 := congrArg (fun q => q.2.2) eo
    try rw [eo]
    try rw [eu]
    try rw [ew]
    by_cases hx : (0 ≤ x ∧ x < 6) ∧ 0 ≤ y ∧ y < 6
    · rw [if_pos hx, if_pos hx]
      have h_x : xN x < 6 := xN_lt (n := 6) (by omega) hx.1
      have h_y : xN y < 6 := xN_lt (n := 6) (by omega) hx.2
      try rw [hc (23 + 2 * xN x) (by unfold xSc; omega) (by omega)]
      try rw [hc (23 + 2 * xN x + 1) (by unfold xSc; omega) (by omega)]
      try rw [hc (23 + 2 * xN y) (by unfold xSc; omega) (by omega)]
      try rw [hc (23 + 2 * xN y + 1) (by unfold xSc; omega) (by omega)]
      try rw [hc (b.1 + 1) (by unfold xSc; omega) (by omega)]
      try rw [hc (b.1 + 3) (by unfold xSc; omega) (by omega)]
      try rfl
    · rw [if_neg hx, if_neg hx]
  exact Eq.mp (congrArg (xTo M (g1 0 11, l1 0 12, l1 0 13)) ea) w
theorem j3_he (hJ : xJ b g) : xJ3 Value.int True 107 217 [.int x, .int y, .int z] b g l := by
  have hJ0 := hJ
  obtain ⟨G, T, Lw, m, hI, hr⟩ := hJ
  have hq := xb2 hI.1
  refine xJ3.light (j_he hJ0) (k_he hI) (ta_he hI) (fun g1 l1 hA ho hT => ?_)
  have eo := ho.trans (xTd_e hT)
  have hc : ∀ a, ¬ xSc b a → a ≠ 73 → g1 a = g a := hA.1
  refine (tb_he (x := x) (y := y) (z := z) (l := l1) (xIc_ag hA hI) (xIr_ag hI.1 hA hr)).weak (fun _ M w => ?_)
  have ea : (if (0 ≤ x ∧ x < nI G) ∧ (0 ≤ y ∧ y < 6) ∧ 0 ≤ z ∧ z < 6 then (if xfop (g1 (23 + 2 * xN y) 1) (g1 (23 + 2 * xN y + 1)) (g1 (23 + 2 * xN z) 1) (g1 (23 + 2 * xN z + 1)) 12 = 0 then (xhe (xfst (fun i => !decide (xshw (g1 (b.1 + 1)) (Lw (xN x) / 4) (Lw (xN x) % 4) (fun i => xN (g1 (23 + 2 * xN y + 1) i)) i = g1 (23 + 2 * xN z + 1) i)) (xN (g1 (23 + 2 * xN y) 1))) (xfst (fun i => !decide (xshw (g1 (b.1 + 1)) (Lw (xN x) / 4) (Lw (xN x) % 4) (fun i => xN (g1 (23 + 2 * xN z + 1) i)) i = g1 (23 + 2 * xN y + 1) i)) (xN (g1 (23 + 2 * xN y) 1))), l1 73 21, l1 73 22) else (g1 73 20, l1 73 21, l1 73 22)) else (g1 73 20, l1 73 21, l1 73 22)) = (if (0 ≤ x ∧ x < nI G) ∧ (0 ≤ y ∧ y < 6) ∧ 0 ≤ z ∧ z < 6 then (if xfop (g (23 + 2 * xN y) 1) (g (23 + 2 * xN y + 1)) (g (23 + 2 * xN z) 1) (g (23 + 2 * xN z + 1)) 12 = 0 then (xhe (xfst (fun i => !decide (xshw (g (b.1 + 1)) (Lw (xN x) / 4) (Lw (xN x) % 4) (fun i => xN (g (23 + 2 * xN y + 1) i)) i = g (23 + 2 * xN z + 1) i)) (xN (g (23 + 2 * xN y) 1))) (xfst (fun i => !decide (xshw (g (b.1 + 1)) (Lw (xN x) / 4) (Lw (xN x) % 4) (fun i => xN (g (23 + 2 * xN z + 1) i)) i = g (23 + 2 * xN y + 1) i)) (xN (g (23 + 2 * xN y) 1))), l 0 12, l 0 13) else (g 0 11, l 0 12, l 0 13)) else (g 0 11, l 0 12, l 0 13)) := by
    have eu : l1 73 21 = l 0 12 := congrArg (fun q => q.2.1) eo
    have ew : l1 73 22 = l 0 13 := congrArg (fun q => q.2.2) eo
    try rw [eo]
    try rw [eu]
    try rw [ew]
    by_cases hx : (0 ≤ x ∧ x < nI G) ∧ (0 ≤ y ∧ y < 6) ∧ 0 ≤ z ∧ z < 6
    · rw [if_pos hx, if_pos hx]
      have h_y : xN y < 6 := xN_lt (n := 6) (by omega) hx.2.1
      have h_z : xN z < 6 := xN_lt (n := 6) (by omega) hx.2.2
      try rw [hc (23 + 2 * xN y) (by unfold xSc; omega) (by omega)]
      try rw [hc (23 + 2 * xN y + 1) (by unfold xSc; omega) (by omega)]
      try rw [hc (23 + 2 * xN z) (by unfold xSc; omega) (by omega)]
      try rw [hc (23 + 2 * xN z + 1) (by unfold xSc; omega) (by omega)]
      try rw [hc (b.1 + 1) (by unfold xSc; omega) (by omega)]
      try rw [hc (b.1 + 3) (by unfold xSc; omega) (by omega)]
      try rfl
    · rw [if_neg hx, if_neg hx]
  exact Eq.mp (congrArg (xTo M (g1 0 11, l1 0 12, l1 0 13)) ea) w
theorem j3_keeps (hJ : xJ b g) : xJ3 Value.int True 108 219 [.int x, .int y] b g l := by
  have hJ0 := hJ
  obtain ⟨G, T, Lw, m, hI, hr⟩ := hJ
  have hq := xb2 hI.1
  refine xJ3.light (j_keeps hJ0) (k_keeps hI) (ta_keeps hI) (fun g1 l1 hA ho hT => ?_)
  have eo := ho.trans (xTd_e hT)
  have hc : ∀ a, ¬ xSc b a → a ≠ 73 → g1 a = g a := hA.1
  refine (tb_keeps (x := x) (y := y) (l := l1) (xIc_ag hA hI) (xIr_ag hI.1 hA hr)).weak (fun _ M w => ?_)
  have ea : (if (0 ≤ x ∧ x < nI G) ∧ 0 ≤ y ∧ y ≤ 5 then ((if (xPr (Lw (xN x) / 4) (Lw (xN x) % 4) (xN y) (xW (g1 (b.1 + 1)) (g1 (b.1 + 3)) T (Lw (xN x) / 4) (Lw (xN x) % 4) (xN y) ((xN y) + 2)) (xN y)) = 0 then 0 else if (xN y) = 0 then 0 else (xbits (fun u => decide (0 < (xW (g1 (b.1 + 1)) (g1 (b.1 + 3)) T (Lw (xN x) / 4) (Lw (xN x) % 4) (xN y) ((xN y) + 2)) 0 u)) 6)), lN (xPr (Lw (xN x) / 4) (Lw (xN x) % 4) (xN y) (xW (g1 (b.1 + 1)) (g1 (b.1 + 3)) T (Lw (xN x) / 4) (Lw (xN x) % 4) (xN y) ((xN y) + 2)) (xN y)), lN 1) else (g1 73 20, l1 73 21, l1 73 22)) = (if (0 ≤ x ∧ x < nI G) ∧ 0 ≤ y ∧ y ≤ 5 then ((if (xPr (Lw (xN x) / 4) (Lw (xN x) % 4) (xN y) (xW (g (b.1 + 1)) (g (b.1 + 3)) T (Lw (xN x) / 4) (Lw (xN x) % 4) (xN y) ((xN y) + 2)) (xN y)) = 0 then 0 else if (xN y) = 0 then 0 else (xbits (fun u => decide (0 < (xW (g (b.1 + 1)) (g (b.1 + 3)) T (Lw (xN x) / 4) (Lw (xN x) % 4) (xN y) ((xN y) + 2)) 0 u)) 6)), lN (xPr (Lw (xN x) / 4) (Lw (xN x) % 4) (xN y) (xW (g (b.1 + 1)) (g (b.1 + 3)) T (Lw (xN x) / 4) (Lw (xN x) % 4) (xN y) ((xN y) + 2)) (xN y)), lN 1) else (g 0 11, l 0 12, l 0 13)) := by
    have eu : g1 73 20 = g 0 11 := congrArg (fun q => q.1) eo
    try rw [eo]
    try rw [eu]
    rw [hc (b.1 + 1) (by unfold xSc; omega) (by omega), hc (b.1 + 3) (by unfold xSc; omega) (by omega)]
  exact Eq.mp (congrArg (xTo M (g1 0 11, l1 0 12, l1 0 13)) ea) w
theorem j3_still (hJ : xJ b g) : xJ3 Value.int True 109 220 [.int x, .int y] b g l := by
  have hJ0 := hJ
  obtain ⟨G, T, Lw, m, hI, hr⟩ := hJ
  have hq := xb2 hI.1
  refine xJ3.light (j_still hJ0) (k_still hI) (ta_still hI) (fun g1 l1 hA ho hT => ?_)
  have eo := ho.trans (xTd_e hT)
  have hc : ∀ a, ¬ xSc b a → a ≠ 73 → g1 a = g a := hA.1
  refine (tb_still (x := x) (y := y) (l := l1) (xIc_ag hA hI) (xIr_ag hI.1 hA hr)).weak (fun _ M w => ?_)
  rw [eo] at w
  exact w
theorem j3_game (hJ : xJ b g) : xJ3 Value.int True 110 223 [.int x] b g l := by
  have hJ0 := hJ
  obtain ⟨G, T, Lw, m, hI, hr⟩ := hJ
  have hq := xb2 hI.1
  refine xJ3.light (j_game hJ0) (k_game hI) (ta_game hI) (fun g1 l1 hA ho hT => ?_)
  have eo := ho.trans (xTd_e hT)
  have hc : ∀ a, ¬ xSc b a → a ≠ 73 → g1 a = g a := hA.1
  refine (tb_game (x := x) (l := l1) (xIc_ag hA hI) (xIr_ag hI.1 hA hr)).weak (fun _ M w => ?_)
  rw [eo] at w
  exact w
theorem j3_picks (hJ : xJ b g) : xJ3 Value.int True 111 224 [.int x] b g l := by
  have hJ0 := hJ
  obtain ⟨G, T, Lw, m, hI, hr⟩ := hJ
  have hq := xb2 hI.1
  refine xJ3.light (j_picks hJ0) (k_picks hI) (ta_picks hI) (fun g1 l1 hA ho hT => ?_)
  have eo := ho.trans (xTd_e hT)
  have hc : ∀ a, ¬ xSc b a → a ≠ 73 → g1 a = g a := hA.1
  refine (tb_picks (x := x) (l := l1) (xIc_ag hA hI) (xIr_ag hI.1 hA hr)).weak (fun _ M w => ?_)
  rw [eo] at w
  exact w
theorem j3_odds (hJ : xJ b g) : xJ3 Value.int True 112 225 [.int x, .int y, .int z] b g l := by
  have hJ0 := hJ
  obtain ⟨G, T, Lw, m, hI, hr⟩ := hJ
  have hq := xb2 hI.1
  refine xJ3.light (j_odds hJ0) (k_odds hI) (ta_odds hI) (fun g1 l1 hA ho hT => ?_)
  have eo := ho.trans (xTd_e hT)
  have hc : ∀ a, ¬ xSc b a → a ≠ 73 → g1 a = g a := hA.1
  refine (tb_odds (x := x) (y := y) (z := z) (l := l1) (xIc_ag hA hI) (xIr_ag hI.1 hA hr)).weak (fun _ M w => ?_)
  have ea : (if (0 ≤ x ∧ x < nI G) ∧ (0 ≤ y ∧ y < 6) ∧ 0 ≤ z ∧ z ≤ 12 then (if xfos (g1 (23 + 2 * xN y) 1) (g1 (23 + 2 * xN y + 1)) 12 = 0 then (g1 73 20, lN (xpr (fun i => 12 - xbt (xfb (g1 (b.1 + 3)) T (g1 (23 + 2 * xN y + 1) i) 0 = none) (xfb (g1 (b.1 + 3)) T (g1 (23 + 2 * xN y + 1) i) (xshw (g1 (b.1 + 1)) (Lw (xN x) / 4) (Lw (xN x) % 4) (fun i => xN (g1 (23 + 2 * xN y + 1) i)) i) = none) (xN z)) 1 (xN (g1 (23 + 2 * xN y) 1)) / Nat.gcd (xpr (fun i => 12 - xbt (xfb (g1 (b.1 + 3)) T (g1 (23 + 2 * xN y + 1) i) 0 = none) (xfb (g1 (b.1 + 3)) T (g1 (23 + 2 * xN y + 1) i) (xshw (g1 (b.1 + 1)) (Lw (xN x) / 4) (Lw (xN x) % 4) (fun i => xN (g1 (23 + 2 * xN y + 1) i)) i) = none) (xN z)) 1 (xN (g1 (23 + 2 * xN y) 1))) (12 ^ (xN (g1 (23 + 2 * xN y) 1)))), lN (12 ^ (xN (g1 (23 + 2 * xN y) 1)) / Nat.gcd (xpr (fun i => 12 - xbt (xfb (g1 (b.1 + 3)) T (g1 (23 + 2 * xN y + 1) i) 0 = none) (xfb (g1 (b.1 + 3)) T (g1 (23 + 2 * xN y + 1) i) (xshw (g1 (b.1 + 1)) (Lw (xN x) / 4) (Lw (xN x) % 4) (fun i => xN (g1 (23 + 2 * xN y + 1) i)) i) = none) (xN z)) 1 (xN (g1 (23 + 2 * xN y) 1))) (12 ^ (xN (g1 (23 + 2 * xN y) 1))))) else (g1 73 20, l1 73 21, l1 73 22)) else (g1 73 20, l1 73 21, l1 73 22)) = (if (0 ≤ x ∧ x < nI G) ∧ (0 ≤ y ∧ y < 6) ∧ 0 ≤ z ∧ z ≤ 12 then (if xfos (g (23 + 2 * xN y) 1) (g (23 + 2 * xN y + 1)) 12 = 0 then (g 0 11, lN (xpr (fun i => 12 - xbt (xfb (g (b.1 + 3)) T (g (23 + 2 * xN y + 1) i) 0 = none) (xfb (g (b.1 + 3)) T (g (23 + 2 * xN y + 1) i) (xshw (g (b.1 + 1)) (Lw (xN x) / 4) (Lw (xN x) % 4) (fun i => xN (g (23 + 2 * xN y + 1) i)) i) = none) (xN z)) 1 (xN (g (23 + 2 * xN y) 1)) / Nat.gcd (xpr (fun i => 12 - xbt (xfb (g (b.1 + 3)) T (g (23 + 2 * xN y + 1) i) 0 = none) (xfb (g (b.1 + 3)) T (g (23 + 2 * xN y + 1) i) (xshw (g (b.1 + 1)) (Lw (xN x) / 4) (Lw (xN x) % 4) (fun i => xN (g (23 + 2 * xN y + 1) i)) i) = none) (xN z)) 1 (xN (g (23 + 2 * xN y) 1))) (12 ^ (xN (g (23 + 2 * xN y) 1)))), lN (12 ^ (xN (g (23 + 2 * xN y) 1)) / Nat.gcd (xpr (fun i => 12 - xbt (xfb (g (b.1 + 3)) T (g (23 + 2 * xN y + 1) i) 0 = none) (xfb (g (b.1 + 3)) T (g (23 + 2 * xN y + 1) i) (xshw (g (b.1 + 1)) (Lw (xN x) / 4) (Lw (xN x) % 4) (fun i => xN (g (23 + 2 * xN y + 1) i)) i) = none) (xN z)) 1 (xN (g (23 + 2 * xN y) 1))) (12 ^ (xN (g (23 + 2 * xN y) 1))))) else (g 0 11, l 0 12, l 0 13)) else (g 0 11, l 0 12, l 0 13)) := by
    have eu : g1 73 20 = g 0 11 := congrArg (fun q => q.1) eo
    try rw [eo]
    try rw [eu]
    by_cases hx : (0 ≤ x ∧ x < nI G) ∧ (0 ≤ y ∧ y < 6) ∧ 0 ≤ z ∧ z ≤ 12
    · rw [if_pos hx, if_pos hx]
      have h_y : xN y < 6 := xN_lt (n := 6) (by omega) hx.2.1
      try rw [hc (23 + 2 * xN y) (by unfold xSc; omega) (by omega)]
      try rw [hc (23 + 2 * xN y + 1) (by unfold xSc; omega) (by omega)]
      try rw [hc (b.1 + 1) (by unfold xSc; omega) (by omega)]
      try rw [hc (b.1 + 3) (by unfold xSc; omega) (by omega)]
      try rfl
    · rw [if_neg hx, if_neg hx]
  exact Eq.mp (congrArg (xTo M (g1 0 11, l1 0 12, l1 0 13)) ea) w
theorem j3_mid (hJ : xJ b g) : xJ3 Value.int True 113 226 [.int x, .int y, .int z] b g l := by
  have hJ0 := hJ
  obtain ⟨G, T, Lw, m, hI, hr⟩ := hJ
  have hq := xb2 hI.1
  refine xJ3.light (j_mid hJ0) (k_mid hI) (ta_mid hI) (fun g1 l1 hA ho hT => ?_)
  have eo := ho.trans (xTd_e hT)
  have hc : ∀ a, ¬ xSc b a → a ≠ 73 → g1 a = g a := hA.1
  refine (tb_mid (x := x) (y := y) (z := z) (l := l1) (xIc_ag hA hI) (xIr_ag hI.1 hA hr)).weak (fun _ M w => ?_)
  have ea : (if (0 ≤ x ∧ x < nI G) ∧ (0 ≤ y ∧ y < 6) ∧ 0 ≤ z ∧ z ≤ 12 then (if xfos (g1 (23 + 2 * xN y) 1) (g1 (23 + 2 * xN y + 1)) 12 = 0 then (g1 73 20, lN (xsm (fun i => xbt (xfb (g1 (b.1 + 3)) T (g1 (23 + 2 * xN y + 1) i) 0 = none) (xfb (g1 (b.1 + 3)) T (g1 (23 + 2 * xN y + 1) i) (xshw (g1 (b.1 + 1)) (Lw (xN x) / 4) (Lw (xN x) % 4) (fun i => xN (g1 (23 + 2 * xN y + 1) i)) i) = none) (xN z)) (xN (g1 (23 + 2 * xN y) 1)) / Nat.gcd (xsm (fun i => xbt (xfb (g1 (b.1 + 3)) T (g1 (23 + 2 * xN y + 1) i) 0 = none) (xfb (g1 (b.1 + 3)) T (g1 (23 + 2 * xN y + 1) i) (xshw (g1 (b.1 + 1)) (Lw (xN x) / 4) (Lw (xN x) % 4) (fun i => xN (g1 (23 + 2 * xN y + 1) i)) i) = none) (xN z)) (xN (g1 (23 + 2 * xN y) 1))) 12), lN (12 / Nat.gcd (xsm (fun i => xbt (xfb (g1 (b.1 + 3)) T (g1 (23 + 2 * xN y + 1) i) 0 = none) (xfb (g1 (b.1 + 3)) T (g1 (23 + 2 * xN y + 1) i) (xshw (g1 (b.1 + 1)) (Lw (xN x) / 4) (Lw (xN x) % 4) (fun i => xN (g1 (23 + 2 * xN y + 1) i)) i) = none) (xN z)) (xN (g1 (23 + 2 * xN y) 1))) 12)) else (g1 73 20, l1 73 21, l1 73 22)) else (g1 73 20, l1 73 21, l1 73 22)) = (if (0 ≤ x ∧ x < nI G) ∧ (0 ≤ y ∧ y < 6) ∧ 0 ≤ z ∧ z ≤ 12 then (if xfos (g (23 + 2 * xN y) 1) (g (23 + 2 * xN y + 1)) 12 = 0 then (g 0 11, lN (xsm (fun i => xbt (xfb (g (b.1 + 3)) T (g (23 + 2 * xN y + 1) i) 0 = none) (xfb (g (b.1 + 3)) T (g (23 + 2 * xN y + 1) i) (xshw (g (b.1 + 1)) (Lw (xN x) / 4) (Lw (xN x) % 4) (fun i => xN (g (23 + 2 * xN y + 1) i)) i) = none) (xN z)) (xN (g (23 + 2 * xN y) 1)) / Nat.gcd (xsm (fun i => xbt (xfb (g (b.1 + 3)) T (g (23 + 2 * xN y + 1) i) 0 = none) (xfb (g (b.1 + 3)) T (g (23 + 2 * xN y + 1) i) (xshw (g (b.1 + 1)) (Lw (xN x) / 4) (Lw (xN x) % 4) (fun i => xN (g (23 + 2 * xN y + 1) i)) i) = none) (xN z)) (xN (g (23 + 2 * xN y) 1))) 12), lN (12 / Nat.gcd (xsm (fun i => xbt (xfb (g (b.1 + 3)) T (g (23 + 2 * xN y + 1) i) 0 = none) (xfb (g (b.1 + 3)) T (g (23 + 2 * xN y + 1) i) (xshw (g (b.1 + 1)) (Lw (xN x) / 4) (Lw (xN x) % 4) (fun i => xN (g (23 + 2 * xN y + 1) i)) i) = none) (xN z)) (xN (g (23 + 2 * xN y) 1))) 12)) else (g 0 11, l 0 12, l 0 13)) else (g 0 11, l 0 12, l 0 13)) := by
    have eu : g1 73 20 = g 0 11 := congrArg (fun q => q.1) eo
    try rw [eo]
    try rw [eu]
    by_cases hx : (0 ≤ x ∧ x < nI G) ∧ (0 ≤ y ∧ y < 6) ∧ 0 ≤ z ∧ z ≤ 12
    · rw [if_pos hx, if_pos hx]
      have h_y : xN y < 6 := xN_lt (n := 6) (by omega) hx.2.1
      try rw [hc (23 + 2 * xN y) (by unfold xSc; omega) (by omega)]
      try rw [hc (23 + 2 * xN y + 1) (by unfold xSc; omega) (by omega)]
      try rw [hc (b.1 + 1) (by unfold xSc; omega) (by omega)]
      try rw [hc (b.1 + 3) (by unfold xSc; omega) (by omega)]
      try rfl
    · rw [if_neg hx, if_neg hx]
  exact Eq.mp (congrArg (xTo M (g1 0 11, l1 0 12, l1 0 13)) ea) w
theorem j3_asked (hJ : xJ b g) (hT : xTd g l) : xJ3 Value.int True 115 228 [] b g l := xJ3.mk c_X11_asked c_X12_asked hJ (fun _ => hT.1) (fun h => h)
theorem j3_upper (hJ : xJ b g) (hT : xTd g l) : xJ3 Value.long True 116 229 [] b g l := xJ3.mk c_X11_upper c_X12_upper hJ (fun _ => hT.2.1) (fun h => h)
theorem j3_lower (hJ : xJ b g) (hT : xTd g l) : xJ3 Value.long True 117 230 [] b g l := xJ3.mk c_X11_lower c_X12_lower hJ (fun _ => hT.2.2) (fun h => h)
theorem j3_count (hJ : xJ b g) : xJ3 Value.int True 118 234 [.int x] b g l := by
  have hJ0 := hJ
  obtain ⟨G, T, Lw, m, hI, hr⟩ := hJ
  have hq := xb2 hI.1
  refine xJ3.light (j_count hJ0) (k_count hI) (ta_count hI) (fun g1 l1 hA ho hT => ?_)
  have eo := ho.trans (xTd_e hT)
  have hc : ∀ a, ¬ xSc b a → a ≠ 73 → g1 a = g a := hA.1
  refine (tb_count (x := x) (l := l1) (xIc_ag hA hI) (xIr_ag hI.1 hA hr)).weak (fun _ M w => ?_)
  rw [eo] at w
  exact w
theorem j3_finding (hJ : xJ b g) : xJ3 Value.int False 119 235 [] b g l := by
  have hJ0 := hJ
  obtain ⟨G, T, Lw, m, hI, hr⟩ := hJ
  have hq := xb2 hI.1
  refine xJ3.light (j_finding hJ0) (k_finding hI) (ta_finding hI) (fun g1 l1 hA ho hT => ?_)
  have eo := ho.trans (xTd_e hT)
  have hc : ∀ a, ¬ xSc b a → a ≠ 73 → g1 a = g a := hA.1
  refine (tb_finding (l := l1) (xIc_ag hA hI) (xIr_ag hI.1 hA hr)).weak (fun _ M w => ?_)
  rw [eo] at w
  exact w
theorem j3_findings (hJ : xJ b g) : xJ3 Value.int False 120 236 [.int x] b g l := by
  have hJ0 := hJ
  obtain ⟨G, T, Lw, m, hI, hr⟩ := hJ
  have hq := xb2 hI.1
  refine xJ3.light (j_findings hJ0) (k_findings hI) (ta_findings hI) (fun g1 l1 hA ho hT => ?_)
  have eo := ho.trans (xTd_e hT)
  have hc : ∀ a, ¬ xSc b a → a ≠ 73 → g1 a = g a := hA.1
  refine (tb_findings (x := x) (l := l1) (xIc_ag hA hI) (xIr_ag hI.1 hA hr)).weak (fun _ M w => ?_)
  rw [eo] at w
  exact w
theorem j3_digest (hJ : xJ b g) : xJ3 Value.long True 121 238 [] b g l := by
  have hJ0 := hJ
  obtain ⟨G, T, Lw, m, hI, hr⟩ := hJ
  have hq := xb2 hI.1
  refine xJ3.light (j_digest hJ0) (k_digest hI) (ta_digest hI) (fun g1 l1 hA ho hT => ?_)
  have eo := ho.trans (xTd_e hT)
  have hc : ∀ a, ¬ xSc b a → a ≠ 73 → g1 a = g a := hA.1
  refine (tb_digest (l := l1) (xIc_ag hA hI) (xIr_ag hI.1 hA hr)).weak (fun _ M w => ?_)
  rw [eo] at w
  exact w
end
