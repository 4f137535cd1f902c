/-! from the law's first row to its loop -/
theorem g0_0 {a i : Nat} (h1 : ¬ (23 ≤ a ∧ a < 43 ∧ a % 2 = 1 ∧ i = 1)) (h2 : ¬ ((a = 67 ∨ a = 69 ∨ a = 71 ∨ a = 15) ∧ i = 1)) (h3 : ¬ (a = 19 ∧ i = 2)) (h4 : ¬ (43 ≤ a ∧ a < 67)) (h5 : ¬ (a = 74 ∨ a = 76 ∨ a = 86)) : g0 a i = 0 := by
  unfold g0
  rw [if_neg h1, if_neg h2, if_neg h3, if_neg h4, if_neg h5]
theorem g0_s {a : Nat} (h : 23 ≤ a ∧ a < 43 ∧ a % 2 = 1) : g0 a 1 = -1 := by
  unfold g0
  rw [if_pos ⟨h.1, h.2.1, h.2.2, rfl⟩]
theorem g0_k {a : Nat} (h : a = 67 ∨ a = 69 ∨ a = 71) : g0 a 1 = -1 := by
  unfold g0
  rw [if_neg (by omega), if_pos (by omega)]
theorem g0_m {a i : Nat} (h : a = 74 ∨ a = 76 ∨ a = 86) : g0 a i = -1 := by
  unfold g0
  rw [if_neg (by omega), if_neg (by omega), if_neg (by omega), if_neg (by omega), if_pos h]
theorem g0_p : xpn g0 := fun L hL => by
  unfold g0
  rw [if_neg (by omega), if_neg (by omega), if_neg (by omega), if_pos (by omega), if_pos rfl, if_neg (by omega), if_neg (by omega), if_neg (by omega), if_pos (by omega), if_neg (by decide), show 43 + L - 43 = L by omega]
  exact ⟨rfl, rfl⟩
theorem xJ_0 : xJ (7, 11) g0 := by
  refine ⟨0, 0, fun _ => 0, 0, ⟨Or.inl rfl, g0_p, ⟨⟨g0_0 (by omega) (by omega) (by omega) (by omega) (by omega), by decide⟩, ⟨g0_0 (by omega) (by omega) (by omega) (by omega) (by omega), by decide⟩, fun k hk => absurd hk (by omega), fun s hs => ⟨0, by decide, g0_0 (by omega) (by omega) (by omega) (by omega) (by omega)⟩⟩, fun i hi => absurd hi (by omega), ⟨g0_0 (by omega) (by omega) (by omega) (by omega) (by omega), by decide⟩, fun d hd => absurd hd (by omega), fun k hk => Or.inl (g0_k (by omega)), fun r hr => Or.inl (g0_s (by omega)), fun r hr => Or.inl (g0_s (by omega))⟩, ⟨⟨⟨g0_0 (by omega) (by omega) (by omega) (by omega) (by omega), by decide⟩, ⟨g0_0 (by omega) (by omega) (by omega) (by omega) (by omega), by decide⟩, fun k hk => absurd hk (by omega), fun s hs => ⟨?_, 0, by decide, g0_0 (by omega) (by omega) (by omega) (by omega) (by omega)⟩, fun i hi => absurd hi (by omega)⟩, g0_0 (by omega) (by omega) (by omega) (by omega) (by omega), fun d hd => absurd hd (by omega), fun k hk => ⟨by rw [g0_m (by omega), g0_k (by omega)], fun n hn en => ?_⟩, fun r hr => ⟨by rw [g0_m (by omega), g0_s (by omega)], fun n hn en => ?_⟩, fun t ht => ⟨by rw [g0_m (by omega), g0_s (by omega)], fun n hn en => ?_⟩⟩⟩
  · rw [g0_0 (a := 81) (by omega) (by omega) (by omega) (by omega) (by omega)]
    exact (g0_0 (by omega) (by omega) (by omega) (by omega) (by omega)).symm
  · rw [g0_k (by omega)] at en
    exact absurd en (m1n (by omega))
  · rw [g0_s (by omega)] at en
    exact absurd en (m1n (by omega))
  · rw [g0_s (by omega)] at en
    exact absurd en (m1n (by omega))
def xLc (vs : List Value) (c s : Nat) (pc : Nat) (lv : xL) (st : List Value) (M : xM) : Prop := ∃ (MF : xM) (n0 f0 : Nat), ∀ n f : Nat, n0 ≤ n → f0 ≤ f → xe_run [] none (some vs) (xe_ex 4000 10) (xe_ex f 10) xt_L 13 4 2 false n pc lv st M = some (some (.int 1), MF, c, s)
section
variable {vs : List Value} {pc l0 k c s cA sA mn : Nat} {lv : xL} {st rest as : List Value} {M M1 : xM} {i : Instr}
theorem xLc.body (h : ∃ (MF : xM) (n0 f0 : Nat), ∀ n f : Nat, n0 ≤ n → f0 ≤ f → xe_body [] none (some vs) (xe_ex 4000 10) (xe_ex f 10) xt_L 13 4 2 false (xe_run [] none (some vs) (xe_ex 4000 10) (xe_ex f 10) xt_L 13 4 2 false n) pc lv st M = some (some (.int 1), MF, c, s)) : xLc vs c s pc lv st M := by
  obtain ⟨MF, n0, f0, h⟩ := h
  refine ⟨MF, n0 + 1, f0, fun n f h0 h1 => ?_⟩
  obtain ⟨n, rfl⟩ : ∃ n', n = n' + 1 := ⟨n - 1, by omega⟩
  exact h n f (by omega) h1
theorem xLc.s1 {f : xF} (hl : xe_lkF xt_L pc = some (i, l0)) (hs : xe_step1 [] none 13 4 i pc lv st = some f) (h : xLc vs c s f.1 f.2.1 f.2.2 M) : xLc vs c s pc lv st M := by
  obtain ⟨MF, n0, f0, h⟩ := h
  refine xLc.body ⟨MF, n0, f0, fun n f h0 h1 => ?_⟩
  unfold xe_body
  rw [hl]
  dsimp only
  rw [hs]
  exact h n f h0 h1
theorem xLc.new {e : Nat × Nat × List Value} {a c' s' : Nat} (ec : 1 + c = c') (es : e.2.2.length + s = s') (hl : xe_lkF xt_L pc = some (.new k, l0)) (hn : xn 13 k = some e) (hp : e.2.2.all xe_plain = true) (ha : M.length = a) (h : xLc vs c s (pc + 3) lv (.ref a :: st) (M ++ [(e.2.1, e.2.2)])) : xLc vs c' s' pc lv st M := by
  subst ec
  subst es
  obtain ⟨MF, n0, f0, h⟩ := h
  refine xLc.body ⟨MF, n0, f0, fun n f h0 h1 => ?_⟩
  unfold xe_body
  rw [hl]
  show xd_new k 13 pc lv st M _ = _
  unfold xd_new
  rw [hn]
  dsimp only
  rw [if_pos hp, xln_eq, ha, h n f h0 h1]
  rfl
theorem xLc.ini {c' s' : Nat} (ec : cA + c = c') (es : sA + s = s') (hl : xe_lkF xt_L pc = some (.invokespecial k, l0)) (h3 : ∀ (cl : Nat → List Value → xM → Option xO) (ih : Nat → xL → List Value → xM → Option xO), xe_callI cl 13 k pc lv st M ih = xe_cont ih pc lv rest (cl mn as M)) (hc : xe_ex 4000 10 mn as M = some (none, M1, cA, sA)) (h : xLc vs c s (pc + 3) lv rest M1) : xLc vs c' s' pc lv st M := by
  subst ec
  subst es
  obtain ⟨MF, n0, f0, h⟩ := h
  refine xLc.body ⟨MF, n0, f0, fun n f h0 h1 => ?_⟩
  unfold xe_body
  rw [hl]
  show xe_callI (xe_ex 4000 10) 13 k pc lv st M _ = _
  rw [h3, hc]
  unfold xe_cont
  dsimp only [Option.toList, List.nil_append]
  rw [h n f h0 h1]
end
set_option maxRecDepth 10000 in
theorem xl_all {vs : List Value} {L : Nat} {xv : Nat → Int32} (hL : L ≤ 384) (hvl : vs.length = L) (hvs : ∀ t, t < L → vs[t]? = some (.int (xv t))) : xLc vs 93 2370 0 [(0, .retAddr 0)] [] [] := by
  refine xLc.new (a := 0) (c := 92) (s := 2354) (e := (7, 10, [.null, .null, .null, .null, .null, .null, .null, .null, .null, .null, .null, .int 0, .long 0, .long 0, .int 0, .null])) (by decide) (by decide) rfl rfl rfl rfl ?_
  dsimp only [List.nil_append]
  refine xLc.s1 rfl rfl ?_
  dsimp only [Nat.reduceAdd]
  refine xLc.ini (c := 20) (s := 958) (cA := 72) (sA := 1396) (M1 := xMh) (by decide) (by decide) (mn := 77) (as := [.ref 0]) (rest := [.ref 0]) rfl (fun _ _ => rfl) (xeqO_ok xz_1) ?_
  dsimp only [Nat.reduceAdd]
  refine xLc.s1 rfl rfl ?_
  dsimp only [Nat.reduceAdd]
  refine xLc.new (a := 73) (c := 19) (s := 926) (e := (10, 11, [.null, .null, .null, .null, .null, .int 0, .null, .int 0, .null, .null, .int 0, .null, .int 0, .null, .int 0, .null, .null, .null, .null, .null, .int 0, .long 0, .long 0, .int 0, .null, .null, .null, .null, .int 0, .int 0, .int 0, .long 0])) (by decide) (by decide) rfl rfl rfl xMh_len ?_
  dsimp only [Nat.reduceAdd]
  refine xLc.s1 rfl rfl ?_
  dsimp only [Nat.reduceAdd]
  refine xLc.ini (c := 0) (s := 0) (cA := 19) (sA := 926) (M1 := xMz) (by decide) (by decide) (mn := 150) (as := [.ref 73]) (rest := [.ref 73]) rfl (fun _ _ => rfl) (xeqO_ok xz_2) ?_
  dsimp only [Nat.reduceAdd]
  refine xLc.s1 rfl rfl ?_
  dsimp only [Nat.reduceAdd]
  refine xLc.s1 rfl rfl ?_
  dsimp only [Nat.reduceAdd]
  refine xLc.s1 rfl rfl ?_
  dsimp only [Nat.reduceAdd]
  have h := xl_loop hL hvl hvs (L + 1) 0 (7, 11) g0 l0 (by omega) (by omega) xJ_0
  rw [show xH (7, 11) g0 l0 = xMz from xH_eq (7, 11) g0 l0] at h
  exact h
