section
/-! the law over the pure machine: rules -/
def xLw (vs : List Value) (pc : Nat) (lv : xL) (st : List Value) (M : xM) : Prop := ∃ (MF : xM) (n0 f0 : Nat), ∀ n f : Nat, n0 ≤ n → f0 ≤ f → xe_run [] none (some vs) (xe_ex 4000 10) (xe_ex f 10) xt_L 13 4 2 false n pc lv st M = some (some (.int 1), MF, 0, 0)
section
variable {vs : List Value} {pc l0 idx a ci t : Nat} {lv : xL} {st rest : List Value} {M : xM} {i : Instr} {b : Nat × Nat} {g : Nat → Nat → Int32} {l : Nat → Nat → Int64} {fs : List Value} {x : Int32}
theorem xLw.body (h : ∃ (MF : xM) (n0 f0 : Nat), ∀ n f : Nat, n0 ≤ n → f0 ≤ f → xe_body [] none (some vs) (xe_ex 4000 10) (xe_ex f 10) xt_L 13 4 2 false (xe_run [] none (some vs) (xe_ex 4000 10) (xe_ex f 10) xt_L 13 4 2 false n) pc lv st M = some (some (.int 1), MF, 0, 0)) : xLw vs pc lv st M := by
  obtain ⟨MF, n0, f0, h⟩ := h
  refine ⟨MF, n0 + 1, f0, fun n f h0 h1 => ?_⟩
  obtain ⟨n, rfl⟩ : ∃ n', n = n' + 1 := ⟨n - 1, by omega⟩
  exact h n f (by omega) h1
theorem xLw.s1 {f : xF} (hl : xe_lkF xt_L pc = some (i, l0)) (hs : xe_step1 [] none 13 4 i pc lv st = some f) (h : xLw vs f.1 f.2.1 f.2.2 M) : xLw vs pc lv st M := by
  obtain ⟨MF, n0, f0, h⟩ := h
  refine xLw.body ⟨MF, n0, f0, fun n f h0 h1 => ?_⟩
  unfold xe_body
  rw [hl]
  dsimp only
  rw [hs]
  exact h n f h0 h1
theorem xLw.s2 {q : xF × xM} (hl : xe_lkF xt_L pc = some (i, l0)) (h1 : xe_step1 [] none 13 4 i pc lv st = none) (hs : xe_step2 (some vs) 13 false i pc lv st M = some q) (h : xLw vs q.1.1 q.1.2.1 q.1.2.2 q.2) : xLw vs pc lv st M := by
  obtain ⟨MF, n0, f0, h⟩ := h
  refine xLw.body ⟨MF, n0, f0, fun n f z0 z1 => ?_⟩
  unfold xe_body
  rw [hl]
  dsimp only
  rw [h1]
  dsimp only
  rw [hs]
  exact h n f z0 z1
theorem xLw.ret (hl : xe_lkF xt_L pc = some (.ireturn, l0)) : xLw vs pc lv [.int 1] M := by
  refine xLw.body ⟨M, 0, 0, fun n f z0 z1 => ?_⟩
  unfold xe_body
  rw [hl]
  rfl
theorem xLw.cv {m : Nat} {rs : List (Nat × Nat)} {idx' : Nat} {e : Nat × Nat} {Q : xME} {P1 : Option Value → xM → Prop} (hl : xe_lkF xt_L pc = some (.invokevirtual idx, l0)) (hx : xcF 13 idx = some (idx', 3, m, rs)) (hd : st.drop m = .ref a :: rest) (hM : (xsh b)[a]? = some (ci, fs)) (hr : xfd rs ci = some e) (hm : xmF e.2 = some Q) (hn : ci < 12 ∧ Q.2.2.2.2 = m ∧ xe_sum rest = true) (hT : xT 10 e.2 (.ref a :: (st.take m).reverse) (xH b g l) P1) (h : ∀ v M1, P1 v M1 → xLw vs (pc + 3) lv (v.toList ++ rest) M1) : xLw vs pc lv st (xH b g l) := by
  obtain ⟨v, M1, hP, f1, hT⟩ := hT
  obtain ⟨MF, n0, f0, h⟩ := h v M1 hP
  refine xLw.body ⟨MF, n0, f0 + f1, fun n f z0 z1 => ?_⟩
  unfold xe_body
  rw [hl]
  show xe_callV (xe_ex f 10) 13 idx pc lv st (xH b g l) (xe_run [] none (some vs) (xe_ex 4000 10) (xe_ex f 10) xt_L 13 4 2 false n) = _
  unfold xe_callV
  simp only [hx, hd, xg_eq, xH_get hM, hr, hm, if_pos hn]
  rw [hT f 10 (by omega) (Nat.le_refl 10)]
  unfold xe_cont
  dsimp only
  rw [h n f z0 (by omega)]
  show some (some (Value.int 1), MF, 0 + 0, 0 + 0) = _
  rfl
theorem xLw.ial (hl : xe_lkF xt_L pc = some (.iaload, l0)) (hv : vs[t]? = some (.int x)) (ht : t < 2 ^ 31) (h : xLw vs (pc + 1) lv (.int x :: rest) M) : xLw vs pc lv (.int (nI t) :: .retAddr 0 :: rest) M := by
  refine xLw.s2 hl rfl (q := ((pc + 1, lv, .int x :: rest), M)) ?_ h
  have h2 : ¬ xlt (nI t) 0 = true := by rw [xlt_iff]; exact nI_pos ht
  show xb_iaload (some vs) pc lv (.int (nI t) :: .retAddr 0 :: rest) M = _
  unfold xb_iaload
  simp only [xg_eq, h2, nI_clamp (n := t) ht, hv, not_false_eq_true, if_true]
  rfl
theorem xLw.al {L : Nat} (hl : xe_lkF xt_L pc = some (.arraylength, l0)) (hL : vs.length = L) (h : xLw vs (pc + 1) lv (.int (nI L) :: rest) M) : xLw vs pc lv (.retAddr 0 :: rest) M := by
  refine xLw.s2 hl rfl (q := ((pc + 1, lv, .int (nI L) :: rest), M)) ?_ h
  show xb_arraylength (some vs) pc lv (.retAddr 0 :: rest) M = _
  unfold xb_arraylength
  simp only [xln_eq, hL]
  rfl
theorem xLw.tsw {d lo hi : Int} {offs : Array Int} {j : Nat} (hl : xe_lkF xt_L pc = some (.tableswitch d lo hi offs, l0)) (hj : j < 2 ^ 31) (ht : (if (j : Int) < lo ∨ hi < (j : Int) then xe_tg pc d else match offs[((j : Int) - lo).toNat]? with
    | some off => xe_tg pc off
    | none => none) = some t) (h : xLw vs t lv rest M) : xLw vs pc lv (.int (nI j) :: rest) M := by
  refine xLw.s1 hl (f := (t, lv, rest)) ?_ h
  show xa_tableswitch d lo hi offs [] pc lv (.int (nI j) :: rest) = _
  unfold xa_tableswitch
  dsimp only
  rw [nI_toInt hj]
  by_cases c : (j : Int) < lo ∨ hi < (j : Int)
  · rw [if_pos c] at ht ⊢
    rw [ht]
    rfl
  · rw [if_neg c] at ht ⊢
    cases e : offs[((j : Int) - lo).toNat]? with
    | none => rw [e] at ht; cases ht
    | some off =>
      rw [e] at ht
      dsimp only at ht ⊢
      rw [ht]
      rfl
theorem xLw.br {c : ClassFile.Cond} {off : Int} {a b : Int32} (hl : xe_lkF xt_L pc = some (.if_icmp c off, l0)) (ht : xe_tg pc off = some t) (hy : xe_holds c a b = true → xLw vs t lv rest M) (hn : xe_holds c a b = false → xLw vs (pc + 3) lv rest M) : xLw vs pc lv (.int b :: .int a :: rest) M := by
  have key : ∀ x, xe_holds c a b = x → xe_step1 [] none 13 4 (.if_icmp c off) pc lv (.int b :: .int a :: rest) = some (bif x then t else pc + 3, lv, rest) := by
    intro x hx
    show xe_br [] c off pc lv (.int a) (.int b) rest = _
    unfold xe_br
    rw [ht]
    dsimp only
    have e : xe_cmpF [] c (.int a) (.int b) = some x := by
      rw [xe_cmpF_eq, ← hx]
      cases c
      · rfl
      · show some (!(decide (a = b))) = some (decide (¬ a = b)); by_cases z : a = b <;> simp [z]
      · rfl
      · show some (!(decide (a < b))) = some (decide (b ≤ a)); by_cases z : a < b <;> simp [z, Int32.not_lt.mp, Int32.not_le.mpr]
      · rfl
      · show some (!(decide (b < a))) = some (decide (a ≤ b)); by_cases z : b < a <;> simp [z, Int32.not_lt.mp, Int32.not_le.mpr]
    rw [e]
  cases hx : xe_holds c a b with
  | true => exact xLw.s1 hl (key true hx) (hy hx)
  | false => exact xLw.s1 hl (key false hx) (hn hx)
theorem xLw.br0 {c : ClassFile.Cond} {off : Int} {a : Int32} (hl : xe_lkF xt_L pc = some (.ifCond c off, l0)) (ht : xe_tg pc off = some t) (hy : xe_holds c a 0 = true → xLw vs t lv rest M) (hn : xe_holds c a 0 = false → xLw vs (pc + 3) lv rest M) : xLw vs pc lv (.int a :: rest) M := by
  have key : ∀ x, xe_holds c a 0 = x → xe_step1 [] none 13 4 (.ifCond c off) pc lv (.int a :: rest) = some (bif x then t else pc + 3, lv, rest) := by
    intro x hx
    show xe_br [] c off pc lv (.int a) (.int 0) rest = _
    unfold xe_br
    rw [ht]
    dsimp only
    have e : xe_cmpF [] c (.int a) (.int 0) = some x := by
      rw [xe_cmpF_eq, ← hx]
      cases c
      · rfl
      · show some (!(decide (a = 0))) = some (decide (¬ a = 0)); by_cases z : a = 0 <;> simp [z]
      · rfl
      · show some (!(decide (a < 0))) = some (decide (0 ≤ a)); by_cases z : a < 0 <;> simp [z, Int32.not_lt.mp, Int32.not_le.mpr]
      · rfl
      · show some (!(decide (0 < a))) = some (decide (a ≤ 0)); by_cases z : 0 < a <;> simp [z, Int32.not_lt.mp, Int32.not_le.mpr]
    rw [e]
  cases hx : xe_holds c a 0 with
  | true => exact xLw.s1 hl (key true hx) (hy hx)
  | false => exact xLw.s1 hl (key false hx) (hn hx)
end
end
section
/-! the law, op by op -/
section
variable {vs : List Value} {L i : Nat} {xv : Nat → Int32} {b : Nat × Nat} {g : Nat → Nat → Int32} {l : Nat → Nat → Int64}
set_option maxRecDepth 10000 in
theorem w_row (hL : L ≤ 384) (hi : i + 6 ≤ L) (hvs : ∀ t, t < L → vs[t]? = some (.int (xv t))) (hJ : xJ b g) (nx : ∀ b2 g2 l2, xJ b2 g2 → xLw vs 1546 [(3, .int (nI i)), (2, .ref 73), (1, .ref 0), (0, .retAddr 0)] [] (xH b2 g2 l2)) : xLw vs 224 [(3, .int (nI i)), (2, .ref 73), (1, .ref 0), (0, .retAddr 0)] [] (xH b g l) := by
  refine xLw.s1 rfl rfl ?_
  try dsimp only [Nat.reduceAdd]
  refine xLw.s1 rfl rfl ?_
  try dsimp only [Nat.reduceAdd]
  refine xLw.s1 rfl rfl ?_
  try dsimp only [Nat.reduceAdd]
  refine xLw.s1 rfl rfl ?_
  try dsimp only [Nat.reduceAdd, xi_1]
  refine xLw.s1 rfl rfl ?_
  try dsimp only [Nat.reduceAdd]
  rw [show (nI i + 1 : Int32) = nI (i + 1) from nI_add i 1]
  refine xLw.ial rfl (hvs (i + 1) (by omega)) (by omega) ?_
  try dsimp only [Nat.reduceAdd]
  refine xLw.s1 rfl rfl ?_
  try dsimp only [Nat.reduceAdd]
  refine xLw.s1 rfl rfl ?_
  try dsimp only [Nat.reduceAdd]
  refine xLw.s1 rfl rfl ?_
  try dsimp only [Nat.reduceAdd, xi_2]
  refine xLw.s1 rfl rfl ?_
  try dsimp only [Nat.reduceAdd]
  rw [show (nI i + 2 : Int32) = nI (i + 2) from nI_add i 2]
  refine xLw.ial rfl (hvs (i + 2) (by omega)) (by omega) ?_
  try dsimp only [Nat.reduceAdd]
  refine xLw.cv rfl rfl rfl rfl rfl rfl ⟨by decide, rfl, rfl⟩ (j_row hJ) (fun v1 M1 hv => ?_)
  obtain ⟨w, b1, g1, l1, rfl, rfl, hT2⟩ := hv
  try dsimp only [Nat.reduceAdd, Option.toList, List.cons_append, List.nil_append]
  refine xLw.s1 rfl rfl ?_
  try dsimp only [Nat.reduceAdd]
  refine xLw.s1 rfl rfl ?_
  try dsimp only [Nat.reduceAdd]
  refine xLw.s1 rfl rfl ?_
  try dsimp only [Nat.reduceAdd]
  refine xLw.s1 rfl rfl ?_
  try dsimp only [Nat.reduceAdd]
  refine xLw.s1 rfl rfl ?_
  try dsimp only [Nat.reduceAdd, xi_1]
  refine xLw.s1 rfl rfl ?_
  try dsimp only [Nat.reduceAdd]
  rw [show (nI i + 1 : Int32) = nI (i + 1) from nI_add i 1]
  refine xLw.ial rfl (hvs (i + 1) (by omega)) (by omega) ?_
  try dsimp only [Nat.reduceAdd]
  refine xLw.s1 rfl rfl ?_
  try dsimp only [Nat.reduceAdd]
  refine xLw.s1 rfl rfl ?_
  try dsimp only [Nat.reduceAdd]
  refine xLw.s1 rfl rfl ?_
  try dsimp only [Nat.reduceAdd, xi_2]
  refine xLw.s1 rfl rfl ?_
  try dsimp only [Nat.reduceAdd]
  rw [show (nI i + 2 : Int32) = nI (i + 2) from nI_add i 2]
  refine xLw.ial rfl (hvs (i + 2) (by omega)) (by omega) ?_
  try dsimp only [Nat.reduceAdd]
  refine xLw.cv rfl rfl rfl rfl rfl rfl ⟨by decide, rfl, rfl⟩ hT2 (fun v1 M1 hv => ?_)
  obtain ⟨w2, b2, g2, l2, rfl, rfl, hJ2, heq⟩ := hv
  try dsimp only [Nat.reduceAdd, Option.toList, List.cons_append, List.nil_append]
  refine xLw.s1 rfl rfl ?_
  try dsimp only [Nat.reduceAdd]
  refine xLw.s1 rfl rfl ?_
  try dsimp only [Nat.reduceAdd]
  exact nx _ _ _ hJ2
set_option maxRecDepth 10000 in
theorem w_lay (hL : L ≤ 384) (hi : i + 6 ≤ L) (hvs : ∀ t, t < L → vs[t]? = some (.int (xv t))) (hJ : xJ b g) (nx : ∀ b2 g2 l2, xJ b2 g2 → xLw vs 1546 [(3, .int (nI i)), (2, .ref 73), (1, .ref 0), (0, .retAddr 0)] [] (xH b2 g2 l2)) : xLw vs 257 [(3, .int (nI i)), (2, .ref 73), (1, .ref 0), (0, .retAddr 0)] [] (xH b g l) := by
  refine xLw.s1 rfl rfl ?_
  try dsimp only [Nat.reduceAdd]
  refine xLw.s1 rfl rfl ?_
  try dsimp only [Nat.reduceAdd]
  refine xLw.s1 rfl rfl ?_
  try dsimp only [Nat.reduceAdd]
  refine xLw.s1 rfl rfl ?_
  try dsimp only [Nat.reduceAdd, xi_1]
  refine xLw.s1 rfl rfl ?_
  try dsimp only [Nat.reduceAdd]
  rw [show (nI i + 1 : Int32) = nI (i + 1) from nI_add i 1]
  refine xLw.ial rfl (hvs (i + 1) (by omega)) (by omega) ?_
  try dsimp only [Nat.reduceAdd]
  refine xLw.s1 rfl rfl ?_
  try dsimp only [Nat.reduceAdd]
  refine xLw.s1 rfl rfl ?_
  try dsimp only [Nat.reduceAdd]
  refine xLw.s1 rfl rfl ?_
  try dsimp only [Nat.reduceAdd, xi_2]
  refine xLw.s1 rfl rfl ?_
  try dsimp only [Nat.reduceAdd]
  rw [show (nI i + 2 : Int32) = nI (i + 2) from nI_add i 2]
  refine xLw.ial rfl (hvs (i + 2) (by omega)) (by omega) ?_
  try dsimp only [Nat.reduceAdd]
  refine xLw.s1 rfl rfl ?_
  try dsimp only [Nat.reduceAdd]
  refine xLw.s1 rfl rfl ?_
  try dsimp only [Nat.reduceAdd]
  refine xLw.s1 rfl rfl ?_
  try dsimp only [Nat.reduceAdd, xi_3]
  refine xLw.s1 rfl rfl ?_
  try dsimp only [Nat.reduceAdd]
  rw [show (nI i + 3 : Int32) = nI (i + 3) from nI_add i 3]
  refine xLw.ial rfl (hvs (i + 3) (by omega)) (by omega) ?_
  try dsimp only [Nat.reduceAdd]
  refine xLw.cv rfl rfl rfl rfl rfl rfl ⟨by decide, rfl, rfl⟩ (j_lay hJ) (fun v1 M1 hv => ?_)
  obtain ⟨w, b1, g1, l1, rfl, rfl, hT2⟩ := hv
  try dsimp only [Nat.reduceAdd, Option.toList, List.cons_append, List.nil_append]
  refine xLw.s1 rfl rfl ?_
  try dsimp only [Nat.reduceAdd]
  refine xLw.s1 rfl rfl ?_
  try dsimp only [Nat.reduceAdd]
  refine xLw.s1 rfl rfl ?_
  try dsimp only [Nat.reduceAdd]
  refine xLw.s1 rfl rfl ?_
  try dsimp only [Nat.reduceAdd]
  refine xLw.s1 rfl rfl ?_
  try dsimp only [Nat.reduceAdd, xi_1]
  refine xLw.s1 rfl rfl ?_
  try dsimp only [Nat.reduceAdd]
  rw [show (nI i + 1 : Int32) = nI (i + 1) from nI_add i 1]
  refine xLw.ial rfl (hvs (i + 1) (by omega)) (by omega) ?_
  try dsimp only [Nat.reduceAdd]
  refine xLw.s1 rfl rfl ?_
  try dsimp only [Nat.reduceAdd]
  refine xLw.s1 rfl rfl ?_
  try dsimp only [Nat.reduceAdd]
  refine xLw.s1 rfl rfl ?_
  try dsimp only [Nat.reduceAdd, xi_2]
  refine xLw.s1 rfl rfl ?_
  try dsimp only [Nat.reduceAdd]
  rw [show (nI i + 2 : Int32) = nI (i + 2) from nI_add i 2]
  refine xLw.ial rfl (hvs (i + 2) (by omega)) (by omega) ?_
  try dsimp only [Nat.reduceAdd]
  refine xLw.s1 rfl rfl ?_
  try dsimp only [Nat.reduceAdd]
  refine xLw.s1 rfl rfl ?_
  try dsimp only [Nat.reduceAdd]
  refine xLw.s1 rfl rfl ?_
  try dsimp only [Nat.reduceAdd, xi_3]
  refine xLw.s1 rfl rfl ?_
  try dsimp only [Nat.reduceAdd]
  rw [show (nI i + 3 : Int32) = nI (i + 3) from nI_add i 3]
  refine xLw.ial rfl (hvs (i + 3) (by omega)) (by omega) ?_
  try dsimp only [Nat.reduceAdd]
  refine xLw.cv rfl rfl rfl rfl rfl rfl ⟨by decide, rfl, rfl⟩ hT2 (fun v1 M1 hv => ?_)
  obtain ⟨w2, b2, g2, l2, rfl, rfl, hJ2, heq⟩ := hv
  try dsimp only [Nat.reduceAdd, Option.toList, List.cons_append, List.nil_append]
  refine xLw.s1 rfl rfl ?_
  try dsimp only [Nat.reduceAdd]
  refine xLw.s1 rfl rfl ?_
  try dsimp only [Nat.reduceAdd]
  exact nx _ _ _ hJ2
set_option maxRecDepth 10000 in
theorem w_at (hL : L ≤ 384) (hi : i + 6 ≤ L) (hvs : ∀ t, t < L → vs[t]? = some (.int (xv t))) (hJ : xJ b g) (nx : ∀ b2 g2 l2, xJ b2 g2 → xLw vs 1546 [(3, .int (nI i)), (2, .ref 73), (1, .ref 0), (0, .retAddr 0)] [] (xH b2 g2 l2)) : xLw vs 300 [(3, .int (nI i)), (2, .ref 73), (1, .ref 0), (0, .retAddr 0)] [] (xH b g l) := by
  refine xLw.s1 rfl rfl ?_
  try dsimp only [Nat.reduceAdd]
  refine xLw.s1 rfl rfl ?_
  try dsimp only [Nat.reduceAdd]
  refine xLw.s1 rfl rfl ?_
  try dsimp only [Nat.reduceAdd]
  refine xLw.s1 rfl rfl ?_
  try dsimp only [Nat.reduceAdd, xi_1]
  refine xLw.s1 rfl rfl ?_
  try dsimp only [Nat.reduceAdd]
  rw [show (nI i + 1 : Int32) = nI (i + 1) from nI_add i 1]
  refine xLw.ial rfl (hvs (i + 1) (by omega)) (by omega) ?_
  try dsimp only [Nat.reduceAdd]
  refine xLw.s1 rfl rfl ?_
  try dsimp only [Nat.reduceAdd]
  refine xLw.s1 rfl rfl ?_
  try dsimp only [Nat.reduceAdd]
  refine xLw.s1 rfl rfl ?_
  try dsimp only [Nat.reduceAdd, xi_2]
  refine xLw.s1 rfl rfl ?_
  try dsimp only [Nat.reduceAdd]
  rw [show (nI i + 2 : Int32) = nI (i + 2) from nI_add i 2]
  refine xLw.ial rfl (hvs (i + 2) (by omega)) (by omega) ?_
  try dsimp only [Nat.reduceAdd]
  refine xLw.cv rfl rfl rfl rfl rfl rfl ⟨by decide, rfl, rfl⟩ (j_at hJ) (fun v1 M1 hv => ?_)
  obtain ⟨w, b1, g1, l1, rfl, rfl, hT2⟩ := hv
  try dsimp only [Nat.reduceAdd, Option.toList, List.cons_append, List.nil_append]
  refine xLw.s1 rfl rfl ?_
  try dsimp only [Nat.reduceAdd]
  refine xLw.s1 rfl rfl ?_
  try dsimp only [Nat.reduceAdd]
  refine xLw.s1 rfl rfl ?_
  try dsimp only [Nat.reduceAdd]
  refine xLw.s1 rfl rfl ?_
  try dsimp only [Nat.reduceAdd, xi_1]
  refine xLw.s1 rfl rfl ?_
  try dsimp only [Nat.reduceAdd]
  rw [show (nI i + 1 : Int32) = nI (i + 1) from nI_add i 1]
  refine xLw.ial rfl (hvs (i + 1) (by omega)) (by omega) ?_
  try dsimp only [Nat.reduceAdd]
  refine xLw.s1 rfl rfl ?_
  try dsimp only [Nat.reduceAdd]
  refine xLw.s1 rfl rfl ?_
  try dsimp only [Nat.reduceAdd]
  refine xLw.s1 rfl rfl ?_
  try dsimp only [Nat.reduceAdd, xi_2]
  refine xLw.s1 rfl rfl ?_
  try dsimp only [Nat.reduceAdd]
  rw [show (nI i + 2 : Int32) = nI (i + 2) from nI_add i 2]
  refine xLw.ial rfl (hvs (i + 2) (by omega)) (by omega) ?_
  try dsimp only [Nat.reduceAdd]
  refine xLw.cv rfl rfl rfl rfl rfl rfl ⟨by decide, rfl, rfl⟩ hT2 (fun v1 M1 hv => ?_)
  obtain ⟨w2, b2, g2, l2, rfl, rfl, hJ2, heq⟩ := hv
  try dsimp only [Nat.reduceAdd, Option.toList, List.cons_append, List.nil_append]
  have eq : w = w2 := (heq trivial).symm
  refine xLw.br (c := .eq) (off := 1218) (l0 := 3) rfl rfl (fun h => ?_) (fun h => ?_)
  · exact nx _ _ _ hJ2
  · exact absurd eq (xf_eq h)
set_option maxRecDepth 10000 in
theorem w_tear (hL : L ≤ 384) (hi : i + 6 ≤ L) (hvs : ∀ t, t < L → vs[t]? = some (.int (xv t))) (hJ : xJ b g) (nx : ∀ b2 g2 l2, xJ b2 g2 → xLw vs 1546 [(3, .int (nI i)), (2, .ref 73), (1, .ref 0), (0, .retAddr 0)] [] (xH b2 g2 l2)) : xLw vs 333 [(3, .int (nI i)), (2, .ref 73), (1, .ref 0), (0, .retAddr 0)] [] (xH b g l) := by
  refine xLw.s1 rfl rfl ?_
  try dsimp only [Nat.reduceAdd]
  refine xLw.s1 rfl rfl ?_
  try dsimp only [Nat.reduceAdd]
  refine xLw.s1 rfl rfl ?_
  try dsimp only [Nat.reduceAdd]
  refine xLw.s1 rfl rfl ?_
  try dsimp only [Nat.reduceAdd, xi_1]
  refine xLw.s1 rfl rfl ?_
  try dsimp only [Nat.reduceAdd]
  rw [show (nI i + 1 : Int32) = nI (i + 1) from nI_add i 1]
  refine xLw.ial rfl (hvs (i + 1) (by omega)) (by omega) ?_
  try dsimp only [Nat.reduceAdd]
  refine xLw.cv rfl rfl rfl rfl rfl rfl ⟨by decide, rfl, rfl⟩ (j_tear hJ) (fun v1 M1 hv => ?_)
  obtain ⟨w, b1, g1, l1, rfl, rfl, hT2⟩ := hv
  try dsimp only [Nat.reduceAdd, Option.toList, List.cons_append, List.nil_append]
  refine xLw.s1 rfl rfl ?_
  try dsimp only [Nat.reduceAdd]
  refine xLw.s1 rfl rfl ?_
  try dsimp only [Nat.reduceAdd]
  refine xLw.s1 rfl rfl ?_
  try dsimp only [Nat.reduceAdd]
  refine xLw.s1 rfl rfl ?_
  try dsimp only [Nat.reduceAdd]
  refine xLw.s1 rfl rfl ?_
  try dsimp only [Nat.reduceAdd, xi_1]
  refine xLw.s1 rfl rfl ?_
  try dsimp only [Nat.reduceAdd]
  rw [show (nI i + 1 : Int32) = nI (i + 1) from nI_add i 1]
  refine xLw.ial rfl (hvs (i + 1) (by omega)) (by omega) ?_
  try dsimp only [Nat.reduceAdd]
  refine xLw.cv rfl rfl rfl rfl rfl rfl ⟨by decide, rfl, rfl⟩ hT2 (fun v1 M1 hv => ?_)
  obtain ⟨w2, b2, g2, l2, rfl, rfl, hJ2, heq⟩ := hv
  try dsimp only [Nat.reduceAdd, Option.toList, List.cons_append, List.nil_append]
  refine xLw.s1 rfl rfl ?_
  try dsimp only [Nat.reduceAdd]
  refine xLw.s1 rfl rfl ?_
  try dsimp only [Nat.reduceAdd]
  exact nx _ _ _ hJ2
set_option maxRecDepth 10000 in
theorem w_copy (hL : L ≤ 384) (hi : i + 6 ≤ L) (hvs : ∀ t, t < L → vs[t]? = some (.int (xv t))) (hJ : xJ b g) (nx : ∀ b2 g2 l2, xJ b2 g2 → xLw vs 1546 [(3, .int (nI i)), (2, .ref 73), (1, .ref 0), (0, .retAddr 0)] [] (xH b2 g2 l2)) : xLw vs 356 [(3, .int (nI i)), (2, .ref 73), (1, .ref 0), (0, .retAddr 0)] [] (xH b g l) := by
  refine xLw.s1 rfl rfl ?_
  try dsimp only [Nat.reduceAdd]
  refine xLw.s1 rfl rfl ?_
  try dsimp only [Nat.reduceAdd]
  refine xLw.s1 rfl rfl ?_
  try dsimp only [Nat.reduceAdd]
  refine xLw.s1 rfl rfl ?_
  try dsimp only [Nat.reduceAdd, xi_1]
  refine xLw.s1 rfl rfl ?_
  try dsimp only [Nat.reduceAdd]
  rw [show (nI i + 1 : Int32) = nI (i + 1) from nI_add i 1]
  refine xLw.ial rfl (hvs (i + 1) (by omega)) (by omega) ?_
  try dsimp only [Nat.reduceAdd]
  refine xLw.s1 rfl rfl ?_
  try dsimp only [Nat.reduceAdd]
  refine xLw.s1 rfl rfl ?_
  try dsimp only [Nat.reduceAdd]
  refine xLw.s1 rfl rfl ?_
  try dsimp only [Nat.reduceAdd, xi_2]
  refine xLw.s1 rfl rfl ?_
  try dsimp only [Nat.reduceAdd]
  rw [show (nI i + 2 : Int32) = nI (i + 2) from nI_add i 2]
  refine xLw.ial rfl (hvs (i + 2) (by omega)) (by omega) ?_
  try dsimp only [Nat.reduceAdd]
  refine xLw.s1 rfl rfl ?_
  try dsimp only [Nat.reduceAdd]
  refine xLw.s1 rfl rfl ?_
  try dsimp only [Nat.reduceAdd]
  refine xLw.s1 rfl rfl ?_
  try dsimp only [Nat.reduceAdd, xi_3]
  refine xLw.s1 rfl rfl ?_
  try dsimp only [Nat.reduceAdd]
  rw [show (nI i + 3 : Int32) = nI (i + 3) from nI_add i 3]
  refine xLw.ial rfl (hvs (i + 3) (by omega)) (by omega) ?_
  try dsimp only [Nat.reduceAdd]
  refine xLw.s1 rfl rfl ?_
  try dsimp only [Nat.reduceAdd]
  refine xLw.s1 rfl rfl ?_
  try dsimp only [Nat.reduceAdd]
  refine xLw.s1 rfl rfl ?_
  try dsimp only [Nat.reduceAdd, xi_4]
  refine xLw.s1 rfl rfl ?_
  try dsimp only [Nat.reduceAdd]
  rw [show (nI i + 4 : Int32) = nI (i + 4) from nI_add i 4]
  refine xLw.ial rfl (hvs (i + 4) (by omega)) (by omega) ?_
  try dsimp only [Nat.reduceAdd]
  refine xLw.s1 rfl rfl ?_
  try dsimp only [Nat.reduceAdd]
  refine xLw.s1 rfl rfl ?_
  try dsimp only [Nat.reduceAdd]
  refine xLw.s1 rfl rfl ?_
  try dsimp only [Nat.reduceAdd, xi_5]
  refine xLw.s1 rfl rfl ?_
  try dsimp only [Nat.reduceAdd]
  rw [show (nI i + 5 : Int32) = nI (i + 5) from nI_add i 5]
  refine xLw.ial rfl (hvs (i + 5) (by omega)) (by omega) ?_
  try dsimp only [Nat.reduceAdd]
  refine xLw.cv rfl rfl rfl rfl rfl rfl ⟨by decide, rfl, rfl⟩ (j_copy hJ) (fun v1 M1 hv => ?_)
  obtain ⟨w, b1, g1, l1, rfl, rfl, hT2⟩ := hv
  try dsimp only [Nat.reduceAdd, Option.toList, List.cons_append, List.nil_append]
  refine xLw.s1 rfl rfl ?_
  try dsimp only [Nat.reduceAdd]
  refine xLw.s1 rfl rfl ?_
  try dsimp only [Nat.reduceAdd]
  refine xLw.s1 rfl rfl ?_
  try dsimp only [Nat.reduceAdd]
  refine xLw.s1 rfl rfl ?_
  try dsimp only [Nat.reduceAdd]
  refine xLw.s1 rfl rfl ?_
  try dsimp only [Nat.reduceAdd, xi_1]
  refine xLw.s1 rfl rfl ?_
  try dsimp only [Nat.reduceAdd]
  rw [show (nI i + 1 : Int32) = nI (i + 1) from nI_add i 1]
  refine xLw.ial rfl (hvs (i + 1) (by omega)) (by omega) ?_
  try dsimp only [Nat.reduceAdd]
  refine xLw.s1 rfl rfl ?_
  try dsimp only [Nat.reduceAdd]
  refine xLw.s1 rfl rfl ?_
  try dsimp only [Nat.reduceAdd]
  refine xLw.s1 rfl rfl ?_
  try dsimp only [Nat.reduceAdd, xi_2]
  refine xLw.s1 rfl rfl ?_
  try dsimp only [Nat.reduceAdd]
  rw [show (nI i + 2 : Int32) = nI (i + 2) from nI_add i 2]
  refine xLw.ial rfl (hvs (i + 2) (by omega)) (by omega) ?_
  try dsimp only [Nat.reduceAdd]
  refine xLw.s1 rfl rfl ?_
  try dsimp only [Nat.reduceAdd]
  refine xLw.s1 rfl rfl ?_
  try dsimp only [Nat.reduceAdd]
  refine xLw.s1 rfl rfl ?_
  try dsimp only [Nat.reduceAdd, xi_3]
  refine xLw.s1 rfl rfl ?_
  try dsimp only [Nat.reduceAdd]
  rw [show (nI i + 3 : Int32) = nI (i + 3) from nI_add i 3]
  refine xLw.ial rfl (hvs (i + 3) (by omega)) (by omega) ?_
  try dsimp only [Nat.reduceAdd]
  refine xLw.s1 rfl rfl ?_
  try dsimp only [Nat.reduceAdd]
  refine xLw.s1 rfl rfl ?_
  try dsimp only [Nat.reduceAdd]
  refine xLw.s1 rfl rfl ?_
  try dsimp only [Nat.reduceAdd, xi_4]
  refine xLw.s1 rfl rfl ?_
  try dsimp only [Nat.reduceAdd]
  rw [show (nI i + 4 : Int32) = nI (i + 4) from nI_add i 4]
  refine xLw.ial rfl (hvs (i + 4) (by omega)) (by omega) ?_
  try dsimp only [Nat.reduceAdd]
  refine xLw.s1 rfl rfl ?_
  try dsimp only [Nat.reduceAdd]
  refine xLw.s1 rfl rfl ?_
  try dsimp only [Nat.reduceAdd]
  refine xLw.s1 rfl rfl ?_
  try dsimp only [Nat.reduceAdd, xi_5]
  refine xLw.s1 rfl rfl ?_
  try dsimp only [Nat.reduceAdd]
  rw [show (nI i + 5 : Int32) = nI (i + 5) from nI_add i 5]
  refine xLw.ial rfl (hvs (i + 5) (by omega)) (by omega) ?_
  try dsimp only [Nat.reduceAdd]
  refine xLw.cv rfl rfl rfl rfl rfl rfl ⟨by decide, rfl, rfl⟩ hT2 (fun v1 M1 hv => ?_)
  obtain ⟨w2, b2, g2, l2, rfl, rfl, hJ2, heq⟩ := hv
  try dsimp only [Nat.reduceAdd, Option.toList, List.cons_append, List.nil_append]
  refine xLw.s1 rfl rfl ?_
  try dsimp only [Nat.reduceAdd]
  refine xLw.s1 rfl rfl ?_
  try dsimp only [Nat.reduceAdd]
  exact nx _ _ _ hJ2
set_option maxRecDepth 10000 in
theorem w_mean (hL : L ≤ 384) (hi : i + 6 ≤ L) (hvs : ∀ t, t < L → vs[t]? = some (.int (xv t))) (hJ : xJ b g) (nx : ∀ b2 g2 l2, xJ b2 g2 → xLw vs 1546 [(3, .int (nI i)), (2, .ref 73), (1, .ref 0), (0, .retAddr 0)] [] (xH b2 g2 l2)) : xLw vs 419 [(3, .int (nI i)), (2, .ref 73), (1, .ref 0), (0, .retAddr 0)] [] (xH b g l) := by
  refine xLw.s1 rfl rfl ?_
  try dsimp only [Nat.reduceAdd]
  refine xLw.s1 rfl rfl ?_
  try dsimp only [Nat.reduceAdd]
  refine xLw.s1 rfl rfl ?_
  try dsimp only [Nat.reduceAdd]
  refine xLw.s1 rfl rfl ?_
  try dsimp only [Nat.reduceAdd, xi_1]
  refine xLw.s1 rfl rfl ?_
  try dsimp only [Nat.reduceAdd]
  rw [show (nI i + 1 : Int32) = nI (i + 1) from nI_add i 1]
  refine xLw.ial rfl (hvs (i + 1) (by omega)) (by omega) ?_
  try dsimp only [Nat.reduceAdd]
  refine xLw.cv rfl rfl rfl rfl rfl rfl ⟨by decide, rfl, rfl⟩ (j_mean hJ) (fun v1 M1 hv => ?_)
  obtain ⟨w, b1, g1, l1, rfl, rfl, hT2⟩ := hv
  try dsimp only [Nat.reduceAdd, Option.toList, List.cons_append, List.nil_append]
  refine xLw.s1 rfl rfl ?_
  try dsimp only [Nat.reduceAdd]
  refine xLw.s1 rfl rfl ?_
  try dsimp only [Nat.reduceAdd]
  refine xLw.s1 rfl rfl ?_
  try dsimp only [Nat.reduceAdd]
  refine xLw.s1 rfl rfl ?_
  try dsimp only [Nat.reduceAdd]
  refine xLw.s1 rfl rfl ?_
  try dsimp only [Nat.reduceAdd, xi_1]
  refine xLw.s1 rfl rfl ?_
  try dsimp only [Nat.reduceAdd]
  rw [show (nI i + 1 : Int32) = nI (i + 1) from nI_add i 1]
  refine xLw.ial rfl (hvs (i + 1) (by omega)) (by omega) ?_
  try dsimp only [Nat.reduceAdd]
  refine xLw.cv rfl rfl rfl rfl rfl rfl ⟨by decide, rfl, rfl⟩ hT2 (fun v1 M1 hv => ?_)
  obtain ⟨w2, b2, g2, l2, rfl, rfl, hJ2, heq⟩ := hv
  try dsimp only [Nat.reduceAdd, Option.toList, List.cons_append, List.nil_append]
  refine xLw.s1 rfl rfl ?_
  try dsimp only [Nat.reduceAdd]
  refine xLw.s1 rfl rfl ?_
  try dsimp only [Nat.reduceAdd]
  exact nx _ _ _ hJ2
set_option maxRecDepth 10000 in
theorem w_text (hL : L ≤ 384) (hi : i + 6 ≤ L) (hvs : ∀ t, t < L → vs[t]? = some (.int (xv t))) (hJ : xJ b g) (nx : ∀ b2 g2 l2, xJ b2 g2 → xLw vs 1546 [(3, .int (nI i)), (2, .ref 73), (1, .ref 0), (0, .retAddr 0)] [] (xH b2 g2 l2)) : xLw vs 442 [(3, .int (nI i)), (2, .ref 73), (1, .ref 0), (0, .retAddr 0)] [] (xH b g l) := by
  refine xLw.s1 rfl rfl ?_
  try dsimp only [Nat.reduceAdd]
  refine xLw.s1 rfl rfl ?_
  try dsimp only [Nat.reduceAdd]
  refine xLw.s1 rfl rfl ?_
  try dsimp only [Nat.reduceAdd]
  refine xLw.s1 rfl rfl ?_
  try dsimp only [Nat.reduceAdd, xi_1]
  refine xLw.s1 rfl rfl ?_
  try dsimp only [Nat.reduceAdd]
  rw [show (nI i + 1 : Int32) = nI (i + 1) from nI_add i 1]
  refine xLw.ial rfl (hvs (i + 1) (by omega)) (by omega) ?_
  try dsimp only [Nat.reduceAdd]
  refine xLw.s1 rfl rfl ?_
  try dsimp only [Nat.reduceAdd]
  refine xLw.s1 rfl rfl ?_
  try dsimp only [Nat.reduceAdd]
  refine xLw.s1 rfl rfl ?_
  try dsimp only [Nat.reduceAdd, xi_2]
  refine xLw.s1 rfl rfl ?_
  try dsimp only [Nat.reduceAdd]
  rw [show (nI i + 2 : Int32) = nI (i + 2) from nI_add i 2]
  refine xLw.ial rfl (hvs (i + 2) (by omega)) (by omega) ?_
  try dsimp only [Nat.reduceAdd]
  refine xLw.cv rfl rfl rfl rfl rfl rfl ⟨by decide, rfl, rfl⟩ (j_text hJ) (fun v1 M1 hv => ?_)
  obtain ⟨w, b1, g1, l1, rfl, rfl, hT2⟩ := hv
  try dsimp only [Nat.reduceAdd, Option.toList, List.cons_append, List.nil_append]
  refine xLw.s1 rfl rfl ?_
  try dsimp only [Nat.reduceAdd]
  refine xLw.s1 rfl rfl ?_
  try dsimp only [Nat.reduceAdd]
  refine xLw.s1 rfl rfl ?_
  try dsimp only [Nat.reduceAdd]
  refine xLw.s1 rfl rfl ?_
  try dsimp only [Nat.reduceAdd]
  refine xLw.s1 rfl rfl ?_
  try dsimp only [Nat.reduceAdd, xi_1]
  refine xLw.s1 rfl rfl ?_
  try dsimp only [Nat.reduceAdd]
  rw [show (nI i + 1 : Int32) = nI (i + 1) from nI_add i 1]
  refine xLw.ial rfl (hvs (i + 1) (by omega)) (by omega) ?_
  try dsimp only [Nat.reduceAdd]
  refine xLw.s1 rfl rfl ?_
  try dsimp only [Nat.reduceAdd]
  refine xLw.s1 rfl rfl ?_
  try dsimp only [Nat.reduceAdd]
  refine xLw.s1 rfl rfl ?_
  try dsimp only [Nat.reduceAdd, xi_2]
  refine xLw.s1 rfl rfl ?_
  try dsimp only [Nat.reduceAdd]
  rw [show (nI i + 2 : Int32) = nI (i + 2) from nI_add i 2]
  refine xLw.ial rfl (hvs (i + 2) (by omega)) (by omega) ?_
  try dsimp only [Nat.reduceAdd]
  refine xLw.cv rfl rfl rfl rfl rfl rfl ⟨by decide, rfl, rfl⟩ hT2 (fun v1 M1 hv => ?_)
  obtain ⟨w2, b2, g2, l2, rfl, rfl, hJ2, heq⟩ := hv
  try dsimp only [Nat.reduceAdd, Option.toList, List.cons_append, List.nil_append]
  refine xLw.s1 rfl rfl ?_
  try dsimp only [Nat.reduceAdd]
  refine xLw.s1 rfl rfl ?_
  try dsimp only [Nat.reduceAdd]
  exact nx _ _ _ hJ2
set_option maxRecDepth 10000 in
theorem w_put (hL : L ≤ 384) (hi : i + 6 ≤ L) (hvs : ∀ t, t < L → vs[t]? = some (.int (xv t))) (hJ : xJ b g) (nx : ∀ b2 g2 l2, xJ b2 g2 → xLw vs 1546 [(3, .int (nI i)), (2, .ref 73), (1, .ref 0), (0, .retAddr 0)] [] (xH b2 g2 l2)) : xLw vs 475 [(3, .int (nI i)), (2, .ref 73), (1, .ref 0), (0, .retAddr 0)] [] (xH b g l) := by
  refine xLw.s1 rfl rfl ?_
  try dsimp only [Nat.reduceAdd]
  refine xLw.s1 rfl rfl ?_
  try dsimp only [Nat.reduceAdd]
  refine xLw.s1 rfl rfl ?_
  try dsimp only [Nat.reduceAdd]
  refine xLw.s1 rfl rfl ?_
  try dsimp only [Nat.reduceAdd, xi_1]
  refine xLw.s1 rfl rfl ?_
  try dsimp only [Nat.reduceAdd]
  rw [show (nI i + 1 : Int32) = nI (i + 1) from nI_add i 1]
  refine xLw.ial rfl (hvs (i + 1) (by omega)) (by omega) ?_
  try dsimp only [Nat.reduceAdd]
  refine xLw.s1 rfl rfl ?_
  try dsimp only [Nat.reduceAdd]
  refine xLw.s1 rfl rfl ?_
  try dsimp only [Nat.reduceAdd]
  refine xLw.s1 rfl rfl ?_
  try dsimp only [Nat.reduceAdd, xi_2]
  refine xLw.s1 rfl rfl ?_
  try dsimp only [Nat.reduceAdd]
  rw [show (nI i + 2 : Int32) = nI (i + 2) from nI_add i 2]
  refine xLw.ial rfl (hvs (i + 2) (by omega)) (by omega) ?_
  try dsimp only [Nat.reduceAdd]
  refine xLw.s1 rfl rfl ?_
  try dsimp only [Nat.reduceAdd]
  refine xLw.s1 rfl rfl ?_
  try dsimp only [Nat.reduceAdd]
  refine xLw.s1 rfl rfl ?_
  try dsimp only [Nat.reduceAdd, xi_3]
  refine xLw.s1 rfl rfl ?_
  try dsimp only [Nat.reduceAdd]
  rw [show (nI i + 3 : Int32) = nI (i + 3) from nI_add i 3]
  refine xLw.ial rfl (hvs (i + 3) (by omega)) (by omega) ?_
  try dsimp only [Nat.reduceAdd]
  refine xLw.cv rfl rfl rfl rfl rfl rfl ⟨by decide, rfl, rfl⟩ (j_put hJ) (fun v1 M1 hv => ?_)
  obtain ⟨w, b1, g1, l1, rfl, rfl, hT2⟩ := hv
  try dsimp only [Nat.reduceAdd, Option.toList, List.cons_append, List.nil_append]
  refine xLw.s1 rfl rfl ?_
  try dsimp only [Nat.reduceAdd]
  refine xLw.s1 rfl rfl ?_
  try dsimp only [Nat.reduceAdd]
  refine xLw.s1 rfl rfl ?_
  try dsimp only [Nat.reduceAdd]
  refine xLw.s1 rfl rfl ?_
  try dsimp only [Nat.reduceAdd]
  refine xLw.s1 rfl rfl ?_
  try dsimp only [Nat.reduceAdd, xi_1]
  refine xLw.s1 rfl rfl ?_
  try dsimp only [Nat.reduceAdd]
  rw [show (nI i + 1 : Int32) = nI (i + 1) from nI_add i 1]
  refine xLw.ial rfl (hvs (i + 1) (by omega)) (by omega) ?_
  try dsimp only [Nat.reduceAdd]
  refine xLw.s1 rfl rfl ?_
  try dsimp only [Nat.reduceAdd]
  refine xLw.s1 rfl rfl ?_
  try dsimp only [Nat.reduceAdd]
  refine xLw.s1 rfl rfl ?_
  try dsimp only [Nat.reduceAdd, xi_2]
  refine xLw.s1 rfl rfl ?_
  try dsimp only [Nat.reduceAdd]
  rw [show (nI i + 2 : Int32) = nI (i + 2) from nI_add i 2]
  refine xLw.ial rfl (hvs (i + 2) (by omega)) (by omega) ?_
  try dsimp only [Nat.reduceAdd]
  refine xLw.s1 rfl rfl ?_
  try dsimp only [Nat.reduceAdd]
  refine xLw.s1 rfl rfl ?_
  try dsimp only [Nat.reduceAdd]
  refine xLw.s1 rfl rfl ?_
  try dsimp only [Nat.reduceAdd, xi_3]
  refine xLw.s1 rfl rfl ?_
  try dsimp only [Nat.reduceAdd]
  rw [show (nI i + 3 : Int32) = nI (i + 3) from nI_add i 3]
  refine xLw.ial rfl (hvs (i + 3) (by omega)) (by omega) ?_
  try dsimp only [Nat.reduceAdd]
  refine xLw.cv rfl rfl rfl rfl rfl rfl ⟨by decide, rfl, rfl⟩ hT2 (fun v1 M1 hv => ?_)
  obtain ⟨w2, b2, g2, l2, rfl, rfl, hJ2, heq⟩ := hv
  try dsimp only [Nat.reduceAdd, Option.toList, List.cons_append, List.nil_append]
  refine xLw.s1 rfl rfl ?_
  try dsimp only [Nat.reduceAdd]
  refine xLw.s1 rfl rfl ?_
  try dsimp only [Nat.reduceAdd]
  exact nx _ _ _ hJ2
set_option maxRecDepth 10000 in
theorem w_fault (hL : L ≤ 384) (hi : i + 6 ≤ L) (hvs : ∀ t, t < L → vs[t]? = some (.int (xv t))) (hJ : xJ b g) (nx : ∀ b2 g2 l2, xJ b2 g2 → xLw vs 1546 [(3, .int (nI i)), (2, .ref 73), (1, .ref 0), (0, .retAddr 0)] [] (xH b2 g2 l2)) : xLw vs 518 [(3, .int (nI i)), (2, .ref 73), (1, .ref 0), (0, .retAddr 0)] [] (xH b g l) := by
  refine xLw.s1 rfl rfl ?_
  try dsimp only [Nat.reduceAdd]
  refine xLw.s1 rfl rfl ?_
  try dsimp only [Nat.reduceAdd]
  refine xLw.s1 rfl rfl ?_
  try dsimp only [Nat.reduceAdd]
  refine xLw.s1 rfl rfl ?_
  try dsimp only [Nat.reduceAdd, xi_1]
  refine xLw.s1 rfl rfl ?_
  try dsimp only [Nat.reduceAdd]
  rw [show (nI i + 1 : Int32) = nI (i + 1) from nI_add i 1]
  refine xLw.ial rfl (hvs (i + 1) (by omega)) (by omega) ?_
  try dsimp only [Nat.reduceAdd]
  refine xLw.cv rfl rfl rfl rfl rfl rfl ⟨by decide, rfl, rfl⟩ (j_fault hJ) (fun v1 M1 hv => ?_)
  obtain ⟨w, b1, g1, l1, rfl, rfl, hT2⟩ := hv
  try dsimp only [Nat.reduceAdd, Option.toList, List.cons_append, List.nil_append]
  refine xLw.s1 rfl rfl ?_
  try dsimp only [Nat.reduceAdd]
  refine xLw.s1 rfl rfl ?_
  try dsimp only [Nat.reduceAdd]
  refine xLw.s1 rfl rfl ?_
  try dsimp only [Nat.reduceAdd]
  refine xLw.s1 rfl rfl ?_
  try dsimp only [Nat.reduceAdd]
  refine xLw.s1 rfl rfl ?_
  try dsimp only [Nat.reduceAdd, xi_1]
  refine xLw.s1 rfl rfl ?_
  try dsimp only [Nat.reduceAdd]
  rw [show (nI i + 1 : Int32) = nI (i + 1) from nI_add i 1]
  refine xLw.ial rfl (hvs (i + 1) (by omega)) (by omega) ?_
  try dsimp only [Nat.reduceAdd]
  refine xLw.cv rfl rfl rfl rfl rfl rfl ⟨by decide, rfl, rfl⟩ hT2 (fun v1 M1 hv => ?_)
  obtain ⟨w2, b2, g2, l2, rfl, rfl, hJ2, heq⟩ := hv
  try dsimp only [Nat.reduceAdd, Option.toList, List.cons_append, List.nil_append]
  refine xLw.s1 rfl rfl ?_
  try dsimp only [Nat.reduceAdd]
  refine xLw.s1 rfl rfl ?_
  try dsimp only [Nat.reduceAdd]
  exact nx _ _ _ hJ2
set_option maxRecDepth 10000 in
theorem w_room (hL : L ≤ 384) (hi : i + 6 ≤ L) (hvs : ∀ t, t < L → vs[t]? = some (.int (xv t))) (hJ : xJ b g) (nx : ∀ b2 g2 l2, xJ b2 g2 → xLw vs 1546 [(3, .int (nI i)), (2, .ref 73), (1, .ref 0), (0, .retAddr 0)] [] (xH b2 g2 l2)) : xLw vs 541 [(3, .int (nI i)), (2, .ref 73), (1, .ref 0), (0, .retAddr 0)] [] (xH b g l) := by
  refine xLw.s1 rfl rfl ?_
  try dsimp only [Nat.reduceAdd]
  refine xLw.s1 rfl rfl ?_
  try dsimp only [Nat.reduceAdd]
  refine xLw.s1 rfl rfl ?_
  try dsimp only [Nat.reduceAdd]
  refine xLw.s1 rfl rfl ?_
  try dsimp only [Nat.reduceAdd, xi_1]
  refine xLw.s1 rfl rfl ?_
  try dsimp only [Nat.reduceAdd]
  rw [show (nI i + 1 : Int32) = nI (i + 1) from nI_add i 1]
  refine xLw.ial rfl (hvs (i + 1) (by omega)) (by omega) ?_
  try dsimp only [Nat.reduceAdd]
  refine xLw.cv rfl rfl rfl rfl rfl rfl ⟨by decide, rfl, rfl⟩ (j_room hJ) (fun v1 M1 hv => ?_)
  obtain ⟨w, b1, g1, l1, rfl, rfl, hT2⟩ := hv
  try dsimp only [Nat.reduceAdd, Option.toList, List.cons_append, List.nil_append]
  refine xLw.s1 rfl rfl ?_
  try dsimp only [Nat.reduceAdd]
  refine xLw.s1 rfl rfl ?_
  try dsimp only [Nat.reduceAdd]
  refine xLw.s1 rfl rfl ?_
  try dsimp only [Nat.reduceAdd]
  refine xLw.s1 rfl rfl ?_
  try dsimp only [Nat.reduceAdd]
  refine xLw.s1 rfl rfl ?_
  try dsimp only [Nat.reduceAdd, xi_1]
  refine xLw.s1 rfl rfl ?_
  try dsimp only [Nat.reduceAdd]
  rw [show (nI i + 1 : Int32) = nI (i + 1) from nI_add i 1]
  refine xLw.ial rfl (hvs (i + 1) (by omega)) (by omega) ?_
  try dsimp only [Nat.reduceAdd]
  refine xLw.cv rfl rfl rfl rfl rfl rfl ⟨by decide, rfl, rfl⟩ hT2 (fun v1 M1 hv => ?_)
  obtain ⟨w2, b2, g2, l2, rfl, rfl, hJ2, heq⟩ := hv
  try dsimp only [Nat.reduceAdd, Option.toList, List.cons_append, List.nil_append]
  refine xLw.s1 rfl rfl ?_
  try dsimp only [Nat.reduceAdd]
  refine xLw.s1 rfl rfl ?_
  try dsimp only [Nat.reduceAdd]
  exact nx _ _ _ hJ2
set_option maxRecDepth 10000 in
theorem w_glass (hL : L ≤ 384) (hi : i + 6 ≤ L) (hvs : ∀ t, t < L → vs[t]? = some (.int (xv t))) (hJ : xJ b g) (nx : ∀ b2 g2 l2, xJ b2 g2 → xLw vs 1546 [(3, .int (nI i)), (2, .ref 73), (1, .ref 0), (0, .retAddr 0)] [] (xH b2 g2 l2)) : xLw vs 564 [(3, .int (nI i)), (2, .ref 73), (1, .ref 0), (0, .retAddr 0)] [] (xH b g l) := by
  refine xLw.s1 rfl rfl ?_
  try dsimp only [Nat.reduceAdd]
  refine xLw.s1 rfl rfl ?_
  try dsimp only [Nat.reduceAdd]
  refine xLw.s1 rfl rfl ?_
  try dsimp only [Nat.reduceAdd]
  refine xLw.s1 rfl rfl ?_
  try dsimp only [Nat.reduceAdd, xi_1]
  refine xLw.s1 rfl rfl ?_
  try dsimp only [Nat.reduceAdd]
  rw [show (nI i + 1 : Int32) = nI (i + 1) from nI_add i 1]
  refine xLw.ial rfl (hvs (i + 1) (by omega)) (by omega) ?_
  try dsimp only [Nat.reduceAdd]
  refine xLw.s1 rfl rfl ?_
  try dsimp only [Nat.reduceAdd]
  refine xLw.s1 rfl rfl ?_
  try dsimp only [Nat.reduceAdd]
  refine xLw.s1 rfl rfl ?_
  try dsimp only [Nat.reduceAdd, xi_2]
  refine xLw.s1 rfl rfl ?_
  try dsimp only [Nat.reduceAdd]
  rw [show (nI i + 2 : Int32) = nI (i + 2) from nI_add i 2]
  refine xLw.ial rfl (hvs (i + 2) (by omega)) (by omega) ?_
  try dsimp only [Nat.reduceAdd]
  refine xLw.cv rfl rfl rfl rfl rfl rfl ⟨by decide, rfl, rfl⟩ (j_glass hJ) (fun v1 M1 hv => ?_)
  obtain ⟨w, b1, g1, l1, rfl, rfl, hT2⟩ := hv
  try dsimp only [Nat.reduceAdd, Option.toList, List.cons_append, List.nil_append]
  refine xLw.s1 rfl rfl ?_
  try dsimp only [Nat.reduceAdd]
  refine xLw.s1 rfl rfl ?_
  try dsimp only [Nat.reduceAdd]
  refine xLw.s1 rfl rfl ?_
  try dsimp only [Nat.reduceAdd]
  refine xLw.s1 rfl rfl ?_
  try dsimp only [Nat.reduceAdd]
  refine xLw.s1 rfl rfl ?_
  try dsimp only [Nat.reduceAdd, xi_1]
  refine xLw.s1 rfl rfl ?_
  try dsimp only [Nat.reduceAdd]
  rw [show (nI i + 1 : Int32) = nI (i + 1) from nI_add i 1]
  refine xLw.ial rfl (hvs (i + 1) (by omega)) (by omega) ?_
  try dsimp only [Nat.reduceAdd]
  refine xLw.s1 rfl rfl ?_
  try dsimp only [Nat.reduceAdd]
  refine xLw.s1 rfl rfl ?_
  try dsimp only [Nat.reduceAdd]
  refine xLw.s1 rfl rfl ?_
  try dsimp only [Nat.reduceAdd, xi_2]
  refine xLw.s1 rfl rfl ?_
  try dsimp only [Nat.reduceAdd]
  rw [show (nI i + 2 : Int32) = nI (i + 2) from nI_add i 2]
  refine xLw.ial rfl (hvs (i + 2) (by omega)) (by omega) ?_
  try dsimp only [Nat.reduceAdd]
  refine xLw.cv rfl rfl rfl rfl rfl rfl ⟨by decide, rfl, rfl⟩ hT2 (fun v1 M1 hv => ?_)
  obtain ⟨w2, b2, g2, l2, rfl, rfl, hJ2, heq⟩ := hv
  try dsimp only [Nat.reduceAdd, Option.toList, List.cons_append, List.nil_append]
  refine xLw.s1 rfl rfl ?_
  try dsimp only [Nat.reduceAdd]
  refine xLw.s1 rfl rfl ?_
  try dsimp only [Nat.reduceAdd]
  exact nx _ _ _ hJ2
set_option maxRecDepth 10000 in
theorem w_mark (hL : L ≤ 384) (hi : i + 6 ≤ L) (hvs : ∀ t, t < L → vs[t]? = some (.int (xv t))) (hJ : xJ b g) (nx : ∀ b2 g2 l2, xJ b2 g2 → xLw vs 1546 [(3, .int (nI i)), (2, .ref 73), (1, .ref 0), (0, .retAddr 0)] [] (xH b2 g2 l2)) : xLw vs 597 [(3, .int (nI i)), (2, .ref 73), (1, .ref 0), (0, .retAddr 0)] [] (xH b g l) := by
  refine xLw.s1 rfl rfl ?_
  try dsimp only [Nat.reduceAdd]
  refine xLw.s1 rfl rfl ?_
  try dsimp only [Nat.reduceAdd]
  refine xLw.s1 rfl rfl ?_
  try dsimp only [Nat.reduceAdd]
  refine xLw.s1 rfl rfl ?_
  try dsimp only [Nat.reduceAdd, xi_1]
  refine xLw.s1 rfl rfl ?_
  try dsimp only [Nat.reduceAdd]
  rw [show (nI i + 1 : Int32) = nI (i + 1) from nI_add i 1]
  refine xLw.ial rfl (hvs (i + 1) (by omega)) (by omega) ?_
  try dsimp only [Nat.reduceAdd]
  refine xLw.s1 rfl rfl ?_
  try dsimp only [Nat.reduceAdd]
  refine xLw.s1 rfl rfl ?_
  try dsimp only [Nat.reduceAdd]
  refine xLw.s1 rfl rfl ?_
  try dsimp only [Nat.reduceAdd, xi_2]
  refine xLw.s1 rfl rfl ?_
  try dsimp only [Nat.reduceAdd]
  rw [show (nI i + 2 : Int32) = nI (i + 2) from nI_add i 2]
  refine xLw.ial rfl (hvs (i + 2) (by omega)) (by omega) ?_
  try dsimp only [Nat.reduceAdd]
  refine xLw.cv rfl rfl rfl rfl rfl rfl ⟨by decide, rfl, rfl⟩ (j_mark hJ) (fun v1 M1 hv => ?_)
  obtain ⟨w, b1, g1, l1, rfl, rfl, hT2⟩ := hv
  try dsimp only [Nat.reduceAdd, Option.toList, List.cons_append, List.nil_append]
  refine xLw.s1 rfl rfl ?_
  try dsimp only [Nat.reduceAdd]
  refine xLw.s1 rfl rfl ?_
  try dsimp only [Nat.reduceAdd]
  refine xLw.s1 rfl rfl ?_
  try dsimp only [Nat.reduceAdd]
  refine xLw.s1 rfl rfl ?_
  try dsimp only [Nat.reduceAdd]
  refine xLw.s1 rfl rfl ?_
  try dsimp only [Nat.reduceAdd, xi_1]
  refine xLw.s1 rfl rfl ?_
  try dsimp only [Nat.reduceAdd]
  rw [show (nI i + 1 : Int32) = nI (i + 1) from nI_add i 1]
  refine xLw.ial rfl (hvs (i + 1) (by omega)) (by omega) ?_
  try dsimp only [Nat.reduceAdd]
  refine xLw.s1 rfl rfl ?_
  try dsimp only [Nat.reduceAdd]
  refine xLw.s1 rfl rfl ?_
  try dsimp only [Nat.reduceAdd]
  refine xLw.s1 rfl rfl ?_
  try dsimp only [Nat.reduceAdd, xi_2]
  refine xLw.s1 rfl rfl ?_
  try dsimp only [Nat.reduceAdd]
  rw [show (nI i + 2 : Int32) = nI (i + 2) from nI_add i 2]
  refine xLw.ial rfl (hvs (i + 2) (by omega)) (by omega) ?_
  try dsimp only [Nat.reduceAdd]
  refine xLw.cv rfl rfl rfl rfl rfl rfl ⟨by decide, rfl, rfl⟩ hT2 (fun v1 M1 hv => ?_)
  obtain ⟨w2, b2, g2, l2, rfl, rfl, hJ2, heq⟩ := hv
  try dsimp only [Nat.reduceAdd, Option.toList, List.cons_append, List.nil_append]
  refine xLw.s1 rfl rfl ?_
  try dsimp only [Nat.reduceAdd]
  refine xLw.s1 rfl rfl ?_
  try dsimp only [Nat.reduceAdd]
  exact nx _ _ _ hJ2
set_option maxRecDepth 10000 in
theorem w_habit (hL : L ≤ 384) (hi : i + 6 ≤ L) (hvs : ∀ t, t < L → vs[t]? = some (.int (xv t))) (hJ : xJ b g) (nx : ∀ b2 g2 l2, xJ b2 g2 → xLw vs 1546 [(3, .int (nI i)), (2, .ref 73), (1, .ref 0), (0, .retAddr 0)] [] (xH b2 g2 l2)) : xLw vs 630 [(3, .int (nI i)), (2, .ref 73), (1, .ref 0), (0, .retAddr 0)] [] (xH b g l) := by
  refine xLw.s1 rfl rfl ?_
  try dsimp only [Nat.reduceAdd]
  refine xLw.s1 rfl rfl ?_
  try dsimp only [Nat.reduceAdd]
  refine xLw.s1 rfl rfl ?_
  try dsimp only [Nat.reduceAdd]
  refine xLw.s1 rfl rfl ?_
  try dsimp only [Nat.reduceAdd, xi_1]
  refine xLw.s1 rfl rfl ?_
  try dsimp only [Nat.reduceAdd]
  rw [show (nI i + 1 : Int32) = nI (i + 1) from nI_add i 1]
  refine xLw.ial rfl (hvs (i + 1) (by omega)) (by omega) ?_
  try dsimp only [Nat.reduceAdd]
  refine xLw.cv rfl rfl rfl rfl rfl rfl ⟨by decide, rfl, rfl⟩ (j_habit hJ) (fun v1 M1 hv => ?_)
  obtain ⟨w, b1, g1, l1, rfl, rfl, hT2⟩ := hv
  try dsimp only [Nat.reduceAdd, Option.toList, List.cons_append, List.nil_append]
  refine xLw.s1 rfl rfl ?_
  try dsimp only [Nat.reduceAdd]
  refine xLw.s1 rfl rfl ?_
  try dsimp only [Nat.reduceAdd]
  refine xLw.s1 rfl rfl ?_
  try dsimp only [Nat.reduceAdd]
  refine xLw.s1 rfl rfl ?_
  try dsimp only [Nat.reduceAdd]
  refine xLw.s1 rfl rfl ?_
  try dsimp only [Nat.reduceAdd, xi_1]
  refine xLw.s1 rfl rfl ?_
  try dsimp only [Nat.reduceAdd]
  rw [show (nI i + 1 : Int32) = nI (i + 1) from nI_add i 1]
  refine xLw.ial rfl (hvs (i + 1) (by omega)) (by omega) ?_
  try dsimp only [Nat.reduceAdd]
  refine xLw.cv rfl rfl rfl rfl rfl rfl ⟨by decide, rfl, rfl⟩ hT2 (fun v1 M1 hv => ?_)
  obtain ⟨w2, b2, g2, l2, rfl, rfl, hJ2, heq⟩ := hv
  try dsimp only [Nat.reduceAdd, Option.toList, List.cons_append, List.nil_append]
  refine xLw.s1 rfl rfl ?_
  try dsimp only [Nat.reduceAdd]
  refine xLw.s1 rfl rfl ?_
  try dsimp only [Nat.reduceAdd]
  exact nx _ _ _ hJ2
set_option maxRecDepth 10000 in
theorem w_term (hL : L ≤ 384) (hi : i + 6 ≤ L) (hvs : ∀ t, t < L → vs[t]? = some (.int (xv t))) (hJ : xJ b g) (nx : ∀ b2 g2 l2, xJ b2 g2 → xLw vs 1546 [(3, .int (nI i)), (2, .ref 73), (1, .ref 0), (0, .retAddr 0)] [] (xH b2 g2 l2)) : xLw vs 653 [(3, .int (nI i)), (2, .ref 73), (1, .ref 0), (0, .retAddr 0)] [] (xH b g l) := by
  refine xLw.s1 rfl rfl ?_
  try dsimp only [Nat.reduceAdd]
  refine xLw.s1 rfl rfl ?_
  try dsimp only [Nat.reduceAdd]
  refine xLw.s1 rfl rfl ?_
  try dsimp only [Nat.reduceAdd]
  refine xLw.s1 rfl rfl ?_
  try dsimp only [Nat.reduceAdd, xi_1]
  refine xLw.s1 rfl rfl ?_
  try dsimp only [Nat.reduceAdd]
  rw [show (nI i + 1 : Int32) = nI (i + 1) from nI_add i 1]
  refine xLw.ial rfl (hvs (i + 1) (by omega)) (by omega) ?_
  try dsimp only [Nat.reduceAdd]
  refine xLw.s1 rfl rfl ?_
  try dsimp only [Nat.reduceAdd]
  refine xLw.s1 rfl rfl ?_
  try dsimp only [Nat.reduceAdd]
  refine xLw.s1 rfl rfl ?_
  try dsimp only [Nat.reduceAdd, xi_2]
  refine xLw.s1 rfl rfl ?_
  try dsimp only [Nat.reduceAdd]
  rw [show (nI i + 2 : Int32) = nI (i + 2) from nI_add i 2]
  refine xLw.ial rfl (hvs (i + 2) (by omega)) (by omega) ?_
  try dsimp only [Nat.reduceAdd]
  refine xLw.cv rfl rfl rfl rfl rfl rfl ⟨by decide, rfl, rfl⟩ (j_term hJ) (fun v1 M1 hv => ?_)
  obtain ⟨w, b1, g1, l1, rfl, rfl, hT2⟩ := hv
  try dsimp only [Nat.reduceAdd, Option.toList, List.cons_append, List.nil_append]
  refine xLw.s1 rfl rfl ?_
  try dsimp only [Nat.reduceAdd]
  refine xLw.s1 rfl rfl ?_
  try dsimp only [Nat.reduceAdd]
  refine xLw.s1 rfl rfl ?_
  try dsimp only [Nat.reduceAdd]
  refine xLw.s1 rfl rfl ?_
  try dsimp only [Nat.reduceAdd]
  refine xLw.s1 rfl rfl ?_
  try dsimp only [Nat.reduceAdd, xi_1]
  refine xLw.s1 rfl rfl ?_
  try dsimp only [Nat.reduceAdd]
  rw [show (nI i + 1 : Int32) = nI (i + 1) from nI_add i 1]
  refine xLw.ial rfl (hvs (i + 1) (by omega)) (by omega) ?_
  try dsimp only [Nat.reduceAdd]
  refine xLw.s1 rfl rfl ?_
  try dsimp only [Nat.reduceAdd]
  refine xLw.s1 rfl rfl ?_
  try dsimp only [Nat.reduceAdd]
  refine xLw.s1 rfl rfl ?_
  try dsimp only [Nat.reduceAdd, xi_2]
  refine xLw.s1 rfl rfl ?_
  try dsimp only [Nat.reduceAdd]
  rw [show (nI i + 2 : Int32) = nI (i + 2) from nI_add i 2]
  refine xLw.ial rfl (hvs (i + 2) (by omega)) (by omega) ?_
  try dsimp only [Nat.reduceAdd]
  refine xLw.cv rfl rfl rfl rfl rfl rfl ⟨by decide, rfl, rfl⟩ hT2 (fun v1 M1 hv => ?_)
  obtain ⟨w2, b2, g2, l2, rfl, rfl, hJ2, heq⟩ := hv
  try dsimp only [Nat.reduceAdd, Option.toList, List.cons_append, List.nil_append]
  refine xLw.s1 rfl rfl ?_
  try dsimp only [Nat.reduceAdd]
  refine xLw.s1 rfl rfl ?_
  try dsimp only [Nat.reduceAdd]
  exact nx _ _ _ hJ2
set_option maxRecDepth 10000 in
theorem w_step (hL : L ≤ 384) (hi : i + 6 ≤ L) (hvs : ∀ t, t < L → vs[t]? = some (.int (xv t))) (hJ : xJ b g) (nx : ∀ b2 g2 l2, xJ b2 g2 → xLw vs 1546 [(3, .int (nI i)), (2, .ref 73), (1, .ref 0), (0, .retAddr 0)] [] (xH b2 g2 l2)) : xLw vs 686 [(3, .int (nI i)), (2, .ref 73), (1, .ref 0), (0, .retAddr 0)] [] (xH b g l) := by
  refine xLw.s1 rfl rfl ?_
  try dsimp only [Nat.reduceAdd]
  refine xLw.s1 rfl rfl ?_
  try dsimp only [Nat.reduceAdd]
  refine xLw.s1 rfl rfl ?_
  try dsimp only [Nat.reduceAdd]
  refine xLw.s1 rfl rfl ?_
  try dsimp only [Nat.reduceAdd, xi_1]
  refine xLw.s1 rfl rfl ?_
  try dsimp only [Nat.reduceAdd]
  rw [show (nI i + 1 : Int32) = nI (i + 1) from nI_add i 1]
  refine xLw.ial rfl (hvs (i + 1) (by omega)) (by omega) ?_
  try dsimp only [Nat.reduceAdd]
  refine xLw.s1 rfl rfl ?_
  try dsimp only [Nat.reduceAdd]
  refine xLw.s1 rfl rfl ?_
  try dsimp only [Nat.reduceAdd]
  refine xLw.s1 rfl rfl ?_
  try dsimp only [Nat.reduceAdd, xi_2]
  refine xLw.s1 rfl rfl ?_
  try dsimp only [Nat.reduceAdd]
  rw [show (nI i + 2 : Int32) = nI (i + 2) from nI_add i 2]
  refine xLw.ial rfl (hvs (i + 2) (by omega)) (by omega) ?_
  try dsimp only [Nat.reduceAdd]
  refine xLw.cv rfl rfl rfl rfl rfl rfl ⟨by decide, rfl, rfl⟩ (j_step hJ) (fun v1 M1 hv => ?_)
  obtain ⟨w, b1, g1, l1, rfl, rfl, hT2⟩ := hv
  try dsimp only [Nat.reduceAdd, Option.toList, List.cons_append, List.nil_append]
  refine xLw.s1 rfl rfl ?_
  try dsimp only [Nat.reduceAdd]
  refine xLw.s1 rfl rfl ?_
  try dsimp only [Nat.reduceAdd]
  refine xLw.s1 rfl rfl ?_
  try dsimp only [Nat.reduceAdd]
  refine xLw.s1 rfl rfl ?_
  try dsimp only [Nat.reduceAdd]
  refine xLw.s1 rfl rfl ?_
  try dsimp only [Nat.reduceAdd, xi_1]
  refine xLw.s1 rfl rfl ?_
  try dsimp only [Nat.reduceAdd]
  rw [show (nI i + 1 : Int32) = nI (i + 1) from nI_add i 1]
  refine xLw.ial rfl (hvs (i + 1) (by omega)) (by omega) ?_
  try dsimp only [Nat.reduceAdd]
  refine xLw.s1 rfl rfl ?_
  try dsimp only [Nat.reduceAdd]
  refine xLw.s1 rfl rfl ?_
  try dsimp only [Nat.reduceAdd]
  refine xLw.s1 rfl rfl ?_
  try dsimp only [Nat.reduceAdd, xi_2]
  refine xLw.s1 rfl rfl ?_
  try dsimp only [Nat.reduceAdd]
  rw [show (nI i + 2 : Int32) = nI (i + 2) from nI_add i 2]
  refine xLw.ial rfl (hvs (i + 2) (by omega)) (by omega) ?_
  try dsimp only [Nat.reduceAdd]
  refine xLw.cv rfl rfl rfl rfl rfl rfl ⟨by decide, rfl, rfl⟩ hT2 (fun v1 M1 hv => ?_)
  obtain ⟨w2, b2, g2, l2, rfl, rfl, hJ2, heq⟩ := hv
  try dsimp only [Nat.reduceAdd, Option.toList, List.cons_append, List.nil_append]
  refine xLw.s1 rfl rfl ?_
  try dsimp only [Nat.reduceAdd]
  refine xLw.s1 rfl rfl ?_
  try dsimp only [Nat.reduceAdd]
  exact nx _ _ _ hJ2
set_option maxRecDepth 10000 in
theorem w_deed (hL : L ≤ 384) (hi : i + 6 ≤ L) (hvs : ∀ t, t < L → vs[t]? = some (.int (xv t))) (hJ : xJ b g) (nx : ∀ b2 g2 l2, xJ b2 g2 → xLw vs 1546 [(3, .int (nI i)), (2, .ref 73), (1, .ref 0), (0, .retAddr 0)] [] (xH b2 g2 l2)) : xLw vs 719 [(3, .int (nI i)), (2, .ref 73), (1, .ref 0), (0, .retAddr 0)] [] (xH b g l) := by
  refine xLw.s1 rfl rfl ?_
  try dsimp only [Nat.reduceAdd]
  refine xLw.s1 rfl rfl ?_
  try dsimp only [Nat.reduceAdd]
  refine xLw.s1 rfl rfl ?_
  try dsimp only [Nat.reduceAdd]
  refine xLw.s1 rfl rfl ?_
  try dsimp only [Nat.reduceAdd, xi_1]
  refine xLw.s1 rfl rfl ?_
  try dsimp only [Nat.reduceAdd]
  rw [show (nI i + 1 : Int32) = nI (i + 1) from nI_add i 1]
  refine xLw.ial rfl (hvs (i + 1) (by omega)) (by omega) ?_
  try dsimp only [Nat.reduceAdd]
  refine xLw.s1 rfl rfl ?_
  try dsimp only [Nat.reduceAdd]
  refine xLw.s1 rfl rfl ?_
  try dsimp only [Nat.reduceAdd]
  refine xLw.s1 rfl rfl ?_
  try dsimp only [Nat.reduceAdd, xi_2]
  refine xLw.s1 rfl rfl ?_
  try dsimp only [Nat.reduceAdd]
  rw [show (nI i + 2 : Int32) = nI (i + 2) from nI_add i 2]
  refine xLw.ial rfl (hvs (i + 2) (by omega)) (by omega) ?_
  try dsimp only [Nat.reduceAdd]
  refine xLw.cv rfl rfl rfl rfl rfl rfl ⟨by decide, rfl, rfl⟩ (j_deed hJ) (fun v1 M1 hv => ?_)
  obtain ⟨w, b1, g1, l1, rfl, rfl, hT2⟩ := hv
  try dsimp only [Nat.reduceAdd, Option.toList, List.cons_append, List.nil_append]
  refine xLw.s1 rfl rfl ?_
  try dsimp only [Nat.reduceAdd]
  refine xLw.s1 rfl rfl ?_
  try dsimp only [Nat.reduceAdd]
  refine xLw.s1 rfl rfl ?_
  try dsimp only [Nat.reduceAdd]
  refine xLw.s1 rfl rfl ?_
  try dsimp only [Nat.reduceAdd]
  refine xLw.s1 rfl rfl ?_
  try dsimp only [Nat.reduceAdd, xi_1]
  refine xLw.s1 rfl rfl ?_
  try dsimp only [Nat.reduceAdd]
  rw [show (nI i + 1 : Int32) = nI (i + 1) from nI_add i 1]
  refine xLw.ial rfl (hvs (i + 1) (by omega)) (by omega) ?_
  try dsimp only [Nat.reduceAdd]
  refine xLw.s1 rfl rfl ?_
  try dsimp only [Nat.reduceAdd]
  refine xLw.s1 rfl rfl ?_
  try dsimp only [Nat.reduceAdd]
  refine xLw.s1 rfl rfl ?_
  try dsimp only [Nat.reduceAdd, xi_2]
  refine xLw.s1 rfl rfl ?_
  try dsimp only [Nat.reduceAdd]
  rw [show (nI i + 2 : Int32) = nI (i + 2) from nI_add i 2]
  refine xLw.ial rfl (hvs (i + 2) (by omega)) (by omega) ?_
  try dsimp only [Nat.reduceAdd]
  refine xLw.cv rfl rfl rfl rfl rfl rfl ⟨by decide, rfl, rfl⟩ hT2 (fun v1 M1 hv => ?_)
  obtain ⟨w2, b2, g2, l2, rfl, rfl, hJ2, heq⟩ := hv
  try dsimp only [Nat.reduceAdd, Option.toList, List.cons_append, List.nil_append]
  refine xLw.s1 rfl rfl ?_
  try dsimp only [Nat.reduceAdd]
  refine xLw.s1 rfl rfl ?_
  try dsimp only [Nat.reduceAdd]
  exact nx _ _ _ hJ2
set_option maxRecDepth 10000 in
theorem w_broken (hL : L ≤ 384) (hi : i + 6 ≤ L) (hvs : ∀ t, t < L → vs[t]? = some (.int (xv t))) (hJ : xJ b g) (nx : ∀ b2 g2 l2, xJ b2 g2 → xLw vs 1546 [(3, .int (nI i)), (2, .ref 73), (1, .ref 0), (0, .retAddr 0)] [] (xH b2 g2 l2)) : xLw vs 752 [(3, .int (nI i)), (2, .ref 73), (1, .ref 0), (0, .retAddr 0)] [] (xH b g l) := by
  refine xLw.s1 rfl rfl ?_
  try dsimp only [Nat.reduceAdd]
  refine xLw.cv rfl rfl rfl rfl rfl rfl ⟨by decide, rfl, rfl⟩ (j_broken hJ) (fun v1 M1 hv => ?_)
  obtain ⟨w, b1, g1, l1, rfl, rfl, hT2⟩ := hv
  try dsimp only [Nat.reduceAdd, Option.toList, List.cons_append, List.nil_append]
  refine xLw.s1 rfl rfl ?_
  try dsimp only [Nat.reduceAdd]
  refine xLw.s1 rfl rfl ?_
  try dsimp only [Nat.reduceAdd]
  refine xLw.cv rfl rfl rfl rfl rfl rfl ⟨by decide, rfl, rfl⟩ hT2 (fun v1 M1 hv => ?_)
  obtain ⟨w2, b2, g2, l2, rfl, rfl, hJ2, heq⟩ := hv
  try dsimp only [Nat.reduceAdd, Option.toList, List.cons_append, List.nil_append]
  refine xLw.s1 rfl rfl ?_
  try dsimp only [Nat.reduceAdd]
  refine xLw.s1 rfl rfl ?_
  try dsimp only [Nat.reduceAdd]
  exact nx _ _ _ hJ2
set_option maxRecDepth 10000 in
theorem w_undo (hL : L ≤ 384) (hi : i + 6 ≤ L) (hvs : ∀ t, t < L → vs[t]? = some (.int (xv t))) (hJ : xJ b g) (nx : ∀ b2 g2 l2, xJ b2 g2 → xLw vs 1546 [(3, .int (nI i)), (2, .ref 73), (1, .ref 0), (0, .retAddr 0)] [] (xH b2 g2 l2)) : xLw vs 765 [(3, .int (nI i)), (2, .ref 73), (1, .ref 0), (0, .retAddr 0)] [] (xH b g l) := by
  refine xLw.s1 rfl rfl ?_
  try dsimp only [Nat.reduceAdd]
  refine xLw.s1 rfl rfl ?_
  try dsimp only [Nat.reduceAdd]
  refine xLw.s1 rfl rfl ?_
  try dsimp only [Nat.reduceAdd]
  refine xLw.s1 rfl rfl ?_
  try dsimp only [Nat.reduceAdd, xi_1]
  refine xLw.s1 rfl rfl ?_
  try dsimp only [Nat.reduceAdd]
  rw [show (nI i + 1 : Int32) = nI (i + 1) from nI_add i 1]
  refine xLw.ial rfl (hvs (i + 1) (by omega)) (by omega) ?_
  try dsimp only [Nat.reduceAdd]
  refine xLw.cv rfl rfl rfl rfl rfl rfl ⟨by decide, rfl, rfl⟩ (j_undo hJ) (fun v1 M1 hv => ?_)
  obtain ⟨w, b1, g1, l1, rfl, rfl, hT2⟩ := hv
  try dsimp only [Nat.reduceAdd, Option.toList, List.cons_append, List.nil_append]
  refine xLw.s1 rfl rfl ?_
  try dsimp only [Nat.reduceAdd]
  refine xLw.s1 rfl rfl ?_
  try dsimp only [Nat.reduceAdd]
  refine xLw.s1 rfl rfl ?_
  try dsimp only [Nat.reduceAdd]
  refine xLw.s1 rfl rfl ?_
  try dsimp only [Nat.reduceAdd]
  refine xLw.s1 rfl rfl ?_
  try dsimp only [Nat.reduceAdd, xi_1]
  refine xLw.s1 rfl rfl ?_
  try dsimp only [Nat.reduceAdd]
  rw [show (nI i + 1 : Int32) = nI (i + 1) from nI_add i 1]
  refine xLw.ial rfl (hvs (i + 1) (by omega)) (by omega) ?_
  try dsimp only [Nat.reduceAdd]
  refine xLw.cv rfl rfl rfl rfl rfl rfl ⟨by decide, rfl, rfl⟩ hT2 (fun v1 M1 hv => ?_)
  obtain ⟨w2, b2, g2, l2, rfl, rfl, hJ2, heq⟩ := hv
  try dsimp only [Nat.reduceAdd, Option.toList, List.cons_append, List.nil_append]
  refine xLw.s1 rfl rfl ?_
  try dsimp only [Nat.reduceAdd]
  refine xLw.s1 rfl rfl ?_
  try dsimp only [Nat.reduceAdd]
  exact nx _ _ _ hJ2
set_option maxRecDepth 10000 in
theorem w_keep (hL : L ≤ 384) (hi : i + 6 ≤ L) (hvs : ∀ t, t < L → vs[t]? = some (.int (xv t))) (hJ : xJ b g) (nx : ∀ b2 g2 l2, xJ b2 g2 → xLw vs 1546 [(3, .int (nI i)), (2, .ref 73), (1, .ref 0), (0, .retAddr 0)] [] (xH b2 g2 l2)) : xLw vs 788 [(3, .int (nI i)), (2, .ref 73), (1, .ref 0), (0, .retAddr 0)] [] (xH b g l) := by
  refine xLw.s1 rfl rfl ?_
  try dsimp only [Nat.reduceAdd]
  refine xLw.s1 rfl rfl ?_
  try dsimp only [Nat.reduceAdd]
  refine xLw.s1 rfl rfl ?_
  try dsimp only [Nat.reduceAdd]
  refine xLw.s1 rfl rfl ?_
  try dsimp only [Nat.reduceAdd, xi_1]
  refine xLw.s1 rfl rfl ?_
  try dsimp only [Nat.reduceAdd]
  rw [show (nI i + 1 : Int32) = nI (i + 1) from nI_add i 1]
  refine xLw.ial rfl (hvs (i + 1) (by omega)) (by omega) ?_
  try dsimp only [Nat.reduceAdd]
  refine xLw.cv rfl rfl rfl rfl rfl rfl ⟨by decide, rfl, rfl⟩ (j_keep hJ) (fun v1 M1 hv => ?_)
  obtain ⟨w, b1, g1, l1, rfl, rfl, hT2⟩ := hv
  try dsimp only [Nat.reduceAdd, Option.toList, List.cons_append, List.nil_append]
  refine xLw.s1 rfl rfl ?_
  try dsimp only [Nat.reduceAdd]
  refine xLw.s1 rfl rfl ?_
  try dsimp only [Nat.reduceAdd]
  refine xLw.s1 rfl rfl ?_
  try dsimp only [Nat.reduceAdd]
  refine xLw.s1 rfl rfl ?_
  try dsimp only [Nat.reduceAdd]
  refine xLw.s1 rfl rfl ?_
  try dsimp only [Nat.reduceAdd, xi_1]
  refine xLw.s1 rfl rfl ?_
  try dsimp only [Nat.reduceAdd]
  rw [show (nI i + 1 : Int32) = nI (i + 1) from nI_add i 1]
  refine xLw.ial rfl (hvs (i + 1) (by omega)) (by omega) ?_
  try dsimp only [Nat.reduceAdd]
  refine xLw.cv rfl rfl rfl rfl rfl rfl ⟨by decide, rfl, rfl⟩ hT2 (fun v1 M1 hv => ?_)
  obtain ⟨w2, b2, g2, l2, rfl, rfl, hJ2, heq⟩ := hv
  try dsimp only [Nat.reduceAdd, Option.toList, List.cons_append, List.nil_append]
  refine xLw.s1 rfl rfl ?_
  try dsimp only [Nat.reduceAdd]
  refine xLw.s1 rfl rfl ?_
  try dsimp only [Nat.reduceAdd]
  exact nx _ _ _ hJ2
set_option maxRecDepth 10000 in
theorem w_on (hL : L ≤ 384) (hi : i + 6 ≤ L) (hvs : ∀ t, t < L → vs[t]? = some (.int (xv t))) (hJ : xJ b g) (nx : ∀ b2 g2 l2, xJ b2 g2 → xLw vs 1546 [(3, .int (nI i)), (2, .ref 73), (1, .ref 0), (0, .retAddr 0)] [] (xH b2 g2 l2)) : xLw vs 811 [(3, .int (nI i)), (2, .ref 73), (1, .ref 0), (0, .retAddr 0)] [] (xH b g l) := by
  refine xLw.s1 rfl rfl ?_
  try dsimp only [Nat.reduceAdd]
  refine xLw.s1 rfl rfl ?_
  try dsimp only [Nat.reduceAdd]
  refine xLw.s1 rfl rfl ?_
  try dsimp only [Nat.reduceAdd]
  refine xLw.s1 rfl rfl ?_
  try dsimp only [Nat.reduceAdd, xi_1]
  refine xLw.s1 rfl rfl ?_
  try dsimp only [Nat.reduceAdd]
  rw [show (nI i + 1 : Int32) = nI (i + 1) from nI_add i 1]
  refine xLw.ial rfl (hvs (i + 1) (by omega)) (by omega) ?_
  try dsimp only [Nat.reduceAdd]
  refine xLw.cv rfl rfl rfl rfl rfl rfl ⟨by decide, rfl, rfl⟩ (j_on hJ) (fun v1 M1 hv => ?_)
  obtain ⟨w, b1, g1, l1, rfl, rfl, hT2⟩ := hv
  try dsimp only [Nat.reduceAdd, Option.toList, List.cons_append, List.nil_append]
  refine xLw.s1 rfl rfl ?_
  try dsimp only [Nat.reduceAdd]
  refine xLw.s1 rfl rfl ?_
  try dsimp only [Nat.reduceAdd]
  refine xLw.s1 rfl rfl ?_
  try dsimp only [Nat.reduceAdd]
  refine xLw.s1 rfl rfl ?_
  try dsimp only [Nat.reduceAdd]
  refine xLw.s1 rfl rfl ?_
  try dsimp only [Nat.reduceAdd, xi_1]
  refine xLw.s1 rfl rfl ?_
  try dsimp only [Nat.reduceAdd]
  rw [show (nI i + 1 : Int32) = nI (i + 1) from nI_add i 1]
  refine xLw.ial rfl (hvs (i + 1) (by omega)) (by omega) ?_
  try dsimp only [Nat.reduceAdd]
  refine xLw.cv rfl rfl rfl rfl rfl rfl ⟨by decide, rfl, rfl⟩ hT2 (fun v1 M1 hv => ?_)
  obtain ⟨w2, b2, g2, l2, rfl, rfl, hJ2, heq⟩ := hv
  try dsimp only [Nat.reduceAdd, Option.toList, List.cons_append, List.nil_append]
  refine xLw.s1 rfl rfl ?_
  try dsimp only [Nat.reduceAdd]
  refine xLw.s1 rfl rfl ?_
  try dsimp only [Nat.reduceAdd]
  exact nx _ _ _ hJ2
set_option maxRecDepth 10000 in
theorem w_show (hL : L ≤ 384) (hi : i + 6 ≤ L) (hvs : ∀ t, t < L → vs[t]? = some (.int (xv t))) (hJ : xJ b g) (nx : ∀ b2 g2 l2, xJ b2 g2 → xLw vs 1546 [(3, .int (nI i)), (2, .ref 73), (1, .ref 0), (0, .retAddr 0)] [] (xH b2 g2 l2)) : xLw vs 834 [(3, .int (nI i)), (2, .ref 73), (1, .ref 0), (0, .retAddr 0)] [] (xH b g l) := by
  refine xLw.s1 rfl rfl ?_
  try dsimp only [Nat.reduceAdd]
  refine xLw.s1 rfl rfl ?_
  try dsimp only [Nat.reduceAdd]
  refine xLw.s1 rfl rfl ?_
  try dsimp only [Nat.reduceAdd]
  refine xLw.s1 rfl rfl ?_
  try dsimp only [Nat.reduceAdd, xi_1]
  refine xLw.s1 rfl rfl ?_
  try dsimp only [Nat.reduceAdd]
  rw [show (nI i + 1 : Int32) = nI (i + 1) from nI_add i 1]
  refine xLw.ial rfl (hvs (i + 1) (by omega)) (by omega) ?_
  try dsimp only [Nat.reduceAdd]
  refine xLw.s1 rfl rfl ?_
  try dsimp only [Nat.reduceAdd]
  refine xLw.s1 rfl rfl ?_
  try dsimp only [Nat.reduceAdd]
  refine xLw.s1 rfl rfl ?_
  try dsimp only [Nat.reduceAdd, xi_2]
  refine xLw.s1 rfl rfl ?_
  try dsimp only [Nat.reduceAdd]
  rw [show (nI i + 2 : Int32) = nI (i + 2) from nI_add i 2]
  refine xLw.ial rfl (hvs (i + 2) (by omega)) (by omega) ?_
  try dsimp only [Nat.reduceAdd]
  refine xLw.s1 rfl rfl ?_
  try dsimp only [Nat.reduceAdd]
  refine xLw.s1 rfl rfl ?_
  try dsimp only [Nat.reduceAdd]
  refine xLw.s1 rfl rfl ?_
  try dsimp only [Nat.reduceAdd, xi_3]
  refine xLw.s1 rfl rfl ?_
  try dsimp only [Nat.reduceAdd]
  rw [show (nI i + 3 : Int32) = nI (i + 3) from nI_add i 3]
  refine xLw.ial rfl (hvs (i + 3) (by omega)) (by omega) ?_
  try dsimp only [Nat.reduceAdd]
  refine xLw.cv rfl rfl rfl rfl rfl rfl ⟨by decide, rfl, rfl⟩ (j_show hJ) (fun v1 M1 hv => ?_)
  obtain ⟨w, b1, g1, l1, rfl, rfl, hT2⟩ := hv
  try dsimp only [Nat.reduceAdd, Option.toList, List.cons_append, List.nil_append]
  refine xLw.s1 rfl rfl ?_
  try dsimp only [Nat.reduceAdd]
  refine xLw.s1 rfl rfl ?_
  try dsimp only [Nat.reduceAdd]
  refine xLw.s1 rfl rfl ?_
  try dsimp only [Nat.reduceAdd]
  refine xLw.s1 rfl rfl ?_
  try dsimp only [Nat.reduceAdd]
  refine xLw.s1 rfl rfl ?_
  try dsimp only [Nat.reduceAdd, xi_1]
  refine xLw.s1 rfl rfl ?_
  try dsimp only [Nat.reduceAdd]
  rw [show (nI i + 1 : Int32) = nI (i + 1) from nI_add i 1]
  refine xLw.ial rfl (hvs (i + 1) (by omega)) (by omega) ?_
  try dsimp only [Nat.reduceAdd]
  refine xLw.s1 rfl rfl ?_
  try dsimp only [Nat.reduceAdd]
  refine xLw.s1 rfl rfl ?_
  try dsimp only [Nat.reduceAdd]
  refine xLw.s1 rfl rfl ?_
  try dsimp only [Nat.reduceAdd, xi_2]
  refine xLw.s1 rfl rfl ?_
  try dsimp only [Nat.reduceAdd]
  rw [show (nI i + 2 : Int32) = nI (i + 2) from nI_add i 2]
  refine xLw.ial rfl (hvs (i + 2) (by omega)) (by omega) ?_
  try dsimp only [Nat.reduceAdd]
  refine xLw.s1 rfl rfl ?_
  try dsimp only [Nat.reduceAdd]
  refine xLw.s1 rfl rfl ?_
  try dsimp only [Nat.reduceAdd]
  refine xLw.s1 rfl rfl ?_
  try dsimp only [Nat.reduceAdd, xi_3]
  refine xLw.s1 rfl rfl ?_
  try dsimp only [Nat.reduceAdd]
  rw [show (nI i + 3 : Int32) = nI (i + 3) from nI_add i 3]
  refine xLw.ial rfl (hvs (i + 3) (by omega)) (by omega) ?_
  try dsimp only [Nat.reduceAdd]
  refine xLw.cv rfl rfl rfl rfl rfl rfl ⟨by decide, rfl, rfl⟩ hT2 (fun v1 M1 hv => ?_)
  obtain ⟨w2, b2, g2, l2, rfl, rfl, hJ2, heq⟩ := hv
  try dsimp only [Nat.reduceAdd, Option.toList, List.cons_append, List.nil_append]
  refine xLw.s1 rfl rfl ?_
  try dsimp only [Nat.reduceAdd]
  refine xLw.s1 rfl rfl ?_
  try dsimp only [Nat.reduceAdd]
  exact nx _ _ _ hJ2
set_option maxRecDepth 10000 in
theorem w_breaks (hL : L ≤ 384) (hi : i + 6 ≤ L) (hvs : ∀ t, t < L → vs[t]? = some (.int (xv t))) (hJ : xJ b g) (nx : ∀ b2 g2 l2, xJ b2 g2 → xLw vs 1546 [(3, .int (nI i)), (2, .ref 73), (1, .ref 0), (0, .retAddr 0)] [] (xH b2 g2 l2)) : xLw vs 877 [(3, .int (nI i)), (2, .ref 73), (1, .ref 0), (0, .retAddr 0)] [] (xH b g l) := by
  refine xLw.s1 rfl rfl ?_
  try dsimp only [Nat.reduceAdd]
  refine xLw.s1 rfl rfl ?_
  try dsimp only [Nat.reduceAdd]
  refine xLw.s1 rfl rfl ?_
  try dsimp only [Nat.reduceAdd]
  refine xLw.s1 rfl rfl ?_
  try dsimp only [Nat.reduceAdd, xi_1]
  refine xLw.s1 rfl rfl ?_
  try dsimp only [Nat.reduceAdd]
  rw [show (nI i + 1 : Int32) = nI (i + 1) from nI_add i 1]
  refine xLw.ial rfl (hvs (i + 1) (by omega)) (by omega) ?_
  try dsimp only [Nat.reduceAdd]
  refine xLw.s1 rfl rfl ?_
  try dsimp only [Nat.reduceAdd]
  refine xLw.s1 rfl rfl ?_
  try dsimp only [Nat.reduceAdd]
  refine xLw.s1 rfl rfl ?_
  try dsimp only [Nat.reduceAdd, xi_2]
  refine xLw.s1 rfl rfl ?_
  try dsimp only [Nat.reduceAdd]
  rw [show (nI i + 2 : Int32) = nI (i + 2) from nI_add i 2]
  refine xLw.ial rfl (hvs (i + 2) (by omega)) (by omega) ?_
  try dsimp only [Nat.reduceAdd]
  refine xLw.cv rfl rfl rfl rfl rfl rfl ⟨by decide, rfl, rfl⟩ (j_breaks hJ) (fun v1 M1 hv => ?_)
  obtain ⟨w, b1, g1, l1, rfl, rfl, hT2⟩ := hv
  try dsimp only [Nat.reduceAdd, Option.toList, List.cons_append, List.nil_append]
  refine xLw.s1 rfl rfl ?_
  try dsimp only [Nat.reduceAdd]
  refine xLw.s1 rfl rfl ?_
  try dsimp only [Nat.reduceAdd]
  refine xLw.s1 rfl rfl ?_
  try dsimp only [Nat.reduceAdd]
  refine xLw.s1 rfl rfl ?_
  try dsimp only [Nat.reduceAdd]
  refine xLw.s1 rfl rfl ?_
  try dsimp only [Nat.reduceAdd, xi_1]
  refine xLw.s1 rfl rfl ?_
  try dsimp only [Nat.reduceAdd]
  rw [show (nI i + 1 : Int32) = nI (i + 1) from nI_add i 1]
  refine xLw.ial rfl (hvs (i + 1) (by omega)) (by omega) ?_
  try dsimp only [Nat.reduceAdd]
  refine xLw.s1 rfl rfl ?_
  try dsimp only [Nat.reduceAdd]
  refine xLw.s1 rfl rfl ?_
  try dsimp only [Nat.reduceAdd]
  refine xLw.s1 rfl rfl ?_
  try dsimp only [Nat.reduceAdd, xi_2]
  refine xLw.s1 rfl rfl ?_
  try dsimp only [Nat.reduceAdd]
  rw [show (nI i + 2 : Int32) = nI (i + 2) from nI_add i 2]
  refine xLw.ial rfl (hvs (i + 2) (by omega)) (by omega) ?_
  try dsimp only [Nat.reduceAdd]
  refine xLw.cv rfl rfl rfl rfl rfl rfl ⟨by decide, rfl, rfl⟩ hT2 (fun v1 M1 hv => ?_)
  obtain ⟨w2, b2, g2, l2, rfl, rfl, hJ2, heq⟩ := hv
  try dsimp only [Nat.reduceAdd, Option.toList, List.cons_append, List.nil_append]
  refine xLw.s1 rfl rfl ?_
  try dsimp only [Nat.reduceAdd]
  refine xLw.s1 rfl rfl ?_
  try dsimp only [Nat.reduceAdd]
  exact nx _ _ _ hJ2
set_option maxRecDepth 10000 in
theorem w_alike (hL : L ≤ 384) (hi : i + 6 ≤ L) (hvs : ∀ t, t < L → vs[t]? = some (.int (xv t))) (hJ : xJ b g) (nx : ∀ b2 g2 l2, xJ b2 g2 → xLw vs 1546 [(3, .int (nI i)), (2, .ref 73), (1, .ref 0), (0, .retAddr 0)] [] (xH b2 g2 l2)) : xLw vs 910 [(3, .int (nI i)), (2, .ref 73), (1, .ref 0), (0, .retAddr 0)] [] (xH b g l) := by
  refine xLw.s1 rfl rfl ?_
  try dsimp only [Nat.reduceAdd]
  refine xLw.s1 rfl rfl ?_
  try dsimp only [Nat.reduceAdd]
  refine xLw.s1 rfl rfl ?_
  try dsimp only [Nat.reduceAdd]
  refine xLw.s1 rfl rfl ?_
  try dsimp only [Nat.reduceAdd, xi_1]
  refine xLw.s1 rfl rfl ?_
  try dsimp only [Nat.reduceAdd]
  rw [show (nI i + 1 : Int32) = nI (i + 1) from nI_add i 1]
  refine xLw.ial rfl (hvs (i + 1) (by omega)) (by omega) ?_
  try dsimp only [Nat.reduceAdd]
  refine xLw.s1 rfl rfl ?_
  try dsimp only [Nat.reduceAdd]
  refine xLw.s1 rfl rfl ?_
  try dsimp only [Nat.reduceAdd]
  refine xLw.s1 rfl rfl ?_
  try dsimp only [Nat.reduceAdd, xi_2]
  refine xLw.s1 rfl rfl ?_
  try dsimp only [Nat.reduceAdd]
  rw [show (nI i + 2 : Int32) = nI (i + 2) from nI_add i 2]
  refine xLw.ial rfl (hvs (i + 2) (by omega)) (by omega) ?_
  try dsimp only [Nat.reduceAdd]
  refine xLw.cv rfl rfl rfl rfl rfl rfl ⟨by decide, rfl, rfl⟩ (j_alike hJ) (fun v1 M1 hv => ?_)
  obtain ⟨w, b1, g1, l1, rfl, rfl, hT2⟩ := hv
  try dsimp only [Nat.reduceAdd, Option.toList, List.cons_append, List.nil_append]
  refine xLw.s1 rfl rfl ?_
  try dsimp only [Nat.reduceAdd]
  refine xLw.s1 rfl rfl ?_
  try dsimp only [Nat.reduceAdd]
  refine xLw.s1 rfl rfl ?_
  try dsimp only [Nat.reduceAdd]
  refine xLw.s1 rfl rfl ?_
  try dsimp only [Nat.reduceAdd]
  refine xLw.s1 rfl rfl ?_
  try dsimp only [Nat.reduceAdd, xi_1]
  refine xLw.s1 rfl rfl ?_
  try dsimp only [Nat.reduceAdd]
  rw [show (nI i + 1 : Int32) = nI (i + 1) from nI_add i 1]
  refine xLw.ial rfl (hvs (i + 1) (by omega)) (by omega) ?_
  try dsimp only [Nat.reduceAdd]
  refine xLw.s1 rfl rfl ?_
  try dsimp only [Nat.reduceAdd]
  refine xLw.s1 rfl rfl ?_
  try dsimp only [Nat.reduceAdd]
  refine xLw.s1 rfl rfl ?_
  try dsimp only [Nat.reduceAdd, xi_2]
  refine xLw.s1 rfl rfl ?_
  try dsimp only [Nat.reduceAdd]
  rw [show (nI i + 2 : Int32) = nI (i + 2) from nI_add i 2]
  refine xLw.ial rfl (hvs (i + 2) (by omega)) (by omega) ?_
  try dsimp only [Nat.reduceAdd]
  refine xLw.cv rfl rfl rfl rfl rfl rfl ⟨by decide, rfl, rfl⟩ hT2 (fun v1 M1 hv => ?_)
  obtain ⟨w2, b2, g2, l2, rfl, rfl, hJ2, heq⟩ := hv
  try dsimp only [Nat.reduceAdd, Option.toList, List.cons_append, List.nil_append]
  refine xLw.s1 rfl rfl ?_
  try dsimp only [Nat.reduceAdd]
  refine xLw.s1 rfl rfl ?_
  try dsimp only [Nat.reduceAdd]
  exact nx _ _ _ hJ2
set_option maxRecDepth 10000 in
theorem w_fit (hL : L ≤ 384) (hi : i + 6 ≤ L) (hvs : ∀ t, t < L → vs[t]? = some (.int (xv t))) (hJ : xJ b g) (nx : ∀ b2 g2 l2, xJ b2 g2 → xLw vs 1546 [(3, .int (nI i)), (2, .ref 73), (1, .ref 0), (0, .retAddr 0)] [] (xH b2 g2 l2)) : xLw vs 943 [(3, .int (nI i)), (2, .ref 73), (1, .ref 0), (0, .retAddr 0)] [] (xH b g l) := by
  refine xLw.s1 rfl rfl ?_
  try dsimp only [Nat.reduceAdd]
  refine xLw.s1 rfl rfl ?_
  try dsimp only [Nat.reduceAdd]
  refine xLw.s1 rfl rfl ?_
  try dsimp only [Nat.reduceAdd]
  refine xLw.s1 rfl rfl ?_
  try dsimp only [Nat.reduceAdd, xi_1]
  refine xLw.s1 rfl rfl ?_
  try dsimp only [Nat.reduceAdd]
  rw [show (nI i + 1 : Int32) = nI (i + 1) from nI_add i 1]
  refine xLw.ial rfl (hvs (i + 1) (by omega)) (by omega) ?_
  try dsimp only [Nat.reduceAdd]
  refine xLw.s1 rfl rfl ?_
  try dsimp only [Nat.reduceAdd]
  refine xLw.s1 rfl rfl ?_
  try dsimp only [Nat.reduceAdd]
  refine xLw.s1 rfl rfl ?_
  try dsimp only [Nat.reduceAdd, xi_2]
  refine xLw.s1 rfl rfl ?_
  try dsimp only [Nat.reduceAdd]
  rw [show (nI i + 2 : Int32) = nI (i + 2) from nI_add i 2]
  refine xLw.ial rfl (hvs (i + 2) (by omega)) (by omega) ?_
  try dsimp only [Nat.reduceAdd]
  refine xLw.cv rfl rfl rfl rfl rfl rfl ⟨by decide, rfl, rfl⟩ (j_fit hJ) (fun v1 M1 hv => ?_)
  obtain ⟨w, b1, g1, l1, rfl, rfl, hT2⟩ := hv
  try dsimp only [Nat.reduceAdd, Option.toList, List.cons_append, List.nil_append]
  refine xLw.s1 rfl rfl ?_
  try dsimp only [Nat.reduceAdd]
  refine xLw.s1 rfl rfl ?_
  try dsimp only [Nat.reduceAdd]
  refine xLw.s1 rfl rfl ?_
  try dsimp only [Nat.reduceAdd]
  refine xLw.s1 rfl rfl ?_
  try dsimp only [Nat.reduceAdd]
  refine xLw.s1 rfl rfl ?_
  try dsimp only [Nat.reduceAdd, xi_1]
  refine xLw.s1 rfl rfl ?_
  try dsimp only [Nat.reduceAdd]
  rw [show (nI i + 1 : Int32) = nI (i + 1) from nI_add i 1]
  refine xLw.ial rfl (hvs (i + 1) (by omega)) (by omega) ?_
  try dsimp only [Nat.reduceAdd]
  refine xLw.s1 rfl rfl ?_
  try dsimp only [Nat.reduceAdd]
  refine xLw.s1 rfl rfl ?_
  try dsimp only [Nat.reduceAdd]
  refine xLw.s1 rfl rfl ?_
  try dsimp only [Nat.reduceAdd, xi_2]
  refine xLw.s1 rfl rfl ?_
  try dsimp only [Nat.reduceAdd]
  rw [show (nI i + 2 : Int32) = nI (i + 2) from nI_add i 2]
  refine xLw.ial rfl (hvs (i + 2) (by omega)) (by omega) ?_
  try dsimp only [Nat.reduceAdd]
  refine xLw.cv rfl rfl rfl rfl rfl rfl ⟨by decide, rfl, rfl⟩ hT2 (fun v1 M1 hv => ?_)
  obtain ⟨w2, b2, g2, l2, rfl, rfl, hJ2, heq⟩ := hv
  try dsimp only [Nat.reduceAdd, Option.toList, List.cons_append, List.nil_append]
  refine xLw.s1 rfl rfl ?_
  try dsimp only [Nat.reduceAdd]
  refine xLw.s1 rfl rfl ?_
  try dsimp only [Nat.reduceAdd]
  exact nx _ _ _ hJ2
set_option maxRecDepth 10000 in
theorem w_ways (hL : L ≤ 384) (hi : i + 6 ≤ L) (hvs : ∀ t, t < L → vs[t]? = some (.int (xv t))) (hJ : xJ b g) (nx : ∀ b2 g2 l2, xJ b2 g2 → xLw vs 1546 [(3, .int (nI i)), (2, .ref 73), (1, .ref 0), (0, .retAddr 0)] [] (xH b2 g2 l2)) : xLw vs 976 [(3, .int (nI i)), (2, .ref 73), (1, .ref 0), (0, .retAddr 0)] [] (xH b g l) := by
  refine xLw.s1 rfl rfl ?_
  try dsimp only [Nat.reduceAdd]
  refine xLw.s1 rfl rfl ?_
  try dsimp only [Nat.reduceAdd]
  refine xLw.s1 rfl rfl ?_
  try dsimp only [Nat.reduceAdd]
  refine xLw.s1 rfl rfl ?_
  try dsimp only [Nat.reduceAdd, xi_1]
  refine xLw.s1 rfl rfl ?_
  try dsimp only [Nat.reduceAdd]
  rw [show (nI i + 1 : Int32) = nI (i + 1) from nI_add i 1]
  refine xLw.ial rfl (hvs (i + 1) (by omega)) (by omega) ?_
  try dsimp only [Nat.reduceAdd]
  refine xLw.s1 rfl rfl ?_
  try dsimp only [Nat.reduceAdd]
  refine xLw.s1 rfl rfl ?_
  try dsimp only [Nat.reduceAdd]
  refine xLw.s1 rfl rfl ?_
  try dsimp only [Nat.reduceAdd, xi_2]
  refine xLw.s1 rfl rfl ?_
  try dsimp only [Nat.reduceAdd]
  rw [show (nI i + 2 : Int32) = nI (i + 2) from nI_add i 2]
  refine xLw.ial rfl (hvs (i + 2) (by omega)) (by omega) ?_
  try dsimp only [Nat.reduceAdd]
  refine xLw.cv rfl rfl rfl rfl rfl rfl ⟨by decide, rfl, rfl⟩ (j_ways hJ) (fun v1 M1 hv => ?_)
  obtain ⟨w, b1, g1, l1, rfl, rfl, hT2⟩ := hv
  try dsimp only [Nat.reduceAdd, Option.toList, List.cons_append, List.nil_append]
  refine xLw.s1 rfl rfl ?_
  try dsimp only [Nat.reduceAdd]
  refine xLw.s1 rfl rfl ?_
  try dsimp only [Nat.reduceAdd]
  refine xLw.s1 rfl rfl ?_
  try dsimp only [Nat.reduceAdd]
  refine xLw.s1 rfl rfl ?_
  try dsimp only [Nat.reduceAdd]
  refine xLw.s1 rfl rfl ?_
  try dsimp only [Nat.reduceAdd, xi_1]
  refine xLw.s1 rfl rfl ?_
  try dsimp only [Nat.reduceAdd]
  rw [show (nI i + 1 : Int32) = nI (i + 1) from nI_add i 1]
  refine xLw.ial rfl (hvs (i + 1) (by omega)) (by omega) ?_
  try dsimp only [Nat.reduceAdd]
  refine xLw.s1 rfl rfl ?_
  try dsimp only [Nat.reduceAdd]
  refine xLw.s1 rfl rfl ?_
  try dsimp only [Nat.reduceAdd]
  refine xLw.s1 rfl rfl ?_
  try dsimp only [Nat.reduceAdd, xi_2]
  refine xLw.s1 rfl rfl ?_
  try dsimp only [Nat.reduceAdd]
  rw [show (nI i + 2 : Int32) = nI (i + 2) from nI_add i 2]
  refine xLw.ial rfl (hvs (i + 2) (by omega)) (by omega) ?_
  try dsimp only [Nat.reduceAdd]
  refine xLw.cv rfl rfl rfl rfl rfl rfl ⟨by decide, rfl, rfl⟩ hT2 (fun v1 M1 hv => ?_)
  obtain ⟨w2, b2, g2, l2, rfl, rfl, hJ2, heq⟩ := hv
  try dsimp only [Nat.reduceAdd, Option.toList, List.cons_append, List.nil_append]
  refine xLw.s1 rfl rfl ?_
  try dsimp only [Nat.reduceAdd]
  refine xLw.s1 rfl rfl ?_
  try dsimp only [Nat.reduceAdd]
  exact nx _ _ _ hJ2
set_option maxRecDepth 10000 in
theorem w_first (hL : L ≤ 384) (hi : i + 6 ≤ L) (hvs : ∀ t, t < L → vs[t]? = some (.int (xv t))) (hJ : xJ b g) (nx : ∀ b2 g2 l2, xJ b2 g2 → xLw vs 1546 [(3, .int (nI i)), (2, .ref 73), (1, .ref 0), (0, .retAddr 0)] [] (xH b2 g2 l2)) : xLw vs 1009 [(3, .int (nI i)), (2, .ref 73), (1, .ref 0), (0, .retAddr 0)] [] (xH b g l) := by
  refine xLw.s1 rfl rfl ?_
  try dsimp only [Nat.reduceAdd]
  refine xLw.s1 rfl rfl ?_
  try dsimp only [Nat.reduceAdd]
  refine xLw.s1 rfl rfl ?_
  try dsimp only [Nat.reduceAdd]
  refine xLw.s1 rfl rfl ?_
  try dsimp only [Nat.reduceAdd, xi_1]
  refine xLw.s1 rfl rfl ?_
  try dsimp only [Nat.reduceAdd]
  rw [show (nI i + 1 : Int32) = nI (i + 1) from nI_add i 1]
  refine xLw.ial rfl (hvs (i + 1) (by omega)) (by omega) ?_
  try dsimp only [Nat.reduceAdd]
  refine xLw.s1 rfl rfl ?_
  try dsimp only [Nat.reduceAdd]
  refine xLw.s1 rfl rfl ?_
  try dsimp only [Nat.reduceAdd]
  refine xLw.s1 rfl rfl ?_
  try dsimp only [Nat.reduceAdd, xi_2]
  refine xLw.s1 rfl rfl ?_
  try dsimp only [Nat.reduceAdd]
  rw [show (nI i + 2 : Int32) = nI (i + 2) from nI_add i 2]
  refine xLw.ial rfl (hvs (i + 2) (by omega)) (by omega) ?_
  try dsimp only [Nat.reduceAdd]
  refine xLw.s1 rfl rfl ?_
  try dsimp only [Nat.reduceAdd]
  refine xLw.s1 rfl rfl ?_
  try dsimp only [Nat.reduceAdd]
  refine xLw.s1 rfl rfl ?_
  try dsimp only [Nat.reduceAdd, xi_3]
  refine xLw.s1 rfl rfl ?_
  try dsimp only [Nat.reduceAdd]
  rw [show (nI i + 3 : Int32) = nI (i + 3) from nI_add i 3]
  refine xLw.ial rfl (hvs (i + 3) (by omega)) (by omega) ?_
  try dsimp only [Nat.reduceAdd]
  refine xLw.cv rfl rfl rfl rfl rfl rfl ⟨by decide, rfl, rfl⟩ (j_first hJ) (fun v1 M1 hv => ?_)
  obtain ⟨w, b1, g1, l1, rfl, rfl, hT2⟩ := hv
  try dsimp only [Nat.reduceAdd, Option.toList, List.cons_append, List.nil_append]
  refine xLw.s1 rfl rfl ?_
  try dsimp only [Nat.reduceAdd]
  refine xLw.s1 rfl rfl ?_
  try dsimp only [Nat.reduceAdd]
  refine xLw.s1 rfl rfl ?_
  try dsimp only [Nat.reduceAdd]
  refine xLw.s1 rfl rfl ?_
  try dsimp only [Nat.reduceAdd]
  refine xLw.s1 rfl rfl ?_
  try dsimp only [Nat.reduceAdd, xi_1]
  refine xLw.s1 rfl rfl ?_
  try dsimp only [Nat.reduceAdd]
  rw [show (nI i + 1 : Int32) = nI (i + 1) from nI_add i 1]
  refine xLw.ial rfl (hvs (i + 1) (by omega)) (by omega) ?_
  try dsimp only [Nat.reduceAdd]
  refine xLw.s1 rfl rfl ?_
  try dsimp only [Nat.reduceAdd]
  refine xLw.s1 rfl rfl ?_
  try dsimp only [Nat.reduceAdd]
  refine xLw.s1 rfl rfl ?_
  try dsimp only [Nat.reduceAdd, xi_2]
  refine xLw.s1 rfl rfl ?_
  try dsimp only [Nat.reduceAdd]
  rw [show (nI i + 2 : Int32) = nI (i + 2) from nI_add i 2]
  refine xLw.ial rfl (hvs (i + 2) (by omega)) (by omega) ?_
  try dsimp only [Nat.reduceAdd]
  refine xLw.s1 rfl rfl ?_
  try dsimp only [Nat.reduceAdd]
  refine xLw.s1 rfl rfl ?_
  try dsimp only [Nat.reduceAdd]
  refine xLw.s1 rfl rfl ?_
  try dsimp only [Nat.reduceAdd, xi_3]
  refine xLw.s1 rfl rfl ?_
  try dsimp only [Nat.reduceAdd]
  rw [show (nI i + 3 : Int32) = nI (i + 3) from nI_add i 3]
  refine xLw.ial rfl (hvs (i + 3) (by omega)) (by omega) ?_
  try dsimp only [Nat.reduceAdd]
  refine xLw.cv rfl rfl rfl rfl rfl rfl ⟨by decide, rfl, rfl⟩ hT2 (fun v1 M1 hv => ?_)
  obtain ⟨w2, b2, g2, l2, rfl, rfl, hJ2, heq⟩ := hv
  try dsimp only [Nat.reduceAdd, Option.toList, List.cons_append, List.nil_append]
  refine xLw.s1 rfl rfl ?_
  try dsimp only [Nat.reduceAdd]
  refine xLw.s1 rfl rfl ?_
  try dsimp only [Nat.reduceAdd]
  exact nx _ _ _ hJ2
set_option maxRecDepth 10000 in
theorem w_can (hL : L ≤ 384) (hi : i + 6 ≤ L) (hvs : ∀ t, t < L → vs[t]? = some (.int (xv t))) (hJ : xJ b g) (nx : ∀ b2 g2 l2, xJ b2 g2 → xLw vs 1546 [(3, .int (nI i)), (2, .ref 73), (1, .ref 0), (0, .retAddr 0)] [] (xH b2 g2 l2)) : xLw vs 1052 [(3, .int (nI i)), (2, .ref 73), (1, .ref 0), (0, .retAddr 0)] [] (xH b g l) := by
  refine xLw.s1 rfl rfl ?_
  try dsimp only [Nat.reduceAdd]
  refine xLw.s1 rfl rfl ?_
  try dsimp only [Nat.reduceAdd]
  refine xLw.s1 rfl rfl ?_
  try dsimp only [Nat.reduceAdd]
  refine xLw.s1 rfl rfl ?_
  try dsimp only [Nat.reduceAdd, xi_1]
  refine xLw.s1 rfl rfl ?_
  try dsimp only [Nat.reduceAdd]
  rw [show (nI i + 1 : Int32) = nI (i + 1) from nI_add i 1]
  refine xLw.ial rfl (hvs (i + 1) (by omega)) (by omega) ?_
  try dsimp only [Nat.reduceAdd]
  refine xLw.s1 rfl rfl ?_
  try dsimp only [Nat.reduceAdd]
  refine xLw.s1 rfl rfl ?_
  try dsimp only [Nat.reduceAdd]
  refine xLw.s1 rfl rfl ?_
  try dsimp only [Nat.reduceAdd, xi_2]
  refine xLw.s1 rfl rfl ?_
  try dsimp only [Nat.reduceAdd]
  rw [show (nI i + 2 : Int32) = nI (i + 2) from nI_add i 2]
  refine xLw.ial rfl (hvs (i + 2) (by omega)) (by omega) ?_
  try dsimp only [Nat.reduceAdd]
  refine xLw.s1 rfl rfl ?_
  try dsimp only [Nat.reduceAdd]
  refine xLw.s1 rfl rfl ?_
  try dsimp only [Nat.reduceAdd]
  refine xLw.s1 rfl rfl ?_
  try dsimp only [Nat.reduceAdd, xi_3]
  refine xLw.s1 rfl rfl ?_
  try dsimp only [Nat.reduceAdd]
  rw [show (nI i + 3 : Int32) = nI (i + 3) from nI_add i 3]
  refine xLw.ial rfl (hvs (i + 3) (by omega)) (by omega) ?_
  try dsimp only [Nat.reduceAdd]
  refine xLw.cv rfl rfl rfl rfl rfl rfl ⟨by decide, rfl, rfl⟩ (j_can hJ) (fun v1 M1 hv => ?_)
  obtain ⟨w, b1, g1, l1, rfl, rfl, hT2⟩ := hv
  try dsimp only [Nat.reduceAdd, Option.toList, List.cons_append, List.nil_append]
  refine xLw.s1 rfl rfl ?_
  try dsimp only [Nat.reduceAdd]
  refine xLw.s1 rfl rfl ?_
  try dsimp only [Nat.reduceAdd]
  refine xLw.s1 rfl rfl ?_
  try dsimp only [Nat.reduceAdd]
  refine xLw.s1 rfl rfl ?_
  try dsimp only [Nat.reduceAdd]
  refine xLw.s1 rfl rfl ?_
  try dsimp only [Nat.reduceAdd, xi_1]
  refine xLw.s1 rfl rfl ?_
  try dsimp only [Nat.reduceAdd]
  rw [show (nI i + 1 : Int32) = nI (i + 1) from nI_add i 1]
  refine xLw.ial rfl (hvs (i + 1) (by omega)) (by omega) ?_
  try dsimp only [Nat.reduceAdd]
  refine xLw.s1 rfl rfl ?_
  try dsimp only [Nat.reduceAdd]
  refine xLw.s1 rfl rfl ?_
  try dsimp only [Nat.reduceAdd]
  refine xLw.s1 rfl rfl ?_
  try dsimp only [Nat.reduceAdd, xi_2]
  refine xLw.s1 rfl rfl ?_
  try dsimp only [Nat.reduceAdd]
  rw [show (nI i + 2 : Int32) = nI (i + 2) from nI_add i 2]
  refine xLw.ial rfl (hvs (i + 2) (by omega)) (by omega) ?_
  try dsimp only [Nat.reduceAdd]
  refine xLw.s1 rfl rfl ?_
  try dsimp only [Nat.reduceAdd]
  refine xLw.s1 rfl rfl ?_
  try dsimp only [Nat.reduceAdd]
  refine xLw.s1 rfl rfl ?_
  try dsimp only [Nat.reduceAdd, xi_3]
  refine xLw.s1 rfl rfl ?_
  try dsimp only [Nat.reduceAdd]
  rw [show (nI i + 3 : Int32) = nI (i + 3) from nI_add i 3]
  refine xLw.ial rfl (hvs (i + 3) (by omega)) (by omega) ?_
  try dsimp only [Nat.reduceAdd]
  refine xLw.cv rfl rfl rfl rfl rfl rfl ⟨by decide, rfl, rfl⟩ hT2 (fun v1 M1 hv => ?_)
  obtain ⟨w2, b2, g2, l2, rfl, rfl, hJ2, heq⟩ := hv
  try dsimp only [Nat.reduceAdd, Option.toList, List.cons_append, List.nil_append]
  refine xLw.s1 rfl rfl ?_
  try dsimp only [Nat.reduceAdd]
  refine xLw.s1 rfl rfl ?_
  try dsimp only [Nat.reduceAdd]
  exact nx _ _ _ hJ2
set_option maxRecDepth 10000 in
theorem w_laws (hL : L ≤ 384) (hi : i + 6 ≤ L) (hvs : ∀ t, t < L → vs[t]? = some (.int (xv t))) (hJ : xJ b g) (nx : ∀ b2 g2 l2, xJ b2 g2 → xLw vs 1546 [(3, .int (nI i)), (2, .ref 73), (1, .ref 0), (0, .retAddr 0)] [] (xH b2 g2 l2)) : xLw vs 1095 [(3, .int (nI i)), (2, .ref 73), (1, .ref 0), (0, .retAddr 0)] [] (xH b g l) := by
  refine xLw.s1 rfl rfl ?_
  try dsimp only [Nat.reduceAdd]
  refine xLw.s1 rfl rfl ?_
  try dsimp only [Nat.reduceAdd]
  refine xLw.s1 rfl rfl ?_
  try dsimp only [Nat.reduceAdd]
  refine xLw.s1 rfl rfl ?_
  try dsimp only [Nat.reduceAdd, xi_1]
  refine xLw.s1 rfl rfl ?_
  try dsimp only [Nat.reduceAdd]
  rw [show (nI i + 1 : Int32) = nI (i + 1) from nI_add i 1]
  refine xLw.ial rfl (hvs (i + 1) (by omega)) (by omega) ?_
  try dsimp only [Nat.reduceAdd]
  refine xLw.s1 rfl rfl ?_
  try dsimp only [Nat.reduceAdd]
  refine xLw.s1 rfl rfl ?_
  try dsimp only [Nat.reduceAdd]
  refine xLw.s1 rfl rfl ?_
  try dsimp only [Nat.reduceAdd, xi_2]
  refine xLw.s1 rfl rfl ?_
  try dsimp only [Nat.reduceAdd]
  rw [show (nI i + 2 : Int32) = nI (i + 2) from nI_add i 2]
  refine xLw.ial rfl (hvs (i + 2) (by omega)) (by omega) ?_
  try dsimp only [Nat.reduceAdd]
  refine xLw.cv rfl rfl rfl rfl rfl rfl ⟨by decide, rfl, rfl⟩ (j_laws hJ) (fun v1 M1 hv => ?_)
  obtain ⟨w, b1, g1, l1, rfl, rfl, hT2⟩ := hv
  try dsimp only [Nat.reduceAdd, Option.toList, List.cons_append, List.nil_append]
  refine xLw.s1 rfl rfl ?_
  try dsimp only [Nat.reduceAdd]
  refine xLw.s1 rfl rfl ?_
  try dsimp only [Nat.reduceAdd]
  refine xLw.s1 rfl rfl ?_
  try dsimp only [Nat.reduceAdd]
  refine xLw.s1 rfl rfl ?_
  try dsimp only [Nat.reduceAdd]
  refine xLw.s1 rfl rfl ?_
  try dsimp only [Nat.reduceAdd, xi_1]
  refine xLw.s1 rfl rfl ?_
  try dsimp only [Nat.reduceAdd]
  rw [show (nI i + 1 : Int32) = nI (i + 1) from nI_add i 1]
  refine xLw.ial rfl (hvs (i + 1) (by omega)) (by omega) ?_
  try dsimp only [Nat.reduceAdd]
  refine xLw.s1 rfl rfl ?_
  try dsimp only [Nat.reduceAdd]
  refine xLw.s1 rfl rfl ?_
  try dsimp only [Nat.reduceAdd]
  refine xLw.s1 rfl rfl ?_
  try dsimp only [Nat.reduceAdd, xi_2]
  refine xLw.s1 rfl rfl ?_
  try dsimp only [Nat.reduceAdd]
  rw [show (nI i + 2 : Int32) = nI (i + 2) from nI_add i 2]
  refine xLw.ial rfl (hvs (i + 2) (by omega)) (by omega) ?_
  try dsimp only [Nat.reduceAdd]
  refine xLw.cv rfl rfl rfl rfl rfl rfl ⟨by decide, rfl, rfl⟩ hT2 (fun v1 M1 hv => ?_)
  obtain ⟨w2, b2, g2, l2, rfl, rfl, hJ2, heq⟩ := hv
  try dsimp only [Nat.reduceAdd, Option.toList, List.cons_append, List.nil_append]
  refine xLw.s1 rfl rfl ?_
  try dsimp only [Nat.reduceAdd]
  refine xLw.s1 rfl rfl ?_
  try dsimp only [Nat.reduceAdd]
  exact nx _ _ _ hJ2
set_option maxRecDepth 10000 in
theorem w_next (hL : L ≤ 384) (hi : i + 6 ≤ L) (hvs : ∀ t, t < L → vs[t]? = some (.int (xv t))) (hJ : xJ b g) (nx : ∀ b2 g2 l2, xJ b2 g2 → xLw vs 1546 [(3, .int (nI i)), (2, .ref 73), (1, .ref 0), (0, .retAddr 0)] [] (xH b2 g2 l2)) : xLw vs 1128 [(3, .int (nI i)), (2, .ref 73), (1, .ref 0), (0, .retAddr 0)] [] (xH b g l) := by
  refine xLw.s1 rfl rfl ?_
  try dsimp only [Nat.reduceAdd]
  refine xLw.s1 rfl rfl ?_
  try dsimp only [Nat.reduceAdd]
  refine xLw.s1 rfl rfl ?_
  try dsimp only [Nat.reduceAdd]
  refine xLw.s1 rfl rfl ?_
  try dsimp only [Nat.reduceAdd, xi_1]
  refine xLw.s1 rfl rfl ?_
  try dsimp only [Nat.reduceAdd]
  rw [show (nI i + 1 : Int32) = nI (i + 1) from nI_add i 1]
  refine xLw.ial rfl (hvs (i + 1) (by omega)) (by omega) ?_
  try dsimp only [Nat.reduceAdd]
  refine xLw.s1 rfl rfl ?_
  try dsimp only [Nat.reduceAdd]
  refine xLw.s1 rfl rfl ?_
  try dsimp only [Nat.reduceAdd]
  refine xLw.s1 rfl rfl ?_
  try dsimp only [Nat.reduceAdd, xi_2]
  refine xLw.s1 rfl rfl ?_
  try dsimp only [Nat.reduceAdd]
  rw [show (nI i + 2 : Int32) = nI (i + 2) from nI_add i 2]
  refine xLw.ial rfl (hvs (i + 2) (by omega)) (by omega) ?_
  try dsimp only [Nat.reduceAdd]
  refine xLw.cv rfl rfl rfl rfl rfl rfl ⟨by decide, rfl, rfl⟩ (j_next hJ) (fun v1 M1 hv => ?_)
  obtain ⟨w, b1, g1, l1, rfl, rfl, hT2⟩ := hv
  try dsimp only [Nat.reduceAdd, Option.toList, List.cons_append, List.nil_append]
  refine xLw.s1 rfl rfl ?_
  try dsimp only [Nat.reduceAdd]
  refine xLw.s1 rfl rfl ?_
  try dsimp only [Nat.reduceAdd]
  refine xLw.s1 rfl rfl ?_
  try dsimp only [Nat.reduceAdd]
  refine xLw.s1 rfl rfl ?_
  try dsimp only [Nat.reduceAdd]
  refine xLw.s1 rfl rfl ?_
  try dsimp only [Nat.reduceAdd, xi_1]
  refine xLw.s1 rfl rfl ?_
  try dsimp only [Nat.reduceAdd]
  rw [show (nI i + 1 : Int32) = nI (i + 1) from nI_add i 1]
  refine xLw.ial rfl (hvs (i + 1) (by omega)) (by omega) ?_
  try dsimp only [Nat.reduceAdd]
  refine xLw.s1 rfl rfl ?_
  try dsimp only [Nat.reduceAdd]
  refine xLw.s1 rfl rfl ?_
  try dsimp only [Nat.reduceAdd]
  refine xLw.s1 rfl rfl ?_
  try dsimp only [Nat.reduceAdd, xi_2]
  refine xLw.s1 rfl rfl ?_
  try dsimp only [Nat.reduceAdd]
  rw [show (nI i + 2 : Int32) = nI (i + 2) from nI_add i 2]
  refine xLw.ial rfl (hvs (i + 2) (by omega)) (by omega) ?_
  try dsimp only [Nat.reduceAdd]
  refine xLw.cv rfl rfl rfl rfl rfl rfl ⟨by decide, rfl, rfl⟩ hT2 (fun v1 M1 hv => ?_)
  obtain ⟨w2, b2, g2, l2, rfl, rfl, hJ2, heq⟩ := hv
  try dsimp only [Nat.reduceAdd, Option.toList, List.cons_append, List.nil_append]
  refine xLw.s1 rfl rfl ?_
  try dsimp only [Nat.reduceAdd]
  refine xLw.s1 rfl rfl ?_
  try dsimp only [Nat.reduceAdd]
  exact nx _ _ _ hJ2
set_option maxRecDepth 10000 in
theorem w_he (hL : L ≤ 384) (hi : i + 6 ≤ L) (hvs : ∀ t, t < L → vs[t]? = some (.int (xv t))) (hJ : xJ b g) (nx : ∀ b2 g2 l2, xJ b2 g2 → xLw vs 1546 [(3, .int (nI i)), (2, .ref 73), (1, .ref 0), (0, .retAddr 0)] [] (xH b2 g2 l2)) : xLw vs 1161 [(3, .int (nI i)), (2, .ref 73), (1, .ref 0), (0, .retAddr 0)] [] (xH b g l) := by
  refine xLw.s1 rfl rfl ?_
  try dsimp only [Nat.reduceAdd]
  refine xLw.s1 rfl rfl ?_
  try dsimp only [Nat.reduceAdd]
  refine xLw.s1 rfl rfl ?_
  try dsimp only [Nat.reduceAdd]
  refine xLw.s1 rfl rfl ?_
  try dsimp only [Nat.reduceAdd, xi_1]
  refine xLw.s1 rfl rfl ?_
  try dsimp only [Nat.reduceAdd]
  rw [show (nI i + 1 : Int32) = nI (i + 1) from nI_add i 1]
  refine xLw.ial rfl (hvs (i + 1) (by omega)) (by omega) ?_
  try dsimp only [Nat.reduceAdd]
  refine xLw.s1 rfl rfl ?_
  try dsimp only [Nat.reduceAdd]
  refine xLw.s1 rfl rfl ?_
  try dsimp only [Nat.reduceAdd]
  refine xLw.s1 rfl rfl ?_
  try dsimp only [Nat.reduceAdd, xi_2]
  refine xLw.s1 rfl rfl ?_
  try dsimp only [Nat.reduceAdd]
  rw [show (nI i + 2 : Int32) = nI (i + 2) from nI_add i 2]
  refine xLw.ial rfl (hvs (i + 2) (by omega)) (by omega) ?_
  try dsimp only [Nat.reduceAdd]
  refine xLw.s1 rfl rfl ?_
  try dsimp only [Nat.reduceAdd]
  refine xLw.s1 rfl rfl ?_
  try dsimp only [Nat.reduceAdd]
  refine xLw.s1 rfl rfl ?_
  try dsimp only [Nat.reduceAdd, xi_3]
  refine xLw.s1 rfl rfl ?_
  try dsimp only [Nat.reduceAdd]
  rw [show (nI i + 3 : Int32) = nI (i + 3) from nI_add i 3]
  refine xLw.ial rfl (hvs (i + 3) (by omega)) (by omega) ?_
  try dsimp only [Nat.reduceAdd]
  refine xLw.cv rfl rfl rfl rfl rfl rfl ⟨by decide, rfl, rfl⟩ (j_he hJ) (fun v1 M1 hv => ?_)
  obtain ⟨w, b1, g1, l1, rfl, rfl, hT2⟩ := hv
  try dsimp only [Nat.reduceAdd, Option.toList, List.cons_append, List.nil_append]
  refine xLw.s1 rfl rfl ?_
  try dsimp only [Nat.reduceAdd]
  refine xLw.s1 rfl rfl ?_
  try dsimp only [Nat.reduceAdd]
  refine xLw.s1 rfl rfl ?_
  try dsimp only [Nat.reduceAdd]
  refine xLw.s1 rfl rfl ?_
  try dsimp only [Nat.reduceAdd]
  refine xLw.s1 rfl rfl ?_
  try dsimp only [Nat.reduceAdd, xi_1]
  refine xLw.s1 rfl rfl ?_
  try dsimp only [Nat.reduceAdd]
  rw [show (nI i + 1 : Int32) = nI (i + 1) from nI_add i 1]
  refine xLw.ial rfl (hvs (i + 1) (by omega)) (by omega) ?_
  try dsimp only [Nat.reduceAdd]
  refine xLw.s1 rfl rfl ?_
  try dsimp only [Nat.reduceAdd]
  refine xLw.s1 rfl rfl ?_
  try dsimp only [Nat.reduceAdd]
  refine xLw.s1 rfl rfl ?_
  try dsimp only [Nat.reduceAdd, xi_2]
  refine xLw.s1 rfl rfl ?_
  try dsimp only [Nat.reduceAdd]
  rw [show (nI i + 2 : Int32) = nI (i + 2) from nI_add i 2]
  refine xLw.ial rfl (hvs (i + 2) (by omega)) (by omega) ?_
  try dsimp only [Nat.reduceAdd]
  refine xLw.s1 rfl rfl ?_
  try dsimp only [Nat.reduceAdd]
  refine xLw.s1 rfl rfl ?_
  try dsimp only [Nat.reduceAdd]
  refine xLw.s1 rfl rfl ?_
  try dsimp only [Nat.reduceAdd, xi_3]
  refine xLw.s1 rfl rfl ?_
  try dsimp only [Nat.reduceAdd]
  rw [show (nI i + 3 : Int32) = nI (i + 3) from nI_add i 3]
  refine xLw.ial rfl (hvs (i + 3) (by omega)) (by omega) ?_
  try dsimp only [Nat.reduceAdd]
  refine xLw.cv rfl rfl rfl rfl rfl rfl ⟨by decide, rfl, rfl⟩ hT2 (fun v1 M1 hv => ?_)
  obtain ⟨w2, b2, g2, l2, rfl, rfl, hJ2, heq⟩ := hv
  try dsimp only [Nat.reduceAdd, Option.toList, List.cons_append, List.nil_append]
  refine xLw.s1 rfl rfl ?_
  try dsimp only [Nat.reduceAdd]
  refine xLw.s1 rfl rfl ?_
  try dsimp only [Nat.reduceAdd]
  exact nx _ _ _ hJ2
set_option maxRecDepth 10000 in
theorem w_keeps (hL : L ≤ 384) (hi : i + 6 ≤ L) (hvs : ∀ t, t < L → vs[t]? = some (.int (xv t))) (hJ : xJ b g) (nx : ∀ b2 g2 l2, xJ b2 g2 → xLw vs 1546 [(3, .int (nI i)), (2, .ref 73), (1, .ref 0), (0, .retAddr 0)] [] (xH b2 g2 l2)) : xLw vs 1204 [(3, .int (nI i)), (2, .ref 73), (1, .ref 0), (0, .retAddr 0)] [] (xH b g l) := by
  refine xLw.s1 rfl rfl ?_
  try dsimp only [Nat.reduceAdd]
  refine xLw.s1 rfl rfl ?_
  try dsimp only [Nat.reduceAdd]
  refine xLw.s1 rfl rfl ?_
  try dsimp only [Nat.reduceAdd]
  refine xLw.s1 rfl rfl ?_
  try dsimp only [Nat.reduceAdd, xi_1]
  refine xLw.s1 rfl rfl ?_
  try dsimp only [Nat.reduceAdd]
  rw [show (nI i + 1 : Int32) = nI (i + 1) from nI_add i 1]
  refine xLw.ial rfl (hvs (i + 1) (by omega)) (by omega) ?_
  try dsimp only [Nat.reduceAdd]
  refine xLw.s1 rfl rfl ?_
  try dsimp only [Nat.reduceAdd]
  refine xLw.s1 rfl rfl ?_
  try dsimp only [Nat.reduceAdd]
  refine xLw.s1 rfl rfl ?_
  try dsimp only [Nat.reduceAdd, xi_2]
  refine xLw.s1 rfl rfl ?_
  try dsimp only [Nat.reduceAdd]
  rw [show (nI i + 2 : Int32) = nI (i + 2) from nI_add i 2]
  refine xLw.ial rfl (hvs (i + 2) (by omega)) (by omega) ?_
  try dsimp only [Nat.reduceAdd]
  refine xLw.cv rfl rfl rfl rfl rfl rfl ⟨by decide, rfl, rfl⟩ (j_keeps hJ) (fun v1 M1 hv => ?_)
  obtain ⟨w, b1, g1, l1, rfl, rfl, hT2⟩ := hv
  try dsimp only [Nat.reduceAdd, Option.toList, List.cons_append, List.nil_append]
  refine xLw.s1 rfl rfl ?_
  try dsimp only [Nat.reduceAdd]
  refine xLw.s1 rfl rfl ?_
  try dsimp only [Nat.reduceAdd]
  refine xLw.s1 rfl rfl ?_
  try dsimp only [Nat.reduceAdd]
  refine xLw.s1 rfl rfl ?_
  try dsimp only [Nat.reduceAdd]
  refine xLw.s1 rfl rfl ?_
  try dsimp only [Nat.reduceAdd, xi_1]
  refine xLw.s1 rfl rfl ?_
  try dsimp only [Nat.reduceAdd]
  rw [show (nI i + 1 : Int32) = nI (i + 1) from nI_add i 1]
  refine xLw.ial rfl (hvs (i + 1) (by omega)) (by omega) ?_
  try dsimp only [Nat.reduceAdd]
  refine xLw.s1 rfl rfl ?_
  try dsimp only [Nat.reduceAdd]
  refine xLw.s1 rfl rfl ?_
  try dsimp only [Nat.reduceAdd]
  refine xLw.s1 rfl rfl ?_
  try dsimp only [Nat.reduceAdd, xi_2]
  refine xLw.s1 rfl rfl ?_
  try dsimp only [Nat.reduceAdd]
  rw [show (nI i + 2 : Int32) = nI (i + 2) from nI_add i 2]
  refine xLw.ial rfl (hvs (i + 2) (by omega)) (by omega) ?_
  try dsimp only [Nat.reduceAdd]
  refine xLw.cv rfl rfl rfl rfl rfl rfl ⟨by decide, rfl, rfl⟩ hT2 (fun v1 M1 hv => ?_)
  obtain ⟨w2, b2, g2, l2, rfl, rfl, hJ2, heq⟩ := hv
  try dsimp only [Nat.reduceAdd, Option.toList, List.cons_append, List.nil_append]
  refine xLw.s1 rfl rfl ?_
  try dsimp only [Nat.reduceAdd]
  refine xLw.s1 rfl rfl ?_
  try dsimp only [Nat.reduceAdd]
  exact nx _ _ _ hJ2
set_option maxRecDepth 10000 in
theorem w_still (hL : L ≤ 384) (hi : i + 6 ≤ L) (hvs : ∀ t, t < L → vs[t]? = some (.int (xv t))) (hJ : xJ b g) (nx : ∀ b2 g2 l2, xJ b2 g2 → xLw vs 1546 [(3, .int (nI i)), (2, .ref 73), (1, .ref 0), (0, .retAddr 0)] [] (xH b2 g2 l2)) : xLw vs 1237 [(3, .int (nI i)), (2, .ref 73), (1, .ref 0), (0, .retAddr 0)] [] (xH b g l) := by
  refine xLw.s1 rfl rfl ?_
  try dsimp only [Nat.reduceAdd]
  refine xLw.s1 rfl rfl ?_
  try dsimp only [Nat.reduceAdd]
  refine xLw.s1 rfl rfl ?_
  try dsimp only [Nat.reduceAdd]
  refine xLw.s1 rfl rfl ?_
  try dsimp only [Nat.reduceAdd, xi_1]
  refine xLw.s1 rfl rfl ?_
  try dsimp only [Nat.reduceAdd]
  rw [show (nI i + 1 : Int32) = nI (i + 1) from nI_add i 1]
  refine xLw.ial rfl (hvs (i + 1) (by omega)) (by omega) ?_
  try dsimp only [Nat.reduceAdd]
  refine xLw.s1 rfl rfl ?_
  try dsimp only [Nat.reduceAdd]
  refine xLw.s1 rfl rfl ?_
  try dsimp only [Nat.reduceAdd]
  refine xLw.s1 rfl rfl ?_
  try dsimp only [Nat.reduceAdd, xi_2]
  refine xLw.s1 rfl rfl ?_
  try dsimp only [Nat.reduceAdd]
  rw [show (nI i + 2 : Int32) = nI (i + 2) from nI_add i 2]
  refine xLw.ial rfl (hvs (i + 2) (by omega)) (by omega) ?_
  try dsimp only [Nat.reduceAdd]
  refine xLw.cv rfl rfl rfl rfl rfl rfl ⟨by decide, rfl, rfl⟩ (j_still hJ) (fun v1 M1 hv => ?_)
  obtain ⟨w, b1, g1, l1, rfl, rfl, hT2⟩ := hv
  try dsimp only [Nat.reduceAdd, Option.toList, List.cons_append, List.nil_append]
  refine xLw.s1 rfl rfl ?_
  try dsimp only [Nat.reduceAdd]
  refine xLw.s1 rfl rfl ?_
  try dsimp only [Nat.reduceAdd]
  refine xLw.s1 rfl rfl ?_
  try dsimp only [Nat.reduceAdd]
  refine xLw.s1 rfl rfl ?_
  try dsimp only [Nat.reduceAdd]
  refine xLw.s1 rfl rfl ?_
  try dsimp only [Nat.reduceAdd, xi_1]
  refine xLw.s1 rfl rfl ?_
  try dsimp only [Nat.reduceAdd]
  rw [show (nI i + 1 : Int32) = nI (i + 1) from nI_add i 1]
  refine xLw.ial rfl (hvs (i + 1) (by omega)) (by omega) ?_
  try dsimp only [Nat.reduceAdd]
  refine xLw.s1 rfl rfl ?_
  try dsimp only [Nat.reduceAdd]
  refine xLw.s1 rfl rfl ?_
  try dsimp only [Nat.reduceAdd]
  refine xLw.s1 rfl rfl ?_
  try dsimp only [Nat.reduceAdd, xi_2]
  refine xLw.s1 rfl rfl ?_
  try dsimp only [Nat.reduceAdd]
  rw [show (nI i + 2 : Int32) = nI (i + 2) from nI_add i 2]
  refine xLw.ial rfl (hvs (i + 2) (by omega)) (by omega) ?_
  try dsimp only [Nat.reduceAdd]
  refine xLw.cv rfl rfl rfl rfl rfl rfl ⟨by decide, rfl, rfl⟩ hT2 (fun v1 M1 hv => ?_)
  obtain ⟨w2, b2, g2, l2, rfl, rfl, hJ2, heq⟩ := hv
  try dsimp only [Nat.reduceAdd, Option.toList, List.cons_append, List.nil_append]
  refine xLw.s1 rfl rfl ?_
  try dsimp only [Nat.reduceAdd]
  refine xLw.s1 rfl rfl ?_
  try dsimp only [Nat.reduceAdd]
  exact nx _ _ _ hJ2
set_option maxRecDepth 10000 in
theorem w_game (hL : L ≤ 384) (hi : i + 6 ≤ L) (hvs : ∀ t, t < L → vs[t]? = some (.int (xv t))) (hJ : xJ b g) (nx : ∀ b2 g2 l2, xJ b2 g2 → xLw vs 1546 [(3, .int (nI i)), (2, .ref 73), (1, .ref 0), (0, .retAddr 0)] [] (xH b2 g2 l2)) : xLw vs 1270 [(3, .int (nI i)), (2, .ref 73), (1, .ref 0), (0, .retAddr 0)] [] (xH b g l) := by
  refine xLw.s1 rfl rfl ?_
  try dsimp only [Nat.reduceAdd]
  refine xLw.s1 rfl rfl ?_
  try dsimp only [Nat.reduceAdd]
  refine xLw.s1 rfl rfl ?_
  try dsimp only [Nat.reduceAdd]
  refine xLw.s1 rfl rfl ?_
  try dsimp only [Nat.reduceAdd, xi_1]
  refine xLw.s1 rfl rfl ?_
  try dsimp only [Nat.reduceAdd]
  rw [show (nI i + 1 : Int32) = nI (i + 1) from nI_add i 1]
  refine xLw.ial rfl (hvs (i + 1) (by omega)) (by omega) ?_
  try dsimp only [Nat.reduceAdd]
  refine xLw.cv rfl rfl rfl rfl rfl rfl ⟨by decide, rfl, rfl⟩ (j_game hJ) (fun v1 M1 hv => ?_)
  obtain ⟨w, b1, g1, l1, rfl, rfl, hT2⟩ := hv
  try dsimp only [Nat.reduceAdd, Option.toList, List.cons_append, List.nil_append]
  refine xLw.s1 rfl rfl ?_
  try dsimp only [Nat.reduceAdd]
  refine xLw.s1 rfl rfl ?_
  try dsimp only [Nat.reduceAdd]
  refine xLw.s1 rfl rfl ?_
  try dsimp only [Nat.reduceAdd]
  refine xLw.s1 rfl rfl ?_
  try dsimp only [Nat.reduceAdd]
  refine xLw.s1 rfl rfl ?_
  try dsimp only [Nat.reduceAdd, xi_1]
  refine xLw.s1 rfl rfl ?_
  try dsimp only [Nat.reduceAdd]
  rw [show (nI i + 1 : Int32) = nI (i + 1) from nI_add i 1]
  refine xLw.ial rfl (hvs (i + 1) (by omega)) (by omega) ?_
  try dsimp only [Nat.reduceAdd]
  refine xLw.cv rfl rfl rfl rfl rfl rfl ⟨by decide, rfl, rfl⟩ hT2 (fun v1 M1 hv => ?_)
  obtain ⟨w2, b2, g2, l2, rfl, rfl, hJ2, heq⟩ := hv
  try dsimp only [Nat.reduceAdd, Option.toList, List.cons_append, List.nil_append]
  refine xLw.s1 rfl rfl ?_
  try dsimp only [Nat.reduceAdd]
  refine xLw.s1 rfl rfl ?_
  try dsimp only [Nat.reduceAdd]
  exact nx _ _ _ hJ2
set_option maxRecDepth 10000 in
theorem w_picks (hL : L ≤ 384) (hi : i + 6 ≤ L) (hvs : ∀ t, t < L → vs[t]? = some (.int (xv t))) (hJ : xJ b g) (nx : ∀ b2 g2 l2, xJ b2 g2 → xLw vs 1546 [(3, .int (nI i)), (2, .ref 73), (1, .ref 0), (0, .retAddr 0)] [] (xH b2 g2 l2)) : xLw vs 1293 [(3, .int (nI i)), (2, .ref 73), (1, .ref 0), (0, .retAddr 0)] [] (xH b g l) := by
  refine xLw.s1 rfl rfl ?_
  try dsimp only [Nat.reduceAdd]
  refine xLw.s1 rfl rfl ?_
  try dsimp only [Nat.reduceAdd]
  refine xLw.s1 rfl rfl ?_
  try dsimp only [Nat.reduceAdd]
  refine xLw.s1 rfl rfl ?_
  try dsimp only [Nat.reduceAdd, xi_1]
  refine xLw.s1 rfl rfl ?_
  try dsimp only [Nat.reduceAdd]
  rw [show (nI i + 1 : Int32) = nI (i + 1) from nI_add i 1]
  refine xLw.ial rfl (hvs (i + 1) (by omega)) (by omega) ?_
  try dsimp only [Nat.reduceAdd]
  refine xLw.cv rfl rfl rfl rfl rfl rfl ⟨by decide, rfl, rfl⟩ (j_picks hJ) (fun v1 M1 hv => ?_)
  obtain ⟨w, b1, g1, l1, rfl, rfl, hT2⟩ := hv
  try dsimp only [Nat.reduceAdd, Option.toList, List.cons_append, List.nil_append]
  refine xLw.s1 rfl rfl ?_
  try dsimp only [Nat.reduceAdd]
  refine xLw.s1 rfl rfl ?_
  try dsimp only [Nat.reduceAdd]
  refine xLw.s1 rfl rfl ?_
  try dsimp only [Nat.reduceAdd]
  refine xLw.s1 rfl rfl ?_
  try dsimp only [Nat.reduceAdd]
  refine xLw.s1 rfl rfl ?_
  try dsimp only [Nat.reduceAdd, xi_1]
  refine xLw.s1 rfl rfl ?_
  try dsimp only [Nat.reduceAdd]
  rw [show (nI i + 1 : Int32) = nI (i + 1) from nI_add i 1]
  refine xLw.ial rfl (hvs (i + 1) (by omega)) (by omega) ?_
  try dsimp only [Nat.reduceAdd]
  refine xLw.cv rfl rfl rfl rfl rfl rfl ⟨by decide, rfl, rfl⟩ hT2 (fun v1 M1 hv => ?_)
  obtain ⟨w2, b2, g2, l2, rfl, rfl, hJ2, heq⟩ := hv
  try dsimp only [Nat.reduceAdd, Option.toList, List.cons_append, List.nil_append]
  refine xLw.s1 rfl rfl ?_
  try dsimp only [Nat.reduceAdd]
  refine xLw.s1 rfl rfl ?_
  try dsimp only [Nat.reduceAdd]
  exact nx _ _ _ hJ2
set_option maxRecDepth 10000 in
theorem w_odds (hL : L ≤ 384) (hi : i + 6 ≤ L) (hvs : ∀ t, t < L → vs[t]? = some (.int (xv t))) (hJ : xJ b g) (nx : ∀ b2 g2 l2, xJ b2 g2 → xLw vs 1546 [(3, .int (nI i)), (2, .ref 73), (1, .ref 0), (0, .retAddr 0)] [] (xH b2 g2 l2)) : xLw vs 1316 [(3, .int (nI i)), (2, .ref 73), (1, .ref 0), (0, .retAddr 0)] [] (xH b g l) := by
  refine xLw.s1 rfl rfl ?_
  try dsimp only [Nat.reduceAdd]
  refine xLw.s1 rfl rfl ?_
  try dsimp only [Nat.reduceAdd]
  refine xLw.s1 rfl rfl ?_
  try dsimp only [Nat.reduceAdd]
  refine xLw.s1 rfl rfl ?_
  try dsimp only [Nat.reduceAdd, xi_1]
  refine xLw.s1 rfl rfl ?_
  try dsimp only [Nat.reduceAdd]
  rw [show (nI i + 1 : Int32) = nI (i + 1) from nI_add i 1]
  refine xLw.ial rfl (hvs (i + 1) (by omega)) (by omega) ?_
  try dsimp only [Nat.reduceAdd]
  refine xLw.s1 rfl rfl ?_
  try dsimp only [Nat.reduceAdd]
  refine xLw.s1 rfl rfl ?_
  try dsimp only [Nat.reduceAdd]
  refine xLw.s1 rfl rfl ?_
  try dsimp only [Nat.reduceAdd, xi_2]
  refine xLw.s1 rfl rfl ?_
  try dsimp only [Nat.reduceAdd]
  rw [show (nI i + 2 : Int32) = nI (i + 2) from nI_add i 2]
  refine xLw.ial rfl (hvs (i + 2) (by omega)) (by omega) ?_
  try dsimp only [Nat.reduceAdd]
  refine xLw.s1 rfl rfl ?_
  try dsimp only [Nat.reduceAdd]
  refine xLw.s1 rfl rfl ?_
  try dsimp only [Nat.reduceAdd]
  refine xLw.s1 rfl rfl ?_
  try dsimp only [Nat.reduceAdd, xi_3]
  refine xLw.s1 rfl rfl ?_
  try dsimp only [Nat.reduceAdd]
  rw [show (nI i + 3 : Int32) = nI (i + 3) from nI_add i 3]
  refine xLw.ial rfl (hvs (i + 3) (by omega)) (by omega) ?_
  try dsimp only [Nat.reduceAdd]
  refine xLw.cv rfl rfl rfl rfl rfl rfl ⟨by decide, rfl, rfl⟩ (j_odds hJ) (fun v1 M1 hv => ?_)
  obtain ⟨w, b1, g1, l1, rfl, rfl, hT2⟩ := hv
  try dsimp only [Nat.reduceAdd, Option.toList, List.cons_append, List.nil_append]
  refine xLw.s1 rfl rfl ?_
  try dsimp only [Nat.reduceAdd]
  refine xLw.s1 rfl rfl ?_
  try dsimp only [Nat.reduceAdd]
  refine xLw.s1 rfl rfl ?_
  try dsimp only [Nat.reduceAdd]
  refine xLw.s1 rfl rfl ?_
  try dsimp only [Nat.reduceAdd]
  refine xLw.s1 rfl rfl ?_
  try dsimp only [Nat.reduceAdd, xi_1]
  refine xLw.s1 rfl rfl ?_
  try dsimp only [Nat.reduceAdd]
  rw [show (nI i + 1 : Int32) = nI (i + 1) from nI_add i 1]
  refine xLw.ial rfl (hvs (i + 1) (by omega)) (by omega) ?_
  try dsimp only [Nat.reduceAdd]
  refine xLw.s1 rfl rfl ?_
  try dsimp only [Nat.reduceAdd]
  refine xLw.s1 rfl rfl ?_
  try dsimp only [Nat.reduceAdd]
  refine xLw.s1 rfl rfl ?_
  try dsimp only [Nat.reduceAdd, xi_2]
  refine xLw.s1 rfl rfl ?_
  try dsimp only [Nat.reduceAdd]
  rw [show (nI i + 2 : Int32) = nI (i + 2) from nI_add i 2]
  refine xLw.ial rfl (hvs (i + 2) (by omega)) (by omega) ?_
  try dsimp only [Nat.reduceAdd]
  refine xLw.s1 rfl rfl ?_
  try dsimp only [Nat.reduceAdd]
  refine xLw.s1 rfl rfl ?_
  try dsimp only [Nat.reduceAdd]
  refine xLw.s1 rfl rfl ?_
  try dsimp only [Nat.reduceAdd, xi_3]
  refine xLw.s1 rfl rfl ?_
  try dsimp only [Nat.reduceAdd]
  rw [show (nI i + 3 : Int32) = nI (i + 3) from nI_add i 3]
  refine xLw.ial rfl (hvs (i + 3) (by omega)) (by omega) ?_
  try dsimp only [Nat.reduceAdd]
  refine xLw.cv rfl rfl rfl rfl rfl rfl ⟨by decide, rfl, rfl⟩ hT2 (fun v1 M1 hv => ?_)
  obtain ⟨w2, b2, g2, l2, rfl, rfl, hJ2, heq⟩ := hv
  try dsimp only [Nat.reduceAdd, Option.toList, List.cons_append, List.nil_append]
  refine xLw.s1 rfl rfl ?_
  try dsimp only [Nat.reduceAdd]
  refine xLw.s1 rfl rfl ?_
  try dsimp only [Nat.reduceAdd]
  exact nx _ _ _ hJ2
set_option maxRecDepth 10000 in
theorem w_mid (hL : L ≤ 384) (hi : i + 6 ≤ L) (hvs : ∀ t, t < L → vs[t]? = some (.int (xv t))) (hJ : xJ b g) (nx : ∀ b2 g2 l2, xJ b2 g2 → xLw vs 1546 [(3, .int (nI i)), (2, .ref 73), (1, .ref 0), (0, .retAddr 0)] [] (xH b2 g2 l2)) : xLw vs 1359 [(3, .int (nI i)), (2, .ref 73), (1, .ref 0), (0, .retAddr 0)] [] (xH b g l) := by
  refine xLw.s1 rfl rfl ?_
  try dsimp only [Nat.reduceAdd]
  refine xLw.s1 rfl rfl ?_
  try dsimp only [Nat.reduceAdd]
  refine xLw.s1 rfl rfl ?_
  try dsimp only [Nat.reduceAdd]
  refine xLw.s1 rfl rfl ?_
  try dsimp only [Nat.reduceAdd, xi_1]
  refine xLw.s1 rfl rfl ?_
  try dsimp only [Nat.reduceAdd]
  rw [show (nI i + 1 : Int32) = nI (i + 1) from nI_add i 1]
  refine xLw.ial rfl (hvs (i + 1) (by omega)) (by omega) ?_
  try dsimp only [Nat.reduceAdd]
  refine xLw.s1 rfl rfl ?_
  try dsimp only [Nat.reduceAdd]
  refine xLw.s1 rfl rfl ?_
  try dsimp only [Nat.reduceAdd]
  refine xLw.s1 rfl rfl ?_
  try dsimp only [Nat.reduceAdd, xi_2]
  refine xLw.s1 rfl rfl ?_
  try dsimp only [Nat.reduceAdd]
  rw [show (nI i + 2 : Int32) = nI (i + 2) from nI_add i 2]
  refine xLw.ial rfl (hvs (i + 2) (by omega)) (by omega) ?_
  try dsimp only [Nat.reduceAdd]
  refine xLw.s1 rfl rfl ?_
  try dsimp only [Nat.reduceAdd]
  refine xLw.s1 rfl rfl ?_
  try dsimp only [Nat.reduceAdd]
  refine xLw.s1 rfl rfl ?_
  try dsimp only [Nat.reduceAdd, xi_3]
  refine xLw.s1 rfl rfl ?_
  try dsimp only [Nat.reduceAdd]
  rw [show (nI i + 3 : Int32) = nI (i + 3) from nI_add i 3]
  refine xLw.ial rfl (hvs (i + 3) (by omega)) (by omega) ?_
  try dsimp only [Nat.reduceAdd]
  refine xLw.cv rfl rfl rfl rfl rfl rfl ⟨by decide, rfl, rfl⟩ (j_mid hJ) (fun v1 M1 hv => ?_)
  obtain ⟨w, b1, g1, l1, rfl, rfl, hT2⟩ := hv
  try dsimp only [Nat.reduceAdd, Option.toList, List.cons_append, List.nil_append]
  refine xLw.s1 rfl rfl ?_
  try dsimp only [Nat.reduceAdd]
  refine xLw.s1 rfl rfl ?_
  try dsimp only [Nat.reduceAdd]
  refine xLw.s1 rfl rfl ?_
  try dsimp only [Nat.reduceAdd]
  refine xLw.s1 rfl rfl ?_
  try dsimp only [Nat.reduceAdd]
  refine xLw.s1 rfl rfl ?_
  try dsimp only [Nat.reduceAdd, xi_1]
  refine xLw.s1 rfl rfl ?_
  try dsimp only [Nat.reduceAdd]
  rw [show (nI i + 1 : Int32) = nI (i + 1) from nI_add i 1]
  refine xLw.ial rfl (hvs (i + 1) (by omega)) (by omega) ?_
  try dsimp only [Nat.reduceAdd]
  refine xLw.s1 rfl rfl ?_
  try dsimp only [Nat.reduceAdd]
  refine xLw.s1 rfl rfl ?_
  try dsimp only [Nat.reduceAdd]
  refine xLw.s1 rfl rfl ?_
  try dsimp only [Nat.reduceAdd, xi_2]
  refine xLw.s1 rfl rfl ?_
  try dsimp only [Nat.reduceAdd]
  rw [show (nI i + 2 : Int32) = nI (i + 2) from nI_add i 2]
  refine xLw.ial rfl (hvs (i + 2) (by omega)) (by omega) ?_
  try dsimp only [Nat.reduceAdd]
  refine xLw.s1 rfl rfl ?_
  try dsimp only [Nat.reduceAdd]
  refine xLw.s1 rfl rfl ?_
  try dsimp only [Nat.reduceAdd]
  refine xLw.s1 rfl rfl ?_
  try dsimp only [Nat.reduceAdd, xi_3]
  refine xLw.s1 rfl rfl ?_
  try dsimp only [Nat.reduceAdd]
  rw [show (nI i + 3 : Int32) = nI (i + 3) from nI_add i 3]
  refine xLw.ial rfl (hvs (i + 3) (by omega)) (by omega) ?_
  try dsimp only [Nat.reduceAdd]
  refine xLw.cv rfl rfl rfl rfl rfl rfl ⟨by decide, rfl, rfl⟩ hT2 (fun v1 M1 hv => ?_)
  obtain ⟨w2, b2, g2, l2, rfl, rfl, hJ2, heq⟩ := hv
  try dsimp only [Nat.reduceAdd, Option.toList, List.cons_append, List.nil_append]
  refine xLw.s1 rfl rfl ?_
  try dsimp only [Nat.reduceAdd]
  refine xLw.s1 rfl rfl ?_
  try dsimp only [Nat.reduceAdd]
  exact nx _ _ _ hJ2
set_option maxRecDepth 10000 in
theorem w_lots (hL : L ≤ 384) (hi : i + 6 ≤ L) (hvs : ∀ t, t < L → vs[t]? = some (.int (xv t))) (hJ : xJ b g) (nx : ∀ b2 g2 l2, xJ b2 g2 → xLw vs 1546 [(3, .int (nI i)), (2, .ref 73), (1, .ref 0), (0, .retAddr 0)] [] (xH b2 g2 l2)) : xLw vs 1402 [(3, .int (nI i)), (2, .ref 73), (1, .ref 0), (0, .retAddr 0)] [] (xH b g l) := by
  refine xLw.s1 rfl rfl ?_
  try dsimp only [Nat.reduceAdd]
  refine xLw.s1 rfl rfl ?_
  try dsimp only [Nat.reduceAdd]
  refine xLw.s1 rfl rfl ?_
  try dsimp only [Nat.reduceAdd]
  refine xLw.s1 rfl rfl ?_
  try dsimp only [Nat.reduceAdd, xi_1]
  refine xLw.s1 rfl rfl ?_
  try dsimp only [Nat.reduceAdd]
  rw [show (nI i + 1 : Int32) = nI (i + 1) from nI_add i 1]
  refine xLw.ial rfl (hvs (i + 1) (by omega)) (by omega) ?_
  try dsimp only [Nat.reduceAdd]
  refine xLw.s1 rfl rfl ?_
  try dsimp only [Nat.reduceAdd]
  refine xLw.s1 rfl rfl ?_
  try dsimp only [Nat.reduceAdd]
  refine xLw.s1 rfl rfl ?_
  try dsimp only [Nat.reduceAdd, xi_2]
  refine xLw.s1 rfl rfl ?_
  try dsimp only [Nat.reduceAdd]
  rw [show (nI i + 2 : Int32) = nI (i + 2) from nI_add i 2]
  refine xLw.ial rfl (hvs (i + 2) (by omega)) (by omega) ?_
  try dsimp only [Nat.reduceAdd]
  refine xLw.cv rfl rfl rfl rfl rfl rfl ⟨by decide, rfl, rfl⟩ (j_lots hJ) (fun v1 M1 hv => ?_)
  obtain ⟨w, b1, g1, l1, rfl, rfl, hT2⟩ := hv
  try dsimp only [Nat.reduceAdd, Option.toList, List.cons_append, List.nil_append]
  refine xLw.s1 rfl rfl ?_
  try dsimp only [Nat.reduceAdd]
  refine xLw.s1 rfl rfl ?_
  try dsimp only [Nat.reduceAdd]
  refine xLw.s1 rfl rfl ?_
  try dsimp only [Nat.reduceAdd]
  refine xLw.s1 rfl rfl ?_
  try dsimp only [Nat.reduceAdd]
  refine xLw.s1 rfl rfl ?_
  try dsimp only [Nat.reduceAdd, xi_1]
  refine xLw.s1 rfl rfl ?_
  try dsimp only [Nat.reduceAdd]
  rw [show (nI i + 1 : Int32) = nI (i + 1) from nI_add i 1]
  refine xLw.ial rfl (hvs (i + 1) (by omega)) (by omega) ?_
  try dsimp only [Nat.reduceAdd]
  refine xLw.s1 rfl rfl ?_
  try dsimp only [Nat.reduceAdd]
  refine xLw.s1 rfl rfl ?_
  try dsimp only [Nat.reduceAdd]
  refine xLw.s1 rfl rfl ?_
  try dsimp only [Nat.reduceAdd, xi_2]
  refine xLw.s1 rfl rfl ?_
  try dsimp only [Nat.reduceAdd]
  rw [show (nI i + 2 : Int32) = nI (i + 2) from nI_add i 2]
  refine xLw.ial rfl (hvs (i + 2) (by omega)) (by omega) ?_
  try dsimp only [Nat.reduceAdd]
  refine xLw.cv rfl rfl rfl rfl rfl rfl ⟨by decide, rfl, rfl⟩ hT2 (fun v1 M1 hv => ?_)
  obtain ⟨w2, b2, g2, l2, rfl, rfl, hJ2, heq⟩ := hv
  try dsimp only [Nat.reduceAdd, Option.toList, List.cons_append, List.nil_append]
  refine xLw.s1 rfl rfl ?_
  try dsimp only [Nat.reduceAdd]
  refine xLw.s1 rfl rfl ?_
  try dsimp only [Nat.reduceAdd]
  exact nx _ _ _ hJ2
set_option maxRecDepth 10000 in
theorem w_asked (hL : L ≤ 384) (hi : i + 6 ≤ L) (hvs : ∀ t, t < L → vs[t]? = some (.int (xv t))) (hJ : xJ b g) (nx : ∀ b2 g2 l2, xJ b2 g2 → xLw vs 1546 [(3, .int (nI i)), (2, .ref 73), (1, .ref 0), (0, .retAddr 0)] [] (xH b2 g2 l2)) : xLw vs 1435 [(3, .int (nI i)), (2, .ref 73), (1, .ref 0), (0, .retAddr 0)] [] (xH b g l) := by
  refine xLw.s1 rfl rfl ?_
  try dsimp only [Nat.reduceAdd]
  refine xLw.cv rfl rfl rfl rfl rfl rfl ⟨by decide, rfl, rfl⟩ (j_asked hJ) (fun v1 M1 hv => ?_)
  obtain ⟨w, b1, g1, l1, rfl, rfl, hT2⟩ := hv
  try dsimp only [Nat.reduceAdd, Option.toList, List.cons_append, List.nil_append]
  refine xLw.s1 rfl rfl ?_
  try dsimp only [Nat.reduceAdd]
  refine xLw.s1 rfl rfl ?_
  try dsimp only [Nat.reduceAdd]
  refine xLw.cv rfl rfl rfl rfl rfl rfl ⟨by decide, rfl, rfl⟩ hT2 (fun v1 M1 hv => ?_)
  obtain ⟨w2, b2, g2, l2, rfl, rfl, hJ2, heq⟩ := hv
  try dsimp only [Nat.reduceAdd, Option.toList, List.cons_append, List.nil_append]
  refine xLw.s1 rfl rfl ?_
  try dsimp only [Nat.reduceAdd]
  refine xLw.s1 rfl rfl ?_
  try dsimp only [Nat.reduceAdd]
  exact nx _ _ _ hJ2
set_option maxRecDepth 10000 in
theorem w_upper (hL : L ≤ 384) (hi : i + 6 ≤ L) (hvs : ∀ t, t < L → vs[t]? = some (.int (xv t))) (hJ : xJ b g) (nx : ∀ b2 g2 l2, xJ b2 g2 → xLw vs 1546 [(3, .int (nI i)), (2, .ref 73), (1, .ref 0), (0, .retAddr 0)] [] (xH b2 g2 l2)) : xLw vs 1448 [(3, .int (nI i)), (2, .ref 73), (1, .ref 0), (0, .retAddr 0)] [] (xH b g l) := by
  refine xLw.s1 rfl rfl ?_
  try dsimp only [Nat.reduceAdd]
  refine xLw.cv rfl rfl rfl rfl rfl rfl ⟨by decide, rfl, rfl⟩ (j_upper hJ) (fun v1 M1 hv => ?_)
  obtain ⟨w, b1, g1, l1, rfl, rfl, hT2⟩ := hv
  try dsimp only [Nat.reduceAdd, Option.toList, List.cons_append, List.nil_append]
  refine xLw.s1 rfl rfl ?_
  try dsimp only [Nat.reduceAdd]
  refine xLw.s1 rfl rfl ?_
  try dsimp only [Nat.reduceAdd]
  refine xLw.cv rfl rfl rfl rfl rfl rfl ⟨by decide, rfl, rfl⟩ hT2 (fun v1 M1 hv => ?_)
  obtain ⟨w2, b2, g2, l2, rfl, rfl, hJ2, heq⟩ := hv
  try dsimp only [Nat.reduceAdd, Option.toList, List.cons_append, List.nil_append]
  refine xLw.s1 rfl rfl ?_
  try dsimp only [Nat.reduceAdd]
  refine xLw.s1 rfl rfl ?_
  try dsimp only [Nat.reduceAdd]
  exact nx _ _ _ hJ2
set_option maxRecDepth 10000 in
theorem w_lower (hL : L ≤ 384) (hi : i + 6 ≤ L) (hvs : ∀ t, t < L → vs[t]? = some (.int (xv t))) (hJ : xJ b g) (nx : ∀ b2 g2 l2, xJ b2 g2 → xLw vs 1546 [(3, .int (nI i)), (2, .ref 73), (1, .ref 0), (0, .retAddr 0)] [] (xH b2 g2 l2)) : xLw vs 1461 [(3, .int (nI i)), (2, .ref 73), (1, .ref 0), (0, .retAddr 0)] [] (xH b g l) := by
  refine xLw.s1 rfl rfl ?_
  try dsimp only [Nat.reduceAdd]
  refine xLw.cv rfl rfl rfl rfl rfl rfl ⟨by decide, rfl, rfl⟩ (j_lower hJ) (fun v1 M1 hv => ?_)
  obtain ⟨w, b1, g1, l1, rfl, rfl, hT2⟩ := hv
  try dsimp only [Nat.reduceAdd, Option.toList, List.cons_append, List.nil_append]
  refine xLw.s1 rfl rfl ?_
  try dsimp only [Nat.reduceAdd]
  refine xLw.s1 rfl rfl ?_
  try dsimp only [Nat.reduceAdd]
  refine xLw.cv rfl rfl rfl rfl rfl rfl ⟨by decide, rfl, rfl⟩ hT2 (fun v1 M1 hv => ?_)
  obtain ⟨w2, b2, g2, l2, rfl, rfl, hJ2, heq⟩ := hv
  try dsimp only [Nat.reduceAdd, Option.toList, List.cons_append, List.nil_append]
  refine xLw.s1 rfl rfl ?_
  try dsimp only [Nat.reduceAdd]
  refine xLw.s1 rfl rfl ?_
  try dsimp only [Nat.reduceAdd]
  exact nx _ _ _ hJ2
set_option maxRecDepth 10000 in
theorem w_count (hL : L ≤ 384) (hi : i + 6 ≤ L) (hvs : ∀ t, t < L → vs[t]? = some (.int (xv t))) (hJ : xJ b g) (nx : ∀ b2 g2 l2, xJ b2 g2 → xLw vs 1546 [(3, .int (nI i)), (2, .ref 73), (1, .ref 0), (0, .retAddr 0)] [] (xH b2 g2 l2)) : xLw vs 1474 [(3, .int (nI i)), (2, .ref 73), (1, .ref 0), (0, .retAddr 0)] [] (xH b g l) := by
  refine xLw.s1 rfl rfl ?_
  try dsimp only [Nat.reduceAdd]
  refine xLw.s1 rfl rfl ?_
  try dsimp only [Nat.reduceAdd]
  refine xLw.s1 rfl rfl ?_
  try dsimp only [Nat.reduceAdd]
  refine xLw.s1 rfl rfl ?_
  try dsimp only [Nat.reduceAdd, xi_1]
  refine xLw.s1 rfl rfl ?_
  try dsimp only [Nat.reduceAdd]
  rw [show (nI i + 1 : Int32) = nI (i + 1) from nI_add i 1]
  refine xLw.ial rfl (hvs (i + 1) (by omega)) (by omega) ?_
  try dsimp only [Nat.reduceAdd]
  refine xLw.cv rfl rfl rfl rfl rfl rfl ⟨by decide, rfl, rfl⟩ (j_count hJ) (fun v1 M1 hv => ?_)
  obtain ⟨w, b1, g1, l1, rfl, rfl, hT2⟩ := hv
  try dsimp only [Nat.reduceAdd, Option.toList, List.cons_append, List.nil_append]
  refine xLw.s1 rfl rfl ?_
  try dsimp only [Nat.reduceAdd]
  refine xLw.s1 rfl rfl ?_
  try dsimp only [Nat.reduceAdd]
  refine xLw.s1 rfl rfl ?_
  try dsimp only [Nat.reduceAdd]
  refine xLw.s1 rfl rfl ?_
  try dsimp only [Nat.reduceAdd]
  refine xLw.s1 rfl rfl ?_
  try dsimp only [Nat.reduceAdd, xi_1]
  refine xLw.s1 rfl rfl ?_
  try dsimp only [Nat.reduceAdd]
  rw [show (nI i + 1 : Int32) = nI (i + 1) from nI_add i 1]
  refine xLw.ial rfl (hvs (i + 1) (by omega)) (by omega) ?_
  try dsimp only [Nat.reduceAdd]
  refine xLw.cv rfl rfl rfl rfl rfl rfl ⟨by decide, rfl, rfl⟩ hT2 (fun v1 M1 hv => ?_)
  obtain ⟨w2, b2, g2, l2, rfl, rfl, hJ2, heq⟩ := hv
  try dsimp only [Nat.reduceAdd, Option.toList, List.cons_append, List.nil_append]
  refine xLw.s1 rfl rfl ?_
  try dsimp only [Nat.reduceAdd]
  refine xLw.s1 rfl rfl ?_
  try dsimp only [Nat.reduceAdd]
  exact nx _ _ _ hJ2
set_option maxRecDepth 10000 in
theorem w_finding (hL : L ≤ 384) (hi : i + 6 ≤ L) (hvs : ∀ t, t < L → vs[t]? = some (.int (xv t))) (hJ : xJ b g) (nx : ∀ b2 g2 l2, xJ b2 g2 → xLw vs 1546 [(3, .int (nI i)), (2, .ref 73), (1, .ref 0), (0, .retAddr 0)] [] (xH b2 g2 l2)) : xLw vs 1497 [(3, .int (nI i)), (2, .ref 73), (1, .ref 0), (0, .retAddr 0)] [] (xH b g l) := by
  refine xLw.s1 rfl rfl ?_
  try dsimp only [Nat.reduceAdd]
  refine xLw.cv rfl rfl rfl rfl rfl rfl ⟨by decide, rfl, rfl⟩ (j_finding hJ) (fun v1 M1 hv => ?_)
  obtain ⟨w, b1, g1, l1, rfl, rfl, hT2⟩ := hv
  try dsimp only [Nat.reduceAdd, Option.toList, List.cons_append, List.nil_append]
  refine xLw.s1 rfl rfl ?_
  try dsimp only [Nat.reduceAdd]
  refine xLw.s1 rfl rfl ?_
  try dsimp only [Nat.reduceAdd]
  refine xLw.cv rfl rfl rfl rfl rfl rfl ⟨by decide, rfl, rfl⟩ hT2 (fun v1 M1 hv => ?_)
  obtain ⟨w2, b2, g2, l2, rfl, rfl, hJ2, heq⟩ := hv
  try dsimp only [Nat.reduceAdd, Option.toList, List.cons_append, List.nil_append]
  refine xLw.s1 rfl rfl ?_
  try dsimp only [Nat.reduceAdd]
  refine xLw.s1 rfl rfl ?_
  try dsimp only [Nat.reduceAdd]
  exact nx _ _ _ hJ2
set_option maxRecDepth 10000 in
theorem w_findings (hL : L ≤ 384) (hi : i + 6 ≤ L) (hvs : ∀ t, t < L → vs[t]? = some (.int (xv t))) (hJ : xJ b g) (nx : ∀ b2 g2 l2, xJ b2 g2 → xLw vs 1546 [(3, .int (nI i)), (2, .ref 73), (1, .ref 0), (0, .retAddr 0)] [] (xH b2 g2 l2)) : xLw vs 1510 [(3, .int (nI i)), (2, .ref 73), (1, .ref 0), (0, .retAddr 0)] [] (xH b g l) := by
  refine xLw.s1 rfl rfl ?_
  try dsimp only [Nat.reduceAdd]
  refine xLw.s1 rfl rfl ?_
  try dsimp only [Nat.reduceAdd]
  refine xLw.s1 rfl rfl ?_
  try dsimp only [Nat.reduceAdd]
  refine xLw.s1 rfl rfl ?_
  try dsimp only [Nat.reduceAdd, xi_1]
  refine xLw.s1 rfl rfl ?_
  try dsimp only [Nat.reduceAdd]
  rw [show (nI i + 1 : Int32) = nI (i + 1) from nI_add i 1]
  refine xLw.ial rfl (hvs (i + 1) (by omega)) (by omega) ?_
  try dsimp only [Nat.reduceAdd]
  refine xLw.cv rfl rfl rfl rfl rfl rfl ⟨by decide, rfl, rfl⟩ (j_findings hJ) (fun v1 M1 hv => ?_)
  obtain ⟨w, b1, g1, l1, rfl, rfl, hT2⟩ := hv
  try dsimp only [Nat.reduceAdd, Option.toList, List.cons_append, List.nil_append]
  refine xLw.s1 rfl rfl ?_
  try dsimp only [Nat.reduceAdd]
  refine xLw.s1 rfl rfl ?_
  try dsimp only [Nat.reduceAdd]
  refine xLw.s1 rfl rfl ?_
  try dsimp only [Nat.reduceAdd]
  refine xLw.s1 rfl rfl ?_
  try dsimp only [Nat.reduceAdd]
  refine xLw.s1 rfl rfl ?_
  try dsimp only [Nat.reduceAdd, xi_1]
  refine xLw.s1 rfl rfl ?_
  try dsimp only [Nat.reduceAdd]
  rw [show (nI i + 1 : Int32) = nI (i + 1) from nI_add i 1]
  refine xLw.ial rfl (hvs (i + 1) (by omega)) (by omega) ?_
  try dsimp only [Nat.reduceAdd]
  refine xLw.cv rfl rfl rfl rfl rfl rfl ⟨by decide, rfl, rfl⟩ hT2 (fun v1 M1 hv => ?_)
  obtain ⟨w2, b2, g2, l2, rfl, rfl, hJ2, heq⟩ := hv
  try dsimp only [Nat.reduceAdd, Option.toList, List.cons_append, List.nil_append]
  refine xLw.s1 rfl rfl ?_
  try dsimp only [Nat.reduceAdd]
  refine xLw.s1 rfl rfl ?_
  try dsimp only [Nat.reduceAdd]
  exact nx _ _ _ hJ2
set_option maxRecDepth 10000 in
theorem w_digest (hL : L ≤ 384) (hi : i + 6 ≤ L) (hvs : ∀ t, t < L → vs[t]? = some (.int (xv t))) (hJ : xJ b g) (nx : ∀ b2 g2 l2, xJ b2 g2 → xLw vs 1546 [(3, .int (nI i)), (2, .ref 73), (1, .ref 0), (0, .retAddr 0)] [] (xH b2 g2 l2)) : xLw vs 1533 [(3, .int (nI i)), (2, .ref 73), (1, .ref 0), (0, .retAddr 0)] [] (xH b g l) := by
  refine xLw.s1 rfl rfl ?_
  try dsimp only [Nat.reduceAdd]
  refine xLw.cv rfl rfl rfl rfl rfl rfl ⟨by decide, rfl, rfl⟩ (j_digest hJ) (fun v1 M1 hv => ?_)
  obtain ⟨w, b1, g1, l1, rfl, rfl, hT2⟩ := hv
  try dsimp only [Nat.reduceAdd, Option.toList, List.cons_append, List.nil_append]
  refine xLw.s1 rfl rfl ?_
  try dsimp only [Nat.reduceAdd]
  refine xLw.s1 rfl rfl ?_
  try dsimp only [Nat.reduceAdd]
  refine xLw.cv rfl rfl rfl rfl rfl rfl ⟨by decide, rfl, rfl⟩ hT2 (fun v1 M1 hv => ?_)
  obtain ⟨w2, b2, g2, l2, rfl, rfl, hJ2, heq⟩ := hv
  try dsimp only [Nat.reduceAdd, Option.toList, List.cons_append, List.nil_append]
  refine xLw.s1 rfl rfl ?_
  try dsimp only [Nat.reduceAdd]
  refine xLw.s1 rfl rfl ?_
  try dsimp only [Nat.reduceAdd]
  exact nx _ _ _ hJ2
end
end
section
/-! the law's loop -/
section
variable {vs : List Value} {L : Nat} {xv : Nat → Int32}
set_option maxRecDepth 10000 in
theorem xl_loop (hL : L ≤ 384) (hvl : vs.length = L) (hvs : ∀ t, t < L → vs[t]? = some (.int (xv t))) : ∀ (u i : Nat) (b : Nat × Nat) (g : Nat → Nat → Int32) (l : Nat → Nat → Int64), L < i + u → i ≤ 1000 → xJ b g → xLw vs 18 [(3, .int (nI i)), (2, .ref 73), (1, .ref 0), (0, .retAddr 0)] [] (xH b g l)
  | 0, i, b, g, l, hu, hi, hJ => by
    refine xLw.s1 rfl rfl ?_
    try dsimp only [Nat.reduceAdd]
    refine xLw.s1 rfl rfl ?_
    try dsimp only [Nat.reduceAdd]
    refine xLw.al rfl hvl ?_
    try dsimp only [Nat.reduceAdd]
    refine xLw.s1 rfl rfl ?_
    try dsimp only [Nat.reduceAdd, xj_6]
    refine xLw.s1 rfl rfl ?_
    try dsimp only [Nat.reduceAdd]
    have hsb : (nI L - 6 : Int32).toInt = (L : Int) - 6 := pk_sub_toInt (a := L) (b := 6) (by omega) (by omega)
    have hit : (nI i).toInt = (i : Int) := nI_toInt (by omega)
    refine xLw.br (c := .gt) (off := 1528) (l0 := 3) rfl rfl (fun h => ?_) (fun h => ?_)
    · refine xLw.s1 rfl rfl ?_
      try dsimp only [Nat.reduceAdd, xi_1]
      exact xLw.ret rfl
    · exfalso
      have z := xf_gt h
      rw [Int32.le_iff_toInt_le, hsb, hit] at z
      omega
  | u + 1, i, b, g, l, hu, hi, hJ => by
    refine xLw.s1 rfl rfl ?_
    try dsimp only [Nat.reduceAdd]
    refine xLw.s1 rfl rfl ?_
    try dsimp only [Nat.reduceAdd]
    refine xLw.al rfl hvl ?_
    try dsimp only [Nat.reduceAdd]
    refine xLw.s1 rfl rfl ?_
    try dsimp only [Nat.reduceAdd, xj_6]
    refine xLw.s1 rfl rfl ?_
    try dsimp only [Nat.reduceAdd]
    have hsb : (nI L - 6 : Int32).toInt = (L : Int) - 6 := pk_sub_toInt (a := L) (b := 6) (by omega) (by omega)
    have hit : (nI i).toInt = (i : Int) := nI_toInt (by omega)
    refine xLw.br (c := .gt) (off := 1528) (l0 := 3) rfl rfl (fun h => ?_) (fun h => ?_)
    · refine xLw.s1 rfl rfl ?_
      try dsimp only [Nat.reduceAdd, xi_1]
      exact xLw.ret rfl
    · have z := xf_gt h
      rw [Int32.le_iff_toInt_le, hsb, hit] at z
      have hi6 : i + 6 ≤ L := by omega
      have nx : ∀ b2 g2 l2, xJ b2 g2 → xLw vs 1546 [(3, .int (nI i)), (2, .ref 73), (1, .ref 0), (0, .retAddr 0)] [] (xH b2 g2 l2) := fun b2 g2 l2 h2 => by
        refine xLw.s1 rfl rfl ?_
        try dsimp only [Nat.reduceAdd]
        rw [show (Int32.ofInt 6) = nI 6 from rfl, nI_add]
        refine xLw.s1 rfl rfl ?_
        try dsimp only [Nat.reduceAdd]
        exact xl_loop hL hvl hvs u (i + 6) b2 g2 l2 (by omega) (by omega) h2
      refine xLw.s1 rfl rfl ?_
      try dsimp only [Nat.reduceAdd]
      refine xLw.s1 rfl rfl ?_
      try dsimp only [Nat.reduceAdd]
      refine xLw.ial rfl (hvs i (by omega)) (by omega) ?_
      try dsimp only [Nat.reduceAdd]
      refine xLw.s1 rfl rfl ?_
      try dsimp only [Nat.reduceAdd, xj_63]
      refine xLw.s1 rfl rfl ?_
      try dsimp only [Nat.reduceAdd]
      obtain ⟨k, hk, ek⟩ := pk_andE (xv i) (m := 63) 6 (by decide)
      rw [ek]
      match k, hk with
      | 0, _ => exact xLw.tsw (j := 0) rfl (by decide) rfl (w_row hL hi6 hvs hJ nx)
      | 1, _ => exact xLw.tsw (j := 1) rfl (by decide) rfl (w_lay hL hi6 hvs hJ nx)
      | 2, _ => exact xLw.tsw (j := 2) rfl (by decide) rfl (w_at hL hi6 hvs hJ nx)
      | 3, _ => exact xLw.tsw (j := 3) rfl (by decide) rfl (w_tear hL hi6 hvs hJ nx)
      | 4, _ => exact xLw.tsw (j := 4) rfl (by decide) rfl (w_copy hL hi6 hvs hJ nx)
      | 5, _ => exact xLw.tsw (j := 5) rfl (by decide) rfl (w_mean hL hi6 hvs hJ nx)
      | 6, _ => exact xLw.tsw (j := 6) rfl (by decide) rfl (w_text hL hi6 hvs hJ nx)
      | 7, _ => exact xLw.tsw (j := 7) rfl (by decide) rfl (w_put hL hi6 hvs hJ nx)
      | 8, _ => exact xLw.tsw (j := 8) rfl (by decide) rfl (w_fault hL hi6 hvs hJ nx)
      | 9, _ => exact xLw.tsw (j := 9) rfl (by decide) rfl (w_room hL hi6 hvs hJ nx)
      | 10, _ => exact xLw.tsw (j := 10) rfl (by decide) rfl (w_glass hL hi6 hvs hJ nx)
      | 11, _ => exact xLw.tsw (j := 11) rfl (by decide) rfl (w_mark hL hi6 hvs hJ nx)
      | 12, _ => exact xLw.tsw (j := 12) rfl (by decide) rfl (w_habit hL hi6 hvs hJ nx)
      | 13, _ => exact xLw.tsw (j := 13) rfl (by decide) rfl (w_term hL hi6 hvs hJ nx)
      | 14, _ => exact xLw.tsw (j := 14) rfl (by decide) rfl (w_step hL hi6 hvs hJ nx)
      | 15, _ => exact xLw.tsw (j := 15) rfl (by decide) rfl (w_deed hL hi6 hvs hJ nx)
      | 16, _ => exact xLw.tsw (j := 16) rfl (by decide) rfl (w_broken hL hi6 hvs hJ nx)
      | 17, _ => exact xLw.tsw (j := 17) rfl (by decide) rfl (w_undo hL hi6 hvs hJ nx)
      | 18, _ => exact xLw.tsw (j := 18) rfl (by decide) rfl (w_keep hL hi6 hvs hJ nx)
      | 19, _ => exact xLw.tsw (j := 19) rfl (by decide) rfl (w_on hL hi6 hvs hJ nx)
      | 20, _ => exact xLw.tsw (j := 20) rfl (by decide) rfl (w_show hL hi6 hvs hJ nx)
      | 21, _ => exact xLw.tsw (j := 21) rfl (by decide) rfl (w_breaks hL hi6 hvs hJ nx)
      | 22, _ => exact xLw.tsw (j := 22) rfl (by decide) rfl (w_alike hL hi6 hvs hJ nx)
      | 23, _ => exact xLw.tsw (j := 23) rfl (by decide) rfl (w_fit hL hi6 hvs hJ nx)
      | 24, _ => exact xLw.tsw (j := 24) rfl (by decide) rfl (w_ways hL hi6 hvs hJ nx)
      | 25, _ => exact xLw.tsw (j := 25) rfl (by decide) rfl (w_first hL hi6 hvs hJ nx)
      | 26, _ => exact xLw.tsw (j := 26) rfl (by decide) rfl (w_can hL hi6 hvs hJ nx)
      | 27, _ => exact xLw.tsw (j := 27) rfl (by decide) rfl (w_laws hL hi6 hvs hJ nx)
      | 28, _ => exact xLw.tsw (j := 28) rfl (by decide) rfl (w_next hL hi6 hvs hJ nx)
      | 29, _ => exact xLw.tsw (j := 29) rfl (by decide) rfl (w_he hL hi6 hvs hJ nx)
      | 30, _ => exact xLw.tsw (j := 30) rfl (by decide) rfl (w_keeps hL hi6 hvs hJ nx)
      | 31, _ => exact xLw.tsw (j := 31) rfl (by decide) rfl (w_still hL hi6 hvs hJ nx)
      | 32, _ => exact xLw.tsw (j := 32) rfl (by decide) rfl (w_game hL hi6 hvs hJ nx)
      | 33, _ => exact xLw.tsw (j := 33) rfl (by decide) rfl (w_picks hL hi6 hvs hJ nx)
      | 34, _ => exact xLw.tsw (j := 34) rfl (by decide) rfl (w_odds hL hi6 hvs hJ nx)
      | 35, _ => exact xLw.tsw (j := 35) rfl (by decide) rfl (w_mid hL hi6 hvs hJ nx)
      | 36, _ => exact xLw.tsw (j := 36) rfl (by decide) rfl (w_lots hL hi6 hvs hJ nx)
      | 37, _ => exact xLw.tsw (j := 37) rfl (by decide) rfl (w_asked hL hi6 hvs hJ nx)
      | 38, _ => exact xLw.tsw (j := 38) rfl (by decide) rfl (w_upper hL hi6 hvs hJ nx)
      | 39, _ => exact xLw.tsw (j := 39) rfl (by decide) rfl (w_lower hL hi6 hvs hJ nx)
      | 40, _ => exact xLw.tsw (j := 40) rfl (by decide) rfl (w_count hL hi6 hvs hJ nx)
      | 41, _ => exact xLw.tsw (j := 41) rfl (by decide) rfl (w_finding hL hi6 hvs hJ nx)
      | 42, _ => exact xLw.tsw (j := 42) rfl (by decide) rfl (w_findings hL hi6 hvs hJ nx)
      | 43, _ => exact xLw.tsw (j := 43) rfl (by decide) rfl (w_digest hL hi6 hvs hJ nx)
      | 44, _ => exact xLw.tsw (j := 44) rfl (by decide) rfl (nx _ _ _ hJ)
      | 45, _ => exact xLw.tsw (j := 45) rfl (by decide) rfl (nx _ _ _ hJ)
      | 46, _ => exact xLw.tsw (j := 46) rfl (by decide) rfl (nx _ _ _ hJ)
      | 47, _ => exact xLw.tsw (j := 47) rfl (by decide) rfl (nx _ _ _ hJ)
      | 48, _ => exact xLw.tsw (j := 48) rfl (by decide) rfl (nx _ _ _ hJ)
      | 49, _ => exact xLw.tsw (j := 49) rfl (by decide) rfl (nx _ _ _ hJ)
      | 50, _ => exact xLw.tsw (j := 50) rfl (by decide) rfl (nx _ _ _ hJ)
      | 51, _ => exact xLw.tsw (j := 51) rfl (by decide) rfl (nx _ _ _ hJ)
      | 52, _ => exact xLw.tsw (j := 52) rfl (by decide) rfl (nx _ _ _ hJ)
      | 53, _ => exact xLw.tsw (j := 53) rfl (by decide) rfl (nx _ _ _ hJ)
      | 54, _ => exact xLw.tsw (j := 54) rfl (by decide) rfl (nx _ _ _ hJ)
      | 55, _ => exact xLw.tsw (j := 55) rfl (by decide) rfl (nx _ _ _ hJ)
      | 56, _ => exact xLw.tsw (j := 56) rfl (by decide) rfl (nx _ _ _ hJ)
      | 57, _ => exact xLw.tsw (j := 57) rfl (by decide) rfl (nx _ _ _ hJ)
      | 58, _ => exact xLw.tsw (j := 58) rfl (by decide) rfl (nx _ _ _ hJ)
      | 59, _ => exact xLw.tsw (j := 59) rfl (by decide) rfl (nx _ _ _ hJ)
      | 60, _ => exact xLw.tsw (j := 60) rfl (by decide) rfl (nx _ _ _ hJ)
      | 61, _ => exact xLw.tsw (j := 61) rfl (by decide) rfl (nx _ _ _ hJ)
      | 62, _ => exact xLw.tsw (j := 62) rfl (by decide) rfl (nx _ _ _ hJ)
      | 63, _ => exact xLw.tsw (j := 63) rfl (by decide) rfl (nx _ _ _ hJ)
      | k + 64, hk => exact absurd hk (by omega)
end
end
section
/-! the two constructors: how it begins -/
def g0 : Nat → Nat → Int32 := fun a i => if 23 ≤ a ∧ a < 43 ∧ a % 2 = 1 ∧ i = 1 then -1 else if (a = 67 ∨ a = 69 ∨ a = 71 ∨ a = 15) ∧ i = 1 then -1 else if a = 19 ∧ i = 2 then 1 else if 43 ≤ a ∧ a < 67 then (if i = 0 then nI ((a - 43) / 4) else nI ((a - 43) % 4)) else if a = 74 ∨ a = 76 ∨ a = 86 then -1 else 0
def l0 : Nat → Nat → Int64 := fun a i => if (a = 0 ∧ i = 13) ∨ (a = 73 ∧ i = 22) then 1 else 0
def xMz : xM := (xsh (7, 11)).mapIdx (fun a c => (c.1, c.2.mapIdx (xfi g0 l0 a)))
def xMh : xM := xMz.take 73
def xveq (a b : Value) : Bool := match a, b with
  | .int x, .int y => decide (x = y)
  | .long x, .long y => decide (x = y)
  | .ref x, .ref y => decide (x = y)
  | _, _ => false
theorem xveq_ok {a b : Value} (h : xveq a b = true) : a = b := by
  unfold xveq at h
  split at h
  · rw [of_decide_eq_true h]
  · rw [of_decide_eq_true h]
  · rw [of_decide_eq_true h]
  · cases h
def xleq (a b : List Value) : Bool := match a, b with
  | [], [] => true
  | x :: s, y :: t => xveq x y && xleq s t
  | _, _ => false
theorem xleq_ok : ∀ {a b : List Value}, xleq a b = true → a = b
  | [], [], _ => rfl
  | x :: s, y :: t, h => by
    have h' : (xveq x y && xleq s t) = true := h
    rw [Bool.and_eq_true] at h'
    rw [xveq_ok h'.1, xleq_ok h'.2]
  | [], _ :: _, h => by cases h
  | _ :: _, [], h => by cases h
def xmeq (a b : xM) : Bool := match a, b with
  | [], [] => true
  | x :: s, y :: t => (decide (x.1 = y.1) && xleq x.2 y.2) && xmeq s t
  | _, _ => false
theorem xmeq_ok : ∀ {a b : xM}, xmeq a b = true → a = b
  | [], [], _ => rfl
  | x :: s, y :: t, h => by
    have h' : ((decide (x.1 = y.1) && xleq x.2 y.2) && xmeq s t) = true := h
    rw [Bool.and_eq_true, Bool.and_eq_true] at h'
    have e : x = y := Prod.ext (of_decide_eq_true h'.1.1) (xleq_ok h'.1.2)
    rw [e, xmeq_ok h'.2]
  | [], _ :: _, h => by cases h
  | _ :: _, [], h => by cases h
def xeqO (o : Option xO) (M : xM) (c s : Nat) : Bool := match o with
  | some q => ((match q.1 with
    | none => true
    | some _ => false) && xmeq q.2.1 M) && (decide (q.2.2.1 = c) && decide (q.2.2.2 = s))
  | none => false
theorem xeqO_ok {o : Option xO} {M : xM} {c s : Nat} (h : xeqO o M c s = true) : o = some (none, M, c, s) := by
  cases o with
  | none => cases h
  | some q =>
    obtain ⟨r, M', c', s'⟩ := q
    cases r with
    | some v =>
      have h' : ((false && xmeq M' M) && (decide (c' = c) && decide (s' = s))) = true := h
      rw [Bool.false_and, Bool.false_and] at h'
      cases h'
    | none =>
      have h' : ((true && xmeq M' M) && (decide (c' = c) && decide (s' = s))) = true := h
      rw [Bool.true_and, Bool.and_eq_true, Bool.and_eq_true] at h'
      rw [xmeq_ok h'.1, of_decide_eq_true h'.2.1, of_decide_eq_true h'.2.2]
theorem xz_1 : xeqO (xe_ex 4000 10 77 [.ref 0] [(10, [.null, .null, .null, .null, .null, .null, .null, .null, .null, .null, .null, .int 0, .long 0, .long 0, .int 0, .null])]) xMh 72 1396 = true := by decide +kernel
theorem xz_2 : xeqO (xe_ex 4000 10 150 [.ref 73] (xMh ++ [(11, [.null, .null, .null, .null, .null, .int 0, .null, .int 0, .null, .null, .int 0, .null, .int 0, .null, .int 0, .null, .null, .null, .null, .null, .int 0, .long 0, .long 0, .int 0, .null, .null, .null, .null, .int 0, .int 0, .int 0, .long 0])])) xMz 19 926 = true := by decide +kernel
theorem xMh_len : xMh.length = 73 := by decide +kernel
end
section
/-! from the law's first row to its loop -/
theorem g0_0 {a i : Nat} (h1 : ¬ (23 ≤ a ∧ a < 43 ∧ a % 2 = 1 ∧ i = 1)) (h2 : ¬ ((a = 67 ∨ a = 69 ∨ a = 71 ∨ a = 15) ∧ i = 1)) (h3 : ¬ (a = 19 ∧ i = 2)) (h4 : ¬ (43 ≤ a ∧ a < 67)) (h5 : ¬ (a = 74 ∨ a = 76 ∨ a = 86)) : g0 a i = 0 := by
  unfold g0
  rw [if_neg h1, if_neg h2, if_neg h3, if_neg h4, if_neg h5]
theorem g0_s {a : Nat} (h : 23 ≤ a ∧ a < 43 ∧ a % 2 = 1) : g0 a 1 = -1 := by
  unfold g0
  rw [if_pos ⟨h.1, h.2.1, h.2.2, rfl⟩]
theorem g0_k {a : Nat} (h : a = 67 ∨ a = 69 ∨ a = 71) : g0 a 1 = -1 := by
  unfold g0
  rw [if_neg (by omega), if_pos (by omega)]
theorem g0_m {a i : Nat} (h : a = 74 ∨ a = 76 ∨ a = 86) : g0 a i = -1 := by
  unfold g0
  rw [if_neg (by omega), if_neg (by omega), if_neg (by omega), if_neg (by omega), if_pos h]
theorem g0_p : xpn g0 := fun L hL => by
  unfold g0
  rw [if_neg (by omega), if_neg (by omega), if_neg (by omega), if_pos (by omega), if_pos rfl, if_neg (by omega), if_neg (by omega), if_neg (by omega), if_pos (by omega), if_neg (by decide), show 43 + L - 43 = L by omega]
  exact ⟨rfl, rfl⟩
theorem xJ_0 : xJ (7, 11) g0 := by
  refine ⟨0, 0, fun _ => 0, 0, ⟨Or.inl rfl, g0_p, ⟨⟨g0_0 (by omega) (by omega) (by omega) (by omega) (by omega), by decide⟩, ⟨g0_0 (by omega) (by omega) (by omega) (by omega) (by omega), by decide⟩, fun k hk => absurd hk (by omega), fun s hs => ⟨0, by decide, g0_0 (by omega) (by omega) (by omega) (by omega) (by omega)⟩⟩, fun i hi => absurd hi (by omega), ⟨g0_0 (by omega) (by omega) (by omega) (by omega) (by omega), by decide⟩, fun d hd => absurd hd (by omega), fun k hk => Or.inl (g0_k (by omega)), fun r hr => Or.inl (g0_s (by omega)), fun r hr => Or.inl (g0_s (by omega))⟩, ⟨⟨⟨g0_0 (by omega) (by omega) (by omega) (by omega) (by omega), by decide⟩, ⟨g0_0 (by omega) (by omega) (by omega) (by omega) (by omega), by decide⟩, fun k hk => absurd hk (by omega), fun s hs => ⟨?_, 0, by decide, g0_0 (by omega) (by omega) (by omega) (by omega) (by omega)⟩, fun i hi => absurd hi (by omega)⟩, g0_0 (by omega) (by omega) (by omega) (by omega) (by omega), fun d hd => absurd hd (by omega), fun k hk => ⟨by rw [g0_m (by omega), g0_k (by omega)], fun n hn en => ?_⟩, fun r hr => ⟨by rw [g0_m (by omega), g0_s (by omega)], fun n hn en => ?_⟩, fun t ht => ⟨by rw [g0_m (by omega), g0_s (by omega)], fun n hn en => ?_⟩⟩⟩
  · rw [g0_0 (a := 81) (by omega) (by omega) (by omega) (by omega) (by omega)]
    exact (g0_0 (by omega) (by omega) (by omega) (by omega) (by omega)).symm
  · rw [g0_k (by omega)] at en
    exact absurd en (m1n (by omega))
  · rw [g0_s (by omega)] at en
    exact absurd en (m1n (by omega))
  · rw [g0_s (by omega)] at en
    exact absurd en (m1n (by omega))
def xLc (vs : List Value) (c s : Nat) (pc : Nat) (lv : xL) (st : List Value) (M : xM) : Prop := ∃ (MF : xM) (n0 f0 : Nat), ∀ n f : Nat, n0 ≤ n → f0 ≤ f → xe_run [] none (some vs) (xe_ex 4000 10) (xe_ex f 10) xt_L 13 4 2 false n pc lv st M = some (some (.int 1), MF, c, s)
section
variable {vs : List Value} {pc l0 k c s cA sA mn : Nat} {lv : xL} {st rest as : List Value} {M M1 : xM} {i : Instr}
theorem xLc.body (h : ∃ (MF : xM) (n0 f0 : Nat), ∀ n f : Nat, n0 ≤ n → f0 ≤ f → xe_body [] none (some vs) (xe_ex 4000 10) (xe_ex f 10) xt_L 13 4 2 false (xe_run [] none (some vs) (xe_ex 4000 10) (xe_ex f 10) xt_L 13 4 2 false n) pc lv st M = some (some (.int 1), MF, c, s)) : xLc vs c s pc lv st M := by
  obtain ⟨MF, n0, f0, h⟩ := h
  refine ⟨MF, n0 + 1, f0, fun n f h0 h1 => ?_⟩
  obtain ⟨n, rfl⟩ : ∃ n', n = n' + 1 := ⟨n - 1, by omega⟩
  exact h n f (by omega) h1
theorem xLc.s1 {f : xF} (hl : xe_lkF xt_L pc = some (i, l0)) (hs : xe_step1 [] none 13 4 i pc lv st = some f) (h : xLc vs c s f.1 f.2.1 f.2.2 M) : xLc vs c s pc lv st M := by
  obtain ⟨MF, n0, f0, h⟩ := h
  refine xLc.body ⟨MF, n0, f0, fun n f h0 h1 => ?_⟩
  unfold xe_body
  rw [hl]
  dsimp only
  rw [hs]
  exact h n f h0 h1
theorem xLc.new {e : Nat × Nat × List Value} {a c' s' : Nat} (ec : 1 + c = c') (es : e.2.2.length + s = s') (hl : xe_lkF xt_L pc = some (.new k, l0)) (hn : xn 13 k = some e) (hp : e.2.2.all xe_plain = true) (ha : M.length = a) (h : xLc vs c s (pc + 3) lv (.ref a :: st) (M ++ [(e.2.1, e.2.2)])) : xLc vs c' s' pc lv st M := by
  subst ec
  subst es
  obtain ⟨MF, n0, f0, h⟩ := h
  refine xLc.body ⟨MF, n0, f0, fun n f h0 h1 => ?_⟩
  unfold xe_body
  rw [hl]
  show xd_new k 13 pc lv st M _ = _
  unfold xd_new
  rw [hn]
  dsimp only
  rw [if_pos hp, xln_eq, ha, h n f h0 h1]
  rfl
theorem xLc.ini {c' s' : Nat} (ec : cA + c = c') (es : sA + s = s') (hl : xe_lkF xt_L pc = some (.invokespecial k, l0)) (h3 : ∀ (cl : Nat → List Value → xM → Option xO) (ih : Nat → xL → List Value → xM → Option xO), xe_callI cl 13 k pc lv st M ih = xe_cont ih pc lv rest (cl mn as M)) (hc : xe_ex 4000 10 mn as M = some (none, M1, cA, sA)) (h : xLc vs c s (pc + 3) lv rest M1) : xLc vs c' s' pc lv st M := by
  subst ec
  subst es
  obtain ⟨MF, n0, f0, h⟩ := h
  refine xLc.body ⟨MF, n0, f0, fun n f h0 h1 => ?_⟩
  unfold xe_body
  rw [hl]
  show xe_callI (xe_ex 4000 10) 13 k pc lv st M _ = _
  rw [h3, hc]
  unfold xe_cont
  dsimp only [Option.toList, List.nil_append]
  rw [h n f h0 h1]
end
set_option maxRecDepth 10000 in
theorem xl_all {vs : List Value} {L : Nat} {xv : Nat → Int32} (hL : L ≤ 384) (hvl : vs.length = L) (hvs : ∀ t, t < L → vs[t]? = some (.int (xv t))) : xLc vs 93 2370 0 [(0, .retAddr 0)] [] [] := by
  refine xLc.new (a := 0) (c := 92) (s := 2354) (e := (7, 10, [.null, .null, .null, .null, .null, .null, .null, .null, .null, .null, .null, .int 0, .long 0, .long 0, .int 0, .null])) (by decide) (by decide) rfl rfl rfl rfl ?_
  dsimp only [List.nil_append]
  refine xLc.s1 rfl rfl ?_
  dsimp only [Nat.reduceAdd]
  refine xLc.ini (c := 20) (s := 958) (cA := 72) (sA := 1396) (M1 := xMh) (by decide) (by decide) (mn := 77) (as := [.ref 0]) (rest := [.ref 0]) rfl (fun _ _ => rfl) (xeqO_ok xz_1) ?_
  dsimp only [Nat.reduceAdd]
  refine xLc.s1 rfl rfl ?_
  dsimp only [Nat.reduceAdd]
  refine xLc.new (a := 73) (c := 19) (s := 926) (e := (10, 11, [.null, .null, .null, .null, .null, .int 0, .null, .int 0, .null, .null, .int 0, .null, .int 0, .null, .int 0, .null, .null, .null, .null, .null, .int 0, .long 0, .long 0, .int 0, .null, .null, .null, .null, .int 0, .int 0, .int 0, .long 0])) (by decide) (by decide) rfl rfl rfl xMh_len ?_
  dsimp only [Nat.reduceAdd]
  refine xLc.s1 rfl rfl ?_
  dsimp only [Nat.reduceAdd]
  refine xLc.ini (c := 0) (s := 0) (cA := 19) (sA := 926) (M1 := xMz) (by decide) (by decide) (mn := 150) (as := [.ref 73]) (rest := [.ref 73]) rfl (fun _ _ => rfl) (xeqO_ok xz_2) ?_
  dsimp only [Nat.reduceAdd]
  refine xLc.s1 rfl rfl ?_
  dsimp only [Nat.reduceAdd]
  refine xLc.s1 rfl rfl ?_
  dsimp only [Nat.reduceAdd]
  refine xLc.s1 rfl rfl ?_
  dsimp only [Nat.reduceAdd]
  have h := xl_loop hL hvl hvs (L + 1) 0 (7, 11) g0 l0 (by omega) (by omega) xJ_0
  rw [show xH (7, 11) g0 l0 = xMz from xH_eq (7, 11) g0 l0] at h
  exact h
end
