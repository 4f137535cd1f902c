/-! the law over the pure machine: rules -/
def xLw (vs : List Value) (pc : Nat) (lv : xL) (st : List Value) (M : xM) : Prop := ∃ (MF : xM) (n0 f0 : Nat), ∀ n f : Nat, n0 ≤ n → f0 ≤ f → xe_run [] none (some vs) (xe_ex 4000 10) (xe_ex f 10) xt_L 13 4 2 false n pc lv st M = some (some (.int 1), MF, 0, 0)
section
variable {vs : List Value} {pc l0 idx a ci t : Nat} {lv : xL} {st rest : List Value} {M : xM} {i : Instr} {b : Nat × Nat} {g : Nat → Nat → Int32} {l : Nat → Nat → Int64} {fs : List Value} {x : Int32}
theorem xLw.body (h : ∃ (MF : xM) (n0 f0 : Nat), ∀ n f : Nat, n0 ≤ n → f0 ≤ f → xe_body [] none (some vs) (xe_ex 4000 10) (xe_ex f 10) xt_L 13 4 2 false (xe_run [] none (some vs) (xe_ex 4000 10) (xe_ex f 10) xt_L 13 4 2 false n) pc lv st M = some (some (.int 1), MF, 0, 0)) : xLw vs pc lv st M := by
  obtain ⟨MF, n0, f0, h⟩ := h
  refine ⟨MF, n0 + 1, f0, fun n f h0 h1 => ?_⟩
  obtain ⟨n, rfl⟩ : ∃ n', n = n' + 1 := ⟨n - 1, by omega⟩
  exact h n f (by omega) h1
theorem xLw.s1 {f : xF} (hl : xe_lkF xt_L pc = some (i, l0)) (hs : xe_step1 [] none 13 4 i pc lv st = some f) (h : xLw vs f.1 f.2.1 f.2.2 M) : xLw vs pc lv st M := by
  obtain ⟨MF, n0, f0, h⟩ := h
  refine xLw.body ⟨MF, n0, f0, fun n f h0 h1 => ?_⟩
  unfold xe_body
  rw [hl]
  dsimp only
  rw [hs]
  exact h n f h0 h1
theorem xLw.s2 {q : xF × xM} (hl : xe_lkF xt_L pc = some (i, l0)) (h1 : xe_step1 [] none 13 4 i pc lv st = none) (hs : xe_step2 (some vs) 13 false i pc lv st M = some q) (h : xLw vs q.1.1 q.1.2.1 q.1.2.2 q.2) : xLw vs pc lv st M := by
  obtain ⟨MF, n0, f0, h⟩ := h
  refine xLw.body ⟨MF, n0, f0, fun n f z0 z1 => ?_⟩
  unfold xe_body
  rw [hl]
  dsimp only
  rw [h1]
  dsimp only
  rw [hs]
  exact h n f z0 z1
theorem xLw.ret (hl : xe_lkF xt_L pc = some (.ireturn, l0)) : xLw vs pc lv [.int 1] M := by
  refine xLw.body ⟨M, 0, 0, fun n f z0 z1 => ?_⟩
  unfold xe_body
  rw [hl]
  rfl
theorem xLw.cv {m : Nat} {rs : List (Nat × Nat)} {idx' : Nat} {e : Nat × Nat} {Q : xME} {P1 : Option Value → xM → Prop} (hl : xe_lkF xt_L pc = some (.invokevirtual idx, l0)) (hx : xcF 13 idx = some (idx', 3, m, rs)) (hd : st.drop m = .ref a :: rest) (hM : (xsh b)[a]? = some (ci, fs)) (hr : xfd rs ci = some e) (hm : xmF e.2 = some Q) (hn : ci < 12 ∧ Q.2.2.2.2 = m ∧ xe_sum rest = true) (hT : xT 10 e.2 (.ref a :: (st.take m).reverse) (xH b g l) P1) (h : ∀ v M1, P1 v M1 → xLw vs (pc + 3) lv (v.toList ++ rest) M1) : xLw vs pc lv st (xH b g l) := by
  obtain ⟨v, M1, hP, f1, hT⟩ := hT
  obtain ⟨MF, n0, f0, h⟩ := h v M1 hP
  refine xLw.body ⟨MF, n0, f0 + f1, fun n f z0 z1 => ?_⟩
  unfold xe_body
  rw [hl]
  show xe_callV (xe_ex f 10) 13 idx pc lv st (xH b g l) (xe_run [] none (some vs) (xe_ex 4000 10) (xe_ex f 10) xt_L 13 4 2 false n) = _
  unfold xe_callV
  simp only [hx, hd, xg_eq, xH_get hM, hr, hm, if_pos hn]
  rw [hT f 10 (by omega) (Nat.le_refl 10)]
  unfold xe_cont
  dsimp only
  rw [h n f z0 (by omega)]
  show some (some (Value.int 1), MF, 0 + 0, 0 + 0) = _
  rfl
theorem xLw.ial (hl : xe_lkF xt_L pc = some (.iaload, l0)) (hv : vs[t]? = some (.int x)) (ht : t < 2 ^ 31) (h : xLw vs (pc + 1) lv (.int x :: rest) M) : xLw vs pc lv (.int (nI t) :: .retAddr 0 :: rest) M := by
  refine xLw.s2 hl rfl (q := ((pc + 1, lv, .int x :: rest), M)) ?_ h
  have h2 : ¬ xlt (nI t) 0 = true := by rw [xlt_iff]; exact nI_pos ht
  show xb_iaload (some vs) pc lv (.int (nI t) :: .retAddr 0 :: rest) M = _
  unfold xb_iaload
  simp only [xg_eq, h2, nI_clamp (n := t) ht, hv, not_false_eq_true, if_true]
  rfl
theorem xLw.al {L : Nat} (hl : xe_lkF xt_L pc = some (.arraylength, l0)) (hL : vs.length = L) (h : xLw vs (pc + 1) lv (.int (nI L) :: rest) M) : xLw vs pc lv (.retAddr 0 :: rest) M := by
  refine xLw.s2 hl rfl (q := ((pc + 1, lv, .int (nI L) :: rest), M)) ?_ h
  show xb_arraylength (some vs) pc lv (.retAddr 0 :: rest) M = _
  unfold xb_arraylength
  simp only [xln_eq, hL]
  rfl
theorem xLw.tsw {d lo hi : Int} {offs : Array Int} {j : Nat} (hl : xe_lkF xt_L pc = some (.tableswitch d lo hi offs, l0)) (hj : j < 2 ^ 31) (ht : (if (j : Int) < lo ∨ hi < (j : Int) then xe_tg pc d else match offs[((j : Int) - lo).toNat]? with
    | some off => xe_tg pc off
    | none => none) = some t) (h : xLw vs t lv rest M) : xLw vs pc lv (.int (nI j) :: rest) M := by
  refine xLw.s1 hl (f := (t, lv, rest)) ?_ h
  show xa_tableswitch d lo hi offs [] pc lv (.int (nI j) :: rest) = _
  unfold xa_tableswitch
  dsimp only
  rw [nI_toInt hj]
  by_cases c : (j : Int) < lo ∨ hi < (j : Int)
  · rw [if_pos c] at ht ⊢
    rw [ht]
    rfl
  · rw [if_neg c] at ht ⊢
    cases e : offs[((j : Int) - lo).toNat]? with
    | none => rw [e] at ht; cases ht
    | some off =>
      rw [e] at ht
      dsimp only at ht ⊢
      rw [ht]
      rfl
theorem xLw.br {c : ClassFile.Cond} {off : Int} {a b : Int32} (hl : xe_lkF xt_L pc = some (.if_icmp c off, l0)) (ht : xe_tg pc off = some t) (hy : xe_holds c a b = true → xLw vs t lv rest M) (hn : xe_holds c a b = false → xLw vs (pc + 3) lv rest M) : xLw vs pc lv (.int b :: .int a :: rest) M := by
  have key : ∀ x, xe_holds c a b = x → xe_step1 [] none 13 4 (.if_icmp c off) pc lv (.int b :: .int a :: rest) = some (bif x then t else pc + 3, lv, rest) := by
    intro x hx
    show xe_br [] c off pc lv (.int a) (.int b) rest = _
    unfold xe_br
    rw [ht]
    dsimp only
    have e : xe_cmpF [] c (.int a) (.int b) = some x := by
      rw [xe_cmpF_eq, ← hx]
      cases c
      · rfl
      · show some (!(decide (a = b))) = some (decide (¬ a = b)); by_cases z : a = b <;> simp [z]
      · rfl
      · show some (!(decide (a < b))) = some (decide (b ≤ a)); by_cases z : a < b <;> simp [z, Int32.not_lt.mp, Int32.not_le.mpr]
      · rfl
      · show some (!(decide (b < a))) = some (decide (a ≤ b)); by_cases z : b < a <;> simp [z, Int32.not_lt.mp, Int32.not_le.mpr]
    rw [e]
  cases hx : xe_holds c a b with
  | true => exact xLw.s1 hl (key true hx) (hy hx)
  | false => exact xLw.s1 hl (key false hx) (hn hx)
theorem xLw.br0 {c : ClassFile.Cond} {off : Int} {a : Int32} (hl : xe_lkF xt_L pc = some (.ifCond c off, l0)) (ht : xe_tg pc off = some t) (hy : xe_holds c a 0 = true → xLw vs t lv rest M) (hn : xe_holds c a 0 = false → xLw vs (pc + 3) lv rest M) : xLw vs pc lv (.int a :: rest) M := by
  have key : ∀ x, xe_holds c a 0 = x → xe_step1 [] none 13 4 (.ifCond c off) pc lv (.int a :: rest) = some (bif x then t else pc + 3, lv, rest) := by
    intro x hx
    show xe_br [] c off pc lv (.int a) (.int 0) rest = _
    unfold xe_br
    rw [ht]
    dsimp only
    have e : xe_cmpF [] c (.int a) (.int 0) = some x := by
      rw [xe_cmpF_eq, ← hx]
      cases c
      · rfl
      · show some (!(decide (a = 0))) = some (decide (¬ a = 0)); by_cases z : a = 0 <;> simp [z]
      · rfl
      · show some (!(decide (a < 0))) = some (decide (0 ≤ a)); by_cases z : a < 0 <;> simp [z, Int32.not_lt.mp, Int32.not_le.mpr]
      · rfl
      · show some (!(decide (0 < a))) = some (decide (a ≤ 0)); by_cases z : 0 < a <;> simp [z, Int32.not_lt.mp, Int32.not_le.mpr]
    rw [e]
  cases hx : xe_holds c a 0 with
  | true => exact xLw.s1 hl (key true hx) (hy hx)
  | false => exact xLw.s1 hl (key false hx) (hn hx)
end
