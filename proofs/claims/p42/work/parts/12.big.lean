/-! big steps of the pure machine: xS from a place of a method's body, xT a whole call; with all larger fuels, and all depths from k on -/
abbrev xQ : Type := xI × Nat × Nat × Nat × Bool
def xS0 (q : xQ) (k pc : Nat) (lv : xL) (st : List Value) (M : xM) (r : Option Value) (M' : xM) : Prop := ∃ n0 f0 : Nat, ∀ n f d : Nat, n0 ≤ n → f0 ≤ f → k ≤ d → xe_run [] none none (xe_ex f d) (xe_ex f d) q.1 q.2.1 q.2.2.1 q.2.2.2.1 q.2.2.2.2 n pc lv st M = some (r, M', 0, 0)
def xT0 (k mn : Nat) (as : List Value) (M : xM) (r : Option Value) (M' : xM) : Prop := ∃ f0 : Nat, ∀ f d : Nat, f0 ≤ f → k ≤ d → xe_ex f d mn as M = some (r, M', 0, 0)
section
variable {q : xQ} {k pc l mn idx : Nat} {lv : xL} {st rest : List Value} {M M1 M' : xM} {r v : Option Value} {i : Instr} {as : List Value}
theorem xT0.up {j : Nat} (h : xT0 k mn as M r M') (hj : k ≤ j) : xT0 j mn as M r M' := by
  obtain ⟨f0, h⟩ := h
  exact ⟨f0, fun f d h1 h2 => h f d h1 (Nat.le_trans hj h2)⟩
theorem xS0.up {j : Nat} (h : xS0 q k pc lv st M r M') (hj : k ≤ j) : xS0 q j pc lv st M r M' := by
  obtain ⟨n0, f0, h⟩ := h
  exact ⟨n0, f0, fun n f d h0 h1 h2 => h n f d h0 h1 (Nat.le_trans hj h2)⟩
/-- a call, out of the walk of its body -/
theorem xT0.of {Q : xME} (hq : xmF mn = some Q) (hc : xe_cats as ≤ Q.1.2.2.1) (h : xS0 Q.1 k 0 (lv_args 0 as) [] M r M')   : xT0 (k + 1) mn as M r M' := by
  obtain ⟨n0, f0, h⟩ := h
  refine ⟨n0 + f0, fun f d h1 h2 => ?_⟩
  obtain ⟨d, rfl⟩ : ∃ d', d = d' + 1 := ⟨d - 1, by omega⟩
  show (match xmF mn with
    | none => none
    | some q => if xe_cats as ≤ q.1.2.2.1 then xe_run [] none none (xe_ex f d) (xe_ex f d) q.1.1 q.1.2.1 q.1.2.2.1 q.1.2.2.2.1 q.1.2.2.2.2 f 0 (lv_args 0 as) [] M else none) = _
  rw [hq]
  dsimp only
  rw [if_pos hc]
  exact h f f d (by omega) (by omega) (by omega)
theorem xS0.body (h : ∃ n0 f0 : Nat, ∀ n f d : Nat, n0 ≤ n → f0 ≤ f → k ≤ d → xe_body [] none none (xe_ex f d) (xe_ex f d) q.1 q.2.1 q.2.2.1 q.2.2.2.1 q.2.2.2.2 (xe_run [] none none (xe_ex f d) (xe_ex f d) q.1 q.2.1 q.2.2.1 q.2.2.2.1 q.2.2.2.2 n) pc lv st M = some (r, M', 0, 0)) : xS0 q k pc lv st M r M' := by
  obtain ⟨n0, f0, h⟩ := h
  refine ⟨n0 + 1, f0, fun n f d h0 h1 h2 => ?_⟩
  obtain ⟨n, rfl⟩ : ∃ n', n = n' + 1 := ⟨n - 1, by omega⟩
  exact h n f d (by omega) h1 h2
/-- an instruction that touches neither cells nor methods -/
theorem xS0.s1 {f : xF} (hl : xe_lkF q.1 pc = some (i, l)) (hs : xe_step1 [] none q.2.1 q.2.2.1 i pc lv st = some f) (h : xS0 q k f.1 f.2.1 f.2.2 M r M') : xS0 q k pc lv st M r M' := by
  obtain ⟨n0, f0, h⟩ := h
  refine xS0.body ⟨n0, f0, fun n f d h0 h1 h2 => ?_⟩
  unfold xe_body
  rw [hl]
  dsimp only
  rw [hs]
  exact h n f d h0 h1 h2
/-- one that reads or writes cells -/
theorem xS0.s2 {g : xF × xM} (hl : xe_lkF q.1 pc = some (i, l)) (h1 : xe_step1 [] none q.2.1 q.2.2.1 i pc lv st = none) (hs : xe_step2 none q.2.1 q.2.2.2.2 i pc lv st M = some g) (h : xS0 q k g.1.1 g.1.2.1 g.1.2.2 g.2 r M') : xS0 q k pc lv st M r M' := by
  obtain ⟨n0, f0, h⟩ := h
  refine xS0.body ⟨n0, f0, fun n f d z0 z1 z2 => ?_⟩
  unfold xe_body
  rw [hl]
  dsimp only
  rw [h1]
  dsimp only
  rw [hs]
  exact h n f d z0 z1 z2
/-- an end -/
theorem xS0.ret (hl : xe_lkF q.1 pc = some (i, l)) (h1 : xe_step1 [] none q.2.1 q.2.2.1 i pc lv st = none) (h2 : xe_step2 none q.2.1 q.2.2.2.2 i pc lv st M = none) (h3 : ∀ (c : Nat → List Value → xM → Option xO) (ih : Nat → xL → List Value → xM → Option xO), xe_step3 c c q.2.1 q.2.2.2.1 i pc lv st M ih = some (r, M', 0, 0)) : xS0 q k pc lv st M r M' := by
  refine xS0.body ⟨0, 0, fun n f d z0 z1 z2 => ?_⟩
  unfold xe_body
  rw [hl]
  dsimp only
  rw [h1]
  dsimp only
  rw [h2]
  exact h3 _ _
/-- a call -/
theorem xS0.call (hl : xe_lkF q.1 pc = some (i, l)) (h1 : xe_step1 [] none q.2.1 q.2.2.1 i pc lv st = none) (h2 : xe_step2 none q.2.1 q.2.2.2.2 i pc lv st M = none) (h3 : ∀ (c : Nat → List Value → xM → Option xO) (ih : Nat → xL → List Value → xM → Option xO), xe_step3 c c q.2.1 q.2.2.2.1 i pc lv st M ih = xe_cont ih pc lv rest (c mn as M)) (hT : xT0 k mn as M v M1) (h : xS0 q k (pc + 3) lv (v.toList ++ rest) M1 r M') : xS0 q k pc lv st M r M' := by
  obtain ⟨n0, f0, h⟩ := h
  obtain ⟨f1, hT⟩ := hT
  refine xS0.body ⟨n0, f0 + f1, fun n f d z0 z1 z2 => ?_⟩
  unfold xe_body
  rw [hl]
  dsimp only
  rw [h1]
  dsimp only
  rw [h2]
  dsimp only
  rw [h3, hT f d (by omega) z2]
  unfold xe_cont
  dsimp only
  rw [h n f d z0 (by omega) z2]
  show some (r, M', 0 + 0, 0 + 0) = _
  rfl
/-- Math.max, Math.min, a copy: as a step -/
theorem xS0.s3 {pc' : Nat} {st' : List Value} (hl : xe_lkF q.1 pc = some (i, l)) (h1 : xe_step1 [] none q.2.1 q.2.2.1 i pc lv st = none) (h2 : xe_step2 none q.2.1 q.2.2.2.2 i pc lv st M = none) (h3 : ∀ (c : Nat → List Value → xM → Option xO) (ih : Nat → xL → List Value → xM → Option xO), xe_step3 c c q.2.1 q.2.2.2.1 i pc lv st M ih = ih pc' lv st' M1) (h : xS0 q k pc' lv st' M1 r M') : xS0 q k pc lv st M r M' := by
  obtain ⟨n0, f0, h⟩ := h
  refine xS0.body ⟨n0, f0, fun n f d z0 z1 z2 => ?_⟩
  unfold xe_body
  rw [hl]
  dsimp only
  rw [h1]
  dsimp only
  rw [h2]
  dsimp only
  rw [h3]
  exact h n f d z0 z1 z2
end
/-! the same with a word on what comes out: P of the answer and of the cells -/
def xS (q : xQ) (k pc : Nat) (lv : xL) (st : List Value) (M : xM) (P : Option Value → xM → Prop) : Prop := ∃ r M', P r M' ∧ xS0 q k pc lv st M r M'
def xT (k mn : Nat) (as : List Value) (M : xM) (P : Option Value → xM → Prop) : Prop := ∃ r M', P r M' ∧ xT0 k mn as M r M'
section
variable {q : xQ} {k pc l mn idx : Nat} {lv : xL} {st rest : List Value} {M M1 : xM} {i : Instr} {as : List Value} {P P' : Option Value → xM → Prop}
theorem xT.up {j : Nat} (h : xT k mn as M P) (hj : k ≤ j) : xT j mn as M P := by
  obtain ⟨r, M', hP, h⟩ := h
  exact ⟨r, M', hP, h.up hj⟩
theorem xT.weak (h : xT k mn as M P) (hP : ∀ r M', P r M' → P' r M') : xT k mn as M P' := by
  obtain ⟨r, M', h1, h⟩ := h
  exact ⟨r, M', hP _ _ h1, h⟩
theorem xS.weak (h : xS q k pc lv st M P) (hP : ∀ r M', P r M' → P' r M') : xS q k pc lv st M P' := by
  obtain ⟨r, M', h1, h⟩ := h
  exact ⟨r, M', hP _ _ h1, h⟩
theorem xT.of {Q : xME} (hq : xmF mn = some Q) (hc : xe_cats as ≤ Q.1.2.2.1) (h : xS Q.1 k 0 (lv_args 0 as) [] M P) : xT (k + 1) mn as M P := by
  obtain ⟨r, M', hP, h⟩ := h
  exact ⟨r, M', hP, xT0.of hq hc h⟩
theorem xS.s1 {f : xF} (hl : xe_lkF q.1 pc = some (i, l)) (hs : xe_step1 [] none q.2.1 q.2.2.1 i pc lv st = some f) (h : xS q k f.1 f.2.1 f.2.2 M P) : xS q k pc lv st M P := by
  obtain ⟨r, M', hP, h⟩ := h
  exact ⟨r, M', hP, xS0.s1 hl hs h⟩
theorem xS.s2 {g : xF × xM} (hl : xe_lkF q.1 pc = some (i, l)) (h1 : xe_step1 [] none q.2.1 q.2.2.1 i pc lv st = none) (hs : xe_step2 none q.2.1 q.2.2.2.2 i pc lv st M = some g) (h : xS q k g.1.1 g.1.2.1 g.1.2.2 g.2 P) : xS q k pc lv st M P := by
  obtain ⟨r, M', hP, h⟩ := h
  exact ⟨r, M', hP, xS0.s2 hl h1 hs h⟩
theorem xS.ret {r : Option Value} {M' : xM} (hl : xe_lkF q.1 pc = some (i, l)) (h1 : xe_step1 [] none q.2.1 q.2.2.1 i pc lv st = none) (h2 : xe_step2 none q.2.1 q.2.2.2.2 i pc lv st M = none) (h3 : ∀ (c : Nat → List Value → xM → Option xO) (ih : Nat → xL → List Value → xM → Option xO), xe_step3 c c q.2.1 q.2.2.2.1 i pc lv st M ih = some (r, M', 0, 0)) (hP : P r M') : xS q k pc lv st M P := ⟨r, M', hP, xS0.ret hl h1 h2 h3⟩
theorem xS.call {P1 : Option Value → xM → Prop} (hl : xe_lkF q.1 pc = some (i, l)) (h1 : xe_step1 [] none q.2.1 q.2.2.1 i pc lv st = none) (h2 : xe_step2 none q.2.1 q.2.2.2.2 i pc lv st M = none) (h3 : ∀ (c : Nat → List Value → xM → Option xO) (ih : Nat → xL → List Value → xM → Option xO), xe_step3 c c q.2.1 q.2.2.2.1 i pc lv st M ih = xe_cont ih pc lv rest (c mn as M)) (hT : xT k mn as M P1) (h : ∀ v M1, P1 v M1 → xS q k (pc + 3) lv (v.toList ++ rest) M1 P) : xS q k pc lv st M P := by
  obtain ⟨v, M1, hP1, hT⟩ := hT
  obtain ⟨r, M', hP, h⟩ := h v M1 hP1
  exact ⟨r, M', hP, xS0.call hl h1 h2 h3 hT h⟩
theorem xS.s3 {pc' : Nat} {st' : List Value} (hl : xe_lkF q.1 pc = some (i, l)) (h1 : xe_step1 [] none q.2.1 q.2.2.1 i pc lv st = none) (h2 : xe_step2 none q.2.1 q.2.2.2.2 i pc lv st M = none) (h3 : ∀ (c : Nat → List Value → xM → Option xO) (ih : Nat → xL → List Value → xM → Option xO), xe_step3 c c q.2.1 q.2.2.2.1 i pc lv st M ih = ih pc' lv st' M1) (h : xS q k pc' lv st' M1 P) : xS q k pc lv st M P := by
  obtain ⟨r, M', hP, h⟩ := h
  exact ⟨r, M', hP, xS0.s3 hl h1 h2 h3 h⟩
/-- a comparison of two ints -/
theorem xS.br {c : ClassFile.Cond} {off : Int} {t : Nat} {a b : Int32} (hl : xe_lkF q.1 pc = some (.if_icmp c off, l)) (ht : xe_tg pc off = some t) (hy : xe_holds c a b = true → xS q k t lv rest M P) (hn : xe_holds c a b = false → xS q k (pc + 3) lv rest M P) : xS q k pc lv (.int b :: .int a :: rest) M P := by
  have key : ∀ x, xe_holds c a b = x → xe_step1 [] none q.2.1 q.2.2.1 (.if_icmp c off) pc lv (.int b :: .int a :: rest) = some (bif x then t else pc + 3, lv, rest) := by
    intro x hx
    show xe_br [] c off pc lv (.int a) (.int b) rest = _
    unfold xe_br
    rw [ht]
    dsimp only
    have e : xe_cmpF [] c (.int a) (.int b) = some x := by
      rw [xe_cmpF_eq, ← hx]
      cases c
      · rfl
      · show some (!(decide (a = b))) = some (decide (¬ a = b)); by_cases z : a = b <;> simp [z]
      · rfl
      · show some (!(decide (a < b))) = some (decide (b ≤ a)); by_cases z : a < b <;> simp [z, Int32.not_lt.mp, Int32.not_le.mpr]
      · rfl
      · show some (!(decide (b < a))) = some (decide (a ≤ b)); by_cases z : b < a <;> simp [z, Int32.not_lt.mp, Int32.not_le.mpr]
    rw [e]
  cases hx : xe_holds c a b with
  | true => exact xS.s1 hl (key true hx) (hy hx)
  | false => exact xS.s1 hl (key false hx) (hn hx)
theorem xS.br0 {c : ClassFile.Cond} {off : Int} {t : Nat} {a : Int32} (hl : xe_lkF q.1 pc = some (.ifCond c off, l)) (ht : xe_tg pc off = some t) (hy : xe_holds c a 0 = true → xS q k t lv rest M P) (hn : xe_holds c a 0 = false → xS q k (pc + 3) lv rest M P) : xS q k pc lv (.int a :: rest) M P := by
  have key : ∀ x, xe_holds c a 0 = x → xe_step1 [] none q.2.1 q.2.2.1 (.ifCond c off) pc lv (.int a :: rest) = some (bif x then t else pc + 3, lv, rest) := by
    intro x hx
    show xe_br [] c off pc lv (.int a) (.int 0) rest = _
    unfold xe_br
    rw [ht]
    dsimp only
    have e : xe_cmpF [] c (.int a) (.int 0) = some x := by
      rw [xe_cmpF_eq, ← hx]
      cases c
      · rfl
      · show some (!(decide (a = 0))) = some (decide (¬ a = 0)); by_cases z : a = 0 <;> simp [z]
      · rfl
      · show some (!(decide (a < 0))) = some (decide (0 ≤ a)); by_cases z : a < 0 <;> simp [z, Int32.not_lt.mp, Int32.not_le.mpr]
      · rfl
      · show some (!(decide (0 < a))) = some (decide (a ≤ 0)); by_cases z : 0 < a <;> simp [z, Int32.not_lt.mp, Int32.not_le.mpr]
    rw [e]
  cases hx : xe_holds c a 0 with
  | true => exact xS.s1 hl (key true hx) (hy hx)
  | false => exact xS.s1 hl (key false hx) (hn hx)
end
