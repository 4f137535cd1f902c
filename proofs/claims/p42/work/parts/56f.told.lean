/-! what is told: ways, keeps, he -/
theorem xhe_or {a b : Nat → Bool} : ∀ n, xfst (fun i => a i || b i) n = (match xfst a n, xfst b n with
    | none, o => o
    | some x, none => some x
    | some x, some y => some (min x y))
  | 0 => rfl
  | n + 1 => by
    have ih := xhe_or (a := a) (b := b) n
    rw [xfst_s, ih, xfst_s, xfst_s]
    cases ea : xfst a n with
    | none =>
      cases eb : xfst b n with
      | none =>
        show (bif a n || b n then some n else none) = _
        cases a n <;> cases b n <;> first | rfl | (show some n = some (min n n); rw [Nat.min_self])
      | some y =>
        have := (xfst_lt eb).1
        cases a n with
        | false => rfl
        | true =>
          show some y = some (min n y)
          rw [Nat.min_eq_right (by omega)]
    | some x =>
      have := (xfst_lt ea).1
      cases eb : xfst b n with
      | none =>
        cases b n with
        | false => rfl
        | true =>
          show some x = some (min x n)
          rw [Nat.min_eq_left (by omega)]
      | some y => rfl
theorem xhe_e {a b : Nat → Bool} {n : Nat} : xhe (xfst a n) (xfst b n) = xfI (xfst (fun i => a i || b i) n) := by
  rw [xhe_or]
  cases xfst a n with
  | none => rfl
  | some x =>
    cases xfst b n with
    | none => rfl
    | some y => rfl
theorem xpr_0 {f : Nat → Nat} : ∀ n, xpr f 0 n = 0
  | 0 => rfl
  | n + 1 => by rw [xpr_s, xpr_0 n, Nat.zero_mul]
theorem xpr_z {f : Nat → Nat} {a p : Nat} : ∀ n, p < n → f p = 0 → xpr f a n = 0
  | 0, h, _ => absurd h (by omega)
  | n + 1, h, e => by
    rw [xpr_s]
    by_cases z : p = n
    · rw [← z, e, Nat.mul_zero]
    · rw [xpr_z n (by omega) e, Nat.zero_mul]
theorem xpr_c {f f' : Nat → Nat} {a : Nat} : ∀ n, (∀ p, p < n → f p = f' p) → xpr f a n = xpr f' a n
  | 0, _ => rfl
  | n + 1, h => by rw [xpr_s, xpr_s, xpr_c n (fun p hp => h p (by omega)), h n (by omega)]
section
variable {h f : Nat → Int32} {κ δ n : Nat}
theorem xways : xpr (fun i => xpc (xN (xst κ δ (xB h κ f) n i))) (if xnz (xst κ δ (xB h κ f) n) n (xps κ δ f n) = true then 1 else 0) n = xcnt (fun c => decide (xfst (fun i => !decide (xshw h κ δ (xd6 n c) i = f i)) n = none)) (6 ^ n) := by
  have e1 : xcnt (fun c => decide (xfst (fun i => !decide (xshw h κ δ (xd6 n c) i = f i)) n = none)) (6 ^ n) = xcnt (fun c => xps κ δ f n && xall (xal h f κ δ n) n c) (6 ^ n) := xcnt_congr (fun c _ => xmatch_all)
  rw [e1, xpr_c (f' := fun p => xcnt (xal h f κ δ n p) 6) n (fun p _ => by rw [xst_al, xpc_b])]
  cases hp : xps κ δ f n with
  | false =>
    rw [if_neg (fun z => by have := ((xnz_all n).mp z).1; cases this), xpr_0]
    have h0 : ∀ N, xcnt (fun c => false && xall (xal h f κ δ n) n c) N = 0 := fun N => by
      induction N with
      | zero => rfl
      | succ N ih => rw [xcnt_s, ih]; rfl
    exact (h0 _).symm
  | true =>
    rw [show (fun c => true && xall (xal h f κ δ n) n c) = xall (xal h f κ δ n) n from funext (fun c => Bool.true_and _), xall_cnt]
    by_cases z : xnz (xst κ δ (xB h κ f) n) n true = true
    · rw [if_pos z]
    · rw [if_neg z, xpr_0]
      have : ∃ p, p < n ∧ xst κ δ (xB h κ f) n p = 0 := by
        cases e : xfst (fun p => decide (xst κ δ (xB h κ f) n p = 0)) n with
        | some p => exact ⟨p, (xfst_lt e).1, of_decide_eq_true (xfst_lt e).2⟩
        | none => exact absurd ((xnz_all n).mpr ⟨rfl, fun p hp => of_decide_eq_false (xfst_none.mp e p hp)⟩) z
      obtain ⟨p, h1, h2⟩ := this
      rw [xst_al] at h2
      have h3 := (xbits_0 _).mp h2
      refine (xpr_z n h1 ?_).symm
      have h4 : ∀ N, (∀ s, s < N → xal h f κ δ n p s = false) → xcnt (xal h f κ δ n p) N = 0 := fun N => by
        induction N with
        | zero => intro _; rfl
        | succ N ih =>
          intro q
          rw [xcnt_s, q N (by omega), ih (fun s hs => q s (by omega))]
          rfl
      exact h4 6 (xfst_none.mp h3)
end
section
variable {h tx : Nat → Int32} {T κ δ n : Nat}
theorem xcnt_z {p : Nat → Bool} : ∀ N, xcnt p N = 0 ↔ xfst p N = none
  | 0 => ⟨fun _ => rfl, fun _ => rfl⟩
  | N + 1 => by
    have ih := xcnt_z (p := p) N
    rw [xcnt_s]
    cases ep : p N with
    | false =>
      show xcnt p N = 0 ↔ _
      rw [ih, xfst_f ep]
    | true =>
      show xcnt p N + 1 = 0 ↔ _
      constructor
      · intro z; omega
      · intro z
        have := xfst_none.mp z N (by omega)
        rw [ep] at this
        cases this
def xW0 (h tx : Nat → Int32) (T κ δ n s0 p s : Nat) : Nat := if p = 0 ∧ s ≠ s0 then 0 else xW h tx T κ δ n (n + 2) p s
theorem xW0_h {s0 : Nat} : ∀ p, p < n → ∀ s, s < 6 → xW0 h tx T κ δ n s0 p s = bif xhb h tx T κ δ p s then 0 else (if p = 0 ∧ s ≠ s0 then 0 else 1) * xVh (fun a b : Nat => a + b) 0 1 h tx T κ δ n (xW0 h tx T κ δ n s0) p s := by
  intro p hp s hs
  have hv : xVh (fun a b : Nat => a + b) 0 1 h tx T κ δ n (xW0 h tx T κ δ n s0) p s = xVh (fun a b : Nat => a + b) 0 1 h tx T κ δ n (xW h tx T κ δ n (n + 2)) p s := by
    unfold xVh
    cases e : xhei κ δ n p with
    | none => rfl
    | some q =>
      have hq := xhei_gt e
      show xVg _ _ _ _ _ _ _ q s = xVg _ _ _ _ _ _ _ q s
      unfold xVg
      rw [show xW0 h tx T κ δ n s0 q = xW h tx T κ δ n (n + 2) q from funext (fun t => if_neg (fun z => by omega))]
  rw [hv]
  have e := xW_h (h := h) (tx := tx) (T := T) (κ := κ) (δ := δ) (n := n) p hp s hs
  unfold xW0
  by_cases z : p = 0 ∧ s ≠ s0
  · rw [if_pos z, if_pos z, Nat.zero_mul]
    cases xhb h tx T κ δ p s <;> rfl
  · rw [if_neg z, if_neg z, e]
theorem xsg_1 {v : Nat} {s0 : Nat} (w : Nat → Nat) (hv : w s0 = v) : ∀ N, xsg (fun a b : Nat => a + b) 0 (fun s => if s ≠ s0 then 0 else w s) N = if s0 < N then v else 0
  | 0 => by rw [if_neg (by omega)]; rfl
  | N + 1 => by
    rw [xsg_s, xsg_1 w hv N]
    by_cases e : N = s0
    · subst e
      rw [if_neg (show ¬ N < N by omega), if_neg (show ¬ N ≠ N from fun z => z rfl), if_pos (show N < N + 1 by omega), hv]
      show 0 + v = v
      omega
    · rw [if_pos e]
      by_cases h1 : s0 < N
      · rw [if_pos h1, if_pos (by omega)]
        rfl
      · rw [if_neg h1, if_neg (by omega)]
theorem xfirsts (hn0 : 0 < n) : (if xPr κ δ n (xW h tx T κ δ n (n + 2)) n = 0 then 0 else if n = 0 then 0 else xbits (fun u => decide (0 < xW h tx T κ δ n (n + 2) 0 u)) 6) = xorf (xnbc h tx T κ δ n) (fun c => xd6 n c 0) (6 ^ n) := by
  rw [xorf_b (fun c => xd6_lt n c 0)]
  have hpg := xPr_pg (κ := κ) (δ := δ) (n := n) (W := xW h tx T κ δ n (n + 2)) n (Nat.le_refl n)
  rw [Nat.sub_self, show xpg (fun a b : Nat => a * b) 1 (fun i => bif xhd κ δ i then xsg (fun a b : Nat => a + b) 0 (xW h tx T κ δ n (n + 2) i) 6 else 1) 0 = 1 from rfl, Nat.mul_one] at hpg
  have hx := xpg_x xSRn (f := fun i => bif xhd κ δ i then xsg (fun a b : Nat => a + b) 0 (xW h tx T κ δ n (n + 2) i) 6 else 1) (k := 0) n hn0
  rw [← hpg] at hx
  have hcnt : ∀ s0, s0 < 6 → xcnt (fun c => xnbc h tx T κ δ n c && decide (xd6 n c 0 = s0)) (6 ^ n) = xW h tx T κ δ n (n + 2) 0 s0 * xpg (fun a b : Nat => a * b) 1 (fun i => if i = 0 then 1 else bif xhd κ δ i then xsg (fun a b : Nat => a + b) 0 (xW h tx T κ δ n (n + 2) i) 6 else 1) n := fun s0 h6 => by
    have e := xid xSRn (h := h) (tx := tx) (T := T) (κ := κ) (δ := δ) (n := n) (ω := fun p s => if p = 0 ∧ s ≠ s0 then 0 else 1) (Wg := xW0 h tx T κ δ n s0) xW0_h
    rw [xpg_x xSRn (k := 0) n hn0] at e
    have f0 : (bif xhd κ δ 0 then xsg (fun a b : Nat => a + b) 0 (xW0 h tx T κ δ n s0 0) 6 else 1) = xW h tx T κ δ n (n + 2) 0 s0 := by
      rw [xhd_0]
      show xsg (fun a b : Nat => a + b) 0 (xW0 h tx T κ δ n s0 0) 6 = _
      have := xsg_1 (v := xW h tx T κ δ n (n + 2) 0 s0) (s0 := s0) (xW h tx T κ δ n (n + 2) 0) rfl 6
      rw [if_pos h6] at this
      rw [← this]
      refine xsg_c _ _ 6 (fun s _ => ?_)
      unfold xW0
      by_cases z : s ≠ s0
      · rw [if_pos ⟨rfl, z⟩, if_pos z]
      · rw [if_neg (fun w => z w.2), if_neg z]
    rw [f0] at e
    rw [xcnt_g]
    have e2 : xsg (fun a b : Nat => a + b) 0 (fun c => bif xnbc h tx T κ δ n c && decide (xd6 n c 0 = s0) then 1 else 0) (6 ^ n) = xsg (fun a b : Nat => a + b) 0 (fun c => xpg (fun a b : Nat => a * b) 1 (fun i => xwF 0 h tx T κ δ (fun p s => if p = 0 ∧ s ≠ s0 then 0 else 1) i (xd6 n c)) n) (6 ^ n) := xsg_c _ _ (6 ^ n) (fun c _ => by
      by_cases z : xd6 n c 0 = s0
      · rw [decide_eq_true z, Bool.and_true]
        have e3 := xpg_01 (p := fun i => !decide (xfb tx T (nI (xd6 n c i)) (xshw h κ δ (xd6 n c) i) = none)) (w := fun i => if i = 0 ∧ xd6 n c i ≠ s0 then 0 else 1) n (fun i _ _ => if_neg (fun w => w.2 (by rw [w.1]; exact z)))
        exact e3.symm
      · rw [decide_eq_false z, Bool.and_false]
        have e3 := xpg_x xSRn (f := fun i => xwF 0 h tx T κ δ (fun p s => if p = 0 ∧ s ≠ s0 then 0 else 1) i (xd6 n c)) (k := 0) n hn0
        rw [e3]
        have e4 : xwF 0 h tx T κ δ (fun p s => if p = 0 ∧ s ≠ s0 then 0 else 1) 0 (xd6 n c) = 0 := by
          unfold xwF
          rw [show (fun p s => if p = 0 ∧ s ≠ s0 then 0 else 1) 0 (xd6 n c 0) = (0 : Nat) from if_pos ⟨rfl, z⟩]
          cases xbk tx T (xd6 n c 0) (xshw h κ δ (xd6 n c) 0) <;> rfl
        rw [e4]
        show (0 : Nat) = 0 * _
        rw [Nat.zero_mul])
    rw [e2, e]
    congr 1
    refine xpg_c _ _ n (fun i _ => ?_)
    by_cases z : i = 0
    · rw [if_pos z, if_pos z]
    · rw [if_neg z, if_neg z, show xW0 h tx T κ δ n s0 i = xW h tx T κ δ n (n + 2) i from funext (fun t => if_neg (fun w => z w.1))]
  by_cases hz : xPr κ δ n (xW h tx T κ δ n (n + 2)) n = 0
  · rw [if_pos hz]
    rw [xPr_cnt, xcnt_z] at hz
    have e : xbits (fun s => (xfst (fun c => xnbc h tx T κ δ n c && decide (xd6 n c 0 = s)) (6 ^ n)).isSome) 6 = xbits (fun _ => false) 6 := xbits_c 6 (fun s _ => by
      rw [xfst_none.mpr (fun c hc => by rw [xfst_none.mp hz c hc]; rfl)]
      rfl)
    rw [e]
    decide
  · rw [if_neg hz, if_neg (by omega)]
    refine xbits_c 6 (fun s hs => ?_)
    have hr : xpg (fun a b : Nat => a * b) 1 (fun i => if i = 0 then 1 else bif xhd κ δ i then xsg (fun a b : Nat => a + b) 0 (xW h tx T κ δ n (n + 2) i) 6 else 1) n ≠ 0 := fun z => hz (by rw [hx]; show _ * _ = 0; rw [z, Nat.mul_zero])
    have hc := hcnt s hs
    cases e : xfst (fun c => xnbc h tx T κ δ n c && decide (xd6 n c 0 = s)) (6 ^ n) with
    | none =>
      rw [(xcnt_z _).mpr e] at hc
      have : xW h tx T κ δ n (n + 2) 0 s = 0 := by
        rcases Nat.mul_eq_zero.mp hc.symm with z | z
        · exact z
        · exact absurd z hr
      rw [this]
      rfl
    | some c =>
      have : xW h tx T κ δ n (n + 2) 0 s ≠ 0 := fun z => by
        rw [z, Nat.zero_mul, xcnt_z, e] at hc
        cases hc
      rw [decide_eq_true (show 0 < xW h tx T κ δ n (n + 2) 0 s by omega)]
      rfl
end

