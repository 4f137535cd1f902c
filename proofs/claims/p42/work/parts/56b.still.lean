/-! the fewest still ones, by chains -/
def xom (a b : Option Nat) : Option Nat := match a with
  | none => b
  | some x => match b with
    | none => some x
    | some y => some (min x y)
def xoa (a b : Option Nat) : Option Nat := match a with
  | none => none
  | some x => match b with
    | none => none
    | some y => some (x + y)
theorem xSRo : xSR xom xoa none (some 0) := by
  refine ⟨fun a b c => ?_, fun a => ?_, fun a => rfl, fun a b c => ?_, fun a b => ?_, fun a => ?_, fun a => ?_, fun a b c => ?_⟩
  · cases a <;> cases b <;> cases c <;> first | rfl | (show some _ = some _; rw [Nat.min_assoc])
  · cases a <;> rfl
  · cases a <;> cases b <;> cases c <;> first | rfl | (show some _ = some _; rw [Nat.add_assoc])
  · cases a <;> cases b <;> first | rfl | (show some _ = some _; rw [Nat.add_comm])
  · cases a <;> first | rfl | (show some _ = some _; rw [Nat.zero_add])
  · cases a <;> rfl
  · cases a <;> cases b <;> cases c <;> first | rfl | (show some _ = some _; rw [Nat.add_min_add_left])
/-- sums of 0 and sums of naught go together -/
theorem xsmn_o {ok : Nat → Bool} {W Z : Nat → Nat} (h0 : ∀ t, W t = 0 → Z t = 1000) (h1 : ∀ t, W t ≠ 0 → Z t < 1000) : ∀ n, (xsmn ok W n = 0 ∧ xsg xom none (fun t => bif ok t then (if W t = 0 then none else some (Z t)) else none) n = none ∧ xmnn ok Z n = 1000) ∨ (xsmn ok W n ≠ 0 ∧ xsg xom none (fun t => bif ok t then (if W t = 0 then none else some (Z t)) else none) n = some (xmnn ok Z n) ∧ xmnn ok Z n < 1000)
  | 0 => Or.inl ⟨rfl, rfl, rfl⟩
  | n + 1 => by
    rw [xsmn_s, xsg_s, xmnn_s]
    cases eo : ok n with
    | false =>
      rcases xsmn_o (ok := ok) h0 h1 n with ⟨a1, a2, a3⟩ | ⟨a1, a2, a3⟩
      · exact Or.inl ⟨a1, by rw [a2]; rfl, a3⟩
      · exact Or.inr ⟨a1, by rw [a2]; rfl, a3⟩
    | true =>
      by_cases ew : W n = 0
      · have ez := h0 n ew
        rcases xsmn_o (ok := ok) h0 h1 n with ⟨a1, a2, a3⟩ | ⟨a1, a2, a3⟩
        · refine Or.inl ⟨?_, ?_, ?_⟩
          · show xsmn ok W n + W n = 0
            omega
          · show xom _ (if W n = 0 then none else some (Z n)) = none
            rw [a2, if_pos ew]
            rfl
          · show min (xmnn ok Z n) (Z n) = 1000
            omega
        · refine Or.inr ⟨?_, ?_, ?_⟩
          · show xsmn ok W n + W n ≠ 0
            omega
          · show xom _ (if W n = 0 then none else some (Z n)) = some (min (xmnn ok Z n) (Z n))
            rw [a2, if_pos ew, show min (xmnn ok Z n) (Z n) = xmnn ok Z n by omega]
            rfl
          · show min (xmnn ok Z n) (Z n) < 1000
            omega
      · have ez := h1 n ew
        rcases xsmn_o (ok := ok) h0 h1 n with ⟨a1, a2, a3⟩ | ⟨a1, a2, a3⟩
        · refine Or.inr ⟨?_, ?_, ?_⟩
          · show xsmn ok W n + W n ≠ 0
            omega
          · show xom _ (if W n = 0 then none else some (Z n)) = some (min (xmnn ok Z n) (Z n))
            rw [a2, if_neg ew, show min (xmnn ok Z n) (Z n) = Z n by omega]
            rfl
          · show min (xmnn ok Z n) (Z n) < 1000
            omega
        · refine Or.inr ⟨?_, ?_, ?_⟩
          · show xsmn ok W n + W n ≠ 0
            omega
          · show xom _ (if W n = 0 then none else some (Z n)) = some (min (xmnn ok Z n) (Z n))
            rw [a2, if_neg ew]
            rfl
          · show min (xmnn ok Z n) (Z n) < 1000
            omega
theorem xmnn_at {ok : Nat → Bool} {Z : Nat → Nat} {t : Nat} (ht : ok t = true) : ∀ n, t < n → xmnn ok Z n ≤ Z t
  | 0, h => absurd h (by omega)
  | n + 1, h => by
    rw [xmnn_s]
    by_cases e : t = n
    · rw [← e, ht]
      show min _ _ ≤ _
      omega
    · have := xmnn_at ht n (by omega) (Z := Z)
      cases ok n
      · exact this
      · show min _ _ ≤ _
        omega
theorem xsmn_ex {ok : Nat → Bool} {W : Nat → Nat} : ∀ n, xsmn ok W n ≠ 0 → ∃ t, t < n ∧ ok t = true ∧ W t ≠ 0
  | 0, h => absurd rfl h
  | n + 1, h => by
    rw [xsmn_s] at h
    cases eo : ok n with
    | false =>
      rw [eo] at h
      obtain ⟨t, h1, h2, h3⟩ := xsmn_ex n h
      exact ⟨t, by omega, h2, h3⟩
    | true =>
      rw [eo] at h
      by_cases e : W n = 0
      · obtain ⟨t, h1, h2, h3⟩ := xsmn_ex n (W := W) (ok := ok) (fun z => h (by show xsmn ok W n + W n = 0; omega))
        exact ⟨t, by omega, h2, h3⟩
      · exact ⟨n, by omega, eo, e⟩
section
variable {h tx : Nat → Int32} {T κ δ n : Nat}
theorem xZ_lt : ∀ u p s, xW h tx T κ δ n (u + 1) p s ≠ 0 → xZ h tx T κ δ n (u + 1) p s ≤ u + 1
  | 0, p, s, hw => by
    rw [xZ_u]
    unfold xZv
    rw [if_neg hw]
    cases e : xhei κ δ n p with
    | none =>
      show 0 + _ ≤ _
      split <;> omega
    | some q =>
      show xmnn _ (xZ h tx T κ δ n 0 q) 6 + _ ≤ _
      have hw2 := hw
      rw [xW_u, e] at hw2
      have hs : xsmn (xok h tx T κ q s) (xW h tx T κ δ n 0 q) 6 ≠ 0 := fun z => hw2 (by unfold xWv; cases xhb h tx T κ δ p s; exact z; rfl)
      obtain ⟨t, h1, h2, h3⟩ := xsmn_ex 6 hs
      have := xmnn_at h2 6 h1 (Z := xZ h tx T κ δ n 0 q)
      have z0 : xZ h tx T κ δ n 0 q t = 0 := rfl
      split <;> omega
  | u + 1, p, s, hw => by
    rw [xZ_u]
    unfold xZv
    rw [if_neg hw]
    cases e : xhei κ δ n p with
    | none =>
      show 0 + _ ≤ _
      split <;> omega
    | some q =>
      show xmnn _ (xZ h tx T κ δ n (u + 1) q) 6 + _ ≤ _
      have hw2 := hw
      rw [xW_u, e] at hw2
      have hs : xsmn (xok h tx T κ q s) (xW h tx T κ δ n (u + 1) q) 6 ≠ 0 := fun z => hw2 (by unfold xWv; cases xhb h tx T κ δ p s; exact z; rfl)
      obtain ⟨t, h1, h2, h3⟩ := xsmn_ex 6 hs
      have := xmnn_at h2 6 h1 (Z := xZ h tx T κ δ n (u + 1) q)
      have := xZ_lt u q t h3
      split <;> omega
theorem xZ_0 {p s : Nat} (hw : xW h tx T κ δ n (n + 2) p s = 0) : xZ h tx T κ δ n (n + 2) p s = 1000 := by
  rw [xZ_e]
  unfold xZv
  rw [if_pos hw]
/-- none where no row goes on, else the fewest -/
def xWo (h tx : Nat → Int32) (T κ δ n p s : Nat) : Option Nat := if xW h tx T κ δ n (n + 2) p s = 0 then none else some (xZ h tx T κ δ n (n + 2) p s)
theorem xWo_h (hn : n ≤ 5) : ∀ p, p < n → ∀ s, s < 6 → xWo h tx T κ δ n p s = bif xhb h tx T κ δ p s then none else xoa (some (if s = 0 then 1 else 0)) (xVh xom none (some 0) h tx T κ δ n (xWo h tx T κ δ n) p s) := by
  intro p _ s _
  have hz0 : ∀ q t, xW h tx T κ δ n (n + 2) q t = 0 → xZ h tx T κ δ n (n + 2) q t = 1000 := fun q t => xZ_0
  have hz1 : ∀ q t, xW h tx T κ δ n (n + 2) q t ≠ 0 → xZ h tx T κ δ n (n + 2) q t < 1000 := fun q t z => by have z9 : xZ h tx T κ δ n (n + 2) q t ≤ n + 1 + 1 := xZ_lt (n + 1) q t z; omega
  have hl : xWo h tx T κ δ n p s = if xWv (xhb h tx T κ δ p s) (xwo h tx T κ (xW h tx T κ δ n (n + 2)) (xhei κ δ n p) s) = 0 then none else some (xZv (xWv (xhb h tx T κ δ p s) (xwo h tx T κ (xW h tx T κ δ n (n + 2)) (xhei κ δ n p) s)) s (xzo h tx T κ (xZ h tx T κ δ n (n + 2)) (xhei κ δ n p) s)) := by
    unfold xWo
    rw [xZ_e, ← xW_e]
  rw [hl]
  cases eb : xhb h tx T κ δ p s with
  | true => rfl
  | false =>
    show (if xwo h tx T κ (xW h tx T κ δ n (n + 2)) (xhei κ δ n p) s = 0 then none else some (xZv (xwo h tx T κ (xW h tx T κ δ n (n + 2)) (xhei κ δ n p) s) s (xzo h tx T κ (xZ h tx T κ δ n (n + 2)) (xhei κ δ n p) s))) = xoa (some (if s = 0 then 1 else 0)) (xVh xom none (some 0) h tx T κ δ n (xWo h tx T κ δ n) p s)
    unfold xVh
    cases e : xhei κ δ n p with
    | none =>
      show some (0 + _) = some _
      rw [Nat.add_zero, Nat.zero_add]
    | some q =>
      show (if xsmn (xok h tx T κ q s) (xW h tx T κ δ n (n + 2) q) 6 = 0 then none else some (xZv (xsmn (xok h tx T κ q s) (xW h tx T κ δ n (n + 2) q) 6) s (xmnn (xok h tx T κ q s) (xZ h tx T κ δ n (n + 2) q) 6))) = xoa _ (xsg xom none (fun t => bif xok h tx T κ q s t then (if xW h tx T κ δ n (n + 2) q t = 0 then none else some (xZ h tx T κ δ n (n + 2) q t)) else none) 6)
      rcases xsmn_o (ok := xok h tx T κ q s) (hz0 q) (hz1 q) 6 with ⟨a1, a2, a3⟩ | ⟨a1, a2, a3⟩
      · rw [if_pos a1, a2]
        rfl
      · rw [if_neg a1, a2]
        unfold xZv
        rw [if_neg a1, Nat.add_comm]
        rfl
theorem xfw_sg {p : Nat → Bool} {st : Nat → Nat} : ∀ n, xfw p st n = xsg xom none (fun c => bif p c then some (st c) else none) n
  | 0 => rfl
  | n + 1 => by
    rw [xfw_s, xsg_s, xfw_sg n]
    cases p n with
    | false =>
      cases xsg xom none (fun c => bif p c then some (st c) else none) n <;> rfl
    | true =>
      cases xsg xom none (fun c => bif p c then some (st c) else none) n with
      | none => rfl
      | some f =>
        show some (if st n < f then st n else f) = some (min f (st n))
        congr 1
        split <;> omega
theorem xpg_oz {p : Nat → Bool} {w : Nat → Bool} : ∀ n, xpg xoa (some 0) (fun i => bif p i then none else some (if w i = true then 1 else 0)) n = bif decide (xfst p n = none) then some (xcnt w n) else none
  | 0 => rfl
  | n + 1 => by
    rw [xpg_s, xpg_oz n]
    by_cases e : xfst p n = none
    · rw [decide_eq_true e]
      cases ep : p n with
      | true =>
        rw [decide_eq_false (by rw [xfst_c e ep]; exact fun z => by cases z)]
        rfl
      | false =>
        rw [decide_eq_true (xfst_n e ep), xcnt_s]
        cases w n <;> rfl
    · rw [decide_eq_false e, decide_eq_false (by rw [xfst_k e]; exact e)]
      rfl
theorem xFw_pg (hn : n ≤ 5) : ∀ j, j ≤ n → xoa (if xPr κ δ n (xW h tx T κ δ n (n + 2)) j = 0 then none else some (xFw κ δ n (xZ h tx T κ δ n (n + 2)) j)) (xpg xoa (some 0) (fun i => bif xhd κ δ i then xsg xom none (xWo h tx T κ δ n i) 6 else some 0) (n - j)) = xpg xoa (some 0) (fun i => bif xhd κ δ i then xsg xom none (xWo h tx T κ δ n i) 6 else some 0) n
  | 0, _ => by
    show xoa (some 0) _ = _
    exact xSRo.2.2.2.2.2.1 _
  | j + 1, hj => by
    have hz0 : ∀ q t, xW h tx T κ δ n (n + 2) q t = 0 → xZ h tx T κ δ n (n + 2) q t = 1000 := fun q t => xZ_0
    have hz1 : ∀ q t, xW h tx T κ δ n (n + 2) q t ≠ 0 → xZ h tx T κ δ n (n + 2) q t < 1000 := fun q t z => by have z9 : xZ h tx T κ δ n (n + 2) q t ≤ n + 1 + 1 := xZ_lt (n + 1) q t z; omega
    rw [← xFw_pg hn j (by omega), show n - j = n - (j + 1) + 1 by omega, xpg_s]
    have e1 : xPr κ δ n (xW h tx T κ δ n (n + 2)) (j + 1) = bif xhd κ δ (n - 1 - j) then xPr κ δ n (xW h tx T κ δ n (n + 2)) j * xsmn (fun _ => true) (xW h tx T κ δ n (n + 2) (n - 1 - j)) 6 else xPr κ δ n (xW h tx T κ δ n (n + 2)) j := rfl
    have e2 : xFw κ δ n (xZ h tx T κ δ n (n + 2)) (j + 1) = bif xhd κ δ (n - 1 - j) then xFw κ δ n (xZ h tx T κ δ n (n + 2)) j + xmnn (fun _ => true) (xZ h tx T κ δ n (n + 2) (n - 1 - j)) 6 else xFw κ δ n (xZ h tx T κ δ n (n + 2)) j := rfl
    rw [e1, e2, show n - 1 - j = n - (j + 1) by omega]
    cases xhd κ δ (n - (j + 1)) with
    | false =>
      show xoa (if xPr κ δ n _ j = 0 then none else some (xFw κ δ n _ j)) _ = xoa (if xPr κ δ n _ j = 0 then none else some (xFw κ δ n _ j)) (xoa _ (some 0))
      rw [xSRo.2.2.2.2.1 _ (some 0), xSRo.2.2.2.2.2.1]
    | true =>
      show xoa (if xPr κ δ n _ j * xsmn (fun _ => true) (xW h tx T κ δ n (n + 2) (n - (j + 1))) 6 = 0 then none else some (xFw κ δ n _ j + xmnn (fun _ => true) (xZ h tx T κ δ n (n + 2) (n - (j + 1))) 6)) _ = xoa (if xPr κ δ n _ j = 0 then none else some (xFw κ δ n _ j)) (xoa _ (xsg xom none (xWo h tx T κ δ n (n - (j + 1))) 6))
      have hs := xsmn_o (ok := fun _ => true) (hz0 (n - (j + 1))) (hz1 (n - (j + 1))) 6
      have es : xsg xom none (xWo h tx T κ δ n (n - (j + 1))) 6 = xsg xom none (fun t => bif (fun _ => true) t then (if xW h tx T κ δ n (n + 2) (n - (j + 1)) t = 0 then none else some (xZ h tx T κ δ n (n + 2) (n - (j + 1)) t)) else none) 6 := rfl
      rw [es, xSRo.2.2.2.2.1 (xpg _ _ _ _), ← xSRo.2.2.2.1]
      congr 1
      by_cases ep : xPr κ δ n (xW h tx T κ δ n (n + 2)) j = 0
      · rw [if_pos ep, if_pos (by rw [ep, Nat.zero_mul])]
        rfl
      · rw [if_neg ep]
        rcases hs with ⟨a1, a2, a3⟩ | ⟨a1, a2, a3⟩
        · rw [if_pos (by rw [a1, Nat.mul_zero]), a2]
          rfl
        · rw [if_neg (Nat.mul_ne_zero ep a1), a2]
          rfl
theorem xFw_still (hn : n ≤ 5) : (if xPr κ δ n (xW h tx T κ δ n (n + 2)) n = 0 then none else some (xFw κ δ n (xZ h tx T κ δ n (n + 2)) n)) = xfw (xnbc h tx T κ δ n) (fun c => xcnt (fun i => decide (xd6 n c i = 0)) n) (6 ^ n) := by
  have e := xFw_pg (h := h) (tx := tx) (T := T) (κ := κ) (δ := δ) hn n (Nat.le_refl n)
  rw [Nat.sub_self, show xpg xoa (some 0) (fun i => bif xhd κ δ i then xsg xom none (xWo h tx T κ δ n i) 6 else some 0) 0 = some 0 from rfl, xSRo.2.2.2.2.1 _ (some 0), xSRo.2.2.2.2.2.1] at e
  rw [e, ← xid xSRo (ω := fun _ s => some (if s = 0 then 1 else 0)) (xWo_h hn), xfw_sg]
  refine xsg_c _ _ (6 ^ n) (fun c _ => ?_)
  have e2 := xpg_oz (p := fun i => !decide (xfb tx T (nI (xd6 n c i)) (xshw h κ δ (xd6 n c) i) = none)) (w := fun i => decide (xd6 n c i = 0)) n
  rw [← show xnbc h tx T κ δ n c = decide (xfst (fun i => !decide (xfb tx T (nI (xd6 n c i)) (xshw h κ δ (xd6 n c) i) = none)) n = none) from rfl] at e2
  rw [← e2]
  refine xpg_c _ _ n (fun i _ => ?_)
  unfold xwF xbk
  cases !decide (xfb tx T (nI (xd6 n c i)) (xshw h κ δ (xd6 n c) i) = none) with
  | true => rfl
  | false =>
    show some (if xd6 n c i = 0 then 1 else 0) = some (if decide (xd6 n c i = 0) = true then 1 else 0)
    by_cases z : xd6 n c i = 0 <;> simp [z]
end

