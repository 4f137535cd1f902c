/-! the count: numbers -/
theorem xSRn : xSR (fun a b : Nat => a + b) (fun a b : Nat => a * b) 0 1 := ⟨Nat.add_assoc, Nat.add_zero, Nat.zero_add, Nat.mul_assoc, Nat.mul_comm, Nat.one_mul, Nat.mul_zero, Nat.mul_add⟩
theorem xsmn_g {p : Nat → Bool} {v : Nat → Nat} : ∀ n, xsmn p v n = xsg (fun a b : Nat => a + b) 0 (fun t => bif p t then v t else 0) n
  | 0 => rfl
  | n + 1 => by
    rw [xsmn_s, xsg_s, xsmn_g n]
    cases p n <;> rfl
theorem xsmn_1 {v : Nat → Nat} (n : Nat) : xsmn (fun _ => true) v n = xsg (fun a b : Nat => a + b) 0 v n := xsmn_g n
theorem xcnt_g {p : Nat → Bool} : ∀ n, xcnt p n = xsg (fun a b : Nat => a + b) 0 (fun c => bif p c then 1 else 0) n
  | 0 => rfl
  | n + 1 => by
    rw [xcnt_s, xsg_s, xcnt_g n]
    cases p n <;> rfl
theorem xpg_01 {p : Nat → Bool} {w : Nat → Nat} : ∀ n, (∀ i, i < n → p i = false → w i = 1) → xpg (fun a b : Nat => a * b) 1 (fun i => bif p i then 0 else w i) n = bif decide (xfst p n = none) then 1 else 0
  | 0, _ => rfl
  | n + 1, hw => by
    rw [xpg_s, xpg_01 n (fun i hi => hw i (by omega))]
    by_cases e : xfst p n = none
    · rw [decide_eq_true e]
      cases ep : p n with
      | true =>
        rw [decide_eq_false (by rw [xfst_c e ep]; exact fun z => by cases z)]
        rfl
      | false =>
        rw [decide_eq_true (xfst_n e ep), hw n (by omega) ep]
        rfl
    · rw [decide_eq_false e, decide_eq_false (by rw [xfst_k e]; exact e)]
      show 0 * _ = 0
      rw [Nat.zero_mul]
section
variable {h tx : Nat → Int32} {T κ δ n : Nat}
/-- the doings of a code break no term -/
def xnbc (h tx : Nat → Int32) (T κ δ n : Nat) : Nat → Bool := fun c => decide (xfst (fun i => !decide (xfb tx T (nI (xd6 n c i)) (xshw h κ δ (xd6 n c) i) = none)) n = none)
theorem xPr_pg {W : Nat → Nat → Nat} : ∀ j, j ≤ n → xPr κ δ n W j * xpg (fun a b : Nat => a * b) 1 (fun i => bif xhd κ δ i then xsg (fun a b : Nat => a + b) 0 (W i) 6 else 1) (n - j) = xpg (fun a b : Nat => a * b) 1 (fun i => bif xhd κ δ i then xsg (fun a b : Nat => a + b) 0 (W i) 6 else 1) n
  | 0, _ => Nat.one_mul _
  | j + 1, hj => by
    rw [← xPr_pg j (by omega), show n - j = n - (j + 1) + 1 by omega, xpg_s]
    show (bif xhd κ δ (n - 1 - j) then xPr κ δ n W j * xsmn (fun _ => true) (W (n - 1 - j)) 6 else xPr κ δ n W j) * _ = xPr κ δ n W j * (_ * (bif xhd κ δ (n - (j + 1)) then _ else 1))
    rw [show n - 1 - j = n - (j + 1) by omega, xsmn_1]
    cases xhd κ δ (n - (j + 1))
    · show xPr κ δ n W j * _ = xPr κ δ n W j * (_ * 1)
      rw [Nat.mul_one]
    · show xPr κ δ n W j * _ * _ = xPr κ δ n W j * (_ * _)
      rw [Nat.mul_assoc, Nat.mul_comm (xsg _ _ _ 6)]
      rfl
theorem xW_h : ∀ p, p < n → ∀ s, s < 6 → xW h tx T κ δ n (n + 2) p s = bif xhb h tx T κ δ p s then 0 else 1 * xVh (fun a b : Nat => a + b) 0 1 h tx T κ δ n (xW h tx T κ δ n (n + 2)) p s := by
  intro p _ s _
  rw [xW_e, Nat.one_mul]
  unfold xWv xVh
  cases xhb h tx T κ δ p s
  · cases xhei κ δ n p with
    | none => rfl
    | some q => exact xsmn_g 6
  · rfl
theorem xPr_cnt : xPr κ δ n (xW h tx T κ δ n (n + 2)) n = xcnt (xnbc h tx T κ δ n) (6 ^ n) := by
  have e := xPr_pg (κ := κ) (δ := δ) (n := n) (W := xW h tx T κ δ n (n + 2)) n (Nat.le_refl n)
  rw [Nat.sub_self, show xpg (fun a b : Nat => a * b) 1 (fun i => bif xhd κ δ i then xsg (fun a b : Nat => a + b) 0 (xW h tx T κ δ n (n + 2) i) 6 else 1) 0 = 1 from rfl, Nat.mul_one] at e
  rw [e, ← xid xSRn (ω := fun _ _ => 1) xW_h, xcnt_g]
  refine xsg_c _ _ (6 ^ n) (fun c _ => ?_)
  exact xpg_01 n (fun _ _ _ => rfl)
theorem xPr_le (hn : n ≤ 5) : xPr κ δ n (xW h tx T κ δ n (n + 2)) n ≤ 7776 := by
  rw [xPr_cnt]
  exact Nat.le_trans (xcnt_le _ _) (Nat.le_trans (Nat.pow_le_pow_right (n := 6) (by decide) hn) (by decide))
end

