/-! turns: the first step of the first row that goes through -/
theorem xfst_ad {P : Nat → Bool} {a : Nat} (h : xfst P a = none) : ∀ M, xfst P (a + M) = (xfst (fun c => P (a + c)) M).map (fun c => a + c)
  | 0 => by rw [Nat.add_zero, h]; rfl
  | M + 1 => by
    rw [show a + (M + 1) = a + M + 1 from rfl, xfst_s, xfst_s, xfst_ad h M]
    cases xfst (fun c => P (a + c)) M with
    | some c => rfl
    | none =>
      show (bif P (a + M) then some (a + M) else none) = Option.map (fun c => a + c) (bif P (a + M) then some M else none)
      cases P (a + M) <;> rfl
theorem xfst_bl {P : Nat → Bool} {M : Nat} (hM : 0 < M) : ∀ k, (xfst P (k * M)).map (fun c => c / M) = xfst (fun s => (xfst (fun c => P (s * M + c)) M).isSome) k
  | 0 => by rw [Nat.zero_mul]; rfl
  | k + 1 => by
    have ih := xfst_bl (P := P) hM k
    rw [Nat.succ_mul, xfst_s, ← ih]
    cases e : xfst P (k * M) with
    | some d =>
      rw [xfst_up e M]
      rfl
    | none =>
      rw [xfst_ad e M]
      show _ = bif (xfst (fun c => P (k * M + c)) M).isSome then some k else none
      cases e2 : xfst (fun c => P (k * M + c)) M with
      | none => rfl
      | some c =>
        have hc := (xfst_lt e2).1
        show some ((k * M + c) / M) = some k
        rw [Nat.mul_comm k M, Nat.mul_add_div hM, Nat.div_eq_of_lt hc, Nat.add_zero]
theorem xfst_and {Q : Nat → Bool} {a : Bool} : ∀ n, (xfst (fun c => a && Q c) n).isSome = (a && (xfst Q n).isSome)
  | 0 => by cases a <;> rfl
  | n + 1 => by
    have ih := xfst_and (Q := Q) (a := a) n
    rw [xfst_s, xfst_s]
    cases a with
    | true =>
      rw [show (fun c => true && Q c) = Q from funext (fun c => Bool.true_and _)]
      rw [Bool.true_and, Bool.true_and]
    | false =>
      cases e : xfst (fun c => false && Q c) n with
      | some d => rw [e] at ih; cases ih
      | none => rfl
theorem xd6_h {k s c : Nat} (hs : s < 6) (hc : c < 6 ^ k) : xd6 (k + 1) (s * 6 ^ k + c) 0 = s := by
  unfold xd6
  rw [show k + 1 - 1 - 0 = k by omega, Nat.mul_comm s, Nat.mul_add_div (Nat.pow_pos (by decide)), Nat.div_eq_of_lt hc]
  omega
theorem xd6_t {k s c i : Nat} (hi : i < k) : xd6 (k + 1) (s * 6 ^ k + c) (i + 1) = xd6 k c i := by
  unfold xd6
  rw [show k + 1 - 1 - (i + 1) = k - 1 - i by omega]
  have e : 6 ^ k = 6 ^ (k - 1 - i) * (6 * 6 ^ i) := by
    rw [← Nat.mul_assoc, ← Nat.pow_succ, ← Nat.pow_add]
    congr 1
    omega
  rw [e, show s * (6 ^ (k - 1 - i) * (6 * 6 ^ i)) = 6 ^ (k - 1 - i) * (6 * (s * 6 ^ i)) from by
    rw [Nat.mul_left_comm, Nat.mul_left_comm s 6], Nat.mul_add_div (Nat.pow_pos (by decide))]
  omega
section
variable {safe : (Nat → Nat) → Nat → Bool} {n : Nat}
def xex (n t : Nat) (F : Nat → Nat) (c i : Nat) : Nat := if i < t then F i else xd6 (n - t) c (i - t)
def xPt (safe : (Nat → Nat) → Nat → Bool) (n t : Nat) (F : Nat → Nat) (c : Nat) : Bool := decide (xfst (fun i => !safe (xex n t F c) (t + i)) (n - t) = none)
theorem xPt_s (hs : ∀ F F' t, (∀ j, j ≤ t → F j = F' j) → safe F t = safe F' t) {t s c : Nat} {F : Nat → Nat} (ht : t < n) (h6 : s < 6) (hc : c < 6 ^ (n - t - 1)) : xPt safe n t F (s * 6 ^ (n - t - 1) + c) = (safe (fup F t s) t && xPt safe n (t + 1) (fup F t s) c) := by
  obtain ⟨k, hk⟩ : ∃ k, n - t = k + 1 := ⟨n - t - 1, by omega⟩
  have hk1 : n - t - 1 = k := by omega
  have hk2 : n - (t + 1) = k := by omega
  rw [hk1] at hc ⊢
  have e0 : xex n t F (s * 6 ^ k + c) t = s := by
    unfold xex
    rw [if_neg (by omega), hk, show t - t = 0 by omega]
    exact xd6_h h6 hc
  have eq : ∀ i, i ≤ t + k → xex n t F (s * 6 ^ k + c) i = xex n (t + 1) (fup F t s) c i := fun i hi => by
    by_cases h1 : i < t
    · unfold xex
      rw [if_pos h1, if_pos (by omega)]
      exact (if_neg (by omega)).symm
    · by_cases h2 : i = t
      · rw [h2, e0]
        unfold xex
        rw [if_pos (by omega)]
        exact (if_pos rfl).symm
      · unfold xex
        rw [if_neg h1, if_neg (by omega), hk, hk2, show i - t = (i - (t + 1)) + 1 by omega]
        exact xd6_t (by omega)
  have a0 : safe (xex n t F (s * 6 ^ k + c)) t = safe (fup F t s) t := hs _ _ t (fun j hj => by
    by_cases h2 : j = t
    · rw [h2, e0]
      exact (if_pos rfl).symm
    · unfold xex
      rw [if_pos (by omega)]
      exact (if_neg h2).symm)
  have a1 : ∀ i, i < k → safe (xex n t F (s * 6 ^ k + c)) (t + (i + 1)) = safe (xex n (t + 1) (fup F t s) c) (t + 1 + i) := fun i hi => by
    rw [show t + (i + 1) = t + 1 + i by omega]
    exact hs _ _ _ (fun j hj => eq j (by omega))
  unfold xPt
  rw [hk, hk2]
  cases hb : safe (fup F t s) t with
  | false =>
    rw [Bool.false_and]
    refine decide_eq_false (fun z => ?_)
    have := xfst_none.mp z 0 (by omega)
    rw [Nat.add_zero, a0, hb] at this
    cases this
  | true =>
    rw [Bool.true_and]
    refine decide_eq_decide.mpr ⟨fun z => xfst_none.mpr (fun i hi => ?_), fun z => xfst_none.mpr (fun i hi => ?_)⟩
    · have := xfst_none.mp z (i + 1) (by omega)
      rw [a1 i hi] at this
      exact this
    · cases i with
      | zero =>
        show (!safe _ (t + 0)) = false
        rw [Nat.add_zero, a0, hb]
        rfl
      | succ i =>
        rw [a1 i (by omega)]
        exact xfst_none.mp z i (by omega)
theorem xlp_c (hs : ∀ F F' t, (∀ j, j ≤ t → F j = F' j) → safe F t = safe F' t) : ∀ u t F, t < n → n ≤ t + u → xlp safe n u t F = (xfst (xPt safe n t F) (6 ^ (n - t))).map (fun c => c / 6 ^ (n - t - 1))
  | 0, t, F, ht, hu => absurd hu (by omega)
  | u + 1, t, F, ht, hu => by
    have hM : 0 < 6 ^ (n - t - 1) := Nat.pow_pos (by decide)
    rw [show 6 ^ (n - t) = 6 * 6 ^ (n - t - 1) from by rw [← Nat.pow_succ']; congr 1; omega, xfst_bl hM]
    show xfst (fun s => safe (fup F t s) t && (decide (n ≤ t + 1) || (xlp safe n u (t + 1) (fup F t s)).isSome)) 6 = _
    refine xfst_congr (fun s h6 => ?_)
    have e1 : (xfst (fun c => xPt safe n t F (s * 6 ^ (n - t - 1) + c)) (6 ^ (n - t - 1))) = xfst (fun c => safe (fup F t s) t && xPt safe n (t + 1) (fup F t s) c) (6 ^ (n - t - 1)) := xfst_congr (fun c hc => xPt_s hs ht h6 hc)
    rw [e1, xfst_and]
    congr 1
    by_cases hn : n ≤ t + 1
    · rw [decide_eq_true hn, Bool.true_or, show n - t - 1 = 0 by omega, Nat.pow_zero]
      have e2 : xPt safe n (t + 1) (fup F t s) 0 = true := by
        unfold xPt
        rw [show n - (t + 1) = 0 by omega]
        rfl
      show true = (bif xPt safe n (t + 1) (fup F t s) 0 then some 0 else none).isSome
      rw [e2]
      rfl
    · rw [decide_eq_false hn, Bool.false_or, xlp_c hs u (t + 1) (fup F t s) (by omega) (by omega), show n - (t + 1) = n - t - 1 by omega]
      cases xfst (xPt safe n (t + 1) (fup F t s)) (6 ^ (n - t - 1)) <;> rfl
end
section
variable {h tx : Nat → Int32} {T G n : Nat} {Lw : Nat → Nat}
theorem xsafe_c : ∀ F F' t, (∀ j, j ≤ t → F j = F' j) → xsafe h tx T G Lw F t = xsafe h tx T G Lw F' t := by
  intro F F' t he
  unfold xsafe
  have : xfst (fun k => !decide (xfb tx T (nI (F t)) (xshw h (Lw k / 4) (Lw k % 4) F t) = none)) G = xfst (fun k => !decide (xfb tx T (nI (F' t)) (xshw h (Lw k / 4) (Lw k % 4) F' t) = none)) G := xfst_congr (fun k _ => by rw [he t (Nat.le_refl t), xshw_c he])
  rw [this]
theorem xlp_code (hn0 : 0 < n) (hn : n ≤ 3) : xlp (xsafe h tx T G Lw) n 3 0 (fun _ => 0) = (xfst (fun c => decide (xfst (fun i => !xsafe h tx T G Lw (xd6 n c) i) n = none)) (6 ^ n)).map (fun c => xd6 n c 0) := by
  rw [xlp_c xsafe_c 3 0 (fun _ => 0) hn0 (by omega), Nat.sub_zero]
  have e : ∀ c, xPt (xsafe h tx T G Lw) n 0 (fun _ => 0) c = decide (xfst (fun i => !xsafe h tx T G Lw (xd6 n c) i) n = none) := fun c => by
    unfold xPt
    have e2 : xex n 0 (fun _ => 0) c = xd6 n c := funext (fun i => by
      unfold xex
      rw [if_neg (Nat.not_lt_zero i), Nat.sub_zero, Nat.sub_zero])
    rw [e2, Nat.sub_zero]
    have e3 : (fun i => !xsafe h tx T G Lw (xd6 n c) (0 + i)) = (fun i => !xsafe h tx T G Lw (xd6 n c) i) := funext (fun i => by rw [Nat.zero_add])
    rw [e3]
  rw [show xPt (xsafe h tx T G Lw) n 0 (fun _ => 0) = fun c => decide (xfst (fun i => !xsafe h tx T G Lw (xd6 n c) i) n = none) from funext e]
  cases e4 : xfst (fun c => decide (xfst (fun i => !xsafe h tx T G Lw (xd6 n c) i) n = none)) (6 ^ n) with
  | none => rfl
  | some c =>
    have hc := (xfst_lt e4).1
    show some (c / 6 ^ (n - 1)) = some (xd6 n c 0)
    unfold xd6
    rw [show n - 1 - 0 = n - 1 by omega]
    have : c / 6 ^ (n - 1) < 6 := by
      rw [Nat.div_lt_iff_lt_mul (Nat.pow_pos (by decide)), ← Nat.pow_succ', show (n - 1).succ = n by omega]
      exact hc
    rw [Nat.mod_eq_of_lt this]
end

