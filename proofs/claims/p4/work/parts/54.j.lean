section
/-! rows that break no term, by chains: in any semiring -/
def xSR {R : Type} (ad mu : R → R → R) (z o : R) : Prop := (∀ a b c, ad (ad a b) c = ad a (ad b c)) ∧ (∀ a, ad a z = a) ∧ (∀ a, ad z a = a) ∧ (∀ a b c, mu (mu a b) c = mu a (mu b c)) ∧ (∀ a b, mu a b = mu b a) ∧ (∀ a, mu o a = a) ∧ (∀ a, mu a z = z) ∧ (∀ a b c, mu a (ad b c) = ad (mu a b) (mu a c))
section
variable {R : Type} (ad mu : R → R → R) (z o : R)
def xsg (f : Nat → R) (n : Nat) : R := Nat.rec (motive := fun _ => R) z (fun t c => ad c (f t)) n
def xpg (f : Nat → R) (n : Nat) : R := Nat.rec (motive := fun _ => R) o (fun t c => mu c (f t)) n
theorem xsg_s (f : Nat → R) (n : Nat) : xsg ad z f (n + 1) = ad (xsg ad z f n) (f n) := rfl
theorem xpg_s (f : Nat → R) (n : Nat) : xpg mu o f (n + 1) = mu (xpg mu o f n) (f n) := rfl
theorem xsg_c {f f' : Nat → R} : ∀ n, (∀ i, i < n → f i = f' i) → xsg ad z f n = xsg ad z f' n
  | 0, _ => rfl
  | n + 1, h => by rw [xsg_s, xsg_s, xsg_c n (fun i hi => h i (by omega)), h n (by omega)]
theorem xpg_c {f f' : Nat → R} : ∀ n, (∀ i, i < n → f i = f' i) → xpg mu o f n = xpg mu o f' n
  | 0, _ => rfl
  | n + 1, h => by rw [xpg_s, xpg_s, xpg_c n (fun i hi => h i (by omega)), h n (by omega)]
end
section
variable {R : Type} {ad mu : R → R → R} {z o : R}
theorem xsg_m (L : xSR ad mu z o) (a : R) (f : Nat → R) : ∀ n, mu a (xsg ad z f n) = xsg ad z (fun t => mu a (f t)) n
  | 0 => L.2.2.2.2.2.2.1 a
  | n + 1 => by rw [xsg_s, xsg_s, L.2.2.2.2.2.2.2 a, xsg_m L a f n]
theorem xsg_a (L : xSR ad mu z o) (f : Nat → R) (m : Nat) : ∀ n, xsg ad z f (m + n) = ad (xsg ad z f m) (xsg ad z (fun t => f (m + t)) n)
  | 0 => (L.2.1 _).symm
  | n + 1 => by
    rw [show m + (n + 1) = m + n + 1 from rfl, xsg_s, xsg_a L f m n, L.1]
    rfl
theorem xsg_n (L : xSR ad mu z o) (f : Nat → R) : ∀ m, xsg ad z f (m * 6) = xsg ad z (fun c => xsg ad z (fun s => f (c * 6 + s)) 6) m
  | 0 => by rw [Nat.zero_mul]; rfl
  | m + 1 => by
    rw [Nat.succ_mul, xsg_a L, xsg_n L f m]
    rfl
theorem xpg_o (L : xSR ad mu z o) {f : Nat → R} : ∀ n, (∀ i, i < n → f i = o) → xpg mu o f n = o
  | 0, _ => rfl
  | n + 1, h => by rw [xpg_s, xpg_o L n (fun i hi => h i (by omega)), h n (by omega), L.2.2.2.2.2.1]
/-- one factor taken out -/
theorem xpg_x (L : xSR ad mu z o) {f : Nat → R} {k : Nat} : ∀ n, k < n → xpg mu o f n = mu (f k) (xpg mu o (fun i => if i = k then o else f i) n)
  | 0, h => absurd h (by omega)
  | n + 1, h => by
    rw [xpg_s, xpg_s]
    by_cases e : k = n
    · subst e
      rw [if_pos rfl, xpg_c mu o (f' := fun i => if i = k then o else f i) k (fun i hi => (if_neg (by omega)).symm), L.2.2.2.2.1 _ (f k), L.2.2.2.2.1 _ o, L.2.2.2.2.2.1]
    · rw [if_neg (fun z => e z.symm), xpg_x L (k := k) n (by omega), L.2.2.2.1]
end
theorem xd6_a {m c s i : Nat} (hi : i < m) (hs : s < 6) : xd6 (m + 1) (c * 6 + s) i = xd6 m c i := by
  unfold xd6
  rw [show m + 1 - 1 - i = (m - 1 - i) + 1 by omega, Nat.pow_succ, Nat.mul_comm (6 ^ (m - 1 - i)) 6, ← Nat.div_div_eq_div_mul, show (c * 6 + s) / 6 = c by omega]
theorem xd6_b {m c s : Nat} (hs : s < 6) : xd6 (m + 1) (c * 6 + s) m = s := by
  unfold xd6
  rw [show m + 1 - 1 - m = 0 by omega, Nat.pow_zero, Nat.div_one]
  omega
section
variable {R : Type} (ad mu : R → R → R) (z o : R) (h tx : Nat → Int32) (T κ δ n : Nat) (ω Wg : Nat → Nat → R)
def xwF (i : Nat) (F : Nat → Nat) : R := bif xbk tx T (F i) (xshw h κ δ F i) then z else ω i (F i)
def xVg (i a : Nat) : R := xsg ad z (fun t => bif xok h tx T κ i a t then Wg i t else z) 6
def xVh (p s : Nat) : R := match xhei κ δ n p with
  | none => o
  | some q => xVg ad z h tx T κ Wg q s
def xeF (m i : Nat) (F : Nat → Nat) : R := if i < m then o else bif xhd κ δ i then xsg ad z (Wg i) 6 else match xsrc κ δ i with
  | none => o
  | some j => if j < m then xVg ad z h tx T κ Wg i (F j) else o
def xQg (m : Nat) : R := xsg ad z (fun c => mu (xpg mu o (fun i => xwF z h tx T κ δ ω i (xd6 m c)) m) (xpg mu o (fun i => xeF ad z o h tx T κ δ Wg m i (xd6 m c)) n)) (6 ^ m)
end
section
variable {R : Type} {ad mu : R → R → R} {z o : R} {h tx : Nat → Int32} {T κ δ n : Nat} {ω Wg : Nat → Nat → R}
theorem xshw_c {F F' : Nat → Nat} {i : Nat} (he : ∀ j, j ≤ i → F j = F' j) : xshw h κ δ F i = xshw h κ δ F' i := by
  unfold xshw
  cases e : xsrc κ δ i with
  | none => rfl
  | some j =>
    show xseen h κ i (F j) = xseen h κ i (F' j)
    rw [he j (xsrc_le e)]
theorem xwF_c {F F' : Nat → Nat} {i : Nat} (he : ∀ j, j ≤ i → F j = F' j) : xwF z h tx T κ δ ω i F = xwF z h tx T κ δ ω i F' := by
  unfold xwF
  rw [xshw_c he, he i (Nat.le_refl i)]
theorem xeF_c {F F' : Nat → Nat} {m i : Nat} (he : ∀ j, j < m → F j = F' j) : xeF ad z o h tx T κ δ Wg m i F = xeF ad z o h tx T κ δ Wg m i F' := by
  unfold xeF
  cases e : xsrc κ δ i with
  | none => rfl
  | some j =>
    dsimp only
    by_cases hj : j < m
    · rw [he j hj]
    · rw [if_neg hj, if_neg hj]
theorem xhd_n {i : Nat} (hh : xhd κ δ i = false) : ∃ j, xsrc κ δ i = some j ∧ j < i := by
  unfold xhd at hh
  cases e : xsrc κ δ i with
  | none => rw [e] at hh; cases hh
  | some j =>
    rw [e] at hh
    have h1 := of_decide_eq_false hh
    have h2 := xsrc_le e
    exact ⟨j, rfl, by omega⟩
/-- a place has one heir -/
theorem xsrc_inj {i j p : Nat} (h1 : xsrc κ δ i = some p) (h2 : xsrc κ δ j = some p) : i = j := by
  unfold xsrc at h1 h2
  by_cases k1 : κ = 1
  · rw [if_pos k1] at h1 h2
    split at h1
    · cases h1
    · split at h2
      · cases h2
      · have e1 := Option.some.inj h1
        have e2 := Option.some.inj h2
        omega
  · rw [if_neg k1] at h1 h2
    by_cases k4 : κ = 4
    · rw [if_pos k4] at h1 h2
      split at h1
      · cases h1
      · split at h1
        · cases h1
        · split at h2
          · cases h2
          · split at h2
            · cases h2
            · have e1 := Option.some.inj h1
              have e2 := Option.some.inj h2
              omega
    · rw [if_neg k4] at h1 h2
      by_cases k2 : κ = 2
      · rw [if_pos k2] at h1 h2
        split at h1
        · cases h1
        · split at h2
          · cases h2
          · have e1 := Option.some.inj h1
            have e2 := Option.some.inj h2
            omega
      · rw [if_neg k2] at h1 h2
        have e1 := Option.some.inj h1
        have e2 := Option.some.inj h2
        omega
theorem xhei_none {p i : Nat} (e : xhei κ δ n p = none) (hi : p < i) (hn : i < n) : xsrc κ δ i ≠ some p := fun z => by
  unfold xhei at e
  cases e1 : xfst (fun u => decide (xsrc κ δ (p + 1 + u) = some p)) (n - (p + 1)) with
  | none =>
    have q := of_decide_eq_false (xfst_none.mp e1 (i - (p + 1)) (by omega))
    rw [show p + 1 + (i - (p + 1)) = i by omega] at q
    exact q z
  | some u => rw [e1] at e; cases e
/-- the factors behind place m, its own heir's taken out -/
theorem xeF_x (L : xSR ad mu z o) {m s : Nat} {F : Nat → Nat} (hm : m < n) : xpg mu o (fun i => xeF ad z o h tx T κ δ Wg (m + 1) i (fup F m s)) n = mu (xVh ad z o h tx T κ δ n Wg m s) (xpg mu o (fun i => if i = m then o else xeF ad z o h tx T κ δ Wg m i F) n) := by
  have key : ∀ i, i < n → xsrc κ δ i ≠ some m ∨ i ≤ m → xeF ad z o h tx T κ δ Wg (m + 1) i (fup F m s) = if i = m then o else xeF ad z o h tx T κ δ Wg m i F := by
    intro i hi hs
    by_cases e : i = m
    · rw [if_pos e]
      unfold xeF
      rw [if_pos (by omega)]
    · rw [if_neg e]
      unfold xeF
      by_cases h1 : i < m
      · rw [if_pos h1, if_pos (by omega)]
      · rw [if_neg h1, if_neg (by omega)]
        cases hh : xhd κ δ i with
        | true => rfl
        | false =>
          obtain ⟨j, ej, hj⟩ := xhd_n hh
          rw [ej]
          show (if j < m + 1 then xVg ad z h tx T κ Wg i (fup F m s j) else o) = if j < m then xVg ad z h tx T κ Wg i (F j) else o
          have hjm : j ≠ m := fun q => by
            rcases hs with hs | hs
            · exact hs (by rw [ej, q])
            · omega
          by_cases h2 : j < m
          · rw [if_pos h2, if_pos (by omega), show fup F m s j = F j from if_neg hjm]
          · rw [if_neg h2, if_neg (by omega)]
  unfold xVh
  cases e : xhei κ δ n m with
  | none =>
    show _ = mu o _
    rw [L.2.2.2.2.2.1]
    refine xpg_c mu o n (fun i hi => key i hi ?_)
    by_cases hle : i ≤ m
    · exact Or.inr hle
    · exact Or.inl (xhei_none e (by omega) hi)
  | some q =>
    have hq := xhei_gt e
    show _ = mu (xVg ad z h tx T κ Wg q s) _
    rw [xpg_x L n hq.2.1]
    have hnq : xhd κ δ q = false := by
      unfold xhd
      rw [hq.2.2]
      exact decide_eq_false (by omega)
    have e1 : xeF ad z o h tx T κ δ Wg (m + 1) q (fup F m s) = xVg ad z h tx T κ Wg q s := by
      unfold xeF
      rw [if_neg (by omega), hnq, hq.2.2]
      show (if m < m + 1 then xVg ad z h tx T κ Wg q (fup F m s m) else o) = _
      rw [if_pos (by omega), show fup F m s m = s from if_pos rfl]
    rw [e1]
    congr 1
    refine xpg_c mu o n (fun i hi => ?_)
    by_cases eq : i = q
    · rw [if_pos eq, if_neg (by omega)]
      unfold xeF
      rw [eq, if_neg (by omega), hnq, hq.2.2]
      show o = if m < m then _ else o
      rw [if_neg (by omega)]
    · rw [if_neg eq]
      exact key i hi (Or.inl (fun w => eq (xsrc_inj w hq.2.2)))
theorem xeF_m (L : xSR ad mu z o) (hW : ∀ p, p < n → ∀ s, s < 6 → Wg p s = bif xhb h tx T κ δ p s then z else mu (ω p s) (xVh ad z o h tx T κ δ n Wg p s)) {m : Nat} {F : Nat → Nat} (hm : m < n) : xeF ad z o h tx T κ δ Wg m m F = xsg ad z (fun s => mu (xwF z h tx T κ δ ω m (fup F m s)) (xVh ad z o h tx T κ δ n Wg m s)) 6 := by
  have hz : ∀ a, mu z a = z := fun a => by rw [L.2.2.2.2.1]; exact L.2.2.2.2.2.2.1 a
  have hfm : ∀ s, fup F m s m = s := fun s => if_pos rfl
  unfold xeF
  rw [if_neg (by omega)]
  cases hh : xhd κ δ m with
  | true =>
    show xsg ad z (Wg m) 6 = _
    refine xsg_c ad z 6 (fun s hs => ?_)
    rw [hW m hm s hs]
    have e1 : xbk tx T (fup F m s m) (xshw h κ δ (fup F m s) m) = xhb h tx T κ δ m s := by
      unfold xhb
      rw [hh, hfm, Bool.true_and]
      unfold xshw
      unfold xhd at hh
      cases e : xsrc κ δ m with
      | none => rw [if_pos rfl]
      | some j =>
        rw [e] at hh
        have hj : j = m := of_decide_eq_true hh
        rw [if_neg (fun q => by cases q), hj]
        show xbk tx T s (xseen h κ m (fup F m s m)) = _
        rw [hfm]
    unfold xwF
    rw [e1, hfm]
    cases xhb h tx T κ δ m s with
    | true => exact (hz _).symm
    | false => rfl
  | false =>
    obtain ⟨j, ej, hj⟩ := xhd_n hh
    rw [ej]
    show (if j < m then xVg ad z h tx T κ Wg m (F j) else o) = _
    rw [if_pos hj]
    refine xsg_c ad z 6 (fun s hs => ?_)
    have e1 : xbk tx T (fup F m s m) (xshw h κ δ (fup F m s) m) = !xok h tx T κ m (F j) s := by
      unfold xok xshw
      rw [hfm, ej, Bool.not_not]
      show xbk tx T s (xseen h κ m (fup F m s j)) = _
      rw [show fup F m s j = F j from if_neg (by omega)]
    unfold xwF
    rw [e1, hfm, hW m hm s hs]
    have e2 : xhb h tx T κ δ m s = false := by unfold xhb; rw [hh]; rfl
    rw [e2]
    cases xok h tx T κ m (F j) s with
    | true => rfl
    | false => exact (hz _).symm
theorem xQg_s (L : xSR ad mu z o) (hW : ∀ p, p < n → ∀ s, s < 6 → Wg p s = bif xhb h tx T κ δ p s then z else mu (ω p s) (xVh ad z o h tx T κ δ n Wg p s)) {m : Nat} (hm : m < n) : xQg ad mu z o h tx T κ δ n ω Wg (m + 1) = xQg ad mu z o h tx T κ δ n ω Wg m := by
  unfold xQg
  rw [Nat.pow_succ, xsg_n L]
  refine xsg_c ad z (6 ^ m) (fun c _ => ?_)
  rw [xpg_x L n hm (f := fun i => xeF ad z o h tx T κ δ Wg m i (xd6 m c)), xeF_m L hW hm, ← L.2.2.2.1, L.2.2.2.2.1 (xpg mu o _ m) (xsg ad z _ 6), L.2.2.2.1, L.2.2.2.2.1 (xsg ad z _ 6), xsg_m L]
  refine xsg_c ad z 6 (fun s hs => ?_)
  have hag : ∀ j, j < m + 1 → xd6 (m + 1) (c * 6 + s) j = fup (xd6 m c) m s j := fun j hj => by
    by_cases e : j = m
    · rw [e, xd6_b hs, show fup (xd6 m c) m s m = s from if_pos rfl]
    · rw [xd6_a (by omega) hs, show fup (xd6 m c) m s j = xd6 m c j from if_neg e]
  rw [xpg_c mu o (f' := fun i => xeF ad z o h tx T κ δ Wg (m + 1) i (fup (xd6 m c) m s)) n (fun i _ => xeF_c hag), xeF_x L hm, xpg_s, xwF_c (F' := fup (xd6 m c) m s) (fun j hj => hag j (by omega)), xpg_c mu o (f' := fun i => xwF z h tx T κ δ ω i (xd6 m c)) m (fun i hi => xwF_c (fun j hj => xd6_a (by omega) hs))]
  generalize xpg mu o (fun i => xwF z h tx T κ δ ω i (xd6 m c)) m = P
  generalize xwF z h tx T κ δ ω m (fup (xd6 m c) m s) = w
  generalize xVh ad z o h tx T κ δ n Wg m s = v
  generalize xpg mu o (fun i => if i = m then o else xeF ad z o h tx T κ δ Wg m i (xd6 m c)) n = E
  rw [L.2.2.2.1 P w, ← L.2.2.2.1 w v E, L.2.2.2.2.1 (mu w v) E, ← L.2.2.2.1 P E]
theorem xid (L : xSR ad mu z o) (hW : ∀ p, p < n → ∀ s, s < 6 → Wg p s = bif xhb h tx T κ δ p s then z else mu (ω p s) (xVh ad z o h tx T κ δ n Wg p s)) : xsg ad z (fun c => xpg mu o (fun i => xwF z h tx T κ δ ω i (xd6 n c)) n) (6 ^ n) = xpg mu o (fun i => bif xhd κ δ i then xsg ad z (Wg i) 6 else o) n := by
  have all : ∀ u, u ≤ n → xQg ad mu z o h tx T κ δ n ω Wg n = xQg ad mu z o h tx T κ δ n ω Wg (n - u) := by
    intro u
    induction u with
    | zero => intro _; rfl
    | succ u ih =>
      intro hu
      rw [ih (by omega), show n - u = (n - (u + 1)) + 1 by omega, xQg_s L hW (by omega)]
  have h0 := all n (Nat.le_refl n)
  rw [Nat.sub_self] at h0
  have e1 : xQg ad mu z o h tx T κ δ n ω Wg n = xsg ad z (fun c => xpg mu o (fun i => xwF z h tx T κ δ ω i (xd6 n c)) n) (6 ^ n) := by
    unfold xQg
    refine xsg_c ad z (6 ^ n) (fun c _ => ?_)
    rw [xpg_o L (f := fun i => xeF ad z o h tx T κ δ Wg n i (xd6 n c)) n (fun i hi => by unfold xeF; rw [if_pos hi]), L.2.2.2.2.1, L.2.2.2.2.2.1]
  rw [← e1, h0]
  show ad z (mu o _) = _
  rw [L.2.2.1, L.2.2.2.2.2.1]
  refine xpg_c mu o n (fun i hi => ?_)
  unfold xeF
  rw [if_neg (by omega)]
  cases hh : xhd κ δ i with
  | true => rfl
  | false =>
    cases e : xsrc κ δ i with
    | none => rfl
    | some j =>
      rfl
end
end
section
/-! the count: numbers -/
theorem xSRn : xSR (fun a b : Nat => a + b) (fun a b : Nat => a * b) 0 1 := ⟨Nat.add_assoc, Nat.add_zero, Nat.zero_add, Nat.mul_assoc, Nat.mul_comm, Nat.one_mul, Nat.mul_zero, Nat.mul_add⟩
theorem xsmn_g {p : Nat → Bool} {v : Nat → Nat} : ∀ n, xsmn p v n = xsg (fun a b : Nat => a + b) 0 (fun t => bif p t then v t else 0) n
  | 0 => rfl
  | n + 1 => by
    rw [xsmn_s, xsg_s, xsmn_g n]
    cases p n <;> rfl
theorem xsmn_1 {v : Nat → Nat} (n : Nat) : xsmn (fun _ => true) v n = xsg (fun a b : Nat => a + b) 0 v n := xsmn_g n
theorem xcnt_g {p : Nat → Bool} : ∀ n, xcnt p n = xsg (fun a b : Nat => a + b) 0 (fun c => bif p c then 1 else 0) n
  | 0 => rfl
  | n + 1 => by
    rw [xcnt_s, xsg_s, xcnt_g n]
    cases p n <;> rfl
theorem xpg_01 {p : Nat → Bool} {w : Nat → Nat} : ∀ n, (∀ i, i < n → p i = false → w i = 1) → xpg (fun a b : Nat => a * b) 1 (fun i => bif p i then 0 else w i) n = bif decide (xfst p n = none) then 1 else 0
  | 0, _ => rfl
  | n + 1, hw => by
    rw [xpg_s, xpg_01 n (fun i hi => hw i (by omega))]
    by_cases e : xfst p n = none
    · rw [decide_eq_true e]
      cases ep : p n with
      | true =>
        rw [decide_eq_false (by rw [xfst_c e ep]; exact fun z => by cases z)]
        rfl
      | false =>
        rw [decide_eq_true (xfst_n e ep), hw n (by omega) ep]
        rfl
    · rw [decide_eq_false e, decide_eq_false (by rw [xfst_k e]; exact e)]
      show 0 * _ = 0
      rw [Nat.zero_mul]
section
variable {h tx : Nat → Int32} {T κ δ n : Nat}
/-- the doings of a code break no term -/
def xnbc (h tx : Nat → Int32) (T κ δ n : Nat) : Nat → Bool := fun c => decide (xfst (fun i => !decide (xfb tx T (nI (xd6 n c i)) (xshw h κ δ (xd6 n c) i) = none)) n = none)
theorem xPr_pg {W : Nat → Nat → Nat} : ∀ j, j ≤ n → xPr κ δ n W j * xpg (fun a b : Nat => a * b) 1 (fun i => bif xhd κ δ i then xsg (fun a b : Nat => a + b) 0 (W i) 6 else 1) (n - j) = xpg (fun a b : Nat => a * b) 1 (fun i => bif xhd κ δ i then xsg (fun a b : Nat => a + b) 0 (W i) 6 else 1) n
  | 0, _ => Nat.one_mul _
  | j + 1, hj => by
    rw [← xPr_pg j (by omega), show n - j = n - (j + 1) + 1 by omega, xpg_s]
    show (bif xhd κ δ (n - 1 - j) then xPr κ δ n W j * xsmn (fun _ => true) (W (n - 1 - j)) 6 else xPr κ δ n W j) * _ = xPr κ δ n W j * (_ * (bif xhd κ δ (n - (j + 1)) then _ else 1))
    rw [show n - 1 - j = n - (j + 1) by omega, xsmn_1]
    cases xhd κ δ (n - (j + 1))
    · show xPr κ δ n W j * _ = xPr κ δ n W j * (_ * 1)
      rw [Nat.mul_one]
    · show xPr κ δ n W j * _ * _ = xPr κ δ n W j * (_ * _)
      rw [Nat.mul_assoc, Nat.mul_comm (xsg _ _ _ 6)]
      rfl
theorem xW_h : ∀ p, p < n → ∀ s, s < 6 → xW h tx T κ δ n (n + 2) p s = bif xhb h tx T κ δ p s then 0 else 1 * xVh (fun a b : Nat => a + b) 0 1 h tx T κ δ n (xW h tx T κ δ n (n + 2)) p s := by
  intro p _ s _
  rw [xW_e, Nat.one_mul]
  unfold xWv xVh
  cases xhb h tx T κ δ p s
  · cases xhei κ δ n p with
    | none => rfl
    | some q => exact xsmn_g 6
  · rfl
theorem xPr_cnt : xPr κ δ n (xW h tx T κ δ n (n + 2)) n = xcnt (xnbc h tx T κ δ n) (6 ^ n) := by
  have e := xPr_pg (κ := κ) (δ := δ) (n := n) (W := xW h tx T κ δ n (n + 2)) n (Nat.le_refl n)
  rw [Nat.sub_self, show xpg (fun a b : Nat => a * b) 1 (fun i => bif xhd κ δ i then xsg (fun a b : Nat => a + b) 0 (xW h tx T κ δ n (n + 2) i) 6 else 1) 0 = 1 from rfl, Nat.mul_one] at e
  rw [e, ← xid xSRn (ω := fun _ _ => 1) xW_h, xcnt_g]
  refine xsg_c _ _ (6 ^ n) (fun c _ => ?_)
  exact xpg_01 n (fun _ _ _ => rfl)
theorem xPr_le (hn : n ≤ 5) : xPr κ δ n (xW h tx T κ δ n (n + 2)) n ≤ 7776 := by
  rw [xPr_cnt]
  exact Nat.le_trans (xcnt_le _ _) (Nat.le_trans (Nat.pow_le_pow_right (n := 6) (by decide) hn) (by decide))
end
end
section
/-! LimpMirror: keeps, still -/
section
variable {k a c n n2 m t p s d i1 j1 : Nat} {b : Nat × Nat} {g : Nat → Nat → Int32} {l : Nat → Nat → Int64} {i j x y z v w : Int32} {u w1 w2 : Int64}
variable {L G T q1 : Nat} {Lw A0 Z0 : Nat → Nat} {A Z : Nat → Nat → Nat} {h tx : Nat → Int32}
theorem if_nI0 {N : Nat} {x y : Int32} (h : N < 2 ^ 31) : (if nI N = 0 then x else y) = if N = 0 then x else y := by
  by_cases e : N = 0
  · rw [if_pos e, if_pos (by rw [e]; rfl)]
  · rw [if_neg e, if_neg (show ¬ nI N = 0 from fun z => e (nI_inj (b := 0) h (by decide) z))]

set_option maxRecDepth 10000 in
theorem c_X11_keeps_bad (hb : xro b.1) (hR : xRm g b.1 G T Lw) (hx : ¬ ((0 ≤ x ∧ x < nI G) ∧ 0 ≤ y ∧ y ≤ 5)) : xT (k + 7) 108 [.ref 0, .int x, .int y] (xH b g l) (fun r M' => M' = xH b g l ∧ r = some (.int (-1))) := by
  refine xT.of rfl (Nat.le_of_ble_eq_true rfl) ?_
  change xS _ _ 0 [(0, .ref 0), (1, .int x), (2, .int y)] [] _ _
  refine xS.s1 rfl rfl ?_
  try dsimp only [Nat.reduceAdd]
  refine xS.s1 rfl rfl ?_
  try dsimp only [Nat.reduceAdd]
  -- 2 yX11_isGlass
  refine xS.cv rfl rfl rfl rfl rfl rfl ⟨by decide, rfl, rfl⟩ (c_X11_isGlass hb) (fun v M1 hv => ?_)
  rw [hv.1, hv.2, hR.1.1]
  clear hv M1 v
  try dsimp only [Nat.reduceAdd, Option.toList, List.cons_append, List.nil_append, List.drop]
  refine xS.br0 (c := .eq) (off := 12) (l := 3) rfl rfl (fun h5 => ?_) (fun h5 => ?_)
  · have g5 := xt_eq h5
    refine xS.s1 rfl rfl ?_
    try dsimp only [Nat.reduceAdd, xi_m1]
    refine xS.ret rfl rfl rfl (fun _ _ => rfl) ?_
    exact ⟨rfl, rfl⟩
  · have g5 := xf_eq h5
    refine xS.s1 rfl rfl ?_
    try dsimp only [Nat.reduceAdd]
    refine xS.br0 (c := .lt) (off := 8) (l := 3) rfl rfl (fun h9 => ?_) (fun h9 => ?_)
    · have g9 := xt_lt h9
      refine xS.s1 rfl rfl ?_
      try dsimp only [Nat.reduceAdd, xi_m1]
      refine xS.ret rfl rfl rfl (fun _ _ => rfl) ?_
      exact ⟨rfl, rfl⟩
    · have g9 := xf_lt h9
      refine xS.s1 rfl rfl ?_
      try dsimp only [Nat.reduceAdd]
      refine xS.s1 rfl rfl ?_
      try dsimp only [Nat.reduceAdd, xi_5]
      refine xS.br (c := .le) (off := 5) (l := 3) rfl rfl (fun h14 => ?_) (fun h14 => ?_)
      · have g14 := xt_le h14
        exact absurd ⟨xif1 g5, g9, g14⟩ hx
      · have g14 := xf_le h14
        refine xS.s1 rfl rfl ?_
        try dsimp only [Nat.reduceAdd, xi_m1]
        refine xS.ret rfl rfl rfl (fun _ _ => rfl) ?_
        exact ⟨rfl, rfl⟩

set_option maxRecDepth 10000 in
theorem c_X11_still_bad (hb : xro b.1) (hR : xRm g b.1 G T Lw) (hx : ¬ ((0 ≤ x ∧ x < nI G) ∧ 0 ≤ y ∧ y ≤ 5)) : xT (k + 7) 109 [.ref 0, .int x, .int y] (xH b g l) (fun r M' => M' = xH b g l ∧ r = some (.int (-1))) := by
  refine xT.of rfl (Nat.le_of_ble_eq_true rfl) ?_
  change xS _ _ 0 [(0, .ref 0), (1, .int x), (2, .int y)] [] _ _
  refine xS.s1 rfl rfl ?_
  try dsimp only [Nat.reduceAdd]
  refine xS.s1 rfl rfl ?_
  try dsimp only [Nat.reduceAdd]
  -- 2 yX11_isGlass
  refine xS.cv rfl rfl rfl rfl rfl rfl ⟨by decide, rfl, rfl⟩ (c_X11_isGlass hb) (fun v M1 hv => ?_)
  rw [hv.1, hv.2, hR.1.1]
  clear hv M1 v
  try dsimp only [Nat.reduceAdd, Option.toList, List.cons_append, List.nil_append, List.drop]
  refine xS.br0 (c := .eq) (off := 12) (l := 3) rfl rfl (fun h5 => ?_) (fun h5 => ?_)
  · have g5 := xt_eq h5
    refine xS.s1 rfl rfl ?_
    try dsimp only [Nat.reduceAdd, xi_m1]
    refine xS.ret rfl rfl rfl (fun _ _ => rfl) ?_
    exact ⟨rfl, rfl⟩
  · have g5 := xf_eq h5
    refine xS.s1 rfl rfl ?_
    try dsimp only [Nat.reduceAdd]
    refine xS.br0 (c := .lt) (off := 8) (l := 3) rfl rfl (fun h9 => ?_) (fun h9 => ?_)
    · have g9 := xt_lt h9
      refine xS.s1 rfl rfl ?_
      try dsimp only [Nat.reduceAdd, xi_m1]
      refine xS.ret rfl rfl rfl (fun _ _ => rfl) ?_
      exact ⟨rfl, rfl⟩
    · have g9 := xf_lt h9
      refine xS.s1 rfl rfl ?_
      try dsimp only [Nat.reduceAdd]
      refine xS.s1 rfl rfl ?_
      try dsimp only [Nat.reduceAdd, xi_5]
      refine xS.br (c := .le) (off := 5) (l := 3) rfl rfl (fun h14 => ?_) (fun h14 => ?_)
      · have g14 := xt_le h14
        exact absurd ⟨xif1 g5, g9, g14⟩ hx
      · have g14 := xf_le h14
        refine xS.s1 rfl rfl ?_
        try dsimp only [Nat.reduceAdd, xi_m1]
        refine xS.ret rfl rfl rfl (fun _ _ => rfl) ?_
        exact ⟨rfl, rfl⟩

set_option maxRecDepth 10000 in
theorem c_X11_keeps_ok (hb : xro b.1) (hb1 : b.1 ≤ 15) (hR : xRm g b.1 G T Lw) (hp : xpn g) (hk : s < G) (hn : n ≤ 5) : xT (k + 7) 108 [.ref 0, .int (nI s), .int (nI n)] (xH b g l) (fun r M' => ∃ g', M' = xH b (up g' 0 11 (if (xPr (Lw s / 4) (Lw s % 4) n (xW (g (b.1 + 1)) (g (b.1 + 3)) T (Lw s / 4) (Lw s % 4) n (n + 2)) n) = 0 then 0 else if n = 0 then 0 else (xbits (fun u => decide (0 < (xW (g (b.1 + 1)) (g (b.1 + 3)) T (Lw s / 4) (Lw s % 4) n (n + 2)) 0 u)) 6))) (up (up l 0 12 (lN (xPr (Lw s / 4) (Lw s % 4) n (xW (g (b.1 + 1)) (g (b.1 + 3)) T (Lw s / 4) (Lw s % 4) n (n + 2)) n))) 0 13 (lN 1)) ∧ (∀ e, e ≠ 19 → e ≠ 20 → e ≠ 21 → g' e = g e) ∧ r = some (.int 1)) := by
  have hple := xPr_le (h := g (b.1 + 1)) (tx := g (b.1 + 3)) (T := T) (κ := Lw s / 4) (δ := Lw s % 4) hn
  refine xT.of rfl (Nat.le_of_ble_eq_true rfl) ?_
  change xS _ _ 0 [(0, .ref 0), (1, .int (nI s)), (2, .int (nI n))] [] _ _
  refine xS.s1 rfl rfl ?_
  try dsimp only [Nat.reduceAdd]
  refine xS.s1 rfl rfl ?_
  try dsimp only [Nat.reduceAdd]
  -- 2 yX11_isGlass
  refine xS.cv rfl rfl rfl rfl rfl rfl ⟨by decide, rfl, rfl⟩ (c_X11_isGlass_in hb hR hk) (fun v M1 hv => ?_)
  rw [hv.1, hv.2]
  clear hv M1 v
  try dsimp only [Nat.reduceAdd, Option.toList, List.cons_append, List.nil_append, List.drop]
  refine xS.br0 (c := .eq) (off := 12) (l := 3) rfl rfl (fun h5 => ?_) (fun h5 => ?_)
  · have g5 := xt_eq h5
    exfalso; first | exact absurd g5 (by decide) | (simp (disch := omega) only [Int32.lt_iff_toInt_lt, Int32.le_iff_toInt_le, nI_toInt, Int32.reduceToInt] at g5 <;> omega)
  · have g5 := xf_eq h5
    refine xS.s1 rfl rfl ?_
    try dsimp only [Nat.reduceAdd]
    refine xS.br0 (c := .lt) (off := 8) (l := 3) rfl rfl (fun h9 => ?_) (fun h9 => ?_)
    · have g9 := xt_lt h9
      exfalso; first | exact absurd g9 (by decide) | (simp (disch := omega) only [Int32.lt_iff_toInt_lt, Int32.le_iff_toInt_le, nI_toInt, Int32.reduceToInt] at g9 <;> omega)
    · have g9 := xf_lt h9
      refine xS.s1 rfl rfl ?_
      try dsimp only [Nat.reduceAdd]
      refine xS.s1 rfl rfl ?_
      try dsimp only [Nat.reduceAdd, xi_5]
      refine xS.br (c := .le) (off := 5) (l := 3) rfl rfl (fun h14 => ?_) (fun h14 => ?_)
      · have g14 := xt_le h14
        refine xS.s1 rfl rfl ?_
        try dsimp only [Nat.reduceAdd]
        refine xS.gR rfl rfl rfl ⟨by decide, rfl⟩ rfl ?_
        try dsimp only [Nat.reduceAdd]
        refine xS.s1 rfl rfl ?_
        try dsimp only [Nat.reduceAdd]
        refine xS.gR rfl rfl rfl ⟨by decide, rfl⟩ rfl ?_
        try dsimp only [Nat.reduceAdd]
        refine xS.s1 rfl rfl ?_
        try dsimp only [Nat.reduceAdd]
        refine xS.s1 rfl rfl ?_
        try dsimp only [Nat.reduceAdd]
        -- 29 yX11_paneOf
        refine xS.cv rfl rfl rfl rfl rfl rfl ⟨by decide, rfl, rfl⟩ (c_X11_paneOf hb hR hk) (fun v M1 hv => ?_)
        rw [hv.1, hv.2]
        clear hv M1 v
        try dsimp only [Nat.reduceAdd, Option.toList, List.cons_append, List.nil_append, List.drop]
        refine xS.s1 rfl rfl ?_
        try dsimp only [Nat.reduceAdd]
        -- 33 yX1_weigh
        refine xS.cv rfl rfl rfl rfl rfl rfl ⟨by decide, rfl, rfl⟩ (c_X1_weigh (h := g (b.1 + 1)) (tx := g (b.1 + 3)) (T := T) hb hb1 hp (hR.2.2.1 s hk).2 hR.2.1.1 hR.2.1.2 rfl rfl hn) (fun v M1 hv => ?_)
        obtain ⟨g2, rfl, hf2, hr2, hw2, hi2, rfl⟩ := hv
        try dsimp only [Nat.reduceAdd, Option.toList, List.cons_append, List.nil_append, List.drop]
        refine xS.s1 rfl rfl ?_
        try dsimp only [Nat.reduceAdd]
        refine xS.s1 rfl rfl ?_
        try dsimp only [Nat.reduceAdd]
        refine xS.gR rfl rfl rfl ⟨by decide, rfl⟩ rfl ?_
        try dsimp only [Nat.reduceAdd]
        -- 41 yX1_rows
        refine xS.cv rfl rfl rfl rfl rfl rfl ⟨by decide, rfl, rfl⟩ c_X1_rows (fun v M1 hv => ?_)
        rw [hv.1, hv.2, hr2]
        clear hv M1 v
        try dsimp only [Nat.reduceAdd, Option.toList, List.cons_append, List.nil_append, List.drop]
        refine xS.s1 rfl rfl ?_
        try dsimp only [Nat.reduceAdd]
        rw [nI_l (by omega)]
        refine xS.s1 rfl rfl ?_
        try dsimp only [Nat.reduceAdd]
        -- 46 yX11_tell
        refine xS.cv rfl rfl rfl rfl rfl rfl ⟨by decide, rfl, rfl⟩ (c_X11_tell (p := (xPr (Lw s / 4) (Lw s % 4) n (xW (g (b.1 + 1)) (g (b.1 + 3)) T (Lw s / 4) (Lw s % 4) n (n + 2)) n)) (d := 1) (by omega) (by omega) (by omega) (by omega)) (fun v M1 hv => ?_)
        rw [hv.1, hv.2, Nat.gcd_one_right, Nat.div_one, Nat.div_one]
        clear hv M1 v
        try dsimp only [Nat.reduceAdd, Option.toList, List.cons_append, List.nil_append, List.drop]
        refine xS.s1 rfl rfl ?_
        try dsimp only [Nat.reduceAdd]
        refine xS.s1 rfl rfl ?_
        try dsimp only [Nat.reduceAdd]
        refine xS.gR rfl rfl rfl ⟨by decide, rfl⟩ rfl ?_
        try dsimp only [Nat.reduceAdd]
        -- 54 yX1_firstSteps
        refine xS.cv rfl rfl rfl rfl rfl rfl ⟨by decide, rfl, rfl⟩ c_X1_firstSteps (fun v M1 hv => ?_)
        rw [hv.1, hv.2]
        clear hv M1 v
        try dsimp only [Nat.reduceAdd, Option.toList, List.cons_append, List.nil_append, List.drop]
        refine xS.pI rfl rfl rfl ⟨⟨by decide, rfl⟩, rfl, by decide, by decide⟩ rfl ?_
        try dsimp only [Nat.reduceAdd]
        refine xS.s1 rfl rfl ?_
        try dsimp only [Nat.reduceAdd, xi_1]
        refine xS.ret rfl rfl rfl (fun _ _ => rfl) ?_
        rw [if_nI0 (by omega)] at hi2
        rw [hi2]
        exact ⟨g2, rfl, hf2, rfl⟩
      · have g14 := xf_le h14
        exfalso; first | exact absurd g14 (by decide) | (simp (disch := omega) only [Int32.lt_iff_toInt_lt, Int32.le_iff_toInt_le, nI_toInt, Int32.reduceToInt] at g14 <;> omega)

set_option maxRecDepth 10000 in
theorem c_X11_still_ok (hb : xro b.1) (hb1 : b.1 ≤ 15) (hR : xRm g b.1 G T Lw) (hp : xpn g) (hk : s < G) (hn : n ≤ 5) : xT (k + 7) 109 [.ref 0, .int (nI s), .int (nI n)] (xH b g l) (fun r M' => ∃ g', M' = xH b g' l ∧ (∀ e, e ≠ 19 → e ≠ 20 → e ≠ 21 → g' e = g e) ∧ r = some (.int (if (xPr (Lw s / 4) (Lw s % 4) n (xW (g (b.1 + 1)) (g (b.1 + 3)) T (Lw s / 4) (Lw s % 4) n (n + 2)) n) = 0 then -9 else nI (xFw (Lw s / 4) (Lw s % 4) n (xZ (g (b.1 + 1)) (g (b.1 + 3)) T (Lw s / 4) (Lw s % 4) n (n + 2)) n)))) := by
  have hple := xPr_le (h := g (b.1 + 1)) (tx := g (b.1 + 3)) (T := T) (κ := Lw s / 4) (δ := Lw s % 4) hn
  refine xT.of rfl (Nat.le_of_ble_eq_true rfl) ?_
  change xS _ _ 0 [(0, .ref 0), (1, .int (nI s)), (2, .int (nI n))] [] _ _
  refine xS.s1 rfl rfl ?_
  try dsimp only [Nat.reduceAdd]
  refine xS.s1 rfl rfl ?_
  try dsimp only [Nat.reduceAdd]
  -- 2 yX11_isGlass
  refine xS.cv rfl rfl rfl rfl rfl rfl ⟨by decide, rfl, rfl⟩ (c_X11_isGlass_in hb hR hk) (fun v M1 hv => ?_)
  rw [hv.1, hv.2]
  clear hv M1 v
  try dsimp only [Nat.reduceAdd, Option.toList, List.cons_append, List.nil_append, List.drop]
  refine xS.br0 (c := .eq) (off := 12) (l := 3) rfl rfl (fun h5 => ?_) (fun h5 => ?_)
  · have g5 := xt_eq h5
    exfalso; first | exact absurd g5 (by decide) | (simp (disch := omega) only [Int32.lt_iff_toInt_lt, Int32.le_iff_toInt_le, nI_toInt, Int32.reduceToInt] at g5 <;> omega)
  · have g5 := xf_eq h5
    refine xS.s1 rfl rfl ?_
    try dsimp only [Nat.reduceAdd]
    refine xS.br0 (c := .lt) (off := 8) (l := 3) rfl rfl (fun h9 => ?_) (fun h9 => ?_)
    · have g9 := xt_lt h9
      exfalso; first | exact absurd g9 (by decide) | (simp (disch := omega) only [Int32.lt_iff_toInt_lt, Int32.le_iff_toInt_le, nI_toInt, Int32.reduceToInt] at g9 <;> omega)
    · have g9 := xf_lt h9
      refine xS.s1 rfl rfl ?_
      try dsimp only [Nat.reduceAdd]
      refine xS.s1 rfl rfl ?_
      try dsimp only [Nat.reduceAdd, xi_5]
      refine xS.br (c := .le) (off := 5) (l := 3) rfl rfl (fun h14 => ?_) (fun h14 => ?_)
      · have g14 := xt_le h14
        refine xS.s1 rfl rfl ?_
        try dsimp only [Nat.reduceAdd]
        refine xS.gR rfl rfl rfl ⟨by decide, rfl⟩ rfl ?_
        try dsimp only [Nat.reduceAdd]
        refine xS.s1 rfl rfl ?_
        try dsimp only [Nat.reduceAdd]
        refine xS.gR rfl rfl rfl ⟨by decide, rfl⟩ rfl ?_
        try dsimp only [Nat.reduceAdd]
        refine xS.s1 rfl rfl ?_
        try dsimp only [Nat.reduceAdd]
        refine xS.s1 rfl rfl ?_
        try dsimp only [Nat.reduceAdd]
        -- 29 yX11_paneOf
        refine xS.cv rfl rfl rfl rfl rfl rfl ⟨by decide, rfl, rfl⟩ (c_X11_paneOf hb hR hk) (fun v M1 hv => ?_)
        rw [hv.1, hv.2]
        clear hv M1 v
        try dsimp only [Nat.reduceAdd, Option.toList, List.cons_append, List.nil_append, List.drop]
        refine xS.s1 rfl rfl ?_
        try dsimp only [Nat.reduceAdd]
        -- 33 yX1_weigh
        refine xS.cv rfl rfl rfl rfl rfl rfl ⟨by decide, rfl, rfl⟩ (c_X1_weigh (h := g (b.1 + 1)) (tx := g (b.1 + 3)) (T := T) hb hb1 hp (hR.2.2.1 s hk).2 hR.2.1.1 hR.2.1.2 rfl rfl hn) (fun v M1 hv => ?_)
        obtain ⟨g2, rfl, hf2, hr2, hw2, hi2, rfl⟩ := hv
        try dsimp only [Nat.reduceAdd, Option.toList, List.cons_append, List.nil_append, List.drop]
        refine xS.s1 rfl rfl ?_
        try dsimp only [Nat.reduceAdd]
        refine xS.gR rfl rfl rfl ⟨by decide, rfl⟩ rfl ?_
        try dsimp only [Nat.reduceAdd]
        -- 40 yX1_rows
        refine xS.cv rfl rfl rfl rfl rfl rfl ⟨by decide, rfl, rfl⟩ c_X1_rows (fun v M1 hv => ?_)
        rw [hv.1, hv.2, hr2]
        clear hv M1 v
        try dsimp only [Nat.reduceAdd, Option.toList, List.cons_append, List.nil_append, List.drop]
        refine xS.br0 (c := .ne) (off := 8) (l := 3) rfl rfl (fun h43 => ?_) (fun h43 => ?_)
        · have g43 := xt_ne h43
          refine xS.s1 rfl rfl ?_
          try dsimp only [Nat.reduceAdd]
          refine xS.gR rfl rfl rfl ⟨by decide, rfl⟩ rfl ?_
          try dsimp only [Nat.reduceAdd]
          -- 55 yX1_fewestStill
          refine xS.cv rfl rfl rfl rfl rfl rfl ⟨by decide, rfl, rfl⟩ c_X1_fewestStill (fun v M1 hv => ?_)
          rw [hv.1, hv.2]
          clear hv M1 v
          try dsimp only [Nat.reduceAdd, Option.toList, List.cons_append, List.nil_append, List.drop]
          refine xS.ret rfl rfl rfl (fun _ _ => rfl) ?_
          exact ⟨g2, rfl, hf2, by rw [if_neg (fun z => g43 (by rw [z]; rfl)), hw2]⟩
        · have g43 := xf_ne h43
          refine xS.s1 rfl rfl ?_
          try dsimp only [Nat.reduceAdd, xj_m9]
          refine xS.s1 rfl rfl ?_
          try dsimp only [Nat.reduceAdd]
          refine xS.ret rfl rfl rfl (fun _ _ => rfl) ?_
          exact ⟨g2, rfl, hf2, by rw [if_pos (nI_inj (b := 0) (by omega) (by omega) g43)]⟩
      · have g14 := xf_le h14
        exfalso; first | exact absurd g14 (by decide) | (simp (disch := omega) only [Int32.lt_iff_toInt_lt, Int32.le_iff_toInt_le, nI_toInt, Int32.reduceToInt] at g14 <;> omega)

end
end
section
/-! the fewest still ones, by chains -/
def xom (a b : Option Nat) : Option Nat := match a with
  | none => b
  | some x => match b with
    | none => some x
    | some y => some (min x y)
def xoa (a b : Option Nat) : Option Nat := match a with
  | none => none
  | some x => match b with
    | none => none
    | some y => some (x + y)
theorem xSRo : xSR xom xoa none (some 0) := by
  refine ⟨fun a b c => ?_, fun a => ?_, fun a => rfl, fun a b c => ?_, fun a b => ?_, fun a => ?_, fun a => ?_, fun a b c => ?_⟩
  · cases a <;> cases b <;> cases c <;> first | rfl | (show some _ = some _; rw [Nat.min_assoc])
  · cases a <;> rfl
  · cases a <;> cases b <;> cases c <;> first | rfl | (show some _ = some _; rw [Nat.add_assoc])
  · cases a <;> cases b <;> first | rfl | (show some _ = some _; rw [Nat.add_comm])
  · cases a <;> first | rfl | (show some _ = some _; rw [Nat.zero_add])
  · cases a <;> rfl
  · cases a <;> cases b <;> cases c <;> first | rfl | (show some _ = some _; rw [Nat.add_min_add_left])
/-- sums of 0 and sums of naught go together -/
theorem xsmn_o {ok : Nat → Bool} {W Z : Nat → Nat} (h0 : ∀ t, W t = 0 → Z t = 1000) (h1 : ∀ t, W t ≠ 0 → Z t < 1000) : ∀ n, (xsmn ok W n = 0 ∧ xsg xom none (fun t => bif ok t then (if W t = 0 then none else some (Z t)) else none) n = none ∧ xmnn ok Z n = 1000) ∨ (xsmn ok W n ≠ 0 ∧ xsg xom none (fun t => bif ok t then (if W t = 0 then none else some (Z t)) else none) n = some (xmnn ok Z n) ∧ xmnn ok Z n < 1000)
  | 0 => Or.inl ⟨rfl, rfl, rfl⟩
  | n + 1 => by
    rw [xsmn_s, xsg_s, xmnn_s]
    cases eo : ok n with
    | false =>
      rcases xsmn_o (ok := ok) h0 h1 n with ⟨a1, a2, a3⟩ | ⟨a1, a2, a3⟩
      · exact Or.inl ⟨a1, by rw [a2]; rfl, a3⟩
      · exact Or.inr ⟨a1, by rw [a2]; rfl, a3⟩
    | true =>
      by_cases ew : W n = 0
      · have ez := h0 n ew
        rcases xsmn_o (ok := ok) h0 h1 n with ⟨a1, a2, a3⟩ | ⟨a1, a2, a3⟩
        · refine Or.inl ⟨?_, ?_, ?_⟩
          · show xsmn ok W n + W n = 0
            omega
          · show xom _ (if W n = 0 then none else some (Z n)) = none
            rw [a2, if_pos ew]
            rfl
          · show min (xmnn ok Z n) (Z n) = 1000
            omega
        · refine Or.inr ⟨?_, ?_, ?_⟩
          · show xsmn ok W n + W n ≠ 0
            omega
          · show xom _ (if W n = 0 then none else some (Z n)) = some (min (xmnn ok Z n) (Z n))
            rw [a2, if_pos ew, show min (xmnn ok Z n) (Z n) = xmnn ok Z n by omega]
            rfl
          · show min (xmnn ok Z n) (Z n) < 1000
            omega
      · have ez := h1 n ew
        rcases xsmn_o (ok := ok) h0 h1 n with ⟨a1, a2, a3⟩ | ⟨a1, a2, a3⟩
        · refine Or.inr ⟨?_, ?_, ?_⟩
          · show xsmn ok W n + W n ≠ 0
            omega
          · show xom _ (if W n = 0 then none else some (Z n)) = some (min (xmnn ok Z n) (Z n))
            rw [a2, if_neg ew, show min (xmnn ok Z n) (Z n) = Z n by omega]
            rfl
          · show min (xmnn ok Z n) (Z n) < 1000
            omega
        · refine Or.inr ⟨?_, ?_, ?_⟩
          · show xsmn ok W n + W n ≠ 0
            omega
          · show xom _ (if W n = 0 then none else some (Z n)) = some (min (xmnn ok Z n) (Z n))
            rw [a2, if_neg ew]
            rfl
          · show min (xmnn ok Z n) (Z n) < 1000
            omega
theorem xmnn_at {ok : Nat → Bool} {Z : Nat → Nat} {t : Nat} (ht : ok t = true) : ∀ n, t < n → xmnn ok Z n ≤ Z t
  | 0, h => absurd h (by omega)
  | n + 1, h => by
    rw [xmnn_s]
    by_cases e : t = n
    · rw [← e, ht]
      show min _ _ ≤ _
      omega
    · have := xmnn_at ht n (by omega) (Z := Z)
      cases ok n
      · exact this
      · show min _ _ ≤ _
        omega
theorem xsmn_ex {ok : Nat → Bool} {W : Nat → Nat} : ∀ n, xsmn ok W n ≠ 0 → ∃ t, t < n ∧ ok t = true ∧ W t ≠ 0
  | 0, h => absurd rfl h
  | n + 1, h => by
    rw [xsmn_s] at h
    cases eo : ok n with
    | false =>
      rw [eo] at h
      obtain ⟨t, h1, h2, h3⟩ := xsmn_ex n h
      exact ⟨t, by omega, h2, h3⟩
    | true =>
      rw [eo] at h
      by_cases e : W n = 0
      · obtain ⟨t, h1, h2, h3⟩ := xsmn_ex n (W := W) (ok := ok) (fun z => h (by show xsmn ok W n + W n = 0; omega))
        exact ⟨t, by omega, h2, h3⟩
      · exact ⟨n, by omega, eo, e⟩
section
variable {h tx : Nat → Int32} {T κ δ n : Nat}
theorem xZ_lt : ∀ u p s, xW h tx T κ δ n (u + 1) p s ≠ 0 → xZ h tx T κ δ n (u + 1) p s ≤ u + 1
  | 0, p, s, hw => by
    rw [xZ_u]
    unfold xZv
    rw [if_neg hw]
    cases e : xhei κ δ n p with
    | none =>
      show 0 + _ ≤ _
      split <;> omega
    | some q =>
      show xmnn _ (xZ h tx T κ δ n 0 q) 6 + _ ≤ _
      have hw2 := hw
      rw [xW_u, e] at hw2
      have hs : xsmn (xok h tx T κ q s) (xW h tx T κ δ n 0 q) 6 ≠ 0 := fun z => hw2 (by unfold xWv; cases xhb h tx T κ δ p s; exact z; rfl)
      obtain ⟨t, h1, h2, h3⟩ := xsmn_ex 6 hs
      have := xmnn_at h2 6 h1 (Z := xZ h tx T κ δ n 0 q)
      have z0 : xZ h tx T κ δ n 0 q t = 0 := rfl
      split <;> omega
  | u + 1, p, s, hw => by
    rw [xZ_u]
    unfold xZv
    rw [if_neg hw]
    cases e : xhei κ δ n p with
    | none =>
      show 0 + _ ≤ _
      split <;> omega
    | some q =>
      show xmnn _ (xZ h tx T κ δ n (u + 1) q) 6 + _ ≤ _
      have hw2 := hw
      rw [xW_u, e] at hw2
      have hs : xsmn (xok h tx T κ q s) (xW h tx T κ δ n (u + 1) q) 6 ≠ 0 := fun z => hw2 (by unfold xWv; cases xhb h tx T κ δ p s; exact z; rfl)
      obtain ⟨t, h1, h2, h3⟩ := xsmn_ex 6 hs
      have := xmnn_at h2 6 h1 (Z := xZ h tx T κ δ n (u + 1) q)
      have := xZ_lt u q t h3
      split <;> omega
theorem xZ_0 {p s : Nat} (hw : xW h tx T κ δ n (n + 2) p s = 0) : xZ h tx T κ δ n (n + 2) p s = 1000 := by
  rw [xZ_e]
  unfold xZv
  rw [if_pos hw]
/-- none where no row goes on, else the fewest -/
def xWo (h tx : Nat → Int32) (T κ δ n p s : Nat) : Option Nat := if xW h tx T κ δ n (n + 2) p s = 0 then none else some (xZ h tx T κ δ n (n + 2) p s)
theorem xWo_h (hn : n ≤ 5) : ∀ p, p < n → ∀ s, s < 6 → xWo h tx T κ δ n p s = bif xhb h tx T κ δ p s then none else xoa (some (if s = 0 then 1 else 0)) (xVh xom none (some 0) h tx T κ δ n (xWo h tx T κ δ n) p s) := by
  intro p _ s _
  have hz0 : ∀ q t, xW h tx T κ δ n (n + 2) q t = 0 → xZ h tx T κ δ n (n + 2) q t = 1000 := fun q t => xZ_0
  have hz1 : ∀ q t, xW h tx T κ δ n (n + 2) q t ≠ 0 → xZ h tx T κ δ n (n + 2) q t < 1000 := fun q t z => by have z9 : xZ h tx T κ δ n (n + 2) q t ≤ n + 1 + 1 := xZ_lt (n + 1) q t z; omega
  have hl : xWo h tx T κ δ n p s = if xWv (xhb h tx T κ δ p s) (xwo h tx T κ (xW h tx T κ δ n (n + 2)) (xhei κ δ n p) s) = 0 then none else some (xZv (xWv (xhb h tx T κ δ p s) (xwo h tx T κ (xW h tx T κ δ n (n + 2)) (xhei κ δ n p) s)) s (xzo h tx T κ (xZ h tx T κ δ n (n + 2)) (xhei κ δ n p) s)) := by
    unfold xWo
    rw [xZ_e, ← xW_e]
  rw [hl]
  cases eb : xhb h tx T κ δ p s with
  | true => rfl
  | false =>
    show (if xwo h tx T κ (xW h tx T κ δ n (n + 2)) (xhei κ δ n p) s = 0 then none else some (xZv (xwo h tx T κ (xW h tx T κ δ n (n + 2)) (xhei κ δ n p) s) s (xzo h tx T κ (xZ h tx T κ δ n (n + 2)) (xhei κ δ n p) s))) = xoa (some (if s = 0 then 1 else 0)) (xVh xom none (some 0) h tx T κ δ n (xWo h tx T κ δ n) p s)
    unfold xVh
    cases e : xhei κ δ n p with
    | none =>
      show some (0 + _) = some _
      rw [Nat.add_zero, Nat.zero_add]
    | some q =>
      show (if xsmn (xok h tx T κ q s) (xW h tx T κ δ n (n + 2) q) 6 = 0 then none else some (xZv (xsmn (xok h tx T κ q s) (xW h tx T κ δ n (n + 2) q) 6) s (xmnn (xok h tx T κ q s) (xZ h tx T κ δ n (n + 2) q) 6))) = xoa _ (xsg xom none (fun t => bif xok h tx T κ q s t then (if xW h tx T κ δ n (n + 2) q t = 0 then none else some (xZ h tx T κ δ n (n + 2) q t)) else none) 6)
      rcases xsmn_o (ok := xok h tx T κ q s) (hz0 q) (hz1 q) 6 with ⟨a1, a2, a3⟩ | ⟨a1, a2, a3⟩
      · rw [if_pos a1, a2]
        rfl
      · rw [if_neg a1, a2]
        unfold xZv
        rw [if_neg a1, Nat.add_comm]
        rfl
theorem xfw_sg {p : Nat → Bool} {st : Nat → Nat} : ∀ n, xfw p st n = xsg xom none (fun c => bif p c then some (st c) else none) n
  | 0 => rfl
  | n + 1 => by
    rw [xfw_s, xsg_s, xfw_sg n]
    cases p n with
    | false =>
      cases xsg xom none (fun c => bif p c then some (st c) else none) n <;> rfl
    | true =>
      cases xsg xom none (fun c => bif p c then some (st c) else none) n with
      | none => rfl
      | some f =>
        show some (if st n < f then st n else f) = some (min f (st n))
        congr 1
        split <;> omega
theorem xpg_oz {p : Nat → Bool} {w : Nat → Bool} : ∀ n, xpg xoa (some 0) (fun i => bif p i then none else some (if w i = true then 1 else 0)) n = bif decide (xfst p n = none) then some (xcnt w n) else none
  | 0 => rfl
  | n + 1 => by
    rw [xpg_s, xpg_oz n]
    by_cases e : xfst p n = none
    · rw [decide_eq_true e]
      cases ep : p n with
      | true =>
        rw [decide_eq_false (by rw [xfst_c e ep]; exact fun z => by cases z)]
        rfl
      | false =>
        rw [decide_eq_true (xfst_n e ep), xcnt_s]
        cases w n <;> rfl
    · rw [decide_eq_false e, decide_eq_false (by rw [xfst_k e]; exact e)]
      rfl
theorem xFw_pg (hn : n ≤ 5) : ∀ j, j ≤ n → xoa (if xPr κ δ n (xW h tx T κ δ n (n + 2)) j = 0 then none else some (xFw κ δ n (xZ h tx T κ δ n (n + 2)) j)) (xpg xoa (some 0) (fun i => bif xhd κ δ i then xsg xom none (xWo h tx T κ δ n i) 6 else some 0) (n - j)) = xpg xoa (some 0) (fun i => bif xhd κ δ i then xsg xom none (xWo h tx T κ δ n i) 6 else some 0) n
  | 0, _ => by
    show xoa (some 0) _ = _
    exact xSRo.2.2.2.2.2.1 _
  | j + 1, hj => by
    have hz0 : ∀ q t, xW h tx T κ δ n (n + 2) q t = 0 → xZ h tx T κ δ n (n + 2) q t = 1000 := fun q t => xZ_0
    have hz1 : ∀ q t, xW h tx T κ δ n (n + 2) q t ≠ 0 → xZ h tx T κ δ n (n + 2) q t < 1000 := fun q t z => by have z9 : xZ h tx T κ δ n (n + 2) q t ≤ n + 1 + 1 := xZ_lt (n + 1) q t z; omega
    rw [← xFw_pg hn j (by omega), show n - j = n - (j + 1) + 1 by omega, xpg_s]
    have e1 : xPr κ δ n (xW h tx T κ δ n (n + 2)) (j + 1) = bif xhd κ δ (n - 1 - j) then xPr κ δ n (xW h tx T κ δ n (n + 2)) j * xsmn (fun _ => true) (xW h tx T κ δ n (n + 2) (n - 1 - j)) 6 else xPr κ δ n (xW h tx T κ δ n (n + 2)) j := rfl
    have e2 : xFw κ δ n (xZ h tx T κ δ n (n + 2)) (j + 1) = bif xhd κ δ (n - 1 - j) then xFw κ δ n (xZ h tx T κ δ n (n + 2)) j + xmnn (fun _ => true) (xZ h tx T κ δ n (n + 2) (n - 1 - j)) 6 else xFw κ δ n (xZ h tx T κ δ n (n + 2)) j := rfl
    rw [e1, e2, show n - 1 - j = n - (j + 1) by omega]
    cases xhd κ δ (n - (j + 1)) with
    | false =>
      show xoa (if xPr κ δ n _ j = 0 then none else some (xFw κ δ n _ j)) _ = xoa (if xPr κ δ n _ j = 0 then none else some (xFw κ δ n _ j)) (xoa _ (some 0))
      rw [xSRo.2.2.2.2.1 _ (some 0), xSRo.2.2.2.2.2.1]
    | true =>
      show xoa (if xPr κ δ n _ j * xsmn (fun _ => true) (xW h tx T κ δ n (n + 2) (n - (j + 1))) 6 = 0 then none else some (xFw κ δ n _ j + xmnn (fun _ => true) (xZ h tx T κ δ n (n + 2) (n - (j + 1))) 6)) _ = xoa (if xPr κ δ n _ j = 0 then none else some (xFw κ δ n _ j)) (xoa _ (xsg xom none (xWo h tx T κ δ n (n - (j + 1))) 6))
      have hs := xsmn_o (ok := fun _ => true) (hz0 (n - (j + 1))) (hz1 (n - (j + 1))) 6
      have es : xsg xom none (xWo h tx T κ δ n (n - (j + 1))) 6 = xsg xom none (fun t => bif (fun _ => true) t then (if xW h tx T κ δ n (n + 2) (n - (j + 1)) t = 0 then none else some (xZ h tx T κ δ n (n + 2) (n - (j + 1)) t)) else none) 6 := rfl
      rw [es, xSRo.2.2.2.2.1 (xpg _ _ _ _), ← xSRo.2.2.2.1]
      congr 1
      by_cases ep : xPr κ δ n (xW h tx T κ δ n (n + 2)) j = 0
      · rw [if_pos ep, if_pos (by rw [ep, Nat.zero_mul])]
        rfl
      · rw [if_neg ep]
        rcases hs with ⟨a1, a2, a3⟩ | ⟨a1, a2, a3⟩
        · rw [if_pos (by rw [a1, Nat.mul_zero]), a2]
          rfl
        · rw [if_neg (Nat.mul_ne_zero ep a1), a2]
          rfl
theorem xFw_still (hn : n ≤ 5) : (if xPr κ δ n (xW h tx T κ δ n (n + 2)) n = 0 then none else some (xFw κ δ n (xZ h tx T κ δ n (n + 2)) n)) = xfw (xnbc h tx T κ δ n) (fun c => xcnt (fun i => decide (xd6 n c i = 0)) n) (6 ^ n) := by
  have e := xFw_pg (h := h) (tx := tx) (T := T) (κ := κ) (δ := δ) hn n (Nat.le_refl n)
  rw [Nat.sub_self, show xpg xoa (some 0) (fun i => bif xhd κ δ i then xsg xom none (xWo h tx T κ δ n i) 6 else some 0) 0 = some 0 from rfl, xSRo.2.2.2.2.1 _ (some 0), xSRo.2.2.2.2.2.1] at e
  rw [e, ← xid xSRo (ω := fun _ s => some (if s = 0 then 1 else 0)) (xWo_h hn), xfw_sg]
  refine xsg_c _ _ (6 ^ n) (fun c _ => ?_)
  have e2 := xpg_oz (p := fun i => !decide (xfb tx T (nI (xd6 n c i)) (xshw h κ δ (xd6 n c) i) = none)) (w := fun i => decide (xd6 n c i = 0)) n
  rw [← show xnbc h tx T κ δ n c = decide (xfst (fun i => !decide (xfb tx T (nI (xd6 n c i)) (xshw h κ δ (xd6 n c) i) = none)) n = none) from rfl] at e2
  rw [← e2]
  refine xpg_c _ _ n (fun i _ => ?_)
  unfold xwF xbk
  cases !decide (xfb tx T (nI (xd6 n c i)) (xshw h κ δ (xd6 n c) i) = none) with
  | true => rfl
  | false =>
    show some (if xd6 n c i = 0 then 1 else 0) = some (if decide (xd6 n c i = 0) = true then 1 else 0)
    by_cases z : xd6 n c i = 0 <;> simp [z]
end
end
section
/-! turns: the first step of the first row that goes through -/
theorem xfst_ad {P : Nat → Bool} {a : Nat} (h : xfst P a = none) : ∀ M, xfst P (a + M) = (xfst (fun c => P (a + c)) M).map (fun c => a + c)
  | 0 => by rw [Nat.add_zero, h]; rfl
  | M + 1 => by
    rw [show a + (M + 1) = a + M + 1 from rfl, xfst_s, xfst_s, xfst_ad h M]
    cases xfst (fun c => P (a + c)) M with
    | some c => rfl
    | none =>
      show (bif P (a + M) then some (a + M) else none) = Option.map (fun c => a + c) (bif P (a + M) then some M else none)
      cases P (a + M) <;> rfl
theorem xfst_bl {P : Nat → Bool} {M : Nat} (hM : 0 < M) : ∀ k, (xfst P (k * M)).map (fun c => c / M) = xfst (fun s => (xfst (fun c => P (s * M + c)) M).isSome) k
  | 0 => by rw [Nat.zero_mul]; rfl
  | k + 1 => by
    have ih := xfst_bl (P := P) hM k
    rw [Nat.succ_mul, xfst_s, ← ih]
    cases e : xfst P (k * M) with
    | some d =>
      rw [xfst_up e M]
      rfl
    | none =>
      rw [xfst_ad e M]
      show _ = bif (xfst (fun c => P (k * M + c)) M).isSome then some k else none
      cases e2 : xfst (fun c => P (k * M + c)) M with
      | none => rfl
      | some c =>
        have hc := (xfst_lt e2).1
        show some ((k * M + c) / M) = some k
        rw [Nat.mul_comm k M, Nat.mul_add_div hM, Nat.div_eq_of_lt hc, Nat.add_zero]
theorem xfst_and {Q : Nat → Bool} {a : Bool} : ∀ n, (xfst (fun c => a && Q c) n).isSome = (a && (xfst Q n).isSome)
  | 0 => by cases a <;> rfl
  | n + 1 => by
    have ih := xfst_and (Q := Q) (a := a) n
    rw [xfst_s, xfst_s]
    cases a with
    | true =>
      rw [show (fun c => true && Q c) = Q from funext (fun c => Bool.true_and _)]
      rw [Bool.true_and, Bool.true_and]
    | false =>
      cases e : xfst (fun c => false && Q c) n with
      | some d => rw [e] at ih; cases ih
      | none => rfl
theorem xd6_h {k s c : Nat} (hs : s < 6) (hc : c < 6 ^ k) : xd6 (k + 1) (s * 6 ^ k + c) 0 = s := by
  unfold xd6
  rw [show k + 1 - 1 - 0 = k by omega, Nat.mul_comm s, Nat.mul_add_div (Nat.pow_pos (by decide)), Nat.div_eq_of_lt hc]
  omega
theorem xd6_t {k s c i : Nat} (hi : i < k) : xd6 (k + 1) (s * 6 ^ k + c) (i + 1) = xd6 k c i := by
  unfold xd6
  rw [show k + 1 - 1 - (i + 1) = k - 1 - i by omega]
  have e : 6 ^ k = 6 ^ (k - 1 - i) * (6 * 6 ^ i) := by
    rw [← Nat.mul_assoc, ← Nat.pow_succ, ← Nat.pow_add]
    congr 1
    omega
  rw [e, show s * (6 ^ (k - 1 - i) * (6 * 6 ^ i)) = 6 ^ (k - 1 - i) * (6 * (s * 6 ^ i)) from by
    rw [Nat.mul_left_comm, Nat.mul_left_comm s 6], Nat.mul_add_div (Nat.pow_pos (by decide))]
  omega
section
variable {safe : (Nat → Nat) → Nat → Bool} {n : Nat}
def xex (n t : Nat) (F : Nat → Nat) (c i : Nat) : Nat := if i < t then F i else xd6 (n - t) c (i - t)
def xPt (safe : (Nat → Nat) → Nat → Bool) (n t : Nat) (F : Nat → Nat) (c : Nat) : Bool := decide (xfst (fun i => !safe (xex n t F c) (t + i)) (n - t) = none)
theorem xPt_s (hs : ∀ F F' t, (∀ j, j ≤ t → F j = F' j) → safe F t = safe F' t) {t s c : Nat} {F : Nat → Nat} (ht : t < n) (h6 : s < 6) (hc : c < 6 ^ (n - t - 1)) : xPt safe n t F (s * 6 ^ (n - t - 1) + c) = (safe (fup F t s) t && xPt safe n (t + 1) (fup F t s) c) := by
  obtain ⟨k, hk⟩ : ∃ k, n - t = k + 1 := ⟨n - t - 1, by omega⟩
  have hk1 : n - t - 1 = k := by omega
  have hk2 : n - (t + 1) = k := by omega
  rw [hk1] at hc ⊢
  have e0 : xex n t F (s * 6 ^ k + c) t = s := by
    unfold xex
    rw [if_neg (by omega), hk, show t - t = 0 by omega]
    exact xd6_h h6 hc
  have eq : ∀ i, i ≤ t + k → xex n t F (s * 6 ^ k + c) i = xex n (t + 1) (fup F t s) c i := fun i hi => by
    by_cases h1 : i < t
    · unfold xex
      rw [if_pos h1, if_pos (by omega)]
      exact (if_neg (by omega)).symm
    · by_cases h2 : i = t
      · rw [h2, e0]
        unfold xex
        rw [if_pos (by omega)]
        exact (if_pos rfl).symm
      · unfold xex
        rw [if_neg h1, if_neg (by omega), hk, hk2, show i - t = (i - (t + 1)) + 1 by omega]
        exact xd6_t (by omega)
  have a0 : safe (xex n t F (s * 6 ^ k + c)) t = safe (fup F t s) t := hs _ _ t (fun j hj => by
    by_cases h2 : j = t
    · rw [h2, e0]
      exact (if_pos rfl).symm
    · unfold xex
      rw [if_pos (by omega)]
      exact (if_neg h2).symm)
  have a1 : ∀ i, i < k → safe (xex n t F (s * 6 ^ k + c)) (t + (i + 1)) = safe (xex n (t + 1) (fup F t s) c) (t + 1 + i) := fun i hi => by
    rw [show t + (i + 1) = t + 1 + i by omega]
    exact hs _ _ _ (fun j hj => eq j (by omega))
  unfold xPt
  rw [hk, hk2]
  cases hb : safe (fup F t s) t with
  | false =>
    rw [Bool.false_and]
    refine decide_eq_false (fun z => ?_)
    have := xfst_none.mp z 0 (by omega)
    rw [Nat.add_zero, a0, hb] at this
    cases this
  | true =>
    rw [Bool.true_and]
    refine decide_eq_decide.mpr ⟨fun z => xfst_none.mpr (fun i hi => ?_), fun z => xfst_none.mpr (fun i hi => ?_)⟩
    · have := xfst_none.mp z (i + 1) (by omega)
      rw [a1 i hi] at this
      exact this
    · cases i with
      | zero =>
        show (!safe _ (t + 0)) = false
        rw [Nat.add_zero, a0, hb]
        rfl
      | succ i =>
        rw [a1 i (by omega)]
        exact xfst_none.mp z i (by omega)
theorem xlp_c (hs : ∀ F F' t, (∀ j, j ≤ t → F j = F' j) → safe F t = safe F' t) : ∀ u t F, t < n → n ≤ t + u → xlp safe n u t F = (xfst (xPt safe n t F) (6 ^ (n - t))).map (fun c => c / 6 ^ (n - t - 1))
  | 0, t, F, ht, hu => absurd hu (by omega)
  | u + 1, t, F, ht, hu => by
    have hM : 0 < 6 ^ (n - t - 1) := Nat.pow_pos (by decide)
    rw [show 6 ^ (n - t) = 6 * 6 ^ (n - t - 1) from by rw [← Nat.pow_succ']; congr 1; omega, xfst_bl hM]
    show xfst (fun s => safe (fup F t s) t && (decide (n ≤ t + 1) || (xlp safe n u (t + 1) (fup F t s)).isSome)) 6 = _
    refine xfst_congr (fun s h6 => ?_)
    have e1 : (xfst (fun c => xPt safe n t F (s * 6 ^ (n - t - 1) + c)) (6 ^ (n - t - 1))) = xfst (fun c => safe (fup F t s) t && xPt safe n (t + 1) (fup F t s) c) (6 ^ (n - t - 1)) := xfst_congr (fun c hc => xPt_s hs ht h6 hc)
    rw [e1, xfst_and]
    congr 1
    by_cases hn : n ≤ t + 1
    · rw [decide_eq_true hn, Bool.true_or, show n - t - 1 = 0 by omega, Nat.pow_zero]
      have e2 : xPt safe n (t + 1) (fup F t s) 0 = true := by
        unfold xPt
        rw [show n - (t + 1) = 0 by omega]
        rfl
      show true = (bif xPt safe n (t + 1) (fup F t s) 0 then some 0 else none).isSome
      rw [e2]
      rfl
    · rw [decide_eq_false hn, Bool.false_or, xlp_c hs u (t + 1) (fup F t s) (by omega) (by omega), show n - (t + 1) = n - t - 1 by omega]
      cases xfst (xPt safe n (t + 1) (fup F t s)) (6 ^ (n - t - 1)) <;> rfl
end
section
variable {h tx : Nat → Int32} {T G n : Nat} {Lw : Nat → Nat}
theorem xsafe_c : ∀ F F' t, (∀ j, j ≤ t → F j = F' j) → xsafe h tx T G Lw F t = xsafe h tx T G Lw F' t := by
  intro F F' t he
  unfold xsafe
  have : xfst (fun k => !decide (xfb tx T (nI (F t)) (xshw h (Lw k / 4) (Lw k % 4) F t) = none)) G = xfst (fun k => !decide (xfb tx T (nI (F' t)) (xshw h (Lw k / 4) (Lw k % 4) F' t) = none)) G := xfst_congr (fun k _ => by rw [he t (Nat.le_refl t), xshw_c he])
  rw [this]
theorem xlp_code (hn0 : 0 < n) (hn : n ≤ 3) : xlp (xsafe h tx T G Lw) n 3 0 (fun _ => 0) = (xfst (fun c => decide (xfst (fun i => !xsafe h tx T G Lw (xd6 n c) i) n = none)) (6 ^ n)).map (fun c => xd6 n c 0) := by
  rw [xlp_c xsafe_c 3 0 (fun _ => 0) hn0 (by omega), Nat.sub_zero]
  have e : ∀ c, xPt (xsafe h tx T G Lw) n 0 (fun _ => 0) c = decide (xfst (fun i => !xsafe h tx T G Lw (xd6 n c) i) n = none) := fun c => by
    unfold xPt
    have e2 : xex n 0 (fun _ => 0) c = xd6 n c := funext (fun i => by
      unfold xex
      rw [if_neg (Nat.not_lt_zero i), Nat.sub_zero, Nat.sub_zero])
    rw [e2, Nat.sub_zero]
    have e3 : (fun i => !xsafe h tx T G Lw (xd6 n c) (0 + i)) = (fun i => !xsafe h tx T G Lw (xd6 n c) i) := funext (fun i => by rw [Nat.zero_add])
    rw [e3]
  rw [show xPt (xsafe h tx T G Lw) n 0 (fun _ => 0) = fun c => decide (xfst (fun i => !xsafe h tx T G Lw (xd6 n c) i) n = none) from funext e]
  cases e4 : xfst (fun c => decide (xfst (fun i => !xsafe h tx T G Lw (xd6 n c) i) n = none)) (6 ^ n) with
  | none => rfl
  | some c =>
    have hc := (xfst_lt e4).1
    show some (c / 6 ^ (n - 1)) = some (xd6 n c 0)
    unfold xd6
    rw [show n - 1 - 0 = n - 1 by omega]
    have : c / 6 ^ (n - 1) < 6 := by
      rw [Nat.div_lt_iff_lt_mul (Nat.pow_pos (by decide)), ← Nat.pow_succ', show (n - 1).succ = n by omega]
      exact hc
    rw [Nat.mod_eq_of_lt this]
end
end
section
/-! sets of steps, place by place, against all rows of steps -/
theorem xlst_b (p : Nat → Bool) : xlst (xbits p 6) = (xfst p 6).getD 0 := by
  have h : ∀ a b c d e f : Bool, xlst (xbits (fun s => match s with | 0 => a | 1 => b | 2 => c | 3 => d | 4 => e | _ => f) 6) = (xfst (fun s => match s with | 0 => a | 1 => b | 2 => c | 3 => d | 4 => e | _ => f) 6).getD 0 := by decide +kernel
  exact h (p 0) (p 1) (p 2) (p 3) (p 4) (p 5)
theorem xpc_b (p : Nat → Bool) : xpc (xN (xbits p 6)) = xcnt p 6 := by
  have h : ∀ a b c d e f : Bool, xpc (xN (xbits (fun s => match s with | 0 => a | 1 => b | 2 => c | 3 => d | 4 => e | _ => f) 6)) = xcnt (fun s => match s with | 0 => a | 1 => b | 2 => c | 3 => d | 4 => e | _ => f) 6 := by decide +kernel
  exact h (p 0) (p 1) (p 2) (p 3) (p 4) (p 5)
theorem xbits_0 (p : Nat → Bool) : xbits p 6 = 0 ↔ xfst p 6 = none := by
  have h : ∀ a b c d e f : Bool, (xbits (fun s => match s with | 0 => a | 1 => b | 2 => c | 3 => d | 4 => e | _ => f) 6 = 0 ↔ xfst (fun s => match s with | 0 => a | 1 => b | 2 => c | 3 => d | 4 => e | _ => f) 6 = none) := by decide +kernel
  exact h (p 0) (p 1) (p 2) (p 3) (p 4) (p 5)
theorem xbit_1 : ∀ n : Fin 6, ∀ i : Fin 32, ((1 : Int32) <<< (nI n.val &&& 31)).toBitVec.getLsbD i.val = decide (i.val = n.val) := by decide +kernel
theorem xbits_bit {p : Nat → Bool} : ∀ n, n ≤ 6 → ∀ i, i < 32 → (xbits p n).toBitVec.getLsbD i = (decide (i < n) && p i)
  | 0, _, i, _ => by
    have e : (xbits p 0).toBitVec.getLsbD i = false := by
      show (0 : Int32).toBitVec.getLsbD i = false
      show (0#32).getLsbD i = false
      simp
    rw [e]
    simp
  | n + 1, hn, i, hi => by
    have ih := xbits_bit (p := p) n (by omega) i hi
    rw [xbits_s]
    cases ep : p n with
    | false =>
      show (xbits p n).toBitVec.getLsbD i = _
      rw [ih]
      by_cases e : i = n
      · rw [e, ep]
        simp
      · by_cases h1 : i < n
        · rw [decide_eq_true h1, decide_eq_true (show i < n + 1 by omega)]
        · rw [decide_eq_false h1, decide_eq_false (show ¬ i < n + 1 by omega)]
    | true =>
      show (xbits p n ||| (1 <<< (nI n &&& 31))).toBitVec.getLsbD i = _
      have k1 := xbit_1 ⟨n, by omega⟩ ⟨i, hi⟩
      dsimp only at k1
      rw [Int32.toBitVec_or, BitVec.getLsbD_or, ih, k1]
      by_cases e : i = n
      · subst e
        simp [ep]
      · rw [decide_eq_false e, Bool.or_false]
        by_cases h1 : i < n
        · rw [decide_eq_true h1, decide_eq_true (show i < n + 1 by omega)]
        · rw [decide_eq_false h1, decide_eq_false (show ¬ i < n + 1 by omega)]
theorem xbits_and (p q : Nat → Bool) : xbits p 6 &&& xbits q 6 = xbits (fun s => p s && q s) 6 := by
  apply Int32.toBitVec_inj.mp
  apply BitVec.eq_of_getLsbD_eq
  intro i hi
  rw [Int32.toBitVec_and, BitVec.getLsbD_and, xbits_bit 6 (by decide) i hi, xbits_bit 6 (by decide) i hi, xbits_bit 6 (by decide) i hi]
  cases decide (i < 6) <;> cases p i <;> cases q i <;> rfl
theorem xbits_or1 (p : Nat → Bool) {v : Nat} (hv : v < 6) : xbits p 6 ||| (1 <<< (nI v &&& 31)) = xbits (fun s => p s || decide (v = s)) 6 := by
  apply Int32.toBitVec_inj.mp
  apply BitVec.eq_of_getLsbD_eq
  intro i hi
  have k1 := xbit_1 ⟨v, hv⟩ ⟨i, hi⟩
  dsimp only at k1
  rw [Int32.toBitVec_or, BitVec.getLsbD_or, k1, xbits_bit 6 (by decide) i hi, xbits_bit 6 (by decide) i hi]
  by_cases e : i = v
  · subst e
    simp [hv]
  · rw [decide_eq_false e, decide_eq_false (show ¬ v = i from fun z => e z.symm)]
    cases decide (i < 6) <;> cases p i <;> rfl
theorem xbits_c {p q : Nat → Bool} : ∀ n, (∀ s, s < n → p s = q s) → xbits p n = xbits q n
  | 0, _ => rfl
  | n + 1, h => by rw [xbits_s, xbits_s, xbits_c n (fun s hs => h s (by omega)), h n (by omega)]
theorem xfst_mn {p : Nat → Bool} : ∀ {n d : Nat}, xfst p n = some d → ∀ j, j < d → p j = false
  | 0, d, h, j, hj => by cases h
  | n + 1, d, h, j, hj => by
    rw [xfst_s] at h
    cases e : xfst p n with
    | some d' =>
      rw [e] at h
      have e2 : d' = d := Option.some.inj h
      rw [e2] at e
      exact xfst_mn e j hj
    | none =>
      rw [e] at h
      have hd : d = n := by
        cases ep : p n with
        | true =>
          have h' : (bif p n then some n else none) = some d := h
          rw [ep] at h'
          exact (Option.some.inj h').symm
        | false =>
          have h' : (bif p n then some n else none) = some d := h
          rw [ep] at h'
          cases h'
      exact xfst_none.mp e j (by omega)
/-- all places good -/
def xall (a : Nat → Nat → Bool) (m c : Nat) : Bool := decide (xfst (fun p => !a p (xd6 m c p)) m = none)
section
variable {a : Nat → Nat → Bool}
theorem xall_i {m c : Nat} : xall a m c = true ↔ ∀ p, p < m → a p (xd6 m c p) = true := by
  unfold xall
  rw [decide_eq_true_iff, xfst_none]
  constructor
  · intro h p hp
    have := h p hp
    cases e : a p (xd6 m c p)
    · rw [e] at this; cases this
    · rfl
  · intro h p hp
    rw [h p hp]
    rfl
theorem xall_s {m c s : Nat} (hs : s < 6) : xall a (m + 1) (c * 6 + s) = (xall a m c && a m s) := by
  have key : xall a (m + 1) (c * 6 + s) = true ↔ (xall a m c && a m s) = true := by
    rw [Bool.and_eq_true, xall_i, xall_i]
    constructor
    · intro h
      refine ⟨fun p hp => ?_, ?_⟩
      · have := h p (by omega)
        rw [xd6_a hp hs] at this
        exact this
      · have := h m (by omega)
        rw [xd6_b hs] at this
        exact this
    · intro h p hp
      by_cases e : p = m
      · rw [e, xd6_b hs]
        exact h.2
      · rw [xd6_a (by omega) hs]
        exact h.1 p (by omega)
  cases e1 : xall a (m + 1) (c * 6 + s) with
  | true => exact (key.mp e1).symm
  | false =>
    cases e2 : (xall a m c && a m s) with
    | false => rfl
    | true => rw [key.mpr e2] at e1; cases e1
theorem xall_cnt : ∀ m, xcnt (xall a m) (6 ^ m) = xpr (fun p => xcnt (a p) 6) 1 m
  | 0 => rfl
  | m + 1 => by
    have e0 : xcnt (xall a m) (6 ^ m) * xcnt (a m) 6 = xsg (fun a b : Nat => a + b) 0 (fun c => xcnt (a m) 6 * (bif xall a m c then 1 else 0)) (6 ^ m) := by
      rw [Nat.mul_comm, xcnt_g (p := xall a m)]
      exact xsg_m xSRn _ _ _
    rw [xpr_s, ← xall_cnt m, e0, xcnt_g, Nat.pow_succ, xsg_n xSRn]
    refine xsg_c _ _ (6 ^ m) (fun c _ => ?_)
    have e1 : xcnt (a m) 6 * (bif xall a m c then 1 else 0) = xsg (fun a b : Nat => a + b) 0 (fun t => (bif xall a m c then 1 else 0) * (bif a m t then 1 else 0)) 6 := by
      rw [Nat.mul_comm, xcnt_g (p := a m)]
      exact xsg_m xSRn _ _ 6
    rw [e1]
    refine xsg_c _ _ 6 (fun s hs => ?_)
    rw [xall_s hs]
    cases xall a m c <;> cases a m s <;> rfl
theorem xall_f : ∀ m, (xfst (xall a m) (6 ^ m) = none → ∃ p, p < m ∧ xfst (a p) 6 = none) ∧ (∀ c, xfst (xall a m) (6 ^ m) = some c → ∀ p, p < m → xfst (a p) 6 = some (xd6 m c p))
  | 0 => ⟨fun h => (by cases h), fun c _ p hp => absurd hp (by omega)⟩
  | m + 1 => by
    have ih := xall_f m
    have bl := xfst_bl (P := xall a (m + 1)) (M := 6) (by decide) (6 ^ m)
    have e1 : xfst (fun s => (xfst (fun c => xall a (m + 1) (s * 6 + c)) 6).isSome) (6 ^ m) = xfst (fun c => xall a m c && (xfst (a m) 6).isSome) (6 ^ m) := xfst_congr (fun c _ => by
      rw [xfst_congr (p := fun s => xall a (m + 1) (c * 6 + s)) (p' := fun s => xall a m c && a m s) (fun s hs => xall_s hs), xfst_and])
    rw [e1, ← Nat.pow_succ] at bl
    refine ⟨fun h => ?_, fun c h => ?_⟩
    · rw [h] at bl
      cases em : xfst (a m) 6 with
      | none => exact ⟨m, by omega, em⟩
      | some d =>
        rw [em] at bl
        have e2 : xfst (xall a m) (6 ^ m) = none := by
          rw [show xfst (xall a m) (6 ^ m) = xfst (fun c => xall a m c && (some d).isSome) (6 ^ m) from xfst_congr (fun c _ => (Bool.and_true _).symm)]
          exact bl.symm
        obtain ⟨p, h1, h2⟩ := ih.1 e2
        exact ⟨p, by omega, h2⟩
    · have hc := xfst_lt h
      have hmn := xfst_mn h
      have hcd : c = c / 6 * 6 + c % 6 := by omega
      have hall : xall a m (c / 6) = true ∧ a m (c % 6) = true := by
        have := hc.2
        rw [hcd, xall_s (Nat.mod_lt _ (by decide)), Bool.and_eq_true] at this
        exact this
      have hlast : xfst (a m) 6 = some (c % 6) := xfst_at (xfst_none.mpr (fun s hs => by
        have := hmn (c / 6 * 6 + s) (by omega)
        rw [xall_s (by omega), hall.1, Bool.true_and] at this
        exact this)) hall.2 (Nat.mod_lt _ (by decide))
      rw [h, hlast] at bl
      have e2 : xfst (xall a m) (6 ^ m) = some (c / 6) := by
        rw [show some (c / 6) = Option.map (fun c => c / 6) (some c) from rfl, bl]
        exact xfst_congr (fun c _ => (Bool.and_true _).symm)
      intro p hp
      by_cases e : p = m
      · rw [e, hlast, hcd, xd6_b (Nat.mod_lt _ (by decide))]
        congr 1
        omega
      · rw [ih.2 _ e2 p (by omega)]
        congr 1
        rw [show xd6 (m + 1) c p = xd6 (m + 1) (c / 6 * 6 + c % 6) p from by rw [← hcd]]
        exact (xd6_a (by omega) (Nat.mod_lt _ (by decide))).symm
theorem xall_n {m p : Nat} (hp : p < m) (h : xfst (a p) 6 = none) : xfst (xall a m) (6 ^ m) = none := by
  cases e : xfst (xall a m) (6 ^ m) with
  | none => rfl
  | some c =>
    have := (xall_f m).2 c e p hp
    rw [h] at this
    cases this
theorem xorf_b {P : Nat → Bool} {v : Nat → Nat} (hv : ∀ c, v c < 6) : ∀ N, xorf P v N = xbits (fun s => (xfst (fun c => P c && decide (v c = s)) N).isSome) 6
  | 0 => by
    have e : xbits (fun s => (xfst (fun c => P c && decide (v c = s)) 0).isSome) 6 = xbits (fun _ => false) 6 := xbits_c 6 (fun s _ => rfl)
    rw [e]
    show (0 : Int32) = _
    decide
  | N + 1 => by
    rw [xorf_s, xorf_b hv N]
    cases ep : P N with
    | false =>
      show xbits (fun s => (xfst (fun c => P c && decide (v c = s)) N).isSome) 6 = _
      refine xbits_c 6 (fun s _ => ?_)
      rw [xfst_f (p := fun c => P c && decide (v c = s)) (by rw [ep]; rfl)]
    | true =>
      show xbits (fun s => (xfst (fun c => P c && decide (v c = s)) N).isSome) 6 ||| (1 <<< (nI (v N) &&& 31)) = _
      rw [xbits_or1 _ (hv N)]
      refine xbits_c 6 (fun s _ => ?_)
      show ((xfst (fun c => P c && decide (v c = s)) N).isSome || decide (v N = s)) = (xfst (fun c => P c && decide (v c = s)) (N + 1)).isSome
      cases e : xfst (fun c => P c && decide (v c = s)) N with
      | some d =>
        rw [xfst_up e 1]
        rfl
      | none =>
        by_cases ev : v N = s
        · rw [xfst_c e (by rw [ep, decide_eq_true ev]; rfl), decide_eq_true ev]
          rfl
        · rw [xfst_n e (by rw [ep, decide_eq_false ev]; rfl), decide_eq_false ev]
          rfl
theorem xall_or {m d : Nat} (hd : d < m) : xorf (xall a m) (fun c => xd6 m c d) (6 ^ m) = if xfst (xall a m) (6 ^ m) = none then 0 else xbits (a d) 6 := by
  rw [xorf_b (fun c => xd6_lt m c d)]
  have key : ∀ s, s < 6 → (xfst (fun c => xall a m c && decide (xd6 m c d = s)) (6 ^ m)).isSome = (decide (xfst (xall a m) (6 ^ m) ≠ none) && a d s) := fun s hs => by
    have e1 : xfst (fun c => xall a m c && decide (xd6 m c d = s)) (6 ^ m) = xfst (xall (fun p t => if p = d then a p t && decide (t = s) else a p t) m) (6 ^ m) := xfst_congr (fun c _ => by
      have hh : (xall a m c && decide (xd6 m c d = s)) = true ↔ xall (fun p t => if p = d then a p t && decide (t = s) else a p t) m c = true := by
        rw [Bool.and_eq_true, xall_i, xall_i, decide_eq_true_iff]
        constructor
        · intro h p hp
          by_cases e : p = d
          · rw [if_pos e, h.1 p hp, e, decide_eq_true h.2]
            rfl
          · rw [if_neg e]
            exact h.1 p hp
        · intro h
          refine ⟨fun p hp => ?_, ?_⟩
          · have := h p hp
            by_cases e : p = d
            · rw [if_pos e, Bool.and_eq_true] at this
              exact this.1
            · rw [if_neg e] at this
              exact this
          · have := h d hd
            rw [if_pos rfl, Bool.and_eq_true, decide_eq_true_iff] at this
            exact this.2
      cases e1 : (xall a m c && decide (xd6 m c d = s)) with
      | true => exact (hh.mp e1).symm
      | false =>
        cases e2 : xall (fun p t => if p = d then a p t && decide (t = s) else a p t) m c with
        | false => rfl
        | true => rw [hh.mpr e2] at e1; cases e1)
    rw [e1]
    cases e2 : xfst (xall (fun p t => if p = d then a p t && decide (t = s) else a p t) m) (6 ^ m) with
    | some c =>
      have hf := (xall_f m).2 c e2
      have hd1 := xfst_lt (hf d hd)
      rw [if_pos rfl, Bool.and_eq_true, decide_eq_true_iff] at hd1
      have hne : xfst (xall a m) (6 ^ m) ≠ none := fun z => by
        obtain ⟨p, h1, h2⟩ := (xall_f m).1 z
        by_cases e : p = d
        · have := xfst_none.mp h2 s hs
          rw [e, ← hd1.2.2, hd1.2.1] at this
          cases this
        · have := hf p h1
          rw [show (fun t => if p = d then a p t && decide (t = s) else a p t) = a p from funext (fun t => if_neg e), h2] at this
          cases this
      rw [decide_eq_true hne, ← hd1.2.2, hd1.2.1]
      rfl
    | none =>
      obtain ⟨p, h1, h2⟩ := (xall_f m).1 e2
      by_cases e : p = d
      · have h3 := xfst_none.mp h2 s hs
        rw [if_pos e, decide_eq_true (show s = s from rfl), Bool.and_true, e] at h3
        rw [h3, Bool.and_false]
        rfl
      · rw [show (fun t => if p = d then a p t && decide (t = s) else a p t) = a p from funext (fun t => if_neg e)] at h2
        rw [xall_n h1 h2]
        rfl
  rw [xbits_c 6 key]
  by_cases z : xfst (xall a m) (6 ^ m) = none
  · rw [if_pos z, xbits_c (q := fun _ => false) 6 (fun s _ => by rw [decide_eq_false (fun q => q z)]; rfl)]
    decide
  · rw [if_neg z]
    exact xbits_c 6 (fun s _ => by rw [decide_eq_true z, Bool.true_and])
end
section
variable {h f : Nat → Int32} {κ δ : Nat}
/-- the steps that a place may have -/
def xal (h f : Nat → Int32) (κ δ n p s : Nat) : Bool := Nat.rec (motive := fun _ => Bool) true (fun i c => match xsrc κ δ i with
  | some q => c && (if q = p then decide (xseen h κ i s = f i) else true)
  | none => c) n
theorem xal_s {q n p s : Nat} (e : xsrc κ δ n = some q) : xal h f κ δ (n + 1) p s = (xal h f κ δ n p s && (if q = p then decide (xseen h κ n s = f n) else true)) := by
  show (match xsrc κ δ n with
    | some q => xal h f κ δ n p s && (if q = p then decide (xseen h κ n s = f n) else true)
    | none => xal h f κ δ n p s) = _
  rw [e]
theorem xal_n {n p s : Nat} (e : xsrc κ δ n = none) : xal h f κ δ (n + 1) p s = xal h f κ δ n p s := by
  show (match xsrc κ δ n with
    | some q => xal h f κ δ n p s && (if q = p then decide (xseen h κ n s = f n) else true)
    | none => xal h f κ δ n p s) = _
  rw [e]
theorem xst_al : ∀ n p, xst κ δ (xB h κ f) n p = xbits (xal h f κ δ n p) 6
  | 0, p => by
    have e : xbits (xal h f κ δ 0 p) 6 = xbits (fun _ => true) 6 := xbits_c 6 (fun s _ => rfl)
    rw [e]
    show (63 : Int32) = _
    decide
  | n + 1, p => by
    cases e : xsrc κ δ n with
    | none =>
      rw [xst_none e, xst_al n p]
      exact xbits_c 6 (fun s _ => (xal_n e).symm)
    | some q =>
      rw [xst_some e]
      show (if p = q then xst κ δ (xB h κ f) n q &&& xB h κ f n else xst κ δ (xB h κ f) n p) = _
      by_cases ep : p = q
      · rw [if_pos ep, ← ep, xst_al n p]
        unfold xB
        rw [xbits_and]
        exact xbits_c 6 (fun s _ => by rw [xal_s e, if_pos ep.symm])
      · rw [if_neg ep, xst_al n p]
        exact xbits_c 6 (fun s _ => by rw [xal_s e, if_neg (fun z => ep z.symm), Bool.and_true])
theorem xmatch {F : Nat → Nat} : ∀ n, (xfst (fun i => !decide (xshw h κ δ F i = f i)) n = none) ↔ (xps κ δ f n = true ∧ ∀ p, xal h f κ δ n p (F p) = true)
  | 0 => ⟨fun _ => ⟨rfl, fun _ => rfl⟩, fun _ => rfl⟩
  | n + 1 => by
    have ih := xmatch (F := F) n
    have hstep : (xfst (fun i => !decide (xshw h κ δ F i = f i)) (n + 1) = none) ↔ (xfst (fun i => !decide (xshw h κ δ F i = f i)) n = none ∧ xshw h κ δ F n = f n) := by
      constructor
      · intro z
        refine ⟨xfst_none.mpr (fun i hi => xfst_none.mp z i (by omega)), ?_⟩
        have := xfst_none.mp z n (by omega)
        by_cases e : xshw h κ δ F n = f n
        · exact e
        · rw [decide_eq_false e] at this
          cases this
      · intro z
        exact xfst_n z.1 (by rw [decide_eq_true z.2]; rfl)
    rw [hstep, ih]
    unfold xshw
    cases e : xsrc κ δ n with
    | none =>
      show (_ ∧ (0 : Int32) = f n) ↔ _
      by_cases hz : f n = 0
      · rw [xps_z e hz]
        constructor
        · intro z
          exact ⟨z.1.1, fun p => by rw [xal_n e]; exact z.1.2 p⟩
        · intro z
          exact ⟨⟨z.1, fun p => by rw [← xal_n e]; exact z.2 p⟩, hz.symm⟩
      · rw [xps_nz e hz]
        exact ⟨fun z => absurd z.2.symm hz, fun z => by cases z.1⟩
    | some q =>
      show (_ ∧ xseen h κ n (F q) = f n) ↔ _
      rw [xps_some e]
      constructor
      · intro z
        refine ⟨z.1.1, fun p => ?_⟩
        rw [xal_s e, z.1.2 p, Bool.true_and]
        by_cases ep : q = p
        · rw [if_pos ep, ← ep]
          exact decide_eq_true z.2
        · rw [if_neg ep]
      · intro z
        refine ⟨⟨z.1, fun p => ?_⟩, ?_⟩
        · have := z.2 p
          rw [xal_s e, Bool.and_eq_true] at this
          exact this.1
        · have := z.2 q
          rw [xal_s e, if_pos rfl, Bool.and_eq_true, decide_eq_true_iff] at this
          exact this.2
theorem xal_out : ∀ n p s, n ≤ p → xal h f κ δ n p s = true
  | 0, _, _, _ => rfl
  | n + 1, p, s, hp => by
    cases e : xsrc κ δ n with
    | none => rw [xal_n e]; exact xal_out n p s (by omega)
    | some q =>
      have := xsrc_le e
      rw [xal_s e, xal_out n p s (by omega), if_neg (by omega)]
      rfl
theorem xmatch_all {n c : Nat} : decide (xfst (fun i => !decide (xshw h κ δ (xd6 n c) i = f i)) n = none) = (xps κ δ f n && xall (xal h f κ δ n) n c) := by
  have key : (xfst (fun i => !decide (xshw h κ δ (xd6 n c) i = f i)) n = none) ↔ (xps κ δ f n && xall (xal h f κ δ n) n c) = true := by
    rw [xmatch n, Bool.and_eq_true, xall_i]
    constructor
    · intro z
      exact ⟨z.1, fun p _ => z.2 p⟩
    · intro z
      refine ⟨z.1, fun p => ?_⟩
      by_cases hp : p < n
      · exact z.2 p hp
      · exact xal_out n p _ (by omega)
  cases e : (xps κ δ f n && xall (xal h f κ δ n) n c) with
  | true => exact decide_eq_true (key.mpr e)
  | false => exact decide_eq_false (fun z => by rw [key.mp z] at e; cases e)
theorem xnz_all {S : Nat → Int32} {c : Bool} : ∀ n, xnz S n c = true ↔ (c = true ∧ ∀ p, p < n → S p ≠ 0)
  | 0 => ⟨fun z => ⟨z, fun p hp => absurd hp (by omega)⟩, fun z => z.1⟩
  | n + 1 => by
    show (xnz S n c && !decide (S n = 0)) = true ↔ _
    rw [Bool.and_eq_true, xnz_all n]
    constructor
    · rintro ⟨⟨h1, h2⟩, h3⟩
      refine ⟨h1, fun p hp => ?_⟩
      by_cases e : p = n
      · rw [e]
        intro z
        rw [decide_eq_true z] at h3
        cases h3
      · exact h2 p (by omega)
    · rintro ⟨h1, h2⟩
      refine ⟨⟨h1, fun p hp => h2 p (by omega)⟩, ?_⟩
      rw [decide_eq_false (h2 n (by omega))]
      rfl
/-- whether any row of steps shows f -/
theorem xany {n : Nat} : xnz (xst κ δ (xB h κ f) n) n (xps κ δ f n) = true ↔ xfst (fun c => decide (xfst (fun i => !decide (xshw h κ δ (xd6 n c) i = f i)) n = none)) (6 ^ n) ≠ none := by
  rw [xnz_all]
  have e : xfst (fun c => decide (xfst (fun i => !decide (xshw h κ δ (xd6 n c) i = f i)) n = none)) (6 ^ n) = xfst (fun c => xps κ δ f n && xall (xal h f κ δ n) n c) (6 ^ n) := xfst_congr (fun c _ => xmatch_all)
  rw [e]
  cases hp : xps κ δ f n with
  | false =>
    constructor
    · intro z; cases z.1
    · intro z
      exact absurd (xfst_none.mpr (fun c _ => rfl)) z
  | true =>
    rw [show (fun c => true && xall (xal h f κ δ n) n c) = xall (xal h f κ δ n) n from funext (fun c => Bool.true_and _)]
    constructor
    · intro z z2
      obtain ⟨p, h1, h2⟩ := (xall_f n).1 z2
      exact z.2 p h1 (by rw [xst_al]; exact (xbits_0 _).mpr h2)
    · intro z
      refine ⟨rfl, fun p hp z2 => z (xall_n hp ?_)⟩
      rw [xst_al] at z2
      exact (xbits_0 _).mp z2
theorem xfirst {n c : Nat} (hc : xfst (fun c => decide (xfst (fun i => !decide (xshw h κ δ (xd6 n c) i = f i)) n = none)) (6 ^ n) = some c) : ∀ p, p < n → xlst (xst κ δ (xB h κ f) n p) = xd6 n c p := by
  intro p hp
  have e : xfst (fun c => decide (xfst (fun i => !decide (xshw h κ δ (xd6 n c) i = f i)) n = none)) (6 ^ n) = xfst (fun c => xps κ δ f n && xall (xal h f κ δ n) n c) (6 ^ n) := xfst_congr (fun c _ => xmatch_all)
  rw [e] at hc
  cases hps : xps κ δ f n with
  | false =>
    rw [hps, show xfst (fun c => false && xall (xal h f κ δ n) n c) (6 ^ n) = none from xfst_none.mpr (fun c _ => rfl)] at hc
    cases hc
  | true =>
    rw [hps, show (fun c => true && xall (xal h f κ δ n) n c) = xall (xal h f κ δ n) n from funext (fun c => Bool.true_and _)] at hc
    rw [xst_al, xlst_b, (xall_f n).2 c hc p hp]
    rfl
end
end
