/-! rows that break no term, by chains: in any semiring -/
def xSR {R : Type} (ad mu : R → R → R) (z o : R) : Prop := (∀ a b c, ad (ad a b) c = ad a (ad b c)) ∧ (∀ a, ad a z = a) ∧ (∀ a, ad z a = a) ∧ (∀ a b c, mu (mu a b) c = mu a (mu b c)) ∧ (∀ a b, mu a b = mu b a) ∧ (∀ a, mu o a = a) ∧ (∀ a, mu a z = z) ∧ (∀ a b c, mu a (ad b c) = ad (mu a b) (mu a c))
section
variable {R : Type} (ad mu : R → R → R) (z o : R)
def xsg (f : Nat → R) (n : Nat) : R := Nat.rec (motive := fun _ => R) z (fun t c => ad c (f t)) n
def xpg (f : Nat → R) (n : Nat) : R := Nat.rec (motive := fun _ => R) o (fun t c => mu c (f t)) n
theorem xsg_s (f : Nat → R) (n : Nat) : xsg ad z f (n + 1) = ad (xsg ad z f n) (f n) := rfl
theorem xpg_s (f : Nat → R) (n : Nat) : xpg mu o f (n + 1) = mu (xpg mu o f n) (f n) := rfl
theorem xsg_c {f f' : Nat → R} : ∀ n, (∀ i, i < n → f i = f' i) → xsg ad z f n = xsg ad z f' n
  | 0, _ => rfl
  | n + 1, h => by rw [xsg_s, xsg_s, xsg_c n (fun i hi => h i (by omega)), h n (by omega)]
theorem xpg_c {f f' : Nat → R} : ∀ n, (∀ i, i < n → f i = f' i) → xpg mu o f n = xpg mu o f' n
  | 0, _ => rfl
  | n + 1, h => by rw [xpg_s, xpg_s, xpg_c n (fun i hi => h i (by omega)), h n (by omega)]
end
section
variable {R : Type} {ad mu : R → R → R} {z o : R}
theorem xsg_m (L : xSR ad mu z o) (a : R) (f : Nat → R) : ∀ n, mu a (xsg ad z f n) = xsg ad z (fun t => mu a (f t)) n
  | 0 => L.2.2.2.2.2.2.1 a
  | n + 1 => by rw [xsg_s, xsg_s, L.2.2.2.2.2.2.2 a, xsg_m L a f n]
theorem xsg_a (L : xSR ad mu z o) (f : Nat → R) (m : Nat) : ∀ n, xsg ad z f (m + n) = ad (xsg ad z f m) (xsg ad z (fun t => f (m + t)) n)
  | 0 => (L.2.1 _).symm
  | n + 1 => by
    rw [show m + (n + 1) = m + n + 1 from rfl, xsg_s, xsg_a L f m n, L.1]
    rfl
theorem xsg_n (L : xSR ad mu z o) (f : Nat → R) : ∀ m, xsg ad z f (m * 6) = xsg ad z (fun c => xsg ad z (fun s => f (c * 6 + s)) 6) m
  | 0 => by rw [Nat.zero_mul]; rfl
  | m + 1 => by
    rw [Nat.succ_mul, xsg_a L, xsg_n L f m]
    rfl
theorem xpg_o (L : xSR ad mu z o) {f : Nat → R} : ∀ n, (∀ i, i < n → f i = o) → xpg mu o f n = o
  | 0, _ => rfl
  | n + 1, h => by rw [xpg_s, xpg_o L n (fun i hi => h i (by omega)), h n (by omega), L.2.2.2.2.2.1]
/-- one factor taken out -/
theorem xpg_x (L : xSR ad mu z o) {f : Nat → R} {k : Nat} : ∀ n, k < n → xpg mu o f n = mu (f k) (xpg mu o (fun i => if i = k then o else f i) n)
  | 0, h => absurd h (by omega)
  | n + 1, h => by
    rw [xpg_s, xpg_s]
    by_cases e : k = n
    · subst e
      rw [if_pos rfl, xpg_c mu o (f' := fun i => if i = k then o else f i) k (fun i hi => (if_neg (by omega)).symm), L.2.2.2.2.1 _ (f k), L.2.2.2.2.1 _ o, L.2.2.2.2.2.1]
    · rw [if_neg (fun z => e z.symm), xpg_x L (k := k) n (by omega), L.2.2.2.1]
end
theorem xd6_a {m c s i : Nat} (hi : i < m) (hs : s < 6) : xd6 (m + 1) (c * 6 + s) i = xd6 m c i := by
  unfold xd6
  rw [show m + 1 - 1 - i = (m - 1 - i) + 1 by omega, Nat.pow_succ, Nat.mul_comm (6 ^ (m - 1 - i)) 6, ← Nat.div_div_eq_div_mul, show (c * 6 + s) / 6 = c by omega]
theorem xd6_b {m c s : Nat} (hs : s < 6) : xd6 (m + 1) (c * 6 + s) m = s := by
  unfold xd6
  rw [show m + 1 - 1 - m = 0 by omega, Nat.pow_zero, Nat.div_one]
  omega
section
variable {R : Type} (ad mu : R → R → R) (z o : R) (h tx : Nat → Int32) (T κ δ n : Nat) (ω Wg : Nat → Nat → R)
def xwF (i : Nat) (F : Nat → Nat) : R := bif xbk tx T (F i) (xshw h κ δ F i) then z else ω i (F i)
def xVg (i a : Nat) : R := xsg ad z (fun t => bif xok h tx T κ i a t then Wg i t else z) 6
def xVh (p s : Nat) : R := match xhei κ δ n p with
  | none => o
  | some q => xVg ad z h tx T κ Wg q s
def xeF (m i : Nat) (F : Nat → Nat) : R := if i < m then o else bif xhd κ δ i then xsg ad z (Wg i) 6 else match xsrc κ δ i with
  | none => o
  | some j => if j < m then xVg ad z h tx T κ Wg i (F j) else o
def xQg (m : Nat) : R := xsg ad z (fun c => mu (xpg mu o (fun i => xwF z h tx T κ δ ω i (xd6 m c)) m) (xpg mu o (fun i => xeF ad z o h tx T κ δ Wg m i (xd6 m c)) n)) (6 ^ m)
end
section
variable {R : Type} {ad mu : R → R → R} {z o : R} {h tx : Nat → Int32} {T κ δ n : Nat} {ω Wg : Nat → Nat → R}
theorem xshw_c {F F' : Nat → Nat} {i : Nat} (he : ∀ j, j ≤ i → F j = F' j) : xshw h κ δ F i = xshw h κ δ F' i := by
  unfold xshw
  cases e : xsrc κ δ i with
  | none => rfl
  | some j =>
    show xseen h κ i (F j) = xseen h κ i (F' j)
    rw [he j (xsrc_le e)]
theorem xwF_c {F F' : Nat → Nat} {i : Nat} (he : ∀ j, j ≤ i → F j = F' j) : xwF z h tx T κ δ ω i F = xwF z h tx T κ δ ω i F' := by
  unfold xwF
  rw [xshw_c he, he i (Nat.le_refl i)]
theorem xeF_c {F F' : Nat → Nat} {m i : Nat} (he : ∀ j, j < m → F j = F' j) : xeF ad z o h tx T κ δ Wg m i F = xeF ad z o h tx T κ δ Wg m i F' := by
  unfold xeF
  cases e : xsrc κ δ i with
  | none => rfl
  | some j =>
    dsimp only
    by_cases hj : j < m
    · rw [he j hj]
    · rw [if_neg hj, if_neg hj]
theorem xhd_n {i : Nat} (hh : xhd κ δ i = false) : ∃ j, xsrc κ δ i = some j ∧ j < i := by
  unfold xhd at hh
  cases e : xsrc κ δ i with
  | none => rw [e] at hh; cases hh
  | some j =>
    rw [e] at hh
    have h1 := of_decide_eq_false hh
    have h2 := xsrc_le e
    exact ⟨j, rfl, by omega⟩
/-- a place has one heir -/
theorem xsrc_inj {i j p : Nat} (h1 : xsrc κ δ i = some p) (h2 : xsrc κ δ j = some p) : i = j := by
  unfold xsrc at h1 h2
  by_cases k1 : κ = 1
  · rw [if_pos k1] at h1 h2
    split at h1
    · cases h1
    · split at h2
      · cases h2
      · have e1 := Option.some.inj h1
        have e2 := Option.some.inj h2
        omega
  · rw [if_neg k1] at h1 h2
    by_cases k4 : κ = 4
    · rw [if_pos k4] at h1 h2
      split at h1
      · cases h1
      · split at h1
        · cases h1
        · split at h2
          · cases h2
          · split at h2
            · cases h2
            · have e1 := Option.some.inj h1
              have e2 := Option.some.inj h2
              omega
    · rw [if_neg k4] at h1 h2
      by_cases k2 : κ = 2
      · rw [if_pos k2] at h1 h2
        split at h1
        · cases h1
        · split at h2
          · cases h2
          · have e1 := Option.some.inj h1
            have e2 := Option.some.inj h2
            omega
      · rw [if_neg k2] at h1 h2
        have e1 := Option.some.inj h1
        have e2 := Option.some.inj h2
        omega
theorem xhei_none {p i : Nat} (e : xhei κ δ n p = none) (hi : p < i) (hn : i < n) : xsrc κ δ i ≠ some p := fun z => by
  unfold xhei at e
  cases e1 : xfst (fun u => decide (xsrc κ δ (p + 1 + u) = some p)) (n - (p + 1)) with
  | none =>
    have q := of_decide_eq_false (xfst_none.mp e1 (i - (p + 1)) (by omega))
    rw [show p + 1 + (i - (p + 1)) = i by omega] at q
    exact q z
  | some u => rw [e1] at e; cases e
/-- the factors behind place m, its own heir's taken out -/
theorem xeF_x (L : xSR ad mu z o) {m s : Nat} {F : Nat → Nat} (hm : m < n) : xpg mu o (fun i => xeF ad z o h tx T κ δ Wg (m + 1) i (fup F m s)) n = mu (xVh ad z o h tx T κ δ n Wg m s) (xpg mu o (fun i => if i = m then o else xeF ad z o h tx T κ δ Wg m i F) n) := by
  have key : ∀ i, i < n → xsrc κ δ i ≠ some m ∨ i ≤ m → xeF ad z o h tx T κ δ Wg (m + 1) i (fup F m s) = if i = m then o else xeF ad z o h tx T κ δ Wg m i F := by
    intro i hi hs
    by_cases e : i = m
    · rw [if_pos e]
      unfold xeF
      rw [if_pos (by omega)]
    · rw [if_neg e]
      unfold xeF
      by_cases h1 : i < m
      · rw [if_pos h1, if_pos (by omega)]
      · rw [if_neg h1, if_neg (by omega)]
        cases hh : xhd κ δ i with
        | true => rfl
        | false =>
          obtain ⟨j, ej, hj⟩ := xhd_n hh
          rw [ej]
          show (if j < m + 1 then xVg ad z h tx T κ Wg i (fup F m s j) else o) = if j < m then xVg ad z h tx T κ Wg i (F j) else o
          have hjm : j ≠ m := fun q => by
            rcases hs with hs | hs
            · exact hs (by rw [ej, q])
            · omega
          by_cases h2 : j < m
          · rw [if_pos h2, if_pos (by omega), show fup F m s j = F j from if_neg hjm]
          · rw [if_neg h2, if_neg (by omega)]
  unfold xVh
  cases e : xhei κ δ n m with
  | none =>
    show _ = mu o _
    rw [L.2.2.2.2.2.1]
    refine xpg_c mu o n (fun i hi => key i hi ?_)
    by_cases hle : i ≤ m
    · exact Or.inr hle
    · exact Or.inl (xhei_none e (by omega) hi)
  | some q =>
    have hq := xhei_gt e
    show _ = mu (xVg ad z h tx T κ Wg q s) _
    rw [xpg_x L n hq.2.1]
    have hnq : xhd κ δ q = false := by
      unfold xhd
      rw [hq.2.2]
      exact decide_eq_false (by omega)
    have e1 : xeF ad z o h tx T κ δ Wg (m + 1) q (fup F m s) = xVg ad z h tx T κ Wg q s := by
      unfold xeF
      rw [if_neg (by omega), hnq, hq.2.2]
      show (if m < m + 1 then xVg ad z h tx T κ Wg q (fup F m s m) else o) = _
      rw [if_pos (by omega), show fup F m s m = s from if_pos rfl]
    rw [e1]
    congr 1
    refine xpg_c mu o n (fun i hi => ?_)
    by_cases eq : i = q
    · rw [if_pos eq, if_neg (by omega)]
      unfold xeF
      rw [eq, if_neg (by omega), hnq, hq.2.2]
      show o = if m < m then _ else o
      rw [if_neg (by omega)]
    · rw [if_neg eq]
      exact key i hi (Or.inl (fun w => eq (xsrc_inj w hq.2.2)))
theorem xeF_m (L : xSR ad mu z o) (hW : ∀ p, p < n → ∀ s, s < 6 → Wg p s = bif xhb h tx T κ δ p s then z else mu (ω p s) (xVh ad z o h tx T κ δ n Wg p s)) {m : Nat} {F : Nat → Nat} (hm : m < n) : xeF ad z o h tx T κ δ Wg m m F = xsg ad z (fun s => mu (xwF z h tx T κ δ ω m (fup F m s)) (xVh ad z o h tx T κ δ n Wg m s)) 6 := by
  have hz : ∀ a, mu z a = z := fun a => by rw [L.2.2.2.2.1]; exact L.2.2.2.2.2.2.1 a
  have hfm : ∀ s, fup F m s m = s := fun s => if_pos rfl
  unfold xeF
  rw [if_neg (by omega)]
  cases hh : xhd κ δ m with
  | true =>
    show xsg ad z (Wg m) 6 = _
    refine xsg_c ad z 6 (fun s hs => ?_)
    rw [hW m hm s hs]
    have e1 : xbk tx T (fup F m s m) (xshw h κ δ (fup F m s) m) = xhb h tx T κ δ m s := by
      unfold xhb
      rw [hh, hfm, Bool.true_and]
      unfold xshw
      unfold xhd at hh
      cases e : xsrc κ δ m with
      | none => rw [if_pos rfl]
      | some j =>
        rw [e] at hh
        have hj : j = m := of_decide_eq_true hh
        rw [if_neg (fun q => by cases q), hj]
        show xbk tx T s (xseen h κ m (fup F m s m)) = _
        rw [hfm]
    unfold xwF
    rw [e1, hfm]
    cases xhb h tx T κ δ m s with
    | true => exact (hz _).symm
    | false => rfl
  | false =>
    obtain ⟨j, ej, hj⟩ := xhd_n hh
    rw [ej]
    show (if j < m then xVg ad z h tx T κ Wg m (F j) else o) = _
    rw [if_pos hj]
    refine xsg_c ad z 6 (fun s hs => ?_)
    have e1 : xbk tx T (fup F m s m) (xshw h κ δ (fup F m s) m) = !xok h tx T κ m (F j) s := by
      unfold xok xshw
      rw [hfm, ej, Bool.not_not]
      show xbk tx T s (xseen h κ m (fup F m s j)) = _
      rw [show fup F m s j = F j from if_neg (by omega)]
    unfold xwF
    rw [e1, hfm, hW m hm s hs]
    have e2 : xhb h tx T κ δ m s = false := by unfold xhb; rw [hh]; rfl
    rw [e2]
    cases xok h tx T κ m (F j) s with
    | true => rfl
    | false => exact (hz _).symm
theorem xQg_s (L : xSR ad mu z o) (hW : ∀ p, p < n → ∀ s, s < 6 → Wg p s = bif xhb h tx T κ δ p s then z else mu (ω p s) (xVh ad z o h tx T κ δ n Wg p s)) {m : Nat} (hm : m < n) : xQg ad mu z o h tx T κ δ n ω Wg (m + 1) = xQg ad mu z o h tx T κ δ n ω Wg m := by
  unfold xQg
  rw [Nat.pow_succ, xsg_n L]
  refine xsg_c ad z (6 ^ m) (fun c _ => ?_)
  rw [xpg_x L n hm (f := fun i => xeF ad z o h tx T κ δ Wg m i (xd6 m c)), xeF_m L hW hm, ← L.2.2.2.1, L.2.2.2.2.1 (xpg mu o _ m) (xsg ad z _ 6), L.2.2.2.1, L.2.2.2.2.1 (xsg ad z _ 6), xsg_m L]
  refine xsg_c ad z 6 (fun s hs => ?_)
  have hag : ∀ j, j < m + 1 → xd6 (m + 1) (c * 6 + s) j = fup (xd6 m c) m s j := fun j hj => by
    by_cases e : j = m
    · rw [e, xd6_b hs, show fup (xd6 m c) m s m = s from if_pos rfl]
    · rw [xd6_a (by omega) hs, show fup (xd6 m c) m s j = xd6 m c j from if_neg e]
  rw [xpg_c mu o (f' := fun i => xeF ad z o h tx T κ δ Wg (m + 1) i (fup (xd6 m c) m s)) n (fun i _ => xeF_c hag), xeF_x L hm, xpg_s, xwF_c (F' := fup (xd6 m c) m s) (fun j hj => hag j (by omega)), xpg_c mu o (f' := fun i => xwF z h tx T κ δ ω i (xd6 m c)) m (fun i hi => xwF_c (fun j hj => xd6_a (by omega) hs))]
  generalize xpg mu o (fun i => xwF z h tx T κ δ ω i (xd6 m c)) m = P
  generalize xwF z h tx T κ δ ω m (fup (xd6 m c) m s) = w
  generalize xVh ad z o h tx T κ δ n Wg m s = v
  generalize xpg mu o (fun i => if i = m then o else xeF ad z o h tx T κ δ Wg m i (xd6 m c)) n = E
  rw [L.2.2.2.1 P w, ← L.2.2.2.1 w v E, L.2.2.2.2.1 (mu w v) E, ← L.2.2.2.1 P E]
theorem xid (L : xSR ad mu z o) (hW : ∀ p, p < n → ∀ s, s < 6 → Wg p s = bif xhb h tx T κ δ p s then z else mu (ω p s) (xVh ad z o h tx T κ δ n Wg p s)) : xsg ad z (fun c => xpg mu o (fun i => xwF z h tx T κ δ ω i (xd6 n c)) n) (6 ^ n) = xpg mu o (fun i => bif xhd κ δ i then xsg ad z (Wg i) 6 else o) n := by
  have all : ∀ u, u ≤ n → xQg ad mu z o h tx T κ δ n ω Wg n = xQg ad mu z o h tx T κ δ n ω Wg (n - u) := by
    intro u
    induction u with
    | zero => intro _; rfl
    | succ u ih =>
      intro hu
      rw [ih (by omega), show n - u = (n - (u + 1)) + 1 by omega, xQg_s L hW (by omega)]
  have h0 := all n (Nat.le_refl n)
  rw [Nat.sub_self] at h0
  have e1 : xQg ad mu z o h tx T κ δ n ω Wg n = xsg ad z (fun c => xpg mu o (fun i => xwF z h tx T κ δ ω i (xd6 n c)) n) (6 ^ n) := by
    unfold xQg
    refine xsg_c ad z (6 ^ n) (fun c _ => ?_)
    rw [xpg_o L (f := fun i => xeF ad z o h tx T κ δ Wg n i (xd6 n c)) n (fun i hi => by unfold xeF; rw [if_pos hi]), L.2.2.2.2.1, L.2.2.2.2.2.1]
  rw [← e1, h0]
  show ad z (mu o _) = _
  rw [L.2.2.1, L.2.2.2.2.2.1]
  refine xpg_c mu o n (fun i hi => ?_)
  unfold xeF
  rw [if_neg (by omega)]
  cases hh : xhd κ δ i with
  | true => rfl
  | false =>
    cases e : xsrc κ δ i with
    | none => rfl
    | some j =>
      rfl
end

