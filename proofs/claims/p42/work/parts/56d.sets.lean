/-! sets of steps, place by place, against all rows of steps -/
theorem xlst_b (p : Nat → Bool) : xlst (xbits p 6) = (xfst p 6).getD 0 := by
  have h : ∀ a b c d e f : Bool, xlst (xbits (fun s => match s with | 0 => a | 1 => b | 2 => c | 3 => d | 4 => e | _ => f) 6) = (xfst (fun s => match s with | 0 => a | 1 => b | 2 => c | 3 => d | 4 => e | _ => f) 6).getD 0 := by decide +kernel
  exact h (p 0) (p 1) (p 2) (p 3) (p 4) (p 5)
theorem xpc_b (p : Nat → Bool) : xpc (xN (xbits p 6)) = xcnt p 6 := by
  have h : ∀ a b c d e f : Bool, xpc (xN (xbits (fun s => match s with | 0 => a | 1 => b | 2 => c | 3 => d | 4 => e | _ => f) 6)) = xcnt (fun s => match s with | 0 => a | 1 => b | 2 => c | 3 => d | 4 => e | _ => f) 6 := by decide +kernel
  exact h (p 0) (p 1) (p 2) (p 3) (p 4) (p 5)
theorem xbits_0 (p : Nat → Bool) : xbits p 6 = 0 ↔ xfst p 6 = none := by
  have h : ∀ a b c d e f : Bool, (xbits (fun s => match s with | 0 => a | 1 => b | 2 => c | 3 => d | 4 => e | _ => f) 6 = 0 ↔ xfst (fun s => match s with | 0 => a | 1 => b | 2 => c | 3 => d | 4 => e | _ => f) 6 = none) := by decide +kernel
  exact h (p 0) (p 1) (p 2) (p 3) (p 4) (p 5)
theorem xbit_1 : ∀ n : Fin 6, ∀ i : Fin 32, ((1 : Int32) <<< (nI n.val &&& 31)).toBitVec.getLsbD i.val = decide (i.val = n.val) := by decide +kernel
theorem xbits_bit {p : Nat → Bool} : ∀ n, n ≤ 6 → ∀ i, i < 32 → (xbits p n).toBitVec.getLsbD i = (decide (i < n) && p i)
  | 0, _, i, _ => by
    have e : (xbits p 0).toBitVec.getLsbD i = false := by
      show (0 : Int32).toBitVec.getLsbD i = false
      show (0#32).getLsbD i = false
      simp
    rw [e]
    simp
  | n + 1, hn, i, hi => by
    have ih := xbits_bit (p := p) n (by omega) i hi
    rw [xbits_s]
    cases ep : p n with
    | false =>
      show (xbits p n).toBitVec.getLsbD i = _
      rw [ih]
      by_cases e : i = n
      · rw [e, ep]
        simp
      · by_cases h1 : i < n
        · rw [decide_eq_true h1, decide_eq_true (show i < n + 1 by omega)]
        · rw [decide_eq_false h1, decide_eq_false (show ¬ i < n + 1 by omega)]
    | true =>
      show (xbits p n ||| (1 <<< (nI n &&& 31))).toBitVec.getLsbD i = _
      have k1 := xbit_1 ⟨n, by omega⟩ ⟨i, hi⟩
      dsimp only at k1
      rw [Int32.toBitVec_or, BitVec.getLsbD_or, ih, k1]
      by_cases e : i = n
      · subst e
        simp [ep]
      · rw [decide_eq_false e, Bool.or_false]
        by_cases h1 : i < n
        · rw [decide_eq_true h1, decide_eq_true (show i < n + 1 by omega)]
        · rw [decide_eq_false h1, decide_eq_false (show ¬ i < n + 1 by omega)]
theorem xbits_and (p q : Nat → Bool) : xbits p 6 &&& xbits q 6 = xbits (fun s => p s && q s) 6 := by
  apply Int32.toBitVec_inj.mp
  apply BitVec.eq_of_getLsbD_eq
  intro i hi
  rw [Int32.toBitVec_and, BitVec.getLsbD_and, xbits_bit 6 (by decide) i hi, xbits_bit 6 (by decide) i hi, xbits_bit 6 (by decide) i hi]
  cases decide (i < 6) <;> cases p i <;> cases q i <;> rfl
theorem xbits_or1 (p : Nat → Bool) {v : Nat} (hv : v < 6) : xbits p 6 ||| (1 <<< (nI v &&& 31)) = xbits (fun s => p s || decide (v = s)) 6 := by
  apply Int32.toBitVec_inj.mp
  apply BitVec.eq_of_getLsbD_eq
  intro i hi
  have k1 := xbit_1 ⟨v, hv⟩ ⟨i, hi⟩
  dsimp only at k1
  rw [Int32.toBitVec_or, BitVec.getLsbD_or, k1, xbits_bit 6 (by decide) i hi, xbits_bit 6 (by decide) i hi]
  by_cases e : i = v
  · subst e
    simp [hv]
  · rw [decide_eq_false e, decide_eq_false (show ¬ v = i from fun z => e z.symm)]
    cases decide (i < 6) <;> cases p i <;> rfl
theorem xbits_c {p q : Nat → Bool} : ∀ n, (∀ s, s < n → p s = q s) → xbits p n = xbits q n
  | 0, _ => rfl
  | n + 1, h => by rw [xbits_s, xbits_s, xbits_c n (fun s hs => h s (by omega)), h n (by omega)]
theorem xfst_mn {p : Nat → Bool} : ∀ {n d : Nat}, xfst p n = some d → ∀ j, j < d → p j = false
  | 0, d, h, j, hj => by cases h
  | n + 1, d, h, j, hj => by
    rw [xfst_s] at h
    cases e : xfst p n with
    | some d' =>
      rw [e] at h
      have e2 : d' = d := Option.some.inj h
      rw [e2] at e
      exact xfst_mn e j hj
    | none =>
      rw [e] at h
      have hd : d = n := by
        cases ep : p n with
        | true =>
          have h' : (bif p n then some n else none) = some d := h
          rw [ep] at h'
          exact (Option.some.inj h').symm
        | false =>
          have h' : (bif p n then some n else none) = some d := h
          rw [ep] at h'
          cases h'
      exact xfst_none.mp e j (by omega)
/-- all places good -/
def xall (a : Nat → Nat → Bool) (m c : Nat) : Bool := decide (xfst (fun p => !a p (xd6 m c p)) m = none)
section
variable {a : Nat → Nat → Bool}
theorem xall_i {m c : Nat} : xall a m c = true ↔ ∀ p, p < m → a p (xd6 m c p) = true := by
  unfold xall
  rw [decide_eq_true_iff, xfst_none]
  constructor
  · intro h p hp
    have := h p hp
    cases e : a p (xd6 m c p)
    · rw [e] at this; cases this
    · rfl
  · intro h p hp
    rw [h p hp]
    rfl
theorem xall_s {m c s : Nat} (hs : s < 6) : xall a (m + 1) (c * 6 + s) = (xall a m c && a m s) := by
  have key : xall a (m + 1) (c * 6 + s) = true ↔ (xall a m c && a m s) = true := by
    rw [Bool.and_eq_true, xall_i, xall_i]
    constructor
    · intro h
      refine ⟨fun p hp => ?_, ?_⟩
      · have := h p (by omega)
        rw [xd6_a hp hs] at this
        exact this
      · have := h m (by omega)
        rw [xd6_b hs] at this
        exact this
    · intro h p hp
      by_cases e : p = m
      · rw [e, xd6_b hs]
        exact h.2
      · rw [xd6_a (by omega) hs]
        exact h.1 p (by omega)
  cases e1 : xall a (m + 1) (c * 6 + s) with
  | true => exact (key.mp e1).symm
  | false =>
    cases e2 : (xall a m c && a m s) with
    | false => rfl
    | true => rw [key.mpr e2] at e1; cases e1
theorem xall_cnt : ∀ m, xcnt (xall a m) (6 ^ m) = xpr (fun p => xcnt (a p) 6) 1 m
  | 0 => rfl
  | m + 1 => by
    have e0 : xcnt (xall a m) (6 ^ m) * xcnt (a m) 6 = xsg (fun a b : Nat => a + b) 0 (fun c => xcnt (a m) 6 * (bif xall a m c then 1 else 0)) (6 ^ m) := by
      rw [Nat.mul_comm, xcnt_g (p := xall a m)]
      exact xsg_m xSRn _ _ _
    rw [xpr_s, ← xall_cnt m, e0, xcnt_g, Nat.pow_succ, xsg_n xSRn]
    refine xsg_c _ _ (6 ^ m) (fun c _ => ?_)
    have e1 : xcnt (a m) 6 * (bif xall a m c then 1 else 0) = xsg (fun a b : Nat => a + b) 0 (fun t => (bif xall a m c then 1 else 0) * (bif a m t then 1 else 0)) 6 := by
      rw [Nat.mul_comm, xcnt_g (p := a m)]
      exact xsg_m xSRn _ _ 6
    rw [e1]
    refine xsg_c _ _ 6 (fun s hs => ?_)
    rw [xall_s hs]
    cases xall a m c <;> cases a m s <;> rfl
theorem xall_f : ∀ m, (xfst (xall a m) (6 ^ m) = none → ∃ p, p < m ∧ xfst (a p) 6 = none) ∧ (∀ c, xfst (xall a m) (6 ^ m) = some c → ∀ p, p < m → xfst (a p) 6 = some (xd6 m c p))
  | 0 => ⟨fun h => (by cases h), fun c _ p hp => absurd hp (by omega)⟩
  | m + 1 => by
    have ih := xall_f m
    have bl := xfst_bl (P := xall a (m + 1)) (M := 6) (by decide) (6 ^ m)
    have e1 : xfst (fun s => (xfst (fun c => xall a (m + 1) (s * 6 + c)) 6).isSome) (6 ^ m) = xfst (fun c => xall a m c && (xfst (a m) 6).isSome) (6 ^ m) := xfst_congr (fun c _ => by
      rw [xfst_congr (p := fun s => xall a (m + 1) (c * 6 + s)) (p' := fun s => xall a m c && a m s) (fun s hs => xall_s hs), xfst_and])
    rw [e1, ← Nat.pow_succ] at bl
    refine ⟨fun h => ?_, fun c h => ?_⟩
    · rw [h] at bl
      cases em : xfst (a m) 6 with
      | none => exact ⟨m, by omega, em⟩
      | some d =>
        rw [em] at bl
        have e2 : xfst (xall a m) (6 ^ m) = none := by
          rw [show xfst (xall a m) (6 ^ m) = xfst (fun c => xall a m c && (some d).isSome) (6 ^ m) from xfst_congr (fun c _ => (Bool.and_true _).symm)]
          exact bl.symm
        obtain ⟨p, h1, h2⟩ := ih.1 e2
        exact ⟨p, by omega, h2⟩
    · have hc := xfst_lt h
      have hmn := xfst_mn h
      have hcd : c = c / 6 * 6 + c % 6 := by omega
      have hall : xall a m (c / 6) = true ∧ a m (c % 6) = true := by
        have := hc.2
        rw [hcd, xall_s (Nat.mod_lt _ (by decide)), Bool.and_eq_true] at this
        exact this
      have hlast : xfst (a m) 6 = some (c % 6) := xfst_at (xfst_none.mpr (fun s hs => by
        have := hmn (c / 6 * 6 + s) (by omega)
        rw [xall_s (by omega), hall.1, Bool.true_and] at this
        exact this)) hall.2 (Nat.mod_lt _ (by decide))
      rw [h, hlast] at bl
      have e2 : xfst (xall a m) (6 ^ m) = some (c / 6) := by
        rw [show some (c / 6) = Option.map (fun c => c / 6) (some c) from rfl, bl]
        exact xfst_congr (fun c _ => (Bool.and_true _).symm)
      intro p hp
      by_cases e : p = m
      · rw [e, hlast, hcd, xd6_b (Nat.mod_lt _ (by decide))]
        congr 1
        omega
      · rw [ih.2 _ e2 p (by omega)]
        congr 1
        rw [show xd6 (m + 1) c p = xd6 (m + 1) (c / 6 * 6 + c % 6) p from by rw [← hcd]]
        exact (xd6_a (by omega) (Nat.mod_lt _ (by decide))).symm
theorem xall_n {m p : Nat} (hp : p < m) (h : xfst (a p) 6 = none) : xfst (xall a m) (6 ^ m) = none := by
  cases e : xfst (xall a m) (6 ^ m) with
  | none => rfl
  | some c =>
    have := (xall_f m).2 c e p hp
    rw [h] at this
    cases this
theorem xorf_b {P : Nat → Bool} {v : Nat → Nat} (hv : ∀ c, v c < 6) : ∀ N, xorf P v N = xbits (fun s => (xfst (fun c => P c && decide (v c = s)) N).isSome) 6
  | 0 => by
    have e : xbits (fun s => (xfst (fun c => P c && decide (v c = s)) 0).isSome) 6 = xbits (fun _ => false) 6 := xbits_c 6 (fun s _ => rfl)
    rw [e]
    show (0 : Int32) = _
    decide
  | N + 1 => by
    rw [xorf_s, xorf_b hv N]
    cases ep : P N with
    | false =>
      show xbits (fun s => (xfst (fun c => P c && decide (v c = s)) N).isSome) 6 = _
      refine xbits_c 6 (fun s _ => ?_)
      rw [xfst_f (p := fun c => P c && decide (v c = s)) (by rw [ep]; rfl)]
    | true =>
      show xbits (fun s => (xfst (fun c => P c && decide (v c = s)) N).isSome) 6 ||| (1 <<< (nI (v N) &&& 31)) = _
      rw [xbits_or1 _ (hv N)]
      refine xbits_c 6 (fun s _ => ?_)
      show ((xfst (fun c => P c && decide (v c = s)) N).isSome || decide (v N = s)) = (xfst (fun c => P c && decide (v c = s)) (N + 1)).isSome
      cases e : xfst (fun c => P c && decide (v c = s)) N with
      | some d =>
        rw [xfst_up e 1]
        rfl
      | none =>
        by_cases ev : v N = s
        · rw [xfst_c e (by rw [ep, decide_eq_true ev]; rfl), decide_eq_true ev]
          rfl
        · rw [xfst_n e (by rw [ep, decide_eq_false ev]; rfl), decide_eq_false ev]
          rfl
theorem xall_or {m d : Nat} (hd : d < m) : xorf (xall a m) (fun c => xd6 m c d) (6 ^ m) = if xfst (xall a m) (6 ^ m) = none then 0 else xbits (a d) 6 := by
  rw [xorf_b (fun c => xd6_lt m c d)]
  have key : ∀ s, s < 6 → (xfst (fun c => xall a m c && decide (xd6 m c d = s)) (6 ^ m)).isSome = (decide (xfst (xall a m) (6 ^ m) ≠ none) && a d s) := fun s hs => by
    have e1 : xfst (fun c => xall a m c && decide (xd6 m c d = s)) (6 ^ m) = xfst (xall (fun p t => if p = d then a p t && decide (t = s) else a p t) m) (6 ^ m) := xfst_congr (fun c _ => by
      have hh : (xall a m c && decide (xd6 m c d = s)) = true ↔ xall (fun p t => if p = d then a p t && decide (t = s) else a p t) m c = true := by
        rw [Bool.and_eq_true, xall_i, xall_i, decide_eq_true_iff]
        constructor
        · intro h p hp
          by_cases e : p = d
          · rw [if_pos e, h.1 p hp, e, decide_eq_true h.2]
            rfl
          · rw [if_neg e]
            exact h.1 p hp
        · intro h
          refine ⟨fun p hp => ?_, ?_⟩
          · have := h p hp
            by_cases e : p = d
            · rw [if_pos e, Bool.and_eq_true] at this
              exact this.1
            · rw [if_neg e] at this
              exact this
          · have := h d hd
            rw [if_pos rfl, Bool.and_eq_true, decide_eq_true_iff] at this
            exact this.2
      cases e1 : (xall a m c && decide (xd6 m c d = s)) with
      | true => exact (hh.mp e1).symm
      | false =>
        cases e2 : xall (fun p t => if p = d then a p t && decide (t = s) else a p t) m c with
        | false => rfl
        | true => rw [hh.mpr e2] at e1; cases e1)
    rw [e1]
    cases e2 : xfst (xall (fun p t => if p = d then a p t && decide (t = s) else a p t) m) (6 ^ m) with
    | some c =>
      have hf := (xall_f m).2 c e2
      have hd1 := xfst_lt (hf d hd)
      rw [if_pos rfl, Bool.and_eq_true, decide_eq_true_iff] at hd1
      have hne : xfst (xall a m) (6 ^ m) ≠ none := fun z => by
        obtain ⟨p, h1, h2⟩ := (xall_f m).1 z
        by_cases e : p = d
        · have := xfst_none.mp h2 s hs
          rw [e, ← hd1.2.2, hd1.2.1] at this
          cases this
        · have := hf p h1
          rw [show (fun t => if p = d then a p t && decide (t = s) else a p t) = a p from funext (fun t => if_neg e), h2] at this
          cases this
      rw [decide_eq_true hne, ← hd1.2.2, hd1.2.1]
      rfl
    | none =>
      obtain ⟨p, h1, h2⟩ := (xall_f m).1 e2
      by_cases e : p = d
      · have h3 := xfst_none.mp h2 s hs
        rw [if_pos e, decide_eq_true (show s = s from rfl), Bool.and_true, e] at h3
        rw [h3, Bool.and_false]
        rfl
      · rw [show (fun t => if p = d then a p t && decide (t = s) else a p t) = a p from funext (fun t => if_neg e)] at h2
        rw [xall_n h1 h2]
        rfl
  rw [xbits_c 6 key]
  by_cases z : xfst (xall a m) (6 ^ m) = none
  · rw [if_pos z, xbits_c (q := fun _ => false) 6 (fun s _ => by rw [decide_eq_false (fun q => q z)]; rfl)]
    decide
  · rw [if_neg z]
    exact xbits_c 6 (fun s _ => by rw [decide_eq_true z, Bool.true_and])
end
section
variable {h f : Nat → Int32} {κ δ : Nat}
/-- the steps that a place may have -/
def xal (h f : Nat → Int32) (κ δ n p s : Nat) : Bool := Nat.rec (motive := fun _ => Bool) true (fun i c => match xsrc κ δ i with
  | some q => c && (if q = p then decide (xseen h κ i s = f i) else true)
  | none => c) n
theorem xal_s {q n p s : Nat} (e : xsrc κ δ n = some q) : xal h f κ δ (n + 1) p s = (xal h f κ δ n p s && (if q = p then decide (xseen h κ n s = f n) else true)) := by
  show (match xsrc κ δ n with
    | some q => xal h f κ δ n p s && (if q = p then decide (xseen h κ n s = f n) else true)
    | none => xal h f κ δ n p s) = _
  rw [e]
theorem xal_n {n p s : Nat} (e : xsrc κ δ n = none) : xal h f κ δ (n + 1) p s = xal h f κ δ n p s := by
  show (match xsrc κ δ n with
    | some q => xal h f κ δ n p s && (if q = p then decide (xseen h κ n s = f n) else true)
    | none => xal h f κ δ n p s) = _
  rw [e]
theorem xst_al : ∀ n p, xst κ δ (xB h κ f) n p = xbits (xal h f κ δ n p) 6
  | 0, p => by
    have e : xbits (xal h f κ δ 0 p) 6 = xbits (fun _ => true) 6 := xbits_c 6 (fun s _ => rfl)
    rw [e]
    show (63 : Int32) = _
    decide
  | n + 1, p => by
    cases e : xsrc κ δ n with
    | none =>
      rw [xst_none e, xst_al n p]
      exact xbits_c 6 (fun s _ => (xal_n e).symm)
    | some q =>
      rw [xst_some e]
      show (if p = q then xst κ δ (xB h κ f) n q &&& xB h κ f n else xst κ δ (xB h κ f) n p) = _
      by_cases ep : p = q
      · rw [if_pos ep, ← ep, xst_al n p]
        unfold xB
        rw [xbits_and]
        exact xbits_c 6 (fun s _ => by rw [xal_s e, if_pos ep.symm])
      · rw [if_neg ep, xst_al n p]
        exact xbits_c 6 (fun s _ => by rw [xal_s e, if_neg (fun z => ep z.symm), Bool.and_true])
theorem xmatch {F : Nat → Nat} : ∀ n, (xfst (fun i => !decide (xshw h κ δ F i = f i)) n = none) ↔ (xps κ δ f n = true ∧ ∀ p, xal h f κ δ n p (F p) = true)
  | 0 => ⟨fun _ => ⟨rfl, fun _ => rfl⟩, fun _ => rfl⟩
  | n + 1 => by
    have ih := xmatch (F := F) n
    have hstep : (xfst (fun i => !decide (xshw h κ δ F i = f i)) (n + 1) = none) ↔ (xfst (fun i => !decide (xshw h κ δ F i = f i)) n = none ∧ xshw h κ δ F n = f n) := by
      constructor
      · intro z
        refine ⟨xfst_none.mpr (fun i hi => xfst_none.mp z i (by omega)), ?_⟩
        have := xfst_none.mp z n (by omega)
        by_cases e : xshw h κ δ F n = f n
        · exact e
        · rw [decide_eq_false e] at this
          cases this
      · intro z
        exact xfst_n z.1 (by rw [decide_eq_true z.2]; rfl)
    rw [hstep, ih]
    unfold xshw
    cases e : xsrc κ δ n with
    | none =>
      show (_ ∧ (0 : Int32) = f n) ↔ _
      by_cases hz : f n = 0
      · rw [xps_z e hz]
        constructor
        · intro z
          exact ⟨z.1.1, fun p => by rw [xal_n e]; exact z.1.2 p⟩
        · intro z
          exact ⟨⟨z.1, fun p => by rw [← xal_n e]; exact z.2 p⟩, hz.symm⟩
      · rw [xps_nz e hz]
        exact ⟨fun z => absurd z.2.symm hz, fun z => by cases z.1⟩
    | some q =>
      show (_ ∧ xseen h κ n (F q) = f n) ↔ _
      rw [xps_some e]
      constructor
      · intro z
        refine ⟨z.1.1, fun p => ?_⟩
        rw [xal_s e, z.1.2 p, Bool.true_and]
        by_cases ep : q = p
        · rw [if_pos ep, ← ep]
          exact decide_eq_true z.2
        · rw [if_neg ep]
      · intro z
        refine ⟨⟨z.1, fun p => ?_⟩, ?_⟩
        · have := z.2 p
          rw [xal_s e, Bool.and_eq_true] at this
          exact this.1
        · have := z.2 q
          rw [xal_s e, if_pos rfl, Bool.and_eq_true, decide_eq_true_iff] at this
          exact this.2
theorem xal_out : ∀ n p s, n ≤ p → xal h f κ δ n p s = true
  | 0, _, _, _ => rfl
  | n + 1, p, s, hp => by
    cases e : xsrc κ δ n with
    | none => rw [xal_n e]; exact xal_out n p s (by omega)
    | some q =>
      have := xsrc_le e
      rw [xal_s e, xal_out n p s (by omega), if_neg (by omega)]
      rfl
theorem xmatch_all {n c : Nat} : decide (xfst (fun i => !decide (xshw h κ δ (xd6 n c) i = f i)) n = none) = (xps κ δ f n && xall (xal h f κ δ n) n c) := by
  have key : (xfst (fun i => !decide (xshw h κ δ (xd6 n c) i = f i)) n = none) ↔ (xps κ δ f n && xall (xal h f κ δ n) n c) = true := by
    rw [xmatch n, Bool.and_eq_true, xall_i]
    constructor
    · intro z
      exact ⟨z.1, fun p _ => z.2 p⟩
    · intro z
      refine ⟨z.1, fun p => ?_⟩
      by_cases hp : p < n
      · exact z.2 p hp
      · exact xal_out n p _ (by omega)
  cases e : (xps κ δ f n && xall (xal h f κ δ n) n c) with
  | true => exact decide_eq_true (key.mpr e)
  | false => exact decide_eq_false (fun z => by rw [key.mp z] at e; cases e)
theorem xnz_all {S : Nat → Int32} {c : Bool} : ∀ n, xnz S n c = true ↔ (c = true ∧ ∀ p, p < n → S p ≠ 0)
  | 0 => ⟨fun z => ⟨z, fun p hp => absurd hp (by omega)⟩, fun z => z.1⟩
  | n + 1 => by
    show (xnz S n c && !decide (S n = 0)) = true ↔ _
    rw [Bool.and_eq_true, xnz_all n]
    constructor
    · rintro ⟨⟨h1, h2⟩, h3⟩
      refine ⟨h1, fun p hp => ?_⟩
      by_cases e : p = n
      · rw [e]
        intro z
        rw [decide_eq_true z] at h3
        cases h3
      · exact h2 p (by omega)
    · rintro ⟨h1, h2⟩
      refine ⟨⟨h1, fun p hp => h2 p (by omega)⟩, ?_⟩
      rw [decide_eq_false (h2 n (by omega))]
      rfl
/-- whether any row of steps shows f -/
theorem xany {n : Nat} : xnz (xst κ δ (xB h κ f) n) n (xps κ δ f n) = true ↔ xfst (fun c => decide (xfst (fun i => !decide (xshw h κ δ (xd6 n c) i = f i)) n = none)) (6 ^ n) ≠ none := by
  rw [xnz_all]
  have e : xfst (fun c => decide (xfst (fun i => !decide (xshw h κ δ (xd6 n c) i = f i)) n = none)) (6 ^ n) = xfst (fun c => xps κ δ f n && xall (xal h f κ δ n) n c) (6 ^ n) := xfst_congr (fun c _ => xmatch_all)
  rw [e]
  cases hp : xps κ δ f n with
  | false =>
    constructor
    · intro z; cases z.1
    · intro z
      exact absurd (xfst_none.mpr (fun c _ => rfl)) z
  | true =>
    rw [show (fun c => true && xall (xal h f κ δ n) n c) = xall (xal h f κ δ n) n from funext (fun c => Bool.true_and _)]
    constructor
    · intro z z2
      obtain ⟨p, h1, h2⟩ := (xall_f n).1 z2
      exact z.2 p h1 (by rw [xst_al]; exact (xbits_0 _).mpr h2)
    · intro z
      refine ⟨rfl, fun p hp z2 => z (xall_n hp ?_)⟩
      rw [xst_al] at z2
      exact (xbits_0 _).mp z2
theorem xfirst {n c : Nat} (hc : xfst (fun c => decide (xfst (fun i => !decide (xshw h κ δ (xd6 n c) i = f i)) n = none)) (6 ^ n) = some c) : ∀ p, p < n → xlst (xst κ δ (xB h κ f) n p) = xd6 n c p := by
  intro p hp
  have e : xfst (fun c => decide (xfst (fun i => !decide (xshw h κ δ (xd6 n c) i = f i)) n = none)) (6 ^ n) = xfst (fun c => xps κ δ f n && xall (xal h f κ δ n) n c) (6 ^ n) := xfst_congr (fun c _ => xmatch_all)
  rw [e] at hc
  cases hps : xps κ δ f n with
  | false =>
    rw [hps, show xfst (fun c => false && xall (xal h f κ δ n) n c) (6 ^ n) = none from xfst_none.mpr (fun c _ => rfl)] at hc
    cases hc
  | true =>
    rw [hps, show (fun c => true && xall (xal h f κ δ n) n c) = xall (xal h f κ δ n) n from funext (fun c => Bool.true_and _)] at hc
    rw [xst_al, xlst_b, (xall_f n).2 c hc p hp]
    rfl
end

