/-! bits of 24: counted; what to do next -/
theorem nI_or (a b : Nat) : nI a ||| nI b = nI (a ||| b) := Int32.toBitVec_inj.mp (by
  rw [Int32.toBitVec_or]
  show BitVec.ofNat 32 a ||| BitVec.ofNat 32 b = BitVec.ofNat 32 (a ||| b)
  rw [BitVec.ofNat_or])
theorem nI_and (a b : Nat) : nI a &&& nI b = nI (a &&& b) := Int32.toBitVec_inj.mp (by
  rw [Int32.toBitVec_and]
  show BitVec.ofNat 32 a &&& BitVec.ofNat 32 b = BitVec.ofNat 32 (a &&& b)
  rw [BitVec.ofNat_and])
def xmk (p : Nat → Bool) (n : Nat) : Nat := Nat.rec (motive := fun _ => Nat) 0 (fun j c => bif p j then c + 2 ^ j else c) n
theorem xmk_s (p : Nat → Bool) (n : Nat) : xmk p (n + 1) = bif p n then xmk p n + 2 ^ n else xmk p n := rfl
theorem xmk_lt (p : Nat → Bool) : ∀ n, xmk p n < 2 ^ n
  | 0 => by
    show (0 : Nat) < 1
    decide
  | n + 1 => by
    have := xmk_lt p n
    rw [xmk_s, Nat.pow_succ]
    cases p n
    · show xmk p n < _
      omega
    · show xmk p n + 2 ^ n < _
      omega
theorem xmk_or {p : Nat → Bool} {n : Nat} : xmk p n + 2 ^ n = xmk p n ||| 2 ^ n := by
  have := Nat.two_pow_add_eq_or_of_lt (xmk_lt p n) 1
  rw [Nat.mul_one] at this
  rw [Nat.add_comm, this, Nat.or_comm]
theorem xmk_bit {p : Nat → Bool} : ∀ n i, (xmk p n).testBit i = (decide (i < n) && p i)
  | 0, i => by
    show Nat.testBit 0 i = _
    simp
  | n + 1, i => by
    have ih := xmk_bit (p := p) n i
    rw [xmk_s]
    cases ep : p n with
    | false =>
      show (xmk p n).testBit i = _
      rw [ih]
      by_cases e : i = n
      · subst e
        simp [ep]
      · by_cases h1 : i < n
        · rw [decide_eq_true h1, decide_eq_true (show i < n + 1 by omega)]
        · rw [decide_eq_false h1, decide_eq_false (show ¬ i < n + 1 by omega)]
    | true =>
      show (xmk p n + 2 ^ n).testBit i = _
      rw [xmk_or, Nat.testBit_or, ih, Nat.testBit_two_pow]
      by_cases e : i = n
      · subst e
        simp [ep]
      · rw [decide_eq_false (show ¬ n = i from fun z => e z.symm), Bool.or_false]
        by_cases h1 : i < n
        · rw [decide_eq_true h1, decide_eq_true (show i < n + 1 by omega)]
        · rw [decide_eq_false h1, decide_eq_false (show ¬ i < n + 1 by omega)]
theorem xsh_24 : ∀ n : Fin 24, ((1 : Int32) <<< (nI n.val &&& 31)) = nI (2 ^ n.val) := by decide +kernel
theorem xbits_mk {p : Nat → Bool} : ∀ n, n ≤ 24 → xbits p n = nI (xmk p n)
  | 0, _ => rfl
  | n + 1, hn => by
    rw [xbits_s, xmk_s, xbits_mk n (by omega)]
    cases p n with
    | false => rfl
    | true =>
      show nI (xmk p n) ||| (1 <<< (nI n &&& 31)) = nI (xmk p n + 2 ^ n)
      have h1 := xsh_24 ⟨n, by omega⟩
      dsimp only at h1
      rw [h1, nI_or, xmk_or]
theorem xcnt_ad (p : Nat → Bool) (a : Nat) : ∀ n, xcnt p (a + n) = xcnt p a + xcnt (fun s => p (a + s)) n
  | 0 => rfl
  | n + 1 => by
    rw [show a + (n + 1) = a + n + 1 from rfl, xcnt_s, xcnt_s, xcnt_ad p a n]
    cases p (a + n) <;> rfl
def xp8 (a : Nat) : Nat := xcnt (fun s => a.testBit s) 8
def xla (a b c : Nat) : Nat := a + 256 * b + 65536 * c
theorem xla_and {a b c M m : Nat} (ha : a < 256) (hb : b < 256) (hc : c < 256) (h0 : M % 256 = m) (h1 : M / 256 % 256 = m) (h2 : M / 65536 % 256 = m) : xla a b c &&& M = xla (a &&& m) (b &&& m) (c &&& m) := by
  have e0 : (xla a b c &&& M) % 256 = a &&& m := by
    have := Nat.and_mod_two_pow (a := xla a b c) (b := M) (n := 8)
    rw [show (2 : Nat) ^ 8 = 256 from rfl] at this
    rw [this, h0, show xla a b c % 256 = a from by unfold xla; omega]
  have e1 : (xla a b c &&& M) / 256 % 256 = b &&& m := by
    have z := Nat.and_div_two_pow (a := xla a b c) (b := M) (n := 8)
    rw [show (2 : Nat) ^ 8 = 256 from rfl] at z
    have := Nat.and_mod_two_pow (a := xla a b c / 256) (b := M / 256) (n := 8)
    rw [show (2 : Nat) ^ 8 = 256 from rfl] at this
    rw [z, this, h1, show xla a b c / 256 % 256 = b from by unfold xla; omega]
  have e2 : (xla a b c &&& M) / 65536 % 256 = c &&& m := by
    have z := Nat.and_div_two_pow (a := xla a b c) (b := M) (n := 16)
    rw [show (2 : Nat) ^ 16 = 65536 from rfl] at z
    have := Nat.and_mod_two_pow (a := xla a b c / 65536) (b := M / 65536) (n := 8)
    rw [show (2 : Nat) ^ 8 = 256 from rfl] at this
    rw [z, this, h2, show xla a b c / 65536 % 256 = c from by unfold xla; omega]
  have e3 : xla a b c &&& M ≤ xla a b c := Nat.and_le_left
  have e4 : xla a b c < 16777216 := by unfold xla; omega
  have e5 : xla (a &&& m) (b &&& m) (c &&& m) = (xla a b c &&& M) % 256 + 256 * ((xla a b c &&& M) / 256 % 256) + 65536 * ((xla a b c &&& M) / 65536 % 256) := by
    rw [e0, e1, e2]
    rfl
  rw [e5]
  omega
theorem xu85 : ∀ u : Fin 128, ∀ v : Fin 2, (u.val + 128 * v.val) &&& 85 = u.val &&& 85 := by decide +kernel
theorem xu51 : ∀ u : Fin 64, ∀ v : Fin 4, (u.val + 64 * v.val) &&& 51 = u.val &&& 51 := by decide +kernel
def xq1 (a : Nat) : Nat := a - (a / 2 &&& 85)
def xq2 (a : Nat) : Nat := (a &&& 51) + (a / 4 &&& 51)
theorem xq_all : ∀ a : Fin 256, xq1 a.val < 256 ∧ xq2 (xq1 a.val) % 16 ≤ 4 ∧ xq2 (xq1 a.val) / 16 ≤ 4 ∧ xq2 (xq1 a.val) % 16 + xq2 (xq1 a.val) / 16 = xp8 a.val := by decide +kernel
theorem xs_1 {a b c : Nat} (ha : a < 256) (hb : b < 256) (hc : c < 256) : xla a b c - (xla a b c / 2 &&& 1431655765) = xla (xq1 a) (xq1 b) (xq1 c) ∧ (xla a b c / 2 &&& 1431655765) ≤ xla a b c := by
  have e : xla a b c / 2 = xla (a / 2 + 128 * (b % 2)) (b / 2 + 128 * (c % 2)) (c / 2) := by unfold xla; omega
  have k1 := xu85 ⟨a / 2, by omega⟩ ⟨b % 2, by omega⟩
  have k2 := xu85 ⟨b / 2, by omega⟩ ⟨c % 2, by omega⟩
  dsimp only at k1 k2
  rw [e, xla_and (m := 85) (by omega) (by omega) (by omega) (by decide) (by decide) (by decide), k1, k2]
  have l1 : a / 2 &&& 85 ≤ a / 2 := Nat.and_le_left
  have l2 : b / 2 &&& 85 ≤ b / 2 := Nat.and_le_left
  have l3 : c / 2 &&& 85 ≤ c / 2 := Nat.and_le_left
  unfold xla xq1
  omega
theorem xs_2 {a b c : Nat} (ha : a < 256) (hb : b < 256) (hc : c < 256) : (xla a b c &&& 858993459) + (xla a b c / 4 &&& 858993459) = xla (xq2 a) (xq2 b) (xq2 c) := by
  have e : xla a b c / 4 = xla (a / 4 + 64 * (b % 4)) (b / 4 + 64 * (c % 4)) (c / 4) := by unfold xla; omega
  have k1 := xu51 ⟨a / 4, by omega⟩ ⟨b % 4, by omega⟩
  have k2 := xu51 ⟨b / 4, by omega⟩ ⟨c % 4, by omega⟩
  dsimp only at k1 k2
  rw [e, xla_and (m := 51) ha hb hc (by decide) (by decide) (by decide), xla_and (m := 51) (by omega) (by omega) (by omega) (by decide) (by decide) (by decide), k1, k2]
  unfold xla xq2
  omega
theorem xand15 (x : Nat) : x &&& 15 = x % 16 := Nat.and_two_pow_sub_one_eq_mod x 4
theorem xand63 (x : Nat) : x &&& 63 = x % 64 := Nat.and_two_pow_sub_one_eq_mod x 6
theorem xs_3 {a b c : Nat} (ha : a % 16 ≤ 4 ∧ a / 16 ≤ 4) (hb : b % 16 ≤ 4 ∧ b / 16 ≤ 4) (hc : c % 16 ≤ 4 ∧ c / 16 ≤ 4) : (xla a b c + xla a b c / 16) &&& 252645135 = xla (a % 16 + a / 16) (b % 16 + b / 16) (c % 16 + c / 16) := by
  have e : xla a b c + xla a b c / 16 = xla (a + a / 16 + 16 * (b % 16)) (b + b / 16 + 16 * (c % 16)) (c + c / 16) := by unfold xla; omega
  have k : ∀ x y, x % 16 ≤ 4 → x / 16 ≤ 4 → (x + x / 16 + 16 * y) % 16 = x % 16 + x / 16 := fun x y h1 h2 => by
    rw [Nat.add_mul_mod_self_left]
    omega
  have k0 := k c 0 hc.1 hc.2
  rw [Nat.mul_zero, Nat.add_zero] at k0
  rw [e, xla_and (m := 15) (by omega) (by omega) (by omega) (by decide) (by decide) (by decide), xand15, xand15, xand15, k a _ ha.1 ha.2, k b _ hb.1 hb.2, k0]
theorem xbc_n {a b c : Nat} (ha : a < 256) (hb : b < 256) (hc : c < 256) : xbc (nI (xla a b c)) = nI (xp8 a + xp8 b + xp8 c) := by
  have u1 : ∀ y, y < 2 ^ 32 → xush (nI y) 1 = nI (y / 2) := fun y h => pk_ushrN h 1 1 (by decide)
  have u2 : ∀ y, y < 2 ^ 32 → xush (nI y) 2 = nI (y / 4) := fun y h => pk_ushrN h 2 2 (by decide)
  have u4 : ∀ y, y < 2 ^ 32 → xush (nI y) 4 = nI (y / 16) := fun y h => pk_ushrN h 4 4 (by decide)
  have u8 : ∀ y, y < 2 ^ 32 → xush (nI y) 8 = nI (y / 256) := fun y h => pk_ushrN h 8 8 (by decide)
  have u16 : ∀ y, y < 2 ^ 32 → xush (nI y) 16 = nI (y / 65536) := fun y h => pk_ushrN h 16 16 (by decide)
  have q1 := xq_all ⟨a, ha⟩
  have q2 := xq_all ⟨b, hb⟩
  have q3 := xq_all ⟨c, hc⟩
  dsimp only at q1 q2 q3
  have lt : xla a b c < 2 ^ 32 := by unfold xla; omega
  have s1 : xbc1 (nI (xla a b c)) = nI (xla (xq1 a) (xq1 b) (xq1 c)) := by
    unfold xbc1
    rw [u1 _ lt, show (1431655765 : Int32) = nI 1431655765 from rfl, nI_and, pk_sub (xs_1 ha hb hc).2, (xs_1 ha hb hc).1]
  have lt2 : xla (xq1 a) (xq1 b) (xq1 c) < 2 ^ 32 := by unfold xla; omega
  have s2 : xbc2 (nI (xla (xq1 a) (xq1 b) (xq1 c))) = nI (xla (xq2 (xq1 a)) (xq2 (xq1 b)) (xq2 (xq1 c))) := by
    unfold xbc2
    rw [u2 _ lt2, show (858993459 : Int32) = nI 858993459 from rfl, nI_and, nI_and, nI_add, xs_2 q1.1 q2.1 q3.1]
  have lt3 : xla (xq2 (xq1 a)) (xq2 (xq1 b)) (xq2 (xq1 c)) < 2 ^ 32 := by unfold xla; omega
  have s3 : xbc3 (nI (xla (xq2 (xq1 a)) (xq2 (xq1 b)) (xq2 (xq1 c)))) = nI (xla (xp8 a) (xp8 b) (xp8 c)) := by
    unfold xbc3
    rw [u4 _ lt3, show (252645135 : Int32) = nI 252645135 from rfl, nI_add, nI_and, xs_3 ⟨q1.2.1, q1.2.2.1⟩ ⟨q2.2.1, q2.2.2.1⟩ ⟨q3.2.1, q3.2.2.1⟩, q1.2.2.2, q2.2.2.2, q3.2.2.2]
  have n1 : xp8 a ≤ 8 := xcnt_le _ _
  have n2 : xp8 b ≤ 8 := xcnt_le _ _
  have n3 : xp8 c ≤ 8 := xcnt_le _ _
  unfold xbc
  rw [s1, s2, s3]
  unfold xbc4 xbc5
  rw [u8 _ (by unfold xla; omega), nI_add, u16 _ (by unfold xla; omega), nI_add, show (63 : Int32) = nI 63 from rfl, nI_and, xand63]
  congr 1
  generalize xp8 a = n0 at n1
  generalize xp8 b = n4 at n2
  generalize xp8 c = n5 at n3
  unfold xla
  have d1 : (n0 + 256 * n4 + 65536 * n5) / 256 = n4 + 256 * n5 := by omega
  rw [d1]
  have d2 : (n0 + 256 * n4 + 65536 * n5 + (n4 + 256 * n5)) / 65536 = n5 := by omega
  rw [d2]
  omega
theorem xcnt_24 (p : Nat → Bool) : xbc (xbits p 24) = nI (xcnt p 24) := by
  have hy := xmk_lt p 24
  have hb := xmk_bit (p := p) 24
  have e : xmk p 24 = xla (xmk p 24 % 256) (xmk p 24 / 256 % 256) (xmk p 24 / 65536) := by unfold xla; omega
  have hy2 : xmk p 24 < 16777216 := hy
  rw [xbits_mk 24 (by decide), e, xbc_n (by omega) (by omega) (by omega)]
  congr 1
  have split : xcnt p 24 = xcnt p 8 + xcnt (fun s => p (8 + s)) 8 + xcnt (fun s => p (8 + (8 + s))) 8 := by
    have z1 := xcnt_ad p 8 16
    have z2 := xcnt_ad (fun s => p (8 + s)) 8 8
    have z3 : xcnt p 24 = xcnt p (8 + 16) := rfl
    have z4 : xcnt (fun s => p (8 + s)) 16 = xcnt (fun s => p (8 + s)) (8 + 8) := rfl
    rw [z3, z1, z4, z2, Nat.add_assoc]
  have e1 : xp8 (xmk p 24 % 256) = xcnt p 8 := xcnt_congr (fun s hs => by
    have := Nat.testBit_mod_two_pow (xmk p 24) 8 s
    rw [show (2 : Nat) ^ 8 = 256 from rfl] at this
    rw [this, decide_eq_true hs, Bool.true_and, hb, decide_eq_true (show s < 24 by omega), Bool.true_and])
  have e2 : xp8 (xmk p 24 / 256 % 256) = xcnt (fun s => p (8 + s)) 8 := xcnt_congr (fun s hs => by
    have := Nat.testBit_mod_two_pow (xmk p 24 / 256) 8 s
    rw [show (2 : Nat) ^ 8 = 256 from rfl] at this
    have z := Nat.testBit_div_two_pow (n := 8) (xmk p 24) s
    rw [show (2 : Nat) ^ 8 = 256 from rfl] at z
    rw [this, decide_eq_true hs, Bool.true_and, z, hb, decide_eq_true (show _ < 24 by omega), Bool.true_and]
    congr 1
    omega)
  have e3 : xp8 (xmk p 24 / 65536) = xcnt (fun s => p (8 + (8 + s))) 8 := xcnt_congr (fun s hs => by
    have z := Nat.testBit_div_two_pow (n := 16) (xmk p 24) s
    rw [show (2 : Nat) ^ 16 = 65536 from rfl] at z
    rw [z, hb, decide_eq_true (show _ < 24 by omega), Bool.true_and]
    congr 1
    omega)
  rw [split, e1, e2, e3]
theorem xbit_at {p : Nat → Bool} {k : Nat} (hk : k < 24) : (xbits p 24 >>> (nI k &&& 31)) &&& 1 = if p k = true then 1 else 0 := by
  have hs : ((nI k &&& 31).toBitVec.smod 32).toNat = k := by
    have h : ∀ k : Fin 24, ((nI k.val &&& 31).toBitVec.smod 32).toNat = k.val := by decide +kernel
    exact h ⟨k, hk⟩
  have hy : xmk p 24 < 2 ^ 24 := xmk_lt p 24
  rw [xbits_mk 24 (by decide), pk_shrN (by omega) _ k hs, show (1 : Int32) = nI 1 from rfl, nI_and, show xmk p 24 / 2 ^ k &&& 1 = xmk p 24 / 2 ^ k % 2 from Nat.and_two_pow_sub_one_eq_mod _ 1]
  have hb := xmk_bit (p := p) 24 k
  rw [decide_eq_true hk, Bool.true_and] at hb
  rw [Nat.testBit_eq_decide_div_mod_eq] at hb
  by_cases e : xmk p 24 / 2 ^ k % 2 = 1
  · rw [decide_eq_true e] at hb
    rw [e, ← hb, if_pos rfl]
  · rw [decide_eq_false e] at hb
    rw [show xmk p 24 / 2 ^ k % 2 = 0 by omega, ← hb, if_neg (by decide)]
    rfl
theorem xbs_24 (p : Nat → Bool) : xbs (xbits p 24) 24 = nI (xcnt p 24) := by
  have h : ∀ n, n ≤ 24 → xbs (xbits p 24) n = nI (xcnt p n) := by
    intro n
    induction n with
    | zero => intro _; rfl
    | succ n ih =>
      intro hn
      show xbs (xbits p 24) n + ((xbits p 24 >>> (nI n &&& 31)) &&& 1) = _
      rw [ih (by omega), xbit_at (by omega), xcnt_s]
      cases p n with
      | true => exact nI_add _ 1
      | false => exact nI_add _ 0
  exact h 24 (by decide)
theorem nI_lt2 {c : Nat} (hc : c < 2 ^ 31) : nI c < 2 ↔ c < 2 := nI_ltI hc (by decide)
theorem xfop_11 {S S' : Int32} {f f' : Nat → Int32} {m : Nat} (hm : m ≤ 40) (hS : S = nI m) : xfop S f S' f' 11 = 0 ↔ (xfop S f S' f' 12 = 0 ∧ m ≤ 11) := by
  have key : ∀ (q : Nat) (u : Nat → Int32), q ≤ 40 → (xfos (nI q) u 11 = 0 ↔ (xfos (nI q) u 12 = 0 ∧ q ≤ 11)) := fun q u hq => by
    unfold xfos
    rw [if_neg (nI_nm1 (by omega)), if_neg (nI_nm1 (by omega))]
    by_cases h1 : q ≤ 11
    · rw [if_neg (fun z => absurd ((nI_ltI (a := 11) (by omega) (by omega)).mp z) (by omega)), if_neg (fun z => absurd ((nI_ltI (a := 12) (by omega) (by omega)).mp z) (by omega))]
      exact ⟨fun z => ⟨z, h1⟩, fun z => z.1⟩
    · rw [if_pos (nI_lt (a := 11) (by omega) (by omega))]
      exact ⟨fun z => (by cases z), fun z => absurd z.2 h1⟩
  constructor
  · intro h
    obtain ⟨a1, a2, a3⟩ := xfop_0 h
    rw [hS] at a1 a3
    rw [← a3] at a2
    have b1 := (key m f hm).mp a1
    have b2 := (key m f' hm).mp a2
    refine ⟨?_, b1.2⟩
    rw [hS, ← a3]
    unfold xfop
    rw [b1.1, b2.1, if_neg (by decide), if_neg (by decide), if_pos rfl]
  · rintro ⟨h, hm1⟩
    obtain ⟨a1, a2, a3⟩ := xfop_0 h
    rw [hS] at a1 a3
    rw [← a3] at a2
    have b1 := (key m f hm).mpr ⟨a1, hm1⟩
    have b2 := (key m f' hm).mpr ⟨a2, hm1⟩
    rw [hS, ← a3]
    unfold xfop
    rw [b1, b2, if_neg (by decide), if_neg (by decide), if_pos rfl]
theorem xnx_r {w : Nat → Nat} (hw : ∀ s, w s ≤ 24) : ∀ n, (xnxr w (n + 1)).1 = (xnx w (n + 1)).1 ∧ (xnxr w (n + 1)).2 = nI (xnx w (n + 1)).2
  | 0 => by
    have h0 := hw 0
    have e1 : xnx w 1 = if w 0 < 25 then (w 0, 0) else (25, 0) := rfl
    have e2 : xnxr w 1 = if w 0 < 99 then (w 0, nI 0) else (99, -9) := rfl
    rw [e1, e2, if_pos (by omega), if_pos (by omega)]
    exact ⟨rfl, rfl⟩
  | n + 1 => by
    have ih := xnx_r hw n
    rw [xnx_s w (n + 1), xnxr_s w (n + 1), ih.1]
    by_cases e : w (n + 1) < (xnx w (n + 1)).1
    · rw [if_pos e, if_pos e]
      exact ⟨rfl, rfl⟩
    · rw [if_neg e, if_neg e]
      exact ih
theorem xmv_c {f f' : Nat → Nat} : ∀ n, (∀ v, v < n → f v = f' v) → xmv f n = xmv f' n
  | 0, _ => rfl
  | n + 1, h => by rw [xmv_s, xmv_s, xmv_c n (fun v hv => h v (by omega)), h n (by omega)]
theorem xmv_at {f : Nat → Nat} {k : Nat} : ∀ n, k < n → f k ≤ xmv f n
  | 0, h => absurd h (by omega)
  | n + 1, h => by
    rw [xmv_s]
    by_cases e : k = n
    · rw [e]; omega
    · have := xmv_at (f := f) n (by omega : k < n)
      omega
theorem xmv_up {f : Nat → Nat} {k : Nat} : ∀ n, k < n → xmv (fun v => if v = k then f v + 1 else f v) n = max (xmv f n) (f k + 1)
  | 0, h => absurd h (by omega)
  | n + 1, h => by
    rw [xmv_s, xmv_s]
    by_cases e : n = k
    · subst e
      rw [if_pos rfl, xmv_c n (fun v hv => if_neg (by omega))]
      omega
    · rw [if_neg e, xmv_up n (by omega)]
      omega
theorem xmx_mv {p : Nat → Bool} {w : Nat → Nat} : ∀ n, (∀ j, j < n → w j < 6) → xmx p w n = xmv (fun v => xtl p w n v) 6
  | 0, _ => rfl
  | n + 1, h => by
    rw [xmx_s, xmx_mv n (fun j hj => h j (by omega))]
    cases ep : p n with
    | false =>
      show xmv (fun v => xtl p w n v) 6 = _
      refine xmv_c 6 (fun v _ => ?_)
      show xtl p w n v = xcnt (fun j => p j && decide (w j = v)) (n + 1)
      rw [xcnt_s, ep]
      rfl
    | true =>
      show max (xmv (fun v => xtl p w n v) 6) (xtl p w (n + 1) (w n)) = _
      have e1 : ∀ v, xtl p w (n + 1) v = if v = w n then xtl p w n v + 1 else xtl p w n v := fun v => by
        show xcnt (fun j => p j && decide (w j = v)) (n + 1) = _
        rw [xcnt_s, ep]
        by_cases e : v = w n
        · rw [if_pos e, decide_eq_true e.symm]
          rfl
        · rw [if_neg e, decide_eq_false (fun z => e z.symm)]
          rfl
      rw [e1 (w n), if_pos rfl, xmv_c (f := fun v => xtl p w (n + 1) v) (f' := fun v => if v = w n then xtl p w n v + 1 else xtl p w n v) 6 (fun v _ => e1 v), xmv_up 6 (h n (by omega))]
theorem xnxr_c {w w' : Nat → Nat} : ∀ n, (∀ s, s < n → w s = w' s) → xnxr w n = xnxr w' n
  | 0, _ => rfl
  | n + 1, hh => by rw [xnxr_s, xnxr_s, xnxr_c n (fun s hs => hh s (by omega)), hh n (by omega)]
/-- the best next step: the class's word and the reference's -/
theorem xnext {h : Nat → Int32} (hh : ∀ s, s < 6 → xstp (h s)) {p : Nat → Bool} {F : Nat → Nat} {m : Nat} (hF : ∀ j, j < m → F j < 6) : (xnxr (fun y => xmv (fun v => xcnt (fun q => decide ((xbits p 24 >>> (nI q &&& 31)) &&& 1 = 1) && decide (xshw h (q / 4) (q % 4) (fup F m y) m = nI v)) 24) 6) 6).2 = nI (xnx (fun s => xmx (fun j => decide ((xbits p 24 >>> (nI j &&& 31)) &&& 1 = 1)) (fun q => xN (xshw h (q / 4) (q % 4) (fup F m s) m)) 24) 6).2 := by
  have key : ∀ y, y < 6 → xmv (fun v => xcnt (fun q => decide ((xbits p 24 >>> (nI q &&& 31)) &&& 1 = 1) && decide (xshw h (q / 4) (q % 4) (fup F m y) m = nI v)) 24) 6 = xmx (fun j => decide ((xbits p 24 >>> (nI j &&& 31)) &&& 1 = 1)) (fun q => xN (xshw h (q / 4) (q % 4) (fup F m y) m)) 24 := fun y hy => by
    have hst : ∀ q, xstp (xshw h (q / 4) (q % 4) (fup F m y) m) := fun q => xshw_stp hh (fun j hj => by
      show (if j = m then y else F j) < 6
      by_cases e : j = m
      · rw [if_pos e]; exact hy
      · rw [if_neg e]; exact hF j (by omega))
    rw [xmx_mv 24 (fun j _ => by
      obtain ⟨v, hv, ev⟩ := hst j
      rw [ev, xN_nI (by omega)]
      exact hv)]
    refine xmv_c 6 (fun v hv => ?_)
    refine xcnt_congr (fun q _ => ?_)
    congr 1
    obtain ⟨u, hu, eu⟩ := hst q
    show decide (xshw h (q / 4) (q % 4) (fup F m y) m = nI v) = decide (xN (xshw h (q / 4) (q % 4) (fup F m y) m) = v)
    refine decide_eq_decide.mpr ?_
    rw [eu, xN_nI (by omega)]
    exact ⟨fun z => nI_inj (by omega) (by omega) z, fun z => by rw [z]⟩
  rw [xnxr_c 6 key]
  exact (xnx_r (fun s => xmx_le _ _ 24) 5).2

