/-! LimpMirror$Chains: words -/
def xbk (tx : Nat → Int32) (T s : Nat) (v : Int32) : Bool := !decide (xfb tx T (nI s) v = none)
theorem xbk_t {tx : Nat → Int32} {T s : Nat} {v : Int32} (h : ¬ (if xfb tx T (nI s) v = none then (0 : Int32) else 1) = 0) : xbk tx T s v = true := by
  unfold xbk
  by_cases e : xfb tx T (nI s) v = none
  · rw [if_pos e] at h
    exact absurd rfl h
  · simp [e]
theorem xbk_f {tx : Nat → Int32} {T s : Nat} {v : Int32} (h : (if xfb tx T (nI s) v = none then (0 : Int32) else 1) = 0) : xbk tx T s v = false := by
  unfold xbk
  by_cases e : xfb tx T (nI s) v = none
  · simp [e]
  · rw [if_neg e] at h
    exact absurd h (by decide)
def xhb (h tx : Nat → Int32) (T κ δ p s : Nat) : Bool := xhd κ δ p && xbk tx T s (if xsrc κ δ p = none then 0 else xseen h κ p s)
def xsmn (p : Nat → Bool) (v : Nat → Nat) (n : Nat) : Nat := Nat.rec (motive := fun _ => Nat) 0 (fun t c => bif p t then c + v t else c) n
theorem xsmn_s (p : Nat → Bool) (v : Nat → Nat) (n : Nat) : xsmn p v (n + 1) = bif p n then xsmn p v n + v n else xsmn p v n := rfl
def xmnn (p : Nat → Bool) (v : Nat → Nat) (n : Nat) : Nat := Nat.rec (motive := fun _ => Nat) 1000 (fun t c => bif p t then min c (v t) else c) n
theorem xmnn_s (p : Nat → Bool) (v : Nat → Nat) (n : Nat) : xmnn p v (n + 1) = bif p n then min (xmnn p v n) (v n) else xmnn p v n := rfl
theorem xsmn_le {p : Nat → Bool} {v : Nat → Nat} {B : Nat} : ∀ n, (∀ t, t < n → v t ≤ B) → xsmn p v n ≤ n * B
  | 0, _ => Nat.zero_le _
  | n + 1, h => by
    have h1 := xsmn_le n (fun t ht => h t (by omega)) (p := p)
    have h2 := h n (by omega)
    rw [xsmn_s, Nat.succ_mul]
    cases p n
    · show xsmn p v n ≤ _
      omega
    · show xsmn p v n + v n ≤ _
      omega
theorem xmnn_le {p : Nat → Bool} {v : Nat → Nat} : ∀ n, xmnn p v n ≤ 1000
  | 0 => Nat.le_refl _
  | n + 1 => by
    have h1 := xmnn_le n (p := p) (v := v)
    rw [xmnn_s]
    cases p n
    · exact h1
    · show min _ _ ≤ _
      omega
def xWv (hb : Bool) (w : Nat) : Nat := bif hb then 0 else w
def xZv (W s z : Nat) : Nat := if W = 0 then 1000 else z + (if s = 0 then 1 else 0)
def xok (h tx : Nat → Int32) (T κ q s : Nat) : Nat → Bool := fun t => !xbk tx T t (xseen h κ q s)
def xwo (h tx : Nat → Int32) (T κ : Nat) (A : Nat → Nat → Nat) (o : Option Nat) (s : Nat) : Nat := match o with
  | none => 1
  | some q => xsmn (xok h tx T κ q s) (A q) 6
def xzo (h tx : Nat → Int32) (T κ : Nat) (Z : Nat → Nat → Nat) (o : Option Nat) (s : Nat) : Nat := match o with
  | none => 0
  | some q => xmnn (xok h tx T κ q s) (Z q) 6

section
variable {k a c n n2 m t p s d i1 j1 : Nat} {b : Nat × Nat} {g : Nat → Nat → Int32} {l : Nat → Nat → Int64} {i j x y z v w : Int32} {u w1 w2 : Int64}
variable {L G T q1 : Nat} {Lw A0 Z0 : Nat → Nat} {A Z : Nat → Nat → Nat}
set_option maxRecDepth 10000 in
theorem c_X1_weighStep_none (hC : xro a) (hp : xpn g) (hL : L < 24) (hT : g a 4 = nI T) (hT8 : T ≤ 8) (hp5 : p < 5) (hs6 : s < 6) : xT (k + 5) 19 [.ref 19, .ref a, .ref (43 + L), .int (nI p), .int (-1), .int (nI s)] (xH b g l) (fun r M' => M' = xH b (up (up g 20 (p * 6 + s) (nI (xWv (xhb (g (a + 1)) (g (a + 3)) T (L / 4) (L % 4) p s) 1))) 21 (p * 6 + s) (nI (xZv (xWv (xhb (g (a + 1)) (g (a + 3)) T (L / 4) (L % 4) p s) 1) s 0))) l ∧ r = none) := by
  refine xT.of rfl (Nat.le_of_ble_eq_true rfl) ?_
  change xS _ _ 0 [(0, .ref 19), (1, .ref a), (2, .ref (43 + L)), (3, .int (nI p)), (4, .int (-1)), (5, .int (nI s))] [] _ _
  refine xS.s1 rfl rfl ?_
  try dsimp only [Nat.reduceAdd]
  refine xS.s1 rfl rfl ?_
  try dsimp only [Nat.reduceAdd, xi_m1]
  refine xS.br (c := .ne) (off := 7) (l := 3) rfl rfl (fun h3 => ?_) (fun h3 => ?_)
  · have g3 := xt_ne h3
    exfalso; first | exact absurd g3 (by decide) | (simp (disch := omega) only [Int32.lt_iff_toInt_lt, Int32.le_iff_toInt_le, nI_toInt, Int32.reduceToInt] at g3 <;> omega)
  · have g3 := xf_ne h3
    refine xS.s1 rfl rfl ?_
    try dsimp only [Nat.reduceAdd, xi_1]
    refine xS.s1 rfl rfl ?_
    try dsimp only [Nat.reduceAdd]
    refine xS.s1 rfl rfl ?_
    try dsimp only [Nat.reduceAdd]
    refine xS.s1 rfl rfl ?_
    try dsimp only [Nat.reduceAdd]
    refine xS.s1 rfl rfl ?_
    try dsimp only [Nat.reduceAdd, xi_m1]
    refine xS.br (c := .ne) (off := 7) (l := 3) rfl rfl (fun h16 => ?_) (fun h16 => ?_)
    · have g16 := xt_ne h16
      exfalso; first | exact absurd g16 (by decide) | (simp (disch := omega) only [Int32.lt_iff_toInt_lt, Int32.le_iff_toInt_le, nI_toInt, Int32.reduceToInt] at g16 <;> omega)
    · have g16 := xf_ne h16
      refine xS.s1 rfl rfl ?_
      try dsimp only [Nat.reduceAdd, xi_0]
      refine xS.s1 rfl rfl ?_
      try dsimp only [Nat.reduceAdd]
      refine xS.s1 rfl rfl ?_
      try dsimp only [Nat.reduceAdd]
      refine xS.s1 rfl rfl ?_
      try dsimp only [Nat.reduceAdd]
      refine xS.s1 rfl rfl ?_
      try dsimp only [Nat.reduceAdd, xi_m1]
      refine xS.br (c := .eq) (off := 79) (l := 3) rfl rfl (fun h31 => ?_) (fun h31 => ?_)
      · have g31 := xt_eq h31
        refine xS.s1 rfl rfl ?_
        try dsimp only [Nat.reduceAdd]
        refine xS.s1 rfl rfl ?_
        try dsimp only [Nat.reduceAdd]
        -- 112 yX1_isHead
        refine xS.callS rfl rfl rfl ⟨Nat.le_of_ble_eq_true rfl, rfl⟩ (c_X1_isHead hp hL (by omega)) (fun v M1 hv => ?_)
        rw [hv.1, hv.2]
        clear hv M1 v
        try dsimp only [Nat.reduceAdd, Option.toList, List.cons_append, List.nil_append, List.drop]
        refine xS.br0 (c := .eq) (off := 23) (l := 3) rfl rfl (fun h115 => ?_) (fun h115 => ?_)
        · have g115 := xt_eq h115
          refine xS.s1 rfl rfl ?_
          try dsimp only [Nat.reduceAdd]
          refine xS.gR rfl rfl rfl ⟨by decide, rfl⟩ rfl ?_
          try dsimp only [Nat.reduceAdd]
          refine xS.s1 rfl rfl ?_
          try dsimp only [Nat.reduceAdd]
          refine xS.s1 rfl rfl ?_
          try dsimp only [Nat.reduceAdd, xj_6]
          refine xS.s1 rfl rfl ?_
          try dsimp only [Nat.reduceAdd]
          refine xS.s1 rfl rfl ?_
          try dsimp only [Nat.reduceAdd]
          refine xS.s1 rfl rfl ?_
          try dsimp only [Nat.reduceAdd]
          refine xS.s1 rfl rfl ?_
          try dsimp only [Nat.reduceAdd]
          rw [show (((nI p * 6) + nI s) : Int32) = nI ((p * 6) + s) from by simp only [← nI_add, ← pk_mul] <;> rfl]
          refine xS.ias rfl xar_20 (by omega) ?_
          try dsimp only [Nat.reduceAdd]
          refine xS.s1 rfl rfl ?_
          try dsimp only [Nat.reduceAdd]
          refine xS.gR rfl rfl rfl ⟨by decide, rfl⟩ rfl ?_
          try dsimp only [Nat.reduceAdd]
          refine xS.s1 rfl rfl ?_
          try dsimp only [Nat.reduceAdd]
          refine xS.s1 rfl rfl ?_
          try dsimp only [Nat.reduceAdd, xj_6]
          refine xS.s1 rfl rfl ?_
          try dsimp only [Nat.reduceAdd]
          refine xS.s1 rfl rfl ?_
          try dsimp only [Nat.reduceAdd]
          refine xS.s1 rfl rfl ?_
          try dsimp only [Nat.reduceAdd]
          refine xS.s1 rfl rfl ?_
          try dsimp only [Nat.reduceAdd]
          refine xS.br0 (c := .ne) (off := 9) (l := 3) rfl rfl (fun h165 => ?_) (fun h165 => ?_)
          · have g165 := xt_ne h165
            refine xS.s1 rfl rfl ?_
            try dsimp only [Nat.reduceAdd]
            refine xS.s1 rfl rfl ?_
            try dsimp only [Nat.reduceAdd]
            refine xS.br0 (c := .ne) (off := 7) (l := 3) rfl rfl (fun h178 => ?_) (fun h178 => ?_)
            · have g178 := xt_ne h178
              refine xS.s1 rfl rfl ?_
              try dsimp only [Nat.reduceAdd, xi_0]
              refine xS.s1 rfl rfl ?_
              try dsimp only [Nat.reduceAdd]
              rw [show (0 + 0 : Int32) = nI (0 + 0) from nI_add _ _]
              rw [show (((nI p * 6) + nI s) : Int32) = nI ((p * 6) + s) from by simp only [← nI_add, ← pk_mul] <;> rfl]
              refine xS.ias rfl xar_21 (by omega) ?_
              try dsimp only [Nat.reduceAdd]
              refine xS.ret rfl rfl rfl (fun _ _ => rfl) ?_
              have hb0 : (xhb (g (a + 1)) (g (a + 3)) T (L / 4) (L % 4) p s) = false := by unfold xhb; rw [show xhd (L / 4) (L % 4) p = false from by cases e : xhd (L / 4) (L % 4) p; (rfl); (rw [e] at g115; exact absurd g115 (by decide))]; rfl
              have e1 : (xWv (xhb (g (a + 1)) (g (a + 3)) T (L / 4) (L % 4) p s) 1) = 1 := by unfold xWv; rw [hb0]; rfl
              have e0 : ¬ 1 = 0 := by decide
              have e2 : (xZv (xWv (xhb (g (a + 1)) (g (a + 3)) T (L / 4) (L % 4) p s) 1) s 0) = 0 + 0 := by unfold xZv; rw [e1, if_neg e0, if_neg (fun z => g178 (by rw [z]; rfl))]
              rw [e2, e1]
              exact ⟨rfl, rfl⟩
            · have g178 := xf_ne h178
              refine xS.s1 rfl rfl ?_
              try dsimp only [Nat.reduceAdd, xi_1]
              refine xS.s1 rfl rfl ?_
              try dsimp only [Nat.reduceAdd]
              refine xS.s1 rfl rfl ?_
              try dsimp only [Nat.reduceAdd]
              rw [show (0 + 1 : Int32) = nI (0 + 1) from nI_add _ _]
              rw [show (((nI p * 6) + nI s) : Int32) = nI ((p * 6) + s) from by simp only [← nI_add, ← pk_mul] <;> rfl]
              refine xS.ias rfl xar_21 (by omega) ?_
              try dsimp only [Nat.reduceAdd]
              refine xS.ret rfl rfl rfl (fun _ _ => rfl) ?_
              have hb0 : (xhb (g (a + 1)) (g (a + 3)) T (L / 4) (L % 4) p s) = false := by unfold xhb; rw [show xhd (L / 4) (L % 4) p = false from by cases e : xhd (L / 4) (L % 4) p; (rfl); (rw [e] at g115; exact absurd g115 (by decide))]; rfl
              have e1 : (xWv (xhb (g (a + 1)) (g (a + 3)) T (L / 4) (L % 4) p s) 1) = 1 := by unfold xWv; rw [hb0]; rfl
              have e0 : ¬ 1 = 0 := by decide
              have e2 : (xZv (xWv (xhb (g (a + 1)) (g (a + 3)) T (L / 4) (L % 4) p s) 1) s 0) = 0 + 1 := by unfold xZv; rw [e1, if_neg e0, if_pos (nI_inj (b := 0) (by omega) (by omega) g178)]
              rw [e2, e1]
              exact ⟨rfl, rfl⟩
          · have g165 := xf_ne h165
            exact absurd g165 (by decide)
        · have g115 := xf_eq h115
          refine xS.s1 rfl rfl ?_
          try dsimp only [Nat.reduceAdd]
          refine xS.s1 rfl rfl ?_
          try dsimp only [Nat.reduceAdd]
          refine xS.s1 rfl rfl ?_
          try dsimp only [Nat.reduceAdd]
          refine xS.s1 rfl rfl ?_
          try dsimp only [Nat.reduceAdd]
          refine xS.s1 rfl rfl ?_
          try dsimp only [Nat.reduceAdd]
          refine xS.s1 rfl rfl ?_
          try dsimp only [Nat.reduceAdd]
          -- 126 yX1_shownAtHead
          refine xS.callS rfl rfl rfl ⟨Nat.le_of_ble_eq_true rfl, rfl⟩ (c_X1_shownAtHead hC hp hL (by omega) hs6) (fun v M1 hv => ?_)
          rw [hv.1, hv.2]
          clear hv M1 v
          try dsimp only [Nat.reduceAdd, Option.toList, List.cons_append, List.nil_append, List.drop]
          -- 129 yX8_isBroken
          refine xS.cv rfl rfl rfl (hC.1 _) rfl rfl ⟨by decide, rfl, rfl⟩ (c_X8_isBroken hC hT hT8) (fun v M1 hv => ?_)
          rw [hv.1, hv.2]
          clear hv M1 v
          try dsimp only [Nat.reduceAdd, Option.toList, List.cons_append, List.nil_append, List.drop]
          refine xS.br0 (c := .eq) (off := 6) (l := 3) rfl rfl (fun h132 => ?_) (fun h132 => ?_)
          · have g132 := xt_eq h132
            refine xS.s1 rfl rfl ?_
            try dsimp only [Nat.reduceAdd]
            refine xS.gR rfl rfl rfl ⟨by decide, rfl⟩ rfl ?_
            try dsimp only [Nat.reduceAdd]
            refine xS.s1 rfl rfl ?_
            try dsimp only [Nat.reduceAdd]
            refine xS.s1 rfl rfl ?_
            try dsimp only [Nat.reduceAdd, xj_6]
            refine xS.s1 rfl rfl ?_
            try dsimp only [Nat.reduceAdd]
            refine xS.s1 rfl rfl ?_
            try dsimp only [Nat.reduceAdd]
            refine xS.s1 rfl rfl ?_
            try dsimp only [Nat.reduceAdd]
            refine xS.s1 rfl rfl ?_
            try dsimp only [Nat.reduceAdd]
            rw [show (((nI p * 6) + nI s) : Int32) = nI ((p * 6) + s) from by simp only [← nI_add, ← pk_mul] <;> rfl]
            refine xS.ias rfl xar_20 (by omega) ?_
            try dsimp only [Nat.reduceAdd]
            refine xS.s1 rfl rfl ?_
            try dsimp only [Nat.reduceAdd]
            refine xS.gR rfl rfl rfl ⟨by decide, rfl⟩ rfl ?_
            try dsimp only [Nat.reduceAdd]
            refine xS.s1 rfl rfl ?_
            try dsimp only [Nat.reduceAdd]
            refine xS.s1 rfl rfl ?_
            try dsimp only [Nat.reduceAdd, xj_6]
            refine xS.s1 rfl rfl ?_
            try dsimp only [Nat.reduceAdd]
            refine xS.s1 rfl rfl ?_
            try dsimp only [Nat.reduceAdd]
            refine xS.s1 rfl rfl ?_
            try dsimp only [Nat.reduceAdd]
            refine xS.s1 rfl rfl ?_
            try dsimp only [Nat.reduceAdd]
            refine xS.br0 (c := .ne) (off := 9) (l := 3) rfl rfl (fun h165 => ?_) (fun h165 => ?_)
            · have g165 := xt_ne h165
              refine xS.s1 rfl rfl ?_
              try dsimp only [Nat.reduceAdd]
              refine xS.s1 rfl rfl ?_
              try dsimp only [Nat.reduceAdd]
              refine xS.br0 (c := .ne) (off := 7) (l := 3) rfl rfl (fun h178 => ?_) (fun h178 => ?_)
              · have g178 := xt_ne h178
                refine xS.s1 rfl rfl ?_
                try dsimp only [Nat.reduceAdd, xi_0]
                refine xS.s1 rfl rfl ?_
                try dsimp only [Nat.reduceAdd]
                rw [show (0 + 0 : Int32) = nI (0 + 0) from nI_add _ _]
                rw [show (((nI p * 6) + nI s) : Int32) = nI ((p * 6) + s) from by simp only [← nI_add, ← pk_mul] <;> rfl]
                refine xS.ias rfl xar_21 (by omega) ?_
                try dsimp only [Nat.reduceAdd]
                refine xS.ret rfl rfl rfl (fun _ _ => rfl) ?_
                have hb0 : (xhb (g (a + 1)) (g (a + 3)) T (L / 4) (L % 4) p s) = false := by unfold xhb; rw [xbk_f g132, Bool.and_false]
                have e1 : (xWv (xhb (g (a + 1)) (g (a + 3)) T (L / 4) (L % 4) p s) 1) = 1 := by unfold xWv; rw [hb0]; rfl
                have e0 : ¬ 1 = 0 := by decide
                have e2 : (xZv (xWv (xhb (g (a + 1)) (g (a + 3)) T (L / 4) (L % 4) p s) 1) s 0) = 0 + 0 := by unfold xZv; rw [e1, if_neg e0, if_neg (fun z => g178 (by rw [z]; rfl))]
                rw [e2, e1]
                exact ⟨rfl, rfl⟩
              · have g178 := xf_ne h178
                refine xS.s1 rfl rfl ?_
                try dsimp only [Nat.reduceAdd, xi_1]
                refine xS.s1 rfl rfl ?_
                try dsimp only [Nat.reduceAdd]
                refine xS.s1 rfl rfl ?_
                try dsimp only [Nat.reduceAdd]
                rw [show (0 + 1 : Int32) = nI (0 + 1) from nI_add _ _]
                rw [show (((nI p * 6) + nI s) : Int32) = nI ((p * 6) + s) from by simp only [← nI_add, ← pk_mul] <;> rfl]
                refine xS.ias rfl xar_21 (by omega) ?_
                try dsimp only [Nat.reduceAdd]
                refine xS.ret rfl rfl rfl (fun _ _ => rfl) ?_
                have hb0 : (xhb (g (a + 1)) (g (a + 3)) T (L / 4) (L % 4) p s) = false := by unfold xhb; rw [xbk_f g132, Bool.and_false]
                have e1 : (xWv (xhb (g (a + 1)) (g (a + 3)) T (L / 4) (L % 4) p s) 1) = 1 := by unfold xWv; rw [hb0]; rfl
                have e0 : ¬ 1 = 0 := by decide
                have e2 : (xZv (xWv (xhb (g (a + 1)) (g (a + 3)) T (L / 4) (L % 4) p s) 1) s 0) = 0 + 1 := by unfold xZv; rw [e1, if_neg e0, if_pos (nI_inj (b := 0) (by omega) (by omega) g178)]
                rw [e2, e1]
                exact ⟨rfl, rfl⟩
            · have g165 := xf_ne h165
              exact absurd g165 (by decide)
          · have g132 := xf_eq h132
            refine xS.s1 rfl rfl ?_
            try dsimp only [Nat.reduceAdd, xi_0]
            refine xS.s1 rfl rfl ?_
            try dsimp only [Nat.reduceAdd]
            refine xS.s1 rfl rfl ?_
            try dsimp only [Nat.reduceAdd]
            refine xS.gR rfl rfl rfl ⟨by decide, rfl⟩ rfl ?_
            try dsimp only [Nat.reduceAdd]
            refine xS.s1 rfl rfl ?_
            try dsimp only [Nat.reduceAdd]
            refine xS.s1 rfl rfl ?_
            try dsimp only [Nat.reduceAdd, xj_6]
            refine xS.s1 rfl rfl ?_
            try dsimp only [Nat.reduceAdd]
            refine xS.s1 rfl rfl ?_
            try dsimp only [Nat.reduceAdd]
            refine xS.s1 rfl rfl ?_
            try dsimp only [Nat.reduceAdd]
            refine xS.s1 rfl rfl ?_
            try dsimp only [Nat.reduceAdd]
            rw [show (((nI p * 6) + nI s) : Int32) = nI ((p * 6) + s) from by simp only [← nI_add, ← pk_mul] <;> rfl]
            refine xS.ias rfl xar_20 (by omega) ?_
            try dsimp only [Nat.reduceAdd]
            refine xS.s1 rfl rfl ?_
            try dsimp only [Nat.reduceAdd]
            refine xS.gR rfl rfl rfl ⟨by decide, rfl⟩ rfl ?_
            try dsimp only [Nat.reduceAdd]
            refine xS.s1 rfl rfl ?_
            try dsimp only [Nat.reduceAdd]
            refine xS.s1 rfl rfl ?_
            try dsimp only [Nat.reduceAdd, xj_6]
            refine xS.s1 rfl rfl ?_
            try dsimp only [Nat.reduceAdd]
            refine xS.s1 rfl rfl ?_
            try dsimp only [Nat.reduceAdd]
            refine xS.s1 rfl rfl ?_
            try dsimp only [Nat.reduceAdd]
            refine xS.s1 rfl rfl ?_
            try dsimp only [Nat.reduceAdd]
            refine xS.br0 (c := .ne) (off := 9) (l := 3) rfl rfl (fun h165 => ?_) (fun h165 => ?_)
            · have g165 := xt_ne h165
              exact absurd rfl g165
            · have g165 := xf_ne h165
              refine xS.s1 rfl rfl ?_
              try dsimp only [Nat.reduceAdd, xk_1000]
              refine xS.s1 rfl rfl ?_
              try dsimp only [Nat.reduceAdd]
              rw [show (((nI p * 6) + nI s) : Int32) = nI ((p * 6) + s) from by simp only [← nI_add, ← pk_mul] <;> rfl]
              refine xS.ias rfl xar_21 (by omega) ?_
              try dsimp only [Nat.reduceAdd]
              refine xS.ret rfl rfl rfl (fun _ _ => rfl) ?_
              have hb0 : (xhb (g (a + 1)) (g (a + 3)) T (L / 4) (L % 4) p s) = true := by unfold xhb; rw [xbk_t g132, xif1 g115]; rfl
              have e1 : (xWv (xhb (g (a + 1)) (g (a + 3)) T (L / 4) (L % 4) p s) 1) = 0 := by unfold xWv; rw [hb0]; rfl
              have e2 : (xZv (xWv (xhb (g (a + 1)) (g (a + 3)) T (L / 4) (L % 4) p s) 1) s 0) = 1000 := by unfold xZv; rw [if_pos e1]
              rw [e2, e1]
              exact ⟨rfl, rfl⟩
      · have g31 := xf_eq h31
        exfalso; first | exact absurd g31 (by decide) | (simp (disch := omega) only [Int32.lt_iff_toInt_lt, Int32.le_iff_toInt_le, nI_toInt, Int32.reduceToInt] at g31 <;> omega)

set_option maxRecDepth 10000 in
theorem c_X1_weighStep_some (hC : xro a) (hp : xpn g) (hL : L < 24) (hT : g a 4 = nI T) (hT8 : T ≤ 8) (hp5 : p < 5) (hs6 : s < 6) (hq5 : q1 < 5) (hA : ∀ t, t < 6 → g 20 (q1 * 6 + t) = nI (A0 t) ∧ A0 t ≤ 300000) (hZ : ∀ t, t < 6 → g 21 (q1 * 6 + t) = nI (Z0 t) ∧ Z0 t ≤ 1100) : xT (k + 5) 19 [.ref 19, .ref a, .ref (43 + L), .int (nI p), .int (nI q1), .int (nI s)] (xH b g l) (fun r M' => M' = xH b (up (up g 20 (p * 6 + s) (nI (xWv (xhb (g (a + 1)) (g (a + 3)) T (L / 4) (L % 4) p s) (xsmn (xok (g (a + 1)) (g (a + 3)) T (L / 4) q1 s) A0 6)))) 21 (p * 6 + s) (nI (xZv (xWv (xhb (g (a + 1)) (g (a + 3)) T (L / 4) (L % 4) p s) (xsmn (xok (g (a + 1)) (g (a + 3)) T (L / 4) q1 s) A0 6)) s (xmnn (xok (g (a + 1)) (g (a + 3)) T (L / 4) q1 s) Z0 6)))) l ∧ r = none) := by
  refine xT.of rfl (Nat.le_of_ble_eq_true rfl) ?_
  change xS _ _ 0 [(0, .ref 19), (1, .ref a), (2, .ref (43 + L)), (3, .int (nI p)), (4, .int (nI q1)), (5, .int (nI s))] [] _ _
  refine xS.s1 rfl rfl ?_
  try dsimp only [Nat.reduceAdd]
  refine xS.s1 rfl rfl ?_
  try dsimp only [Nat.reduceAdd, xi_m1]
  refine xS.br (c := .ne) (off := 7) (l := 3) rfl rfl (fun h3 => ?_) (fun h3 => ?_)
  · have g3 := xt_ne h3
    refine xS.s1 rfl rfl ?_
    try dsimp only [Nat.reduceAdd, xi_0]
    refine xS.s1 rfl rfl ?_
    try dsimp only [Nat.reduceAdd]
    refine xS.s1 rfl rfl ?_
    try dsimp only [Nat.reduceAdd]
    refine xS.s1 rfl rfl ?_
    try dsimp only [Nat.reduceAdd, xi_m1]
    refine xS.br (c := .ne) (off := 7) (l := 3) rfl rfl (fun h16 => ?_) (fun h16 => ?_)
    · have g16 := xt_ne h16
      refine xS.s1 rfl rfl ?_
      try dsimp only [Nat.reduceAdd, xk_1000]
      refine xS.s1 rfl rfl ?_
      try dsimp only [Nat.reduceAdd]
      refine xS.s1 rfl rfl ?_
      try dsimp only [Nat.reduceAdd]
      refine xS.s1 rfl rfl ?_
      try dsimp only [Nat.reduceAdd, xi_m1]
      refine xS.br (c := .eq) (off := 79) (l := 3) rfl rfl (fun h31 => ?_) (fun h31 => ?_)
      · have g31 := xt_eq h31
        exact absurd g31 (nI_nm1 (by omega))
      · have g31 := xf_eq h31
        refine xS.s1 rfl rfl ?_
        try dsimp only [Nat.reduceAdd]
        refine xS.s1 rfl rfl ?_
        try dsimp only [Nat.reduceAdd]
        refine xS.s1 rfl rfl ?_
        try dsimp only [Nat.reduceAdd]
        refine xS.s1 rfl rfl ?_
        try dsimp only [Nat.reduceAdd]
        -- 40 yX8_seen
        refine xS.cv rfl rfl rfl (hC.1 _) rfl rfl ⟨by decide, rfl, rfl⟩ (c_X8_seen hC hL (by omega) hs6) (fun v M1 hv => ?_)
        rw [hv.1, hv.2]
        clear hv M1 v
        try dsimp only [Nat.reduceAdd, Option.toList, List.cons_append, List.nil_append, List.drop]
        refine xS.s1 rfl rfl ?_
        try dsimp only [Nat.reduceAdd]
        refine xS.s1 rfl rfl ?_
        try dsimp only [Nat.reduceAdd, xi_0]
        refine xS.s1 rfl rfl ?_
        try dsimp only [Nat.reduceAdd]
        refine xS.pick [0, 3, 2, 1, 4, 5, 6, 7, 8, 9] rfl ?_
        refine xS.loop (σ := Unit) (6) (fun j S => [(9, .int (nI j)), (6, .int (nI (xsmn (xok (g (a + 1)) (g (a + 3)) T (L / 4) q1 s) A0 j))), (7, .int (nI (xmnn (xok (g (a + 1)) (g (a + 3)) T (L / 4) q1 s) Z0 j))), (8, .int (xseen (g (a + 1)) (L / 4) q1 s)), (0, .ref 19), (1, .ref a), (2, .ref (43 + L)), (3, .int (nI p)), (4, .int (nI q1)), (5, .int (nI s))]) (fun _ _ => xH b g l) (fun _ _ => True) (()) (rfl) (rfl) (trivial) ?_
        intro j S hj hI ih
        try dsimp only
        have hsl := xsmn_le (p := (xok (g (a + 1)) (g (a + 3)) T (L / 4) q1 s)) (v := A0) (B := 300000) j (fun t ht => (hA t (by omega)).2)
        have hml := xmnn_le (p := (xok (g (a + 1)) (g (a + 3)) T (L / 4) q1 s)) (v := Z0) j
        refine xS.s1 rfl rfl ?_
        try dsimp only [Nat.reduceAdd]
        refine xS.s1 rfl rfl ?_
        try dsimp only [Nat.reduceAdd, xj_6]
        refine xS.br (c := .ge) (off := 58) (l := 3) rfl rfl (fun h52 => ?_) (fun h52 => ?_)
        · have g52 := xt_ge h52
          have hj6 := xnle (b := 6) g52 (by omega) (by omega)
          obtain rfl : j = 6 := by omega
          refine xS.s1 rfl rfl ?_
          try dsimp only [Nat.reduceAdd]
          refine xS.s1 rfl rfl ?_
          try dsimp only [Nat.reduceAdd]
          -- 112 yX1_isHead
          refine xS.callS rfl rfl rfl ⟨Nat.le_of_ble_eq_true rfl, rfl⟩ (c_X1_isHead hp hL (by omega)) (fun v M1 hv => ?_)
          rw [hv.1, hv.2]
          clear hv M1 v
          try dsimp only [Nat.reduceAdd, Option.toList, List.cons_append, List.nil_append, List.drop]
          refine xS.br0 (c := .eq) (off := 23) (l := 3) rfl rfl (fun h115 => ?_) (fun h115 => ?_)
          · have g115 := xt_eq h115
            refine xS.s1 rfl rfl ?_
            try dsimp only [Nat.reduceAdd]
            refine xS.gR rfl rfl rfl ⟨by decide, rfl⟩ rfl ?_
            try dsimp only [Nat.reduceAdd]
            refine xS.s1 rfl rfl ?_
            try dsimp only [Nat.reduceAdd]
            refine xS.s1 rfl rfl ?_
            try dsimp only [Nat.reduceAdd, xj_6]
            refine xS.s1 rfl rfl ?_
            try dsimp only [Nat.reduceAdd]
            refine xS.s1 rfl rfl ?_
            try dsimp only [Nat.reduceAdd]
            refine xS.s1 rfl rfl ?_
            try dsimp only [Nat.reduceAdd]
            refine xS.s1 rfl rfl ?_
            try dsimp only [Nat.reduceAdd]
            rw [show (((nI p * 6) + nI s) : Int32) = nI ((p * 6) + s) from by simp only [← nI_add, ← pk_mul] <;> rfl]
            refine xS.ias rfl xar_20 (by omega) ?_
            try dsimp only [Nat.reduceAdd]
            refine xS.s1 rfl rfl ?_
            try dsimp only [Nat.reduceAdd]
            refine xS.gR rfl rfl rfl ⟨by decide, rfl⟩ rfl ?_
            try dsimp only [Nat.reduceAdd]
            refine xS.s1 rfl rfl ?_
            try dsimp only [Nat.reduceAdd]
            refine xS.s1 rfl rfl ?_
            try dsimp only [Nat.reduceAdd, xj_6]
            refine xS.s1 rfl rfl ?_
            try dsimp only [Nat.reduceAdd]
            refine xS.s1 rfl rfl ?_
            try dsimp only [Nat.reduceAdd]
            refine xS.s1 rfl rfl ?_
            try dsimp only [Nat.reduceAdd]
            refine xS.s1 rfl rfl ?_
            try dsimp only [Nat.reduceAdd]
            refine xS.br0 (c := .ne) (off := 9) (l := 3) rfl rfl (fun h165 => ?_) (fun h165 => ?_)
            · have g165 := xt_ne h165
              refine xS.s1 rfl rfl ?_
              try dsimp only [Nat.reduceAdd]
              refine xS.s1 rfl rfl ?_
              try dsimp only [Nat.reduceAdd]
              refine xS.br0 (c := .ne) (off := 7) (l := 3) rfl rfl (fun h178 => ?_) (fun h178 => ?_)
              · have g178 := xt_ne h178
                refine xS.s1 rfl rfl ?_
                try dsimp only [Nat.reduceAdd, xi_0]
                refine xS.s1 rfl rfl ?_
                try dsimp only [Nat.reduceAdd]
                rw [show (nI (xmnn (xok (g (a + 1)) (g (a + 3)) T (L / 4) q1 s) Z0 6) + 0 : Int32) = nI ((xmnn (xok (g (a + 1)) (g (a + 3)) T (L / 4) q1 s) Z0 6) + 0) from nI_add _ _]
                rw [show (((nI p * 6) + nI s) : Int32) = nI ((p * 6) + s) from by simp only [← nI_add, ← pk_mul] <;> rfl]
                refine xS.ias rfl xar_21 (by omega) ?_
                try dsimp only [Nat.reduceAdd]
                refine xS.ret rfl rfl rfl (fun _ _ => rfl) ?_
                have hb0 : (xhb (g (a + 1)) (g (a + 3)) T (L / 4) (L % 4) p s) = false := by unfold xhb; rw [show xhd (L / 4) (L % 4) p = false from by cases e : xhd (L / 4) (L % 4) p; (rfl); (rw [e] at g115; exact absurd g115 (by decide))]; rfl
                have e1 : (xWv (xhb (g (a + 1)) (g (a + 3)) T (L / 4) (L % 4) p s) (xsmn (xok (g (a + 1)) (g (a + 3)) T (L / 4) q1 s) A0 6)) = (xsmn (xok (g (a + 1)) (g (a + 3)) T (L / 4) q1 s) A0 6) := by unfold xWv; rw [hb0]; rfl
                have e0 : ¬ (xsmn (xok (g (a + 1)) (g (a + 3)) T (L / 4) q1 s) A0 6) = 0 := fun z => g165 (by rw [z]; rfl)
                have e2 : (xZv (xWv (xhb (g (a + 1)) (g (a + 3)) T (L / 4) (L % 4) p s) (xsmn (xok (g (a + 1)) (g (a + 3)) T (L / 4) q1 s) A0 6)) s (xmnn (xok (g (a + 1)) (g (a + 3)) T (L / 4) q1 s) Z0 6)) = (xmnn (xok (g (a + 1)) (g (a + 3)) T (L / 4) q1 s) Z0 6) + 0 := by unfold xZv; rw [e1, if_neg e0, if_neg (fun z => g178 (by rw [z]; rfl))]
                rw [e2, e1]
                exact ⟨rfl, rfl⟩
              · have g178 := xf_ne h178
                refine xS.s1 rfl rfl ?_
                try dsimp only [Nat.reduceAdd, xi_1]
                refine xS.s1 rfl rfl ?_
                try dsimp only [Nat.reduceAdd]
                refine xS.s1 rfl rfl ?_
                try dsimp only [Nat.reduceAdd]
                rw [show (nI (xmnn (xok (g (a + 1)) (g (a + 3)) T (L / 4) q1 s) Z0 6) + 1 : Int32) = nI ((xmnn (xok (g (a + 1)) (g (a + 3)) T (L / 4) q1 s) Z0 6) + 1) from nI_add _ _]
                rw [show (((nI p * 6) + nI s) : Int32) = nI ((p * 6) + s) from by simp only [← nI_add, ← pk_mul] <;> rfl]
                refine xS.ias rfl xar_21 (by omega) ?_
                try dsimp only [Nat.reduceAdd]
                refine xS.ret rfl rfl rfl (fun _ _ => rfl) ?_
                have hb0 : (xhb (g (a + 1)) (g (a + 3)) T (L / 4) (L % 4) p s) = false := by unfold xhb; rw [show xhd (L / 4) (L % 4) p = false from by cases e : xhd (L / 4) (L % 4) p; (rfl); (rw [e] at g115; exact absurd g115 (by decide))]; rfl
                have e1 : (xWv (xhb (g (a + 1)) (g (a + 3)) T (L / 4) (L % 4) p s) (xsmn (xok (g (a + 1)) (g (a + 3)) T (L / 4) q1 s) A0 6)) = (xsmn (xok (g (a + 1)) (g (a + 3)) T (L / 4) q1 s) A0 6) := by unfold xWv; rw [hb0]; rfl
                have e0 : ¬ (xsmn (xok (g (a + 1)) (g (a + 3)) T (L / 4) q1 s) A0 6) = 0 := fun z => g165 (by rw [z]; rfl)
                have e2 : (xZv (xWv (xhb (g (a + 1)) (g (a + 3)) T (L / 4) (L % 4) p s) (xsmn (xok (g (a + 1)) (g (a + 3)) T (L / 4) q1 s) A0 6)) s (xmnn (xok (g (a + 1)) (g (a + 3)) T (L / 4) q1 s) Z0 6)) = (xmnn (xok (g (a + 1)) (g (a + 3)) T (L / 4) q1 s) Z0 6) + 1 := by unfold xZv; rw [e1, if_neg e0, if_pos (nI_inj (b := 0) (by omega) (by omega) g178)]
                rw [e2, e1]
                exact ⟨rfl, rfl⟩
            · have g165 := xf_ne h165
              refine xS.s1 rfl rfl ?_
              try dsimp only [Nat.reduceAdd, xk_1000]
              refine xS.s1 rfl rfl ?_
              try dsimp only [Nat.reduceAdd]
              rw [show (((nI p * 6) + nI s) : Int32) = nI ((p * 6) + s) from by simp only [← nI_add, ← pk_mul] <;> rfl]
              refine xS.ias rfl xar_21 (by omega) ?_
              try dsimp only [Nat.reduceAdd]
              refine xS.ret rfl rfl rfl (fun _ _ => rfl) ?_
              have hb0 : (xhb (g (a + 1)) (g (a + 3)) T (L / 4) (L % 4) p s) = false := by unfold xhb; rw [show xhd (L / 4) (L % 4) p = false from by cases e : xhd (L / 4) (L % 4) p; (rfl); (rw [e] at g115; exact absurd g115 (by decide))]; rfl
              have e1 : (xWv (xhb (g (a + 1)) (g (a + 3)) T (L / 4) (L % 4) p s) (xsmn (xok (g (a + 1)) (g (a + 3)) T (L / 4) q1 s) A0 6)) = (xsmn (xok (g (a + 1)) (g (a + 3)) T (L / 4) q1 s) A0 6) := by unfold xWv; rw [hb0]; rfl
              have e0 : (xsmn (xok (g (a + 1)) (g (a + 3)) T (L / 4) q1 s) A0 6) = 0 := nI_inj (b := 0) (by omega) (by omega) g165
              have e2 : (xZv (xWv (xhb (g (a + 1)) (g (a + 3)) T (L / 4) (L % 4) p s) (xsmn (xok (g (a + 1)) (g (a + 3)) T (L / 4) q1 s) A0 6)) s (xmnn (xok (g (a + 1)) (g (a + 3)) T (L / 4) q1 s) Z0 6)) = 1000 := by unfold xZv; rw [e1, if_pos e0]
              rw [e2, e1]
              exact ⟨rfl, rfl⟩
          · have g115 := xf_eq h115
            refine xS.s1 rfl rfl ?_
            try dsimp only [Nat.reduceAdd]
            refine xS.s1 rfl rfl ?_
            try dsimp only [Nat.reduceAdd]
            refine xS.s1 rfl rfl ?_
            try dsimp only [Nat.reduceAdd]
            refine xS.s1 rfl rfl ?_
            try dsimp only [Nat.reduceAdd]
            refine xS.s1 rfl rfl ?_
            try dsimp only [Nat.reduceAdd]
            refine xS.s1 rfl rfl ?_
            try dsimp only [Nat.reduceAdd]
            -- 126 yX1_shownAtHead
            refine xS.callS rfl rfl rfl ⟨Nat.le_of_ble_eq_true rfl, rfl⟩ (c_X1_shownAtHead hC hp hL (by omega) hs6) (fun v M1 hv => ?_)
            rw [hv.1, hv.2]
            clear hv M1 v
            try dsimp only [Nat.reduceAdd, Option.toList, List.cons_append, List.nil_append, List.drop]
            -- 129 yX8_isBroken
            refine xS.cv rfl rfl rfl (hC.1 _) rfl rfl ⟨by decide, rfl, rfl⟩ (c_X8_isBroken hC hT hT8) (fun v M1 hv => ?_)
            rw [hv.1, hv.2]
            clear hv M1 v
            try dsimp only [Nat.reduceAdd, Option.toList, List.cons_append, List.nil_append, List.drop]
            refine xS.br0 (c := .eq) (off := 6) (l := 3) rfl rfl (fun h132 => ?_) (fun h132 => ?_)
            · have g132 := xt_eq h132
              refine xS.s1 rfl rfl ?_
              try dsimp only [Nat.reduceAdd]
              refine xS.gR rfl rfl rfl ⟨by decide, rfl⟩ rfl ?_
              try dsimp only [Nat.reduceAdd]
              refine xS.s1 rfl rfl ?_
              try dsimp only [Nat.reduceAdd]
              refine xS.s1 rfl rfl ?_
              try dsimp only [Nat.reduceAdd, xj_6]
              refine xS.s1 rfl rfl ?_
              try dsimp only [Nat.reduceAdd]
              refine xS.s1 rfl rfl ?_
              try dsimp only [Nat.reduceAdd]
              refine xS.s1 rfl rfl ?_
              try dsimp only [Nat.reduceAdd]
              refine xS.s1 rfl rfl ?_
              try dsimp only [Nat.reduceAdd]
              rw [show (((nI p * 6) + nI s) : Int32) = nI ((p * 6) + s) from by simp only [← nI_add, ← pk_mul] <;> rfl]
              refine xS.ias rfl xar_20 (by omega) ?_
              try dsimp only [Nat.reduceAdd]
              refine xS.s1 rfl rfl ?_
              try dsimp only [Nat.reduceAdd]
              refine xS.gR rfl rfl rfl ⟨by decide, rfl⟩ rfl ?_
              try dsimp only [Nat.reduceAdd]
              refine xS.s1 rfl rfl ?_
              try dsimp only [Nat.reduceAdd]
              refine xS.s1 rfl rfl ?_
              try dsimp only [Nat.reduceAdd, xj_6]
              refine xS.s1 rfl rfl ?_
              try dsimp only [Nat.reduceAdd]
              refine xS.s1 rfl rfl ?_
              try dsimp only [Nat.reduceAdd]
              refine xS.s1 rfl rfl ?_
              try dsimp only [Nat.reduceAdd]
              refine xS.s1 rfl rfl ?_
              try dsimp only [Nat.reduceAdd]
              refine xS.br0 (c := .ne) (off := 9) (l := 3) rfl rfl (fun h165 => ?_) (fun h165 => ?_)
              · have g165 := xt_ne h165
                refine xS.s1 rfl rfl ?_
                try dsimp only [Nat.reduceAdd]
                refine xS.s1 rfl rfl ?_
                try dsimp only [Nat.reduceAdd]
                refine xS.br0 (c := .ne) (off := 7) (l := 3) rfl rfl (fun h178 => ?_) (fun h178 => ?_)
                · have g178 := xt_ne h178
                  refine xS.s1 rfl rfl ?_
                  try dsimp only [Nat.reduceAdd, xi_0]
                  refine xS.s1 rfl rfl ?_
                  try dsimp only [Nat.reduceAdd]
                  rw [show (nI (xmnn (xok (g (a + 1)) (g (a + 3)) T (L / 4) q1 s) Z0 6) + 0 : Int32) = nI ((xmnn (xok (g (a + 1)) (g (a + 3)) T (L / 4) q1 s) Z0 6) + 0) from nI_add _ _]
                  rw [show (((nI p * 6) + nI s) : Int32) = nI ((p * 6) + s) from by simp only [← nI_add, ← pk_mul] <;> rfl]
                  refine xS.ias rfl xar_21 (by omega) ?_
                  try dsimp only [Nat.reduceAdd]
                  refine xS.ret rfl rfl rfl (fun _ _ => rfl) ?_
                  have hb0 : (xhb (g (a + 1)) (g (a + 3)) T (L / 4) (L % 4) p s) = false := by unfold xhb; rw [xbk_f g132, Bool.and_false]
                  have e1 : (xWv (xhb (g (a + 1)) (g (a + 3)) T (L / 4) (L % 4) p s) (xsmn (xok (g (a + 1)) (g (a + 3)) T (L / 4) q1 s) A0 6)) = (xsmn (xok (g (a + 1)) (g (a + 3)) T (L / 4) q1 s) A0 6) := by unfold xWv; rw [hb0]; rfl
                  have e0 : ¬ (xsmn (xok (g (a + 1)) (g (a + 3)) T (L / 4) q1 s) A0 6) = 0 := fun z => g165 (by rw [z]; rfl)
                  have e2 : (xZv (xWv (xhb (g (a + 1)) (g (a + 3)) T (L / 4) (L % 4) p s) (xsmn (xok (g (a + 1)) (g (a + 3)) T (L / 4) q1 s) A0 6)) s (xmnn (xok (g (a + 1)) (g (a + 3)) T (L / 4) q1 s) Z0 6)) = (xmnn (xok (g (a + 1)) (g (a + 3)) T (L / 4) q1 s) Z0 6) + 0 := by unfold xZv; rw [e1, if_neg e0, if_neg (fun z => g178 (by rw [z]; rfl))]
                  rw [e2, e1]
                  exact ⟨rfl, rfl⟩
                · have g178 := xf_ne h178
                  refine xS.s1 rfl rfl ?_
                  try dsimp only [Nat.reduceAdd, xi_1]
                  refine xS.s1 rfl rfl ?_
                  try dsimp only [Nat.reduceAdd]
                  refine xS.s1 rfl rfl ?_
                  try dsimp only [Nat.reduceAdd]
                  rw [show (nI (xmnn (xok (g (a + 1)) (g (a + 3)) T (L / 4) q1 s) Z0 6) + 1 : Int32) = nI ((xmnn (xok (g (a + 1)) (g (a + 3)) T (L / 4) q1 s) Z0 6) + 1) from nI_add _ _]
                  rw [show (((nI p * 6) + nI s) : Int32) = nI ((p * 6) + s) from by simp only [← nI_add, ← pk_mul] <;> rfl]
                  refine xS.ias rfl xar_21 (by omega) ?_
                  try dsimp only [Nat.reduceAdd]
                  refine xS.ret rfl rfl rfl (fun _ _ => rfl) ?_
                  have hb0 : (xhb (g (a + 1)) (g (a + 3)) T (L / 4) (L % 4) p s) = false := by unfold xhb; rw [xbk_f g132, Bool.and_false]
                  have e1 : (xWv (xhb (g (a + 1)) (g (a + 3)) T (L / 4) (L % 4) p s) (xsmn (xok (g (a + 1)) (g (a + 3)) T (L / 4) q1 s) A0 6)) = (xsmn (xok (g (a + 1)) (g (a + 3)) T (L / 4) q1 s) A0 6) := by unfold xWv; rw [hb0]; rfl
                  have e0 : ¬ (xsmn (xok (g (a + 1)) (g (a + 3)) T (L / 4) q1 s) A0 6) = 0 := fun z => g165 (by rw [z]; rfl)
                  have e2 : (xZv (xWv (xhb (g (a + 1)) (g (a + 3)) T (L / 4) (L % 4) p s) (xsmn (xok (g (a + 1)) (g (a + 3)) T (L / 4) q1 s) A0 6)) s (xmnn (xok (g (a + 1)) (g (a + 3)) T (L / 4) q1 s) Z0 6)) = (xmnn (xok (g (a + 1)) (g (a + 3)) T (L / 4) q1 s) Z0 6) + 1 := by unfold xZv; rw [e1, if_neg e0, if_pos (nI_inj (b := 0) (by omega) (by omega) g178)]
                  rw [e2, e1]
                  exact ⟨rfl, rfl⟩
              · have g165 := xf_ne h165
                refine xS.s1 rfl rfl ?_
                try dsimp only [Nat.reduceAdd, xk_1000]
                refine xS.s1 rfl rfl ?_
                try dsimp only [Nat.reduceAdd]
                rw [show (((nI p * 6) + nI s) : Int32) = nI ((p * 6) + s) from by simp only [← nI_add, ← pk_mul] <;> rfl]
                refine xS.ias rfl xar_21 (by omega) ?_
                try dsimp only [Nat.reduceAdd]
                refine xS.ret rfl rfl rfl (fun _ _ => rfl) ?_
                have hb0 : (xhb (g (a + 1)) (g (a + 3)) T (L / 4) (L % 4) p s) = false := by unfold xhb; rw [xbk_f g132, Bool.and_false]
                have e1 : (xWv (xhb (g (a + 1)) (g (a + 3)) T (L / 4) (L % 4) p s) (xsmn (xok (g (a + 1)) (g (a + 3)) T (L / 4) q1 s) A0 6)) = (xsmn (xok (g (a + 1)) (g (a + 3)) T (L / 4) q1 s) A0 6) := by unfold xWv; rw [hb0]; rfl
                have e0 : (xsmn (xok (g (a + 1)) (g (a + 3)) T (L / 4) q1 s) A0 6) = 0 := nI_inj (b := 0) (by omega) (by omega) g165
                have e2 : (xZv (xWv (xhb (g (a + 1)) (g (a + 3)) T (L / 4) (L % 4) p s) (xsmn (xok (g (a + 1)) (g (a + 3)) T (L / 4) q1 s) A0 6)) s (xmnn (xok (g (a + 1)) (g (a + 3)) T (L / 4) q1 s) Z0 6)) = 1000 := by unfold xZv; rw [e1, if_pos e0]
                rw [e2, e1]
                exact ⟨rfl, rfl⟩
            · have g132 := xf_eq h132
              refine xS.s1 rfl rfl ?_
              try dsimp only [Nat.reduceAdd, xi_0]
              refine xS.s1 rfl rfl ?_
              try dsimp only [Nat.reduceAdd]
              refine xS.s1 rfl rfl ?_
              try dsimp only [Nat.reduceAdd]
              refine xS.gR rfl rfl rfl ⟨by decide, rfl⟩ rfl ?_
              try dsimp only [Nat.reduceAdd]
              refine xS.s1 rfl rfl ?_
              try dsimp only [Nat.reduceAdd]
              refine xS.s1 rfl rfl ?_
              try dsimp only [Nat.reduceAdd, xj_6]
              refine xS.s1 rfl rfl ?_
              try dsimp only [Nat.reduceAdd]
              refine xS.s1 rfl rfl ?_
              try dsimp only [Nat.reduceAdd]
              refine xS.s1 rfl rfl ?_
              try dsimp only [Nat.reduceAdd]
              refine xS.s1 rfl rfl ?_
              try dsimp only [Nat.reduceAdd]
              rw [show (((nI p * 6) + nI s) : Int32) = nI ((p * 6) + s) from by simp only [← nI_add, ← pk_mul] <;> rfl]
              refine xS.ias rfl xar_20 (by omega) ?_
              try dsimp only [Nat.reduceAdd]
              refine xS.s1 rfl rfl ?_
              try dsimp only [Nat.reduceAdd]
              refine xS.gR rfl rfl rfl ⟨by decide, rfl⟩ rfl ?_
              try dsimp only [Nat.reduceAdd]
              refine xS.s1 rfl rfl ?_
              try dsimp only [Nat.reduceAdd]
              refine xS.s1 rfl rfl ?_
              try dsimp only [Nat.reduceAdd, xj_6]
              refine xS.s1 rfl rfl ?_
              try dsimp only [Nat.reduceAdd]
              refine xS.s1 rfl rfl ?_
              try dsimp only [Nat.reduceAdd]
              refine xS.s1 rfl rfl ?_
              try dsimp only [Nat.reduceAdd]
              refine xS.s1 rfl rfl ?_
              try dsimp only [Nat.reduceAdd]
              refine xS.br0 (c := .ne) (off := 9) (l := 3) rfl rfl (fun h165 => ?_) (fun h165 => ?_)
              · have g165 := xt_ne h165
                exact absurd rfl g165
              · have g165 := xf_ne h165
                refine xS.s1 rfl rfl ?_
                try dsimp only [Nat.reduceAdd, xk_1000]
                refine xS.s1 rfl rfl ?_
                try dsimp only [Nat.reduceAdd]
                rw [show (((nI p * 6) + nI s) : Int32) = nI ((p * 6) + s) from by simp only [← nI_add, ← pk_mul] <;> rfl]
                refine xS.ias rfl xar_21 (by omega) ?_
                try dsimp only [Nat.reduceAdd]
                refine xS.ret rfl rfl rfl (fun _ _ => rfl) ?_
                have hb0 : (xhb (g (a + 1)) (g (a + 3)) T (L / 4) (L % 4) p s) = true := by unfold xhb; rw [xbk_t g132, xif1 g115]; rfl
                have e1 : (xWv (xhb (g (a + 1)) (g (a + 3)) T (L / 4) (L % 4) p s) (xsmn (xok (g (a + 1)) (g (a + 3)) T (L / 4) q1 s) A0 6)) = 0 := by unfold xWv; rw [hb0]; rfl
                have e2 : (xZv (xWv (xhb (g (a + 1)) (g (a + 3)) T (L / 4) (L % 4) p s) (xsmn (xok (g (a + 1)) (g (a + 3)) T (L / 4) q1 s) A0 6)) s (xmnn (xok (g (a + 1)) (g (a + 3)) T (L / 4) q1 s) Z0 6)) = 1000 := by unfold xZv; rw [if_pos e1]
                rw [e2, e1]
                exact ⟨rfl, rfl⟩
        · have g52 := xf_ge h52
          have hj6 := xnlt (b := 6) g52 (by omega) (by omega)
          refine xS.s1 rfl rfl ?_
          try dsimp only [Nat.reduceAdd]
          refine xS.s1 rfl rfl ?_
          try dsimp only [Nat.reduceAdd]
          refine xS.s1 rfl rfl ?_
          try dsimp only [Nat.reduceAdd]
          -- 60 yX8_isBroken
          refine xS.cv rfl rfl rfl (hC.1 _) rfl rfl ⟨by decide, rfl, rfl⟩ (c_X8_isBroken hC hT hT8) (fun v M1 hv => ?_)
          rw [hv.1, hv.2]
          clear hv M1 v
          try dsimp only [Nat.reduceAdd, Option.toList, List.cons_append, List.nil_append, List.drop]
          refine xS.br0 (c := .ne) (off := 41) (l := 3) rfl rfl (fun h63 => ?_) (fun h63 => ?_)
          · have g63 := xt_ne h63
            refine xS.s1 rfl rfl ?_
            try dsimp only [Nat.reduceAdd, xi_1]
            rw [nI_1]
            refine xS.s1 rfl rfl ?_
            try dsimp only [Nat.reduceAdd]
            refine xS.pick [0, 1, 2, 3, 4, 5, 6, 7, 8, 9] rfl ?_
            have ih2 := ih () (by omega) trivial
            have q63 : (xok (g (a + 1)) (g (a + 3)) T (L / 4) q1 s) j = false := by unfold xok; rw [xbk_t g63]; rfl
            rw [show xsmn (xok (g (a + 1)) (g (a + 3)) T (L / 4) q1 s) A0 (j + 1) = xsmn (xok (g (a + 1)) (g (a + 3)) T (L / 4) q1 s) A0 j from by rw [xsmn_s, q63]; rfl, show xmnn (xok (g (a + 1)) (g (a + 3)) T (L / 4) q1 s) Z0 (j + 1) = xmnn (xok (g (a + 1)) (g (a + 3)) T (L / 4) q1 s) Z0 j from by rw [xmnn_s, q63]; rfl] at ih2
            exact ih2
          · have g63 := xf_ne h63
            refine xS.s1 rfl rfl ?_
            try dsimp only [Nat.reduceAdd]
            refine xS.s1 rfl rfl ?_
            try dsimp only [Nat.reduceAdd]
            refine xS.gR rfl rfl rfl ⟨by decide, rfl⟩ rfl ?_
            try dsimp only [Nat.reduceAdd]
            refine xS.s1 rfl rfl ?_
            try dsimp only [Nat.reduceAdd]
            refine xS.s1 rfl rfl ?_
            try dsimp only [Nat.reduceAdd, xj_6]
            refine xS.s1 rfl rfl ?_
            try dsimp only [Nat.reduceAdd]
            refine xS.s1 rfl rfl ?_
            try dsimp only [Nat.reduceAdd]
            refine xS.s1 rfl rfl ?_
            try dsimp only [Nat.reduceAdd]
            rw [show (((nI q1 * 6) + nI j) : Int32) = nI ((q1 * 6) + j) from by simp only [← nI_add, ← pk_mul] <;> rfl]
            refine xS.ia rfl xar_20 (by omega) ?_
            try dsimp only [Nat.reduceAdd]
            rw [(hA j hj6).1]
            refine xS.s1 rfl rfl ?_
            try dsimp only [Nat.reduceAdd]
            rw [nI_add]
            refine xS.s1 rfl rfl ?_
            try dsimp only [Nat.reduceAdd]
            refine xS.s1 rfl rfl ?_
            try dsimp only [Nat.reduceAdd]
            refine xS.s1 rfl rfl ?_
            try dsimp only [Nat.reduceAdd]
            refine xS.gR rfl rfl rfl ⟨by decide, rfl⟩ rfl ?_
            try dsimp only [Nat.reduceAdd]
            refine xS.s1 rfl rfl ?_
            try dsimp only [Nat.reduceAdd]
            refine xS.s1 rfl rfl ?_
            try dsimp only [Nat.reduceAdd, xj_6]
            refine xS.s1 rfl rfl ?_
            try dsimp only [Nat.reduceAdd]
            refine xS.s1 rfl rfl ?_
            try dsimp only [Nat.reduceAdd]
            refine xS.s1 rfl rfl ?_
            try dsimp only [Nat.reduceAdd]
            rw [show (((nI q1 * 6) + nI j) : Int32) = nI ((q1 * 6) + j) from by simp only [← nI_add, ← pk_mul] <;> rfl]
            refine xS.ia rfl xar_21 (by omega) ?_
            try dsimp only [Nat.reduceAdd]
            rw [(hZ j hj6).1]
            have hz1 := (hZ j hj6).2
            refine xS.mn rfl rfl rfl ?_
            try dsimp only [Nat.reduceAdd]
            rw [nI_min (by omega) (by omega)]
            refine xS.s1 rfl rfl ?_
            try dsimp only [Nat.reduceAdd]
            refine xS.s1 rfl rfl ?_
            try dsimp only [Nat.reduceAdd, xi_1]
            rw [nI_1]
            refine xS.s1 rfl rfl ?_
            try dsimp only [Nat.reduceAdd]
            refine xS.pick [0, 2, 1, 3, 4, 5, 6, 7, 8, 9] rfl ?_
            have ih2 := ih () (by omega) trivial
            have q63 : (xok (g (a + 1)) (g (a + 3)) T (L / 4) q1 s) j = true := by unfold xok; rw [xbk_f g63]; rfl
            rw [show xsmn (xok (g (a + 1)) (g (a + 3)) T (L / 4) q1 s) A0 (j + 1) = xsmn (xok (g (a + 1)) (g (a + 3)) T (L / 4) q1 s) A0 j + A0 j from by rw [xsmn_s, q63]; rfl, show xmnn (xok (g (a + 1)) (g (a + 3)) T (L / 4) q1 s) Z0 (j + 1) = min (xmnn (xok (g (a + 1)) (g (a + 3)) T (L / 4) q1 s) Z0 j) (Z0 j) from by rw [xmnn_s, q63]; rfl] at ih2
            exact ih2
    · have g16 := xf_ne h16
      exact absurd g16 (nI_nm1 (by omega))
  · have g3 := xf_ne h3
    exact absurd g3 (nI_nm1 (by omega))

theorem c_X1_weighStepO (hC : xro a) (hp : xpn g) (hL : L < 24) (hT : g a 4 = nI T) (hT8 : T ≤ 8) (hp5 : p < 5) (hs6 : s < 6) {o : Option Nat} (ho : ∀ q, o = some q → q < 5 ∧ (∀ t, t < 6 → g 20 (q * 6 + t) = nI (A q t) ∧ A q t ≤ 300000) ∧ (∀ t, t < 6 → g 21 (q * 6 + t) = nI (Z q t) ∧ Z q t ≤ 1100)) : xT (k + 5) 19 [.ref 19, .ref a, .ref (43 + L), .int (nI p), .int (xoI o), .int (nI s)] (xH b g l) (fun r M' => M' = xH b (up (up g 20 (p * 6 + s) (nI (xWv (xhb (g (a + 1)) (g (a + 3)) T (L / 4) (L % 4) p s) (xwo (g (a + 1)) (g (a + 3)) T (L / 4) A o s)))) 21 (p * 6 + s) (nI (xZv (xWv (xhb (g (a + 1)) (g (a + 3)) T (L / 4) (L % 4) p s) (xwo (g (a + 1)) (g (a + 3)) T (L / 4) A o s)) s (xzo (g (a + 1)) (g (a + 3)) T (L / 4) Z o s)))) l ∧ r = none) := by
  cases o with
  | none => exact c_X1_weighStep_none hC hp hL hT hT8 hp5 hs6
  | some q => exact c_X1_weighStep_some hC hp hL hT hT8 hp5 hs6 (ho q rfl).1 (ho q rfl).2.1 (ho q rfl).2.2

set_option maxRecDepth 10000 in
theorem c_X1_addChain (hp5 : p < 5) (hA : ∀ t, t < 6 → g 20 (p * 6 + t) = nI (A0 t) ∧ A0 t ≤ 300000) (hZ : ∀ t, t < 6 → g 21 (p * 6 + t) = nI (Z0 t) ∧ Z0 t ≤ 1100) : xT (k + 1) 21 [.ref 19, .int (nI p)] (xH b g l) (fun r M' => M' = xH b (up (up (up g 19 4 (xbits (fun u => decide (0 < A0 u)) 6)) 19 2 (g 19 2 * nI (xsmn (fun _ => true) A0 6))) 19 3 (g 19 3 + nI (xmnn (fun _ => true) Z0 6))) l ∧ r = none) := by
  refine xT.of rfl (Nat.le_of_ble_eq_true rfl) ?_
  change xS _ _ 0 [(0, .ref 19), (1, .int (nI p))] [] _ _
  refine xS.s1 rfl rfl ?_
  try dsimp only [Nat.reduceAdd, xi_0]
  refine xS.s1 rfl rfl ?_
  try dsimp only [Nat.reduceAdd]
  refine xS.s1 rfl rfl ?_
  try dsimp only [Nat.reduceAdd, xk_1000]
  refine xS.s1 rfl rfl ?_
  try dsimp only [Nat.reduceAdd]
  refine xS.s1 rfl rfl ?_
  try dsimp only [Nat.reduceAdd]
  refine xS.s1 rfl rfl ?_
  try dsimp only [Nat.reduceAdd, xi_0]
  refine xS.pI rfl rfl rfl ⟨⟨by decide, rfl⟩, rfl, by decide, by decide⟩ rfl ?_
  try dsimp only [Nat.reduceAdd]
  refine xS.s1 rfl rfl ?_
  try dsimp only [Nat.reduceAdd, xi_0]
  refine xS.s1 rfl rfl ?_
  try dsimp only [Nat.reduceAdd]
  refine xS.pick [0, 2, 1, 3, 4] rfl ?_
  refine xS.loop (σ := Unit) (6) (fun j S => [(4, .int (nI j)), (2, .int (nI (xsmn (fun _ => true) A0 j))), (3, .int (nI (xmnn (fun _ => true) Z0 j))), (0, .ref 19), (1, .int (nI p))]) (fun j _ => xH b (up g 19 4 (xbits (fun u => decide (0 < A0 u)) j)) l) (fun _ _ => True) (()) (rfl) (rfl) (trivial) ?_
  intro j S hj hI ih
  try dsimp only
  have hml := xmnn_le (p := (fun _ => true)) (v := Z0) j
  refine xS.s1 rfl rfl ?_
  try dsimp only [Nat.reduceAdd]
  refine xS.s1 rfl rfl ?_
  try dsimp only [Nat.reduceAdd, xj_6]
  refine xS.br (c := .ge) (off := 67) (l := 3) rfl rfl (fun h18 => ?_) (fun h18 => ?_)
  · have g18 := xt_ge h18
    have hj6 := xnle (b := 6) g18 (by omega) (by omega)
    obtain rfl : j = 6 := by omega
    refine xS.s1 rfl rfl ?_
    try dsimp only [Nat.reduceAdd]
    refine xS.s1 rfl rfl ?_
    try dsimp only [Nat.reduceAdd]
    refine xS.gI rfl rfl rfl ⟨by decide, rfl⟩ rfl ?_
    try dsimp only [Nat.reduceAdd]
    rw [up_ne (Or.inr (by decide))]
    refine xS.s1 rfl rfl ?_
    try dsimp only [Nat.reduceAdd]
    refine xS.s1 rfl rfl ?_
    try dsimp only [Nat.reduceAdd]
    refine xS.pI rfl rfl rfl ⟨⟨by decide, rfl⟩, rfl, by decide, by decide⟩ rfl ?_
    try dsimp only [Nat.reduceAdd]
    refine xS.s1 rfl rfl ?_
    try dsimp only [Nat.reduceAdd]
    refine xS.s1 rfl rfl ?_
    try dsimp only [Nat.reduceAdd]
    refine xS.gI rfl rfl rfl ⟨by decide, rfl⟩ rfl ?_
    try dsimp only [Nat.reduceAdd]
    rw [up_ne (Or.inr (by decide)), up_ne (Or.inr (by decide))]
    refine xS.s1 rfl rfl ?_
    try dsimp only [Nat.reduceAdd]
    refine xS.s1 rfl rfl ?_
    try dsimp only [Nat.reduceAdd]
    refine xS.pI rfl rfl rfl ⟨⟨by decide, rfl⟩, rfl, by decide, by decide⟩ rfl ?_
    try dsimp only [Nat.reduceAdd]
    refine xS.ret rfl rfl rfl (fun _ _ => rfl) ?_
    exact ⟨rfl, rfl⟩
  · have g18 := xf_ge h18
    have hj6 := xnlt (b := 6) g18 (by omega) (by omega)
    have ha1 := (hA j hj6).2
    have hz1 := (hZ j hj6).2
    refine xS.s1 rfl rfl ?_
    try dsimp only [Nat.reduceAdd]
    refine xS.gR rfl rfl rfl ⟨by decide, rfl⟩ rfl ?_
    try dsimp only [Nat.reduceAdd]
    refine xS.s1 rfl rfl ?_
    try dsimp only [Nat.reduceAdd]
    refine xS.s1 rfl rfl ?_
    try dsimp only [Nat.reduceAdd, xj_6]
    refine xS.s1 rfl rfl ?_
    try dsimp only [Nat.reduceAdd]
    refine xS.s1 rfl rfl ?_
    try dsimp only [Nat.reduceAdd]
    refine xS.s1 rfl rfl ?_
    try dsimp only [Nat.reduceAdd]
    rw [show (((nI p * 6) + nI j) : Int32) = nI ((p * 6) + j) from by simp only [← nI_add, ← pk_mul] <;> rfl]
    refine xS.ia rfl xar_20 (by omega) ?_
    try dsimp only [Nat.reduceAdd]
    rw [up_na (by decide), (hA j hj6).1]
    refine xS.s1 rfl rfl ?_
    try dsimp only [Nat.reduceAdd]
    refine xS.s1 rfl rfl ?_
    try dsimp only [Nat.reduceAdd]
    refine xS.s1 rfl rfl ?_
    try dsimp only [Nat.reduceAdd]
    refine xS.s1 rfl rfl ?_
    try dsimp only [Nat.reduceAdd]
    rw [nI_add]
    refine xS.s1 rfl rfl ?_
    try dsimp only [Nat.reduceAdd]
    refine xS.s1 rfl rfl ?_
    try dsimp only [Nat.reduceAdd]
    refine xS.s1 rfl rfl ?_
    try dsimp only [Nat.reduceAdd]
    refine xS.gR rfl rfl rfl ⟨by decide, rfl⟩ rfl ?_
    try dsimp only [Nat.reduceAdd]
    refine xS.s1 rfl rfl ?_
    try dsimp only [Nat.reduceAdd]
    refine xS.s1 rfl rfl ?_
    try dsimp only [Nat.reduceAdd, xj_6]
    refine xS.s1 rfl rfl ?_
    try dsimp only [Nat.reduceAdd]
    refine xS.s1 rfl rfl ?_
    try dsimp only [Nat.reduceAdd]
    refine xS.s1 rfl rfl ?_
    try dsimp only [Nat.reduceAdd]
    rw [show (((nI p * 6) + nI j) : Int32) = nI ((p * 6) + j) from by simp only [← nI_add, ← pk_mul] <;> rfl]
    refine xS.ia rfl xar_21 (by omega) ?_
    try dsimp only [Nat.reduceAdd]
    rw [up_na (by decide), (hZ j hj6).1]
    refine xS.mn rfl rfl rfl ?_
    try dsimp only [Nat.reduceAdd]
    rw [nI_min (by omega) (by omega)]
    refine xS.s1 rfl rfl ?_
    try dsimp only [Nat.reduceAdd]
    refine xS.s1 rfl rfl ?_
    try dsimp only [Nat.reduceAdd]
    refine xS.s1 rfl rfl ?_
    try dsimp only [Nat.reduceAdd]
    refine xS.gI rfl rfl rfl ⟨by decide, rfl⟩ rfl ?_
    try dsimp only [Nat.reduceAdd]
    rw [up_same]
    refine xS.s1 rfl rfl ?_
    try dsimp only [Nat.reduceAdd]
    refine xS.br0 (c := .le) (off := 10) (l := 3) rfl rfl (fun h64 => ?_) (fun h64 => ?_)
    · have g64 := xt_le h64
      refine xS.s1 rfl rfl ?_
      try dsimp only [Nat.reduceAdd, xi_0]
      refine xS.s1 rfl rfl ?_
      try dsimp only [Nat.reduceAdd]
      rw [xor0]
      refine xS.pI rfl rfl rfl ⟨⟨by decide, rfl⟩, rfl, by decide, by decide⟩ rfl ?_
      try dsimp only [Nat.reduceAdd]
      refine xS.s1 rfl rfl ?_
      try dsimp only [Nat.reduceAdd, xi_1]
      rw [nI_1]
      refine xS.s1 rfl rfl ?_
      try dsimp only [Nat.reduceAdd]
      refine xS.pick [0, 2, 1, 4, 5] rfl ?_
      rw [up_up]
      have ih2 := ih () (by omega) trivial
      rw [show xsmn (fun _ => true) A0 (j + 1) = xsmn (fun _ => true) A0 j + A0 j from rfl, show xmnn (fun _ => true) Z0 (j + 1) = min (xmnn (fun _ => true) Z0 j) (Z0 j) from rfl, show (xbits (fun u => decide (0 < A0 u)) (j + 1)) = (xbits (fun u => decide (0 < A0 u)) j) from by rw [xbits_s]; simp only [show decide (0 < A0 j) = false from decide_eq_false (by have z := xn0 g64 (by omega); omega), cond_false]] at ih2
      exact ih2
    · have g64 := xf_le h64
      refine xS.s1 rfl rfl ?_
      try dsimp only [Nat.reduceAdd, xi_1]
      refine xS.s1 rfl rfl ?_
      try dsimp only [Nat.reduceAdd]
      refine xS.s1 rfl rfl ?_
      try dsimp only [Nat.reduceAdd]
      refine xS.s1 rfl rfl ?_
      try dsimp only [Nat.reduceAdd]
      refine xS.s1 rfl rfl ?_
      try dsimp only [Nat.reduceAdd]
      
      refine xS.pI rfl rfl rfl ⟨⟨by decide, rfl⟩, rfl, by decide, by decide⟩ rfl ?_
      try dsimp only [Nat.reduceAdd]
      refine xS.s1 rfl rfl ?_
      try dsimp only [Nat.reduceAdd, xi_1]
      rw [nI_1]
      refine xS.s1 rfl rfl ?_
      try dsimp only [Nat.reduceAdd]
      refine xS.pick [0, 2, 1, 4, 5] rfl ?_
      rw [up_up]
      have ih2 := ih () (by omega) trivial
      rw [show xsmn (fun _ => true) A0 (j + 1) = xsmn (fun _ => true) A0 j + A0 j from rfl, show xmnn (fun _ => true) Z0 (j + 1) = min (xmnn (fun _ => true) Z0 j) (Z0 j) from rfl, show (xbits (fun u => decide (0 < A0 u)) (j + 1)) = (xbits (fun u => decide (0 < A0 u)) j) ||| (1 <<< (nI j &&& 31)) from by rw [xbits_s]; simp only [show decide (0 < A0 j) = true from decide_eq_true ((nI_ltI (a := 0) (by omega) (by omega)).mp g64), cond_true]] at ih2
      exact ih2

end
