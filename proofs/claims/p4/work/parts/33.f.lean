section
/-! LimpMirrorModel: what is shown, what was done -/
/-- all but the scratch rows and the findings -/
def xFr (g g' : Nat → Nat → Int32) : Prop := (∀ a, a < 89 → a ≠ 73 → g' a = g a) ∧ (∀ i, i ≠ 23 → g' 73 i = g 73 i)
theorem xFr_r (g : Nat → Nat → Int32) : xFr g g := ⟨fun _ _ _ => rfl, fun _ _ => rfl⟩
theorem xFr_t {g g' g'' : Nat → Nat → Int32} (h1 : xFr g g') (h2 : xFr g' g'') : xFr g g'' := ⟨fun a h h' => by rw [h2.1 a h h', h1.1 a h h'], fun i h => by rw [h2.2 i h, h1.2 i h]⟩
theorem xFr_fR (g : Nat → Nat → Int32) (t : Nat) : xFr g (xfR g t) := ⟨fun a h h' => by unfold xfR; rw [up_na (by omega), up_na h'], fun i h => by unfold xfR; rw [up_na (by decide), up_ne (Or.inr h)]⟩
theorem xFr_gs {g : Nat → Nat → Int32} {a n : Nat} {S : Nat → Int32} (ha : 89 ≤ a) : xFr g (gset g a n S) := ⟨fun a' h _ => gset_na (by omega), fun i _ => by rw [gset_na (by omega)]⟩
theorem xRr_F {g g' : Nat → Nat → Int32} {h tx : Nat → Int32} {G T : Nat} {Lw : Nat → Nat} (hF : xFr g g') (hR : xRr g h tx G T Lw) : xRr g' h tx G T Lw := xRr_fr (hF.2 10 (by decide)) (hF.2 12 (by decide)) (hF.1 81 (by decide) (by decide)) (hF.1 82 (by decide) (by decide)) (hF.1 83 (by decide) (by decide)) hR
theorem gseg_congr {g : Nat → Nat → Int32} {a o n : Nat} {S S' : Nat → Int32} (h : ∀ i, i < n → S i = S' i) : gseg g a o n S = gseg g a o n S' := by
  funext x y
  unfold gseg
  by_cases e : x = a ∧ o ≤ y ∧ y < o + n
  · rw [if_pos e, if_pos e, h _ (by omega)]
  · rw [if_neg e, if_neg e]
def xd6 (n c i : Nat) : Nat := c / 6 ^ (n - 1 - i) % 6
theorem xd6_lt (n c i : Nat) : xd6 n c i < 6 := Nat.mod_lt _ (by decide)
def glay (g : Nat → Nat → Int32) (n c j : Nat) : Nat → Nat → Int32 := fun a' i' => if a' = 90 ∧ n - j ≤ i' ∧ i' < n then nI (xd6 n c i') else g a' i'
theorem glay_0 (g : Nat → Nat → Int32) (n c : Nat) : glay g n c 0 = g := by
  funext a' i'
  exact if_neg (fun h => by omega)
theorem glay_s {g : Nat → Nat → Int32} {n c j : Nat} (h : j < n) : up (glay g n c j) 90 (n - j - 1) (nI (c / 6 ^ j % 6)) = glay g n c (j + 1) := by
  funext a' i'
  unfold up glay
  by_cases e : a' = 90
  · subst e
    by_cases e2 : i' = n - j - 1
    · subst e2
      rw [if_pos ⟨rfl, rfl⟩, if_pos ⟨rfl, by omega, by omega⟩]
      unfold xd6
      rw [show n - 1 - (n - j - 1) = j by omega]
    · rw [if_neg (fun z => e2 z.2)]
      by_cases e3 : n - j ≤ i' ∧ i' < n
      · rw [if_pos ⟨rfl, e3⟩, if_pos ⟨rfl, by omega, e3.2⟩]
      · rw [if_neg (fun z => e3 z.2), if_neg (fun z => e3 ⟨by omega, z.2.2⟩)]
  · rw [if_neg (fun z => e z.1), if_neg (fun z => e z.1), if_neg (fun z => e z.1)]
theorem glay_na {g : Nat → Nat → Int32} {n c j a' : Nat} (h : a' ≠ 90) : glay g n c j a' = g a' := funext (fun _ => if_neg (fun z => h z.1))
theorem glay_in {g : Nat → Nat → Int32} {n c i : Nat} (h : i < n) : glay g n c n 90 i = nI (xd6 n c i) := if_pos ⟨rfl, by omega, h⟩
theorem pow6 {n : Nat} (h : n ≤ 6) : 6 ^ n ≤ 46656 := Nat.le_trans (Nat.pow_le_pow_right (by decide) h) (by decide)
def xbs (x : Int32) (n : Nat) : Int32 := Nat.rec (motive := fun _ => Int32) 0 (fun k c => c + ((x >>> (nI k &&& 31)) &&& 1)) n
def xorf (p : Nat → Bool) (v : Nat → Nat) (n : Nat) : Int32 := Nat.rec (motive := fun _ => Int32) 0 (fun c s => bif p c then s ||| (1 <<< (nI (v c) &&& 31)) else s) n
theorem xorf_s (p : Nat → Bool) (v : Nat → Nat) (n : Nat) : xorf p v (n + 1) = bif p n then xorf p v n ||| (1 <<< (nI (v n) &&& 31)) else xorf p v n := rfl

theorem xfst_up2 {p : Nat → Bool} {j n : Nat} (h : ¬ xfst p j = none) (hj : j ≤ n) : ¬ xfst p n = none := by
  cases e : xfst p j with
  | none => exact absurd e h
  | some d =>
    have := xfst_up e (n - j)
    rw [show j + (n - j) = n by omega] at this
    rw [this]
    exact fun z => by cases z

section
variable {k a c n n2 m t p s d i1 j1 : Nat} {b : Nat × Nat} {g : Nat → Nat → Int32} {l : Nat → Nat → Int64} {i j x y z v w : Int32} {u w1 w2 : Int64}
variable {L G T e1 q1 κ δ : Nat} {Lw f f2 : Nat → Nat} {h tx F4 Rw Rw2 O : Nat → Int32}
theorem c_X12_takeOut_ref (hA : xar a n) (ha : 89 ≤ a) (hp1 : p < 6) (hz : xsz (g 74 p) 40) (ht : t ≤ n) (hf : xfos (g 74 p) (fun i => g 75 (40 * p + i)) t ≠ 0) : xT (k + 3) 199 [.ref 73, .int (nI p), .int (nI t), .ref a] (xH b g l) (fun r M' => ∃ g', xFr g g' ∧ M' = xH b g' l ∧ r = some (.int (-3))) := by
  have hn := hA.2
  rcases hz with hs | ⟨m, hm, hs⟩
  · exact (c_X12_takeOut_no hA (by omega) (by omega) hp1 hs).weak (fun r M' q => ⟨_, xFr_fR g 1, q.1, q.2⟩)
  · by_cases c : t < m
    · exact (c_X12_takeOut_big hA (by omega) (by omega) hp1 hs hm c).weak (fun r M' q => ⟨_, xFr_fR g 5, q.1, q.2⟩)
    · by_cases c2 : xfst (xnst (fun i => g 75 (40 * p + i))) m = none
      · exfalso
        apply hf
        unfold xfos
        rw [hs, if_neg (nI_nm1 (by omega)), if_neg (nI_nlt (by omega) (by omega)), xN_nI (by omega), if_pos c2]
      · exact (c_X12_takeOut_unl hA (by omega) (by omega) hp1 hs hm (by omega) (by omega) (by omega) c2).weak (fun r M' q => ⟨_, xFr_t (xFr_gs ha) (xFr_fR _ 3), q.1, q.2⟩)
theorem c_X12_takeOut_0 (hA : xar a n) (ha : 89 ≤ a) (hp1 : p < 6) (hs : g 74 p = nI m) (hm : m ≤ 40) (ht : t ≤ n) (hf : xfos (g 74 p) (fun i => g 75 (40 * p + i)) t = 0) : xT (k + 3) 199 [.ref 73, .int (nI p), .int (nI t), .ref a] (xH b g l) (fun r M' => M' = xH b (gset g a m (fun i => g 75 (40 * p + i))) l ∧ r = some (.int 0)) := by
  have hn := hA.2
  have hmt : m ≤ t := by
    unfold xfos at hf
    rw [hs, if_neg (nI_nm1 (by omega))] at hf
    split at hf
    · cases hf
    · rename_i q
      rw [nI_ltI (by omega) (by omega)] at q
      omega
  refine c_X12_takeOut_ok hA (by omega) (by omega) hp1 hs hm hmt (by omega) (by omega) ?_
  unfold xfos at hf
  rw [hs, if_neg (nI_nm1 (by omega)), if_neg (nI_nlt (by omega) (by omega)), xN_nI (by omega)] at hf
  split at hf
  · assumption
  · cases hf

theorem xfop_r {S S' : Int32} {f f' : Nat → Int32} {most : Nat} (h : xfop S f S' f' most ≠ 0) : xfos S f most ≠ 0 ∨ (xfos S f most = 0 ∧ xfos S' f' most ≠ 0) ∨ (xfos S f most = 0 ∧ xfos S' f' most = 0 ∧ S ≠ S') := by
  unfold xfop at h
  by_cases c1 : xfos S f most = 0
  · by_cases c2 : xfos S' f' most = 0
    · by_cases c3 : S = S'
      · exfalso; apply h; rw [if_neg (by omega), if_neg (by omega), if_pos c3]
      · exact Or.inr (Or.inr ⟨c1, c2, c3⟩)
    · exact Or.inr (Or.inl ⟨c1, c2⟩)
  · exact Or.inl c1

set_option maxRecDepth 10000 in
theorem c_X12_takeTwo_1 (hp1 : p < 6) (hz : xsz (g 74 p) 40) (hs1 : s < 6) (hz2 : xsz (g 74 s) 40) (hf : xfos (g 74 p) (fun i => g 75 (40 * p + i)) 12 ≠ 0) : xT (k + 4) 200 [.ref 73, .int (nI p), .int (nI s)] (xH b g l) (fun r M' => ∃ g', xFr g g' ∧ M' = xH b g' l ∧ r = some (.int (-3))) := by
  refine xT.of rfl (Nat.le_of_ble_eq_true rfl) ?_
  change xS _ _ 0 [(0, .ref 73), (1, .int (nI p)), (2, .int (nI s))] [] _ _
  refine xS.s1 rfl rfl ?_
  try dsimp only [Nat.reduceAdd]
  refine xS.s1 rfl rfl ?_
  try dsimp only [Nat.reduceAdd]
  refine xS.s1 rfl rfl ?_
  try dsimp only [Nat.reduceAdd, xj_12]
  refine xS.s1 rfl rfl ?_
  try dsimp only [Nat.reduceAdd]
  refine xS.gR rfl rfl rfl ⟨by decide, rfl⟩ rfl ?_
  try dsimp only [Nat.reduceAdd]
  -- 8 yX12_takeOut
  refine xS.cv rfl rfl rfl rfl rfl rfl ⟨by decide, rfl, rfl⟩ (c_X12_takeOut_ref xar_90 (by decide) hp1 hz (by decide) hf) (fun v M1 hv => ?_)
  obtain ⟨g2, hF2, hM2, hv2⟩ := hv
  rw [hM2, hv2]
  clear hM2 hv2 M1 v
  try dsimp only [Nat.reduceAdd, Option.toList, List.cons_append, List.nil_append, List.drop]
  refine xS.s1 rfl rfl ?_
  try dsimp only [Nat.reduceAdd]
  refine xS.s1 rfl rfl ?_
  try dsimp only [Nat.reduceAdd]
  refine xS.br0 (c := .ge) (off := 7) (l := 3) rfl rfl (fun h13 => ?_) (fun h13 => ?_)
  · have g13 := xt_ge h13
    exfalso; first | exact absurd g13 (by decide) | (simp (disch := omega) only [Int32.lt_iff_toInt_lt, Int32.le_iff_toInt_le, nI_toInt, Int32.reduceToInt] at g13 <;> omega)
  · have g13 := xf_ge h13
    refine xS.s1 rfl rfl ?_
    try dsimp only [Nat.reduceAdd]
    refine xS.s1 rfl rfl ?_
    try dsimp only [Nat.reduceAdd]
    refine xS.s1 rfl rfl ?_
    try dsimp only [Nat.reduceAdd]
    refine xS.s1 rfl rfl ?_
    try dsimp only [Nat.reduceAdd]
    refine xS.br0 (c := .ge) (off := 7) (l := 3) rfl rfl (fun h33 => ?_) (fun h33 => ?_)
    · have g33 := xt_ge h33
      exfalso; first | exact absurd g33 (by decide) | (simp (disch := omega) only [Int32.lt_iff_toInt_lt, Int32.le_iff_toInt_le, nI_toInt, Int32.reduceToInt] at g33 <;> omega)
    · have g33 := xf_ge h33
      refine xS.s1 rfl rfl ?_
      try dsimp only [Nat.reduceAdd]
      refine xS.s1 rfl rfl ?_
      try dsimp only [Nat.reduceAdd]
      refine xS.ret rfl rfl rfl (fun _ _ => rfl) ?_
      exact ⟨g2, hF2, rfl, rfl⟩

set_option maxRecDepth 10000 in
theorem c_X12_takeTwo_2 (hp1 : p < 6) (hs : g 74 p = nI m) (hm : m ≤ 40) (hs1 : s < 6) (hz2 : xsz (g 74 s) 40) (hf : xfos (g 74 p) (fun i => g 75 (40 * p + i)) 12 = 0) (hf2 : xfos (g 74 s) (fun i => g 75 (40 * s + i)) 12 ≠ 0) : xT (k + 4) 200 [.ref 73, .int (nI p), .int (nI s)] (xH b g l) (fun r M' => ∃ g', xFr g g' ∧ M' = xH b g' l ∧ r = some (.int (-3))) := by
  refine xT.of rfl (Nat.le_of_ble_eq_true rfl) ?_
  change xS _ _ 0 [(0, .ref 73), (1, .int (nI p)), (2, .int (nI s))] [] _ _
  refine xS.s1 rfl rfl ?_
  try dsimp only [Nat.reduceAdd]
  refine xS.s1 rfl rfl ?_
  try dsimp only [Nat.reduceAdd]
  refine xS.s1 rfl rfl ?_
  try dsimp only [Nat.reduceAdd, xj_12]
  refine xS.s1 rfl rfl ?_
  try dsimp only [Nat.reduceAdd]
  refine xS.gR rfl rfl rfl ⟨by decide, rfl⟩ rfl ?_
  try dsimp only [Nat.reduceAdd]
  -- 8 yX12_takeOut
  refine xS.cv rfl rfl rfl rfl rfl rfl ⟨by decide, rfl, rfl⟩ (c_X12_takeOut_0 xar_90 (by decide) hp1 hs hm (by decide) hf) (fun v M1 hv => ?_)
  rw [hv.1, hv.2]
  clear hv M1 v
  have e75 : gset g 90 m (fun i => g 75 (40 * p + i)) 75 = g 75 := gset_na (by decide)
  have e74 : gset g 90 m (fun i => g 75 (40 * p + i)) 74 = g 74 := gset_na (by decide)
  try dsimp only [Nat.reduceAdd, Option.toList, List.cons_append, List.nil_append, List.drop]
  refine xS.s1 rfl rfl ?_
  try dsimp only [Nat.reduceAdd]
  refine xS.s1 rfl rfl ?_
  try dsimp only [Nat.reduceAdd]
  refine xS.br0 (c := .ge) (off := 7) (l := 3) rfl rfl (fun h13 => ?_) (fun h13 => ?_)
  · have g13 := xt_ge h13
    refine xS.s1 rfl rfl ?_
    try dsimp only [Nat.reduceAdd]
    refine xS.s1 rfl rfl ?_
    try dsimp only [Nat.reduceAdd]
    refine xS.s1 rfl rfl ?_
    try dsimp only [Nat.reduceAdd, xj_12]
    refine xS.s1 rfl rfl ?_
    try dsimp only [Nat.reduceAdd]
    refine xS.gR rfl rfl rfl ⟨by decide, rfl⟩ rfl ?_
    try dsimp only [Nat.reduceAdd]
    -- 28 yX12_takeOut
    refine xS.cv rfl rfl rfl rfl rfl rfl ⟨by decide, rfl, rfl⟩ (c_X12_takeOut_ref xar_91 (by decide) hs1 (by rw [e74]; exact hz2) (by decide) (by rw [e74, e75]; exact hf2)) (fun v M1 hv => ?_)
    obtain ⟨g2, hF2, hM2, hv2⟩ := hv
    rw [hM2, hv2]
    clear hM2 hv2 M1 v
    try dsimp only [Nat.reduceAdd, Option.toList, List.cons_append, List.nil_append, List.drop]
    refine xS.s1 rfl rfl ?_
    try dsimp only [Nat.reduceAdd]
    refine xS.s1 rfl rfl ?_
    try dsimp only [Nat.reduceAdd]
    refine xS.br0 (c := .ge) (off := 7) (l := 3) rfl rfl (fun h33 => ?_) (fun h33 => ?_)
    · have g33 := xt_ge h33
      exfalso; first | exact absurd g33 (by decide) | (simp (disch := omega) only [Int32.lt_iff_toInt_lt, Int32.le_iff_toInt_le, nI_toInt, Int32.reduceToInt] at g33 <;> omega)
    · have g33 := xf_ge h33
      refine xS.s1 rfl rfl ?_
      try dsimp only [Nat.reduceAdd]
      refine xS.s1 rfl rfl ?_
      try dsimp only [Nat.reduceAdd]
      refine xS.ret rfl rfl rfl (fun _ _ => rfl) ?_
      exact ⟨g2, xFr_t (xFr_gs (by decide)) hF2, rfl, rfl⟩
  · have g13 := xf_ge h13
    exfalso; first | exact absurd g13 (by decide) | (simp (disch := omega) only [Int32.lt_iff_toInt_lt, Int32.le_iff_toInt_le, nI_toInt, Int32.reduceToInt] at g13 <;> omega)

set_option maxRecDepth 10000 in
theorem c_X12_takeTwo_3 (hp1 : p < 6) (hs : g 74 p = nI m) (hm : m ≤ 40) (hs1 : s < 6) (hs2 : g 74 s = nI n) (hm2 : n ≤ 40) (hf : xfos (g 74 p) (fun i => g 75 (40 * p + i)) 12 = 0) (hf2 : xfos (g 74 s) (fun i => g 75 (40 * s + i)) 12 = 0) (hne : m ≠ n) : xT (k + 4) 200 [.ref 73, .int (nI p), .int (nI s)] (xH b g l) (fun r M' => ∃ g', xFr g g' ∧ M' = xH b g' l ∧ r = some (.int (-3))) := by
  refine xT.of rfl (Nat.le_of_ble_eq_true rfl) ?_
  change xS _ _ 0 [(0, .ref 73), (1, .int (nI p)), (2, .int (nI s))] [] _ _
  refine xS.s1 rfl rfl ?_
  try dsimp only [Nat.reduceAdd]
  refine xS.s1 rfl rfl ?_
  try dsimp only [Nat.reduceAdd]
  refine xS.s1 rfl rfl ?_
  try dsimp only [Nat.reduceAdd, xj_12]
  refine xS.s1 rfl rfl ?_
  try dsimp only [Nat.reduceAdd]
  refine xS.gR rfl rfl rfl ⟨by decide, rfl⟩ rfl ?_
  try dsimp only [Nat.reduceAdd]
  -- 8 yX12_takeOut
  refine xS.cv rfl rfl rfl rfl rfl rfl ⟨by decide, rfl, rfl⟩ (c_X12_takeOut_0 xar_90 (by decide) hp1 hs hm (by decide) hf) (fun v M1 hv => ?_)
  rw [hv.1, hv.2]
  clear hv M1 v
  have e75 : gset g 90 m (fun i => g 75 (40 * p + i)) 75 = g 75 := gset_na (by decide)
  have e74 : gset g 90 m (fun i => g 75 (40 * p + i)) 74 = g 74 := gset_na (by decide)
  try dsimp only [Nat.reduceAdd, Option.toList, List.cons_append, List.nil_append, List.drop]
  refine xS.s1 rfl rfl ?_
  try dsimp only [Nat.reduceAdd]
  refine xS.s1 rfl rfl ?_
  try dsimp only [Nat.reduceAdd]
  refine xS.br0 (c := .ge) (off := 7) (l := 3) rfl rfl (fun h13 => ?_) (fun h13 => ?_)
  · have g13 := xt_ge h13
    refine xS.s1 rfl rfl ?_
    try dsimp only [Nat.reduceAdd]
    refine xS.s1 rfl rfl ?_
    try dsimp only [Nat.reduceAdd]
    refine xS.s1 rfl rfl ?_
    try dsimp only [Nat.reduceAdd, xj_12]
    refine xS.s1 rfl rfl ?_
    try dsimp only [Nat.reduceAdd]
    refine xS.gR rfl rfl rfl ⟨by decide, rfl⟩ rfl ?_
    try dsimp only [Nat.reduceAdd]
    -- 28 yX12_takeOut
    refine xS.cv rfl rfl rfl rfl rfl rfl ⟨by decide, rfl, rfl⟩ (c_X12_takeOut_0 xar_91 (by decide) hs1 (by rw [e74]; exact hs2) hm2 (by decide) (by rw [e74, e75]; exact hf2)) (fun v M1 hv => ?_)
    rw [hv.1, hv.2, e75]
    clear hv M1 v
    have f74 : gset (gset g 90 m (fun i => g 75 (40 * p + i))) 91 n (fun i => g 75 (40 * s + i)) 74 = g 74 := by rw [gset_na (by decide), gset_na (by decide)]
    try dsimp only [Nat.reduceAdd, Option.toList, List.cons_append, List.nil_append, List.drop]
    refine xS.s1 rfl rfl ?_
    try dsimp only [Nat.reduceAdd]
    refine xS.s1 rfl rfl ?_
    try dsimp only [Nat.reduceAdd]
    refine xS.br0 (c := .ge) (off := 7) (l := 3) rfl rfl (fun h33 => ?_) (fun h33 => ?_)
    · have g33 := xt_ge h33
      refine xS.s1 rfl rfl ?_
      try dsimp only [Nat.reduceAdd]
      refine xS.gR rfl rfl rfl ⟨by decide, rfl⟩ rfl ?_
      try dsimp only [Nat.reduceAdd]
      refine xS.s1 rfl rfl ?_
      try dsimp only [Nat.reduceAdd]
      refine xS.ia rfl xar_74 (by omega) ?_
      try dsimp only [Nat.reduceAdd]
      refine xS.s1 rfl rfl ?_
      try dsimp only [Nat.reduceAdd]
      refine xS.gR rfl rfl rfl ⟨by decide, rfl⟩ rfl ?_
      try dsimp only [Nat.reduceAdd]
      refine xS.s1 rfl rfl ?_
      try dsimp only [Nat.reduceAdd]
      refine xS.ia rfl xar_74 (by omega) ?_
      try dsimp only [Nat.reduceAdd]
      refine xS.br (c := .eq) (off := 11) (l := 3) rfl rfl (fun h52 => ?_) (fun h52 => ?_)
      · have g52 := xt_eq h52
        rw [f74, hs, hs2] at g52; exact absurd ((nI_eq (by omega) (by omega)).mp g52) hne
      · have g52 := xf_eq h52
        refine xS.s1 rfl rfl ?_
        try dsimp only [Nat.reduceAdd]
        refine xS.s1 rfl rfl ?_
        try dsimp only [Nat.reduceAdd, xi_5]
        -- 57 yX12_finds
        refine xS.cv rfl rfl rfl rfl rfl rfl ⟨by decide, rfl, rfl⟩ (c_X12_finds (t := 5) (by decide)) (fun v M1 hv => ?_)
        rw [hv.1, hv.2]
        clear hv M1 v
        try dsimp only [Nat.reduceAdd, Option.toList, List.cons_append, List.nil_append, List.drop]
        refine xS.s1 rfl rfl ?_
        try dsimp only [Nat.reduceAdd]
        refine xS.ret rfl rfl rfl (fun _ _ => rfl) ?_
        exact ⟨_, xFr_t (xFr_t (xFr_gs (by decide)) (xFr_gs (by decide))) (xFr_fR _ 5), rfl, rfl⟩
    · have g33 := xf_ge h33
      exfalso; first | exact absurd g33 (by decide) | (simp (disch := omega) only [Int32.lt_iff_toInt_lt, Int32.le_iff_toInt_le, nI_toInt, Int32.reduceToInt] at g33 <;> omega)
  · have g13 := xf_ge h13
    exfalso; first | exact absurd g13 (by decide) | (simp (disch := omega) only [Int32.lt_iff_toInt_lt, Int32.le_iff_toInt_le, nI_toInt, Int32.reduceToInt] at g13 <;> omega)

set_option maxRecDepth 10000 in
theorem c_X12_takeTwo_0 (hp1 : p < 6) (hs : g 74 p = nI m) (hm : m ≤ 40) (hs1 : s < 6) (hs2 : g 74 s = nI m) (hf : xfos (g 74 p) (fun i => g 75 (40 * p + i)) 12 = 0) (hf2 : xfos (g 74 s) (fun i => g 75 (40 * s + i)) 12 = 0) : xT (k + 4) 200 [.ref 73, .int (nI p), .int (nI s)] (xH b g l) (fun r M' => M' = xH b (gset (gset g 90 m (fun i => g 75 (40 * p + i))) 91 m (fun i => g 75 (40 * s + i))) l ∧ r = some (.int 0)) := by
  refine xT.of rfl (Nat.le_of_ble_eq_true rfl) ?_
  change xS _ _ 0 [(0, .ref 73), (1, .int (nI p)), (2, .int (nI s))] [] _ _
  refine xS.s1 rfl rfl ?_
  try dsimp only [Nat.reduceAdd]
  refine xS.s1 rfl rfl ?_
  try dsimp only [Nat.reduceAdd]
  refine xS.s1 rfl rfl ?_
  try dsimp only [Nat.reduceAdd, xj_12]
  refine xS.s1 rfl rfl ?_
  try dsimp only [Nat.reduceAdd]
  refine xS.gR rfl rfl rfl ⟨by decide, rfl⟩ rfl ?_
  try dsimp only [Nat.reduceAdd]
  -- 8 yX12_takeOut
  refine xS.cv rfl rfl rfl rfl rfl rfl ⟨by decide, rfl, rfl⟩ (c_X12_takeOut_0 xar_90 (by decide) hp1 hs hm (by decide) hf) (fun v M1 hv => ?_)
  rw [hv.1, hv.2]
  clear hv M1 v
  have e75 : gset g 90 m (fun i => g 75 (40 * p + i)) 75 = g 75 := gset_na (by decide)
  have e74 : gset g 90 m (fun i => g 75 (40 * p + i)) 74 = g 74 := gset_na (by decide)
  try dsimp only [Nat.reduceAdd, Option.toList, List.cons_append, List.nil_append, List.drop]
  refine xS.s1 rfl rfl ?_
  try dsimp only [Nat.reduceAdd]
  refine xS.s1 rfl rfl ?_
  try dsimp only [Nat.reduceAdd]
  refine xS.br0 (c := .ge) (off := 7) (l := 3) rfl rfl (fun h13 => ?_) (fun h13 => ?_)
  · have g13 := xt_ge h13
    refine xS.s1 rfl rfl ?_
    try dsimp only [Nat.reduceAdd]
    refine xS.s1 rfl rfl ?_
    try dsimp only [Nat.reduceAdd]
    refine xS.s1 rfl rfl ?_
    try dsimp only [Nat.reduceAdd, xj_12]
    refine xS.s1 rfl rfl ?_
    try dsimp only [Nat.reduceAdd]
    refine xS.gR rfl rfl rfl ⟨by decide, rfl⟩ rfl ?_
    try dsimp only [Nat.reduceAdd]
    -- 28 yX12_takeOut
    refine xS.cv rfl rfl rfl rfl rfl rfl ⟨by decide, rfl, rfl⟩ (c_X12_takeOut_0 xar_91 (by decide) hs1 (by rw [e74]; exact hs2) hm (by decide) (by rw [e74, e75]; exact hf2)) (fun v M1 hv => ?_)
    rw [hv.1, hv.2, e75]
    clear hv M1 v
    have f74 : gset (gset g 90 m (fun i => g 75 (40 * p + i))) 91 m (fun i => g 75 (40 * s + i)) 74 = g 74 := by rw [gset_na (by decide), gset_na (by decide)]
    try dsimp only [Nat.reduceAdd, Option.toList, List.cons_append, List.nil_append, List.drop]
    refine xS.s1 rfl rfl ?_
    try dsimp only [Nat.reduceAdd]
    refine xS.s1 rfl rfl ?_
    try dsimp only [Nat.reduceAdd]
    refine xS.br0 (c := .ge) (off := 7) (l := 3) rfl rfl (fun h33 => ?_) (fun h33 => ?_)
    · have g33 := xt_ge h33
      refine xS.s1 rfl rfl ?_
      try dsimp only [Nat.reduceAdd]
      refine xS.gR rfl rfl rfl ⟨by decide, rfl⟩ rfl ?_
      try dsimp only [Nat.reduceAdd]
      refine xS.s1 rfl rfl ?_
      try dsimp only [Nat.reduceAdd]
      refine xS.ia rfl xar_74 (by omega) ?_
      try dsimp only [Nat.reduceAdd]
      refine xS.s1 rfl rfl ?_
      try dsimp only [Nat.reduceAdd]
      refine xS.gR rfl rfl rfl ⟨by decide, rfl⟩ rfl ?_
      try dsimp only [Nat.reduceAdd]
      refine xS.s1 rfl rfl ?_
      try dsimp only [Nat.reduceAdd]
      refine xS.ia rfl xar_74 (by omega) ?_
      try dsimp only [Nat.reduceAdd]
      refine xS.br (c := .eq) (off := 11) (l := 3) rfl rfl (fun h52 => ?_) (fun h52 => ?_)
      · have g52 := xt_eq h52
        refine xS.s1 rfl rfl ?_
        try dsimp only [Nat.reduceAdd, xi_0]
        refine xS.ret rfl rfl rfl (fun _ _ => rfl) ?_
        exact ⟨rfl, rfl⟩
      · have g52 := xf_eq h52
        exfalso; rw [f74, hs, hs2] at g52; exact g52 rfl
    · have g33 := xf_ge h33
      exfalso; first | exact absurd g33 (by decide) | (simp (disch := omega) only [Int32.lt_iff_toInt_lt, Int32.le_iff_toInt_le, nI_toInt, Int32.reduceToInt] at g33 <;> omega)
  · have g13 := xf_ge h13
    exfalso; first | exact absurd g13 (by decide) | (simp (disch := omega) only [Int32.lt_iff_toInt_lt, Int32.le_iff_toInt_le, nI_toInt, Int32.reduceToInt] at g13 <;> omega)

theorem c_X12_takeTwo_ref (hp1 : p < 6) (hz : xsz (g 74 p) 40) (hs1 : s < 6) (hz2 : xsz (g 74 s) 40) (hf : xfop (g 74 p) (fun i => g 75 (40 * p + i)) (g 74 s) (fun i => g 75 (40 * s + i)) 12 ≠ 0) : xT (k + 4) 200 [.ref 73, .int (nI p), .int (nI s)] (xH b g l) (fun r M' => ∃ g', xFr g g' ∧ M' = xH b g' l ∧ r = some (.int (-3))) := by
  rcases xfop_r hf with h | ⟨h1, h2⟩ | ⟨h1, h2, h3⟩
  · exact c_X12_takeTwo_1 hp1 hz hs1 hz2 h
  · obtain ⟨m, e1, e2, e3, e4⟩ := xfos_0 hz (by decide) (by decide) h1
    exact c_X12_takeTwo_2 hp1 e1 e3 hs1 hz2 h1 h2
  · obtain ⟨m, e1, e2, e3, e4⟩ := xfos_0 hz (by decide) (by decide) h1
    obtain ⟨n, d1, d2, d3, d4⟩ := xfos_0 hz2 (by decide) (by decide) h2
    exact c_X12_takeTwo_3 hp1 e1 e3 hs1 d1 d3 h1 h2 (fun z => h3 (by rw [e1, d1, z]))

set_option maxRecDepth 10000 in
theorem c_X12_show_bad (hR : xRr g h tx G T Lw) (hx : ¬ ((0 ≤ x ∧ x < nI G) ∧ (0 ≤ y ∧ y < 6) ∧ 0 ≤ z ∧ z < 6)) : xT (k + 4) 202 [.ref 73, .int x, .int y, .int z] (xH b g l) (fun r M' => M' = xH b g l ∧ r = some (.int (-1))) := by
  refine xT.of rfl (Nat.le_of_ble_eq_true rfl) ?_
  change xS _ _ 0 [(0, .ref 73), (1, .int x), (2, .int y), (3, .int z)] [] _ _
  refine xS.s1 rfl rfl ?_
  try dsimp only [Nat.reduceAdd]
  refine xS.s1 rfl rfl ?_
  try dsimp only [Nat.reduceAdd]
  -- 2 yX12_isGlass
  refine xS.cv rfl rfl rfl rfl rfl rfl ⟨by decide, rfl, rfl⟩ (c_X12_isGlass hR.1.1 hR.1.2) (fun v M1 hv => ?_)
  rw [hv.1, hv.2]
  clear hv M1 v
  try dsimp only [Nat.reduceAdd, Option.toList, List.cons_append, List.nil_append, List.drop]
  refine xS.br0 (c := .eq) (off := 17) (l := 3) rfl rfl (fun h5 => ?_) (fun h5 => ?_)
  · have g5 := xt_eq h5
    refine xS.s1 rfl rfl ?_
    try dsimp only [Nat.reduceAdd, xi_m1]
    refine xS.ret rfl rfl rfl (fun _ _ => rfl) ?_
    exact ⟨rfl, rfl⟩
  · have g5 := xf_eq h5
    refine xS.s1 rfl rfl ?_
    try dsimp only [Nat.reduceAdd]
    -- 9 yX12_isRow
    refine xS.callS rfl rfl rfl ⟨Nat.le_of_ble_eq_true rfl, rfl⟩ c_X12_isRow (fun v M1 hv => ?_)
    rw [hv.1, hv.2]
    clear hv M1 v
    try dsimp only [Nat.reduceAdd, Option.toList, List.cons_append, List.nil_append, List.drop]
    refine xS.br0 (c := .eq) (off := 10) (l := 3) rfl rfl (fun h12 => ?_) (fun h12 => ?_)
    · have g12 := xt_eq h12
      refine xS.s1 rfl rfl ?_
      try dsimp only [Nat.reduceAdd, xi_m1]
      refine xS.ret rfl rfl rfl (fun _ _ => rfl) ?_
      exact ⟨rfl, rfl⟩
    · have g12 := xf_eq h12
      refine xS.s1 rfl rfl ?_
      try dsimp only [Nat.reduceAdd]
      -- 16 yX12_isRow
      refine xS.callS rfl rfl rfl ⟨Nat.le_of_ble_eq_true rfl, rfl⟩ c_X12_isRow (fun v M1 hv => ?_)
      rw [hv.1, hv.2]
      clear hv M1 v
      try dsimp only [Nat.reduceAdd, Option.toList, List.cons_append, List.nil_append, List.drop]
      refine xS.br0 (c := .ne) (off := 5) (l := 3) rfl rfl (fun h19 => ?_) (fun h19 => ?_)
      · have g19 := xt_ne h19
        exact absurd ⟨xif1 g5, xif1 g12, xif1 g19⟩ hx
      · have g19 := xf_ne h19
        refine xS.s1 rfl rfl ?_
        try dsimp only [Nat.reduceAdd, xi_m1]
        refine xS.ret rfl rfl rfl (fun _ _ => rfl) ?_
        exact ⟨rfl, rfl⟩

set_option maxRecDepth 10000 in
theorem c_X12_first_bad (hR : xRr g h tx G T Lw) (hx : ¬ ((0 ≤ x ∧ x < nI G) ∧ (0 ≤ y ∧ y < 6) ∧ 0 ≤ z ∧ z < 6)) : xT (k + 5) 211 [.ref 73, .int x, .int y, .int z] (xH b g l) (fun r M' => M' = xH b g l ∧ r = some (.int (-1))) := by
  refine xT.of rfl (Nat.le_of_ble_eq_true rfl) ?_
  change xS _ _ 0 [(0, .ref 73), (1, .int x), (2, .int y), (3, .int z)] [] _ _
  refine xS.s1 rfl rfl ?_
  try dsimp only [Nat.reduceAdd]
  refine xS.s1 rfl rfl ?_
  try dsimp only [Nat.reduceAdd]
  -- 2 yX12_isGlass
  refine xS.cv rfl rfl rfl rfl rfl rfl ⟨by decide, rfl, rfl⟩ (c_X12_isGlass hR.1.1 hR.1.2) (fun v M1 hv => ?_)
  rw [hv.1, hv.2]
  clear hv M1 v
  try dsimp only [Nat.reduceAdd, Option.toList, List.cons_append, List.nil_append, List.drop]
  refine xS.br0 (c := .eq) (off := 17) (l := 3) rfl rfl (fun h5 => ?_) (fun h5 => ?_)
  · have g5 := xt_eq h5
    refine xS.s1 rfl rfl ?_
    try dsimp only [Nat.reduceAdd, xi_m1]
    refine xS.ret rfl rfl rfl (fun _ _ => rfl) ?_
    exact ⟨rfl, rfl⟩
  · have g5 := xf_eq h5
    refine xS.s1 rfl rfl ?_
    try dsimp only [Nat.reduceAdd]
    -- 9 yX12_isRow
    refine xS.callS rfl rfl rfl ⟨Nat.le_of_ble_eq_true rfl, rfl⟩ c_X12_isRow (fun v M1 hv => ?_)
    rw [hv.1, hv.2]
    clear hv M1 v
    try dsimp only [Nat.reduceAdd, Option.toList, List.cons_append, List.nil_append, List.drop]
    refine xS.br0 (c := .eq) (off := 10) (l := 3) rfl rfl (fun h12 => ?_) (fun h12 => ?_)
    · have g12 := xt_eq h12
      refine xS.s1 rfl rfl ?_
      try dsimp only [Nat.reduceAdd, xi_m1]
      refine xS.ret rfl rfl rfl (fun _ _ => rfl) ?_
      exact ⟨rfl, rfl⟩
    · have g12 := xf_eq h12
      refine xS.s1 rfl rfl ?_
      try dsimp only [Nat.reduceAdd]
      -- 16 yX12_isRow
      refine xS.callS rfl rfl rfl ⟨Nat.le_of_ble_eq_true rfl, rfl⟩ c_X12_isRow (fun v M1 hv => ?_)
      rw [hv.1, hv.2]
      clear hv M1 v
      try dsimp only [Nat.reduceAdd, Option.toList, List.cons_append, List.nil_append, List.drop]
      refine xS.br0 (c := .ne) (off := 5) (l := 3) rfl rfl (fun h19 => ?_) (fun h19 => ?_)
      · have g19 := xt_ne h19
        exact absurd ⟨xif1 g5, xif1 g12, xif1 g19⟩ hx
      · have g19 := xf_ne h19
        refine xS.s1 rfl rfl ?_
        try dsimp only [Nat.reduceAdd, xi_m1]
        refine xS.ret rfl rfl rfl (fun _ _ => rfl) ?_
        exact ⟨rfl, rfl⟩

set_option maxRecDepth 10000 in
theorem c_X12_he_bad (hR : xRr g h tx G T Lw) (hx : ¬ ((0 ≤ x ∧ x < nI G) ∧ (0 ≤ y ∧ y < 6) ∧ 0 ≤ z ∧ z < 6)) : xT (k + 5) 217 [.ref 73, .int x, .int y, .int z] (xH b g l) (fun r M' => M' = xH b g l ∧ r = some (.int (-1))) := by
  refine xT.of rfl (Nat.le_of_ble_eq_true rfl) ?_
  change xS _ _ 0 [(0, .ref 73), (1, .int x), (2, .int y), (3, .int z)] [] _ _
  refine xS.s1 rfl rfl ?_
  try dsimp only [Nat.reduceAdd]
  refine xS.s1 rfl rfl ?_
  try dsimp only [Nat.reduceAdd]
  -- 2 yX12_isGlass
  refine xS.cv rfl rfl rfl rfl rfl rfl ⟨by decide, rfl, rfl⟩ (c_X12_isGlass hR.1.1 hR.1.2) (fun v M1 hv => ?_)
  rw [hv.1, hv.2]
  clear hv M1 v
  try dsimp only [Nat.reduceAdd, Option.toList, List.cons_append, List.nil_append, List.drop]
  refine xS.br0 (c := .eq) (off := 17) (l := 3) rfl rfl (fun h5 => ?_) (fun h5 => ?_)
  · have g5 := xt_eq h5
    refine xS.s1 rfl rfl ?_
    try dsimp only [Nat.reduceAdd, xi_m1]
    refine xS.ret rfl rfl rfl (fun _ _ => rfl) ?_
    exact ⟨rfl, rfl⟩
  · have g5 := xf_eq h5
    refine xS.s1 rfl rfl ?_
    try dsimp only [Nat.reduceAdd]
    -- 9 yX12_isRow
    refine xS.callS rfl rfl rfl ⟨Nat.le_of_ble_eq_true rfl, rfl⟩ c_X12_isRow (fun v M1 hv => ?_)
    rw [hv.1, hv.2]
    clear hv M1 v
    try dsimp only [Nat.reduceAdd, Option.toList, List.cons_append, List.nil_append, List.drop]
    refine xS.br0 (c := .eq) (off := 10) (l := 3) rfl rfl (fun h12 => ?_) (fun h12 => ?_)
    · have g12 := xt_eq h12
      refine xS.s1 rfl rfl ?_
      try dsimp only [Nat.reduceAdd, xi_m1]
      refine xS.ret rfl rfl rfl (fun _ _ => rfl) ?_
      exact ⟨rfl, rfl⟩
    · have g12 := xf_eq h12
      refine xS.s1 rfl rfl ?_
      try dsimp only [Nat.reduceAdd]
      -- 16 yX12_isRow
      refine xS.callS rfl rfl rfl ⟨Nat.le_of_ble_eq_true rfl, rfl⟩ c_X12_isRow (fun v M1 hv => ?_)
      rw [hv.1, hv.2]
      clear hv M1 v
      try dsimp only [Nat.reduceAdd, Option.toList, List.cons_append, List.nil_append, List.drop]
      refine xS.br0 (c := .ne) (off := 5) (l := 3) rfl rfl (fun h19 => ?_) (fun h19 => ?_)
      · have g19 := xt_ne h19
        exact absurd ⟨xif1 g5, xif1 g12, xif1 g19⟩ hx
      · have g19 := xf_ne h19
        refine xS.s1 rfl rfl ?_
        try dsimp only [Nat.reduceAdd, xi_m1]
        refine xS.ret rfl rfl rfl (fun _ _ => rfl) ?_
        exact ⟨rfl, rfl⟩

set_option maxRecDepth 10000 in
theorem c_X12_breaks_bad (hR : xRr g h tx G T Lw) (hx : ¬ ((0 ≤ x ∧ x < nI G) ∧ 0 ≤ y ∧ y < 6)) : xT (k + 5) 204 [.ref 73, .int x, .int y] (xH b g l) (fun r M' => M' = xH b g l ∧ r = some (.int (-1))) := by
  refine xT.of rfl (Nat.le_of_ble_eq_true rfl) ?_
  change xS _ _ 0 [(0, .ref 73), (1, .int x), (2, .int y)] [] _ _
  refine xS.s1 rfl rfl ?_
  try dsimp only [Nat.reduceAdd]
  refine xS.s1 rfl rfl ?_
  try dsimp only [Nat.reduceAdd]
  -- 2 yX12_isGlass
  refine xS.cv rfl rfl rfl rfl rfl rfl ⟨by decide, rfl, rfl⟩ (c_X12_isGlass hR.1.1 hR.1.2) (fun v M1 hv => ?_)
  rw [hv.1, hv.2]
  clear hv M1 v
  try dsimp only [Nat.reduceAdd, Option.toList, List.cons_append, List.nil_append, List.drop]
  refine xS.br0 (c := .eq) (off := 10) (l := 3) rfl rfl (fun h5 => ?_) (fun h5 => ?_)
  · have g5 := xt_eq h5
    refine xS.s1 rfl rfl ?_
    try dsimp only [Nat.reduceAdd, xi_m1]
    refine xS.ret rfl rfl rfl (fun _ _ => rfl) ?_
    exact ⟨rfl, rfl⟩
  · have g5 := xf_eq h5
    refine xS.s1 rfl rfl ?_
    try dsimp only [Nat.reduceAdd]
    -- 9 yX12_isRow
    refine xS.callS rfl rfl rfl ⟨Nat.le_of_ble_eq_true rfl, rfl⟩ c_X12_isRow (fun v M1 hv => ?_)
    rw [hv.1, hv.2]
    clear hv M1 v
    try dsimp only [Nat.reduceAdd, Option.toList, List.cons_append, List.nil_append, List.drop]
    refine xS.br0 (c := .ne) (off := 5) (l := 3) rfl rfl (fun h12 => ?_) (fun h12 => ?_)
    · have g12 := xt_ne h12
      exact absurd ⟨xif1 g5, xif1 g12⟩ hx
    · have g12 := xf_ne h12
      refine xS.s1 rfl rfl ?_
      try dsimp only [Nat.reduceAdd, xi_m1]
      refine xS.ret rfl rfl rfl (fun _ _ => rfl) ?_
      exact ⟨rfl, rfl⟩

set_option maxRecDepth 10000 in
theorem c_X12_alike_bad (hR : xRr g h tx G T Lw) (hx : ¬ ((0 ≤ x ∧ x < nI G) ∧ 0 ≤ y ∧ y < 6)) : xT (k + 4) 205 [.ref 73, .int x, .int y] (xH b g l) (fun r M' => M' = xH b g l ∧ r = some (.int (-1))) := by
  refine xT.of rfl (Nat.le_of_ble_eq_true rfl) ?_
  change xS _ _ 0 [(0, .ref 73), (1, .int x), (2, .int y)] [] _ _
  refine xS.s1 rfl rfl ?_
  try dsimp only [Nat.reduceAdd]
  refine xS.s1 rfl rfl ?_
  try dsimp only [Nat.reduceAdd]
  -- 2 yX12_isGlass
  refine xS.cv rfl rfl rfl rfl rfl rfl ⟨by decide, rfl, rfl⟩ (c_X12_isGlass hR.1.1 hR.1.2) (fun v M1 hv => ?_)
  rw [hv.1, hv.2]
  clear hv M1 v
  try dsimp only [Nat.reduceAdd, Option.toList, List.cons_append, List.nil_append, List.drop]
  refine xS.br0 (c := .eq) (off := 10) (l := 3) rfl rfl (fun h5 => ?_) (fun h5 => ?_)
  · have g5 := xt_eq h5
    refine xS.s1 rfl rfl ?_
    try dsimp only [Nat.reduceAdd, xi_m1]
    refine xS.ret rfl rfl rfl (fun _ _ => rfl) ?_
    exact ⟨rfl, rfl⟩
  · have g5 := xf_eq h5
    refine xS.s1 rfl rfl ?_
    try dsimp only [Nat.reduceAdd]
    -- 9 yX12_isRow
    refine xS.callS rfl rfl rfl ⟨Nat.le_of_ble_eq_true rfl, rfl⟩ c_X12_isRow (fun v M1 hv => ?_)
    rw [hv.1, hv.2]
    clear hv M1 v
    try dsimp only [Nat.reduceAdd, Option.toList, List.cons_append, List.nil_append, List.drop]
    refine xS.br0 (c := .ne) (off := 5) (l := 3) rfl rfl (fun h12 => ?_) (fun h12 => ?_)
    · have g12 := xt_ne h12
      exact absurd ⟨xif1 g5, xif1 g12⟩ hx
    · have g12 := xf_ne h12
      refine xS.s1 rfl rfl ?_
      try dsimp only [Nat.reduceAdd, xi_m1]
      refine xS.ret rfl rfl rfl (fun _ _ => rfl) ?_
      exact ⟨rfl, rfl⟩

set_option maxRecDepth 10000 in
theorem c_X12_ways_bad (hR : xRr g h tx G T Lw) (hx : ¬ ((0 ≤ x ∧ x < nI G) ∧ 0 ≤ y ∧ y < 6)) : xT (k + 5) 210 [.ref 73, .int x, .int y] (xH b g l) (fun r M' => M' = xH b g l ∧ r = some (.int (-1))) := by
  refine xT.of rfl (Nat.le_of_ble_eq_true rfl) ?_
  change xS _ _ 0 [(0, .ref 73), (1, .int x), (2, .int y)] [] _ _
  refine xS.s1 rfl rfl ?_
  try dsimp only [Nat.reduceAdd]
  refine xS.s1 rfl rfl ?_
  try dsimp only [Nat.reduceAdd]
  -- 2 yX12_isGlass
  refine xS.cv rfl rfl rfl rfl rfl rfl ⟨by decide, rfl, rfl⟩ (c_X12_isGlass hR.1.1 hR.1.2) (fun v M1 hv => ?_)
  rw [hv.1, hv.2]
  clear hv M1 v
  try dsimp only [Nat.reduceAdd, Option.toList, List.cons_append, List.nil_append, List.drop]
  refine xS.br0 (c := .eq) (off := 10) (l := 3) rfl rfl (fun h5 => ?_) (fun h5 => ?_)
  · have g5 := xt_eq h5
    refine xS.s1 rfl rfl ?_
    try dsimp only [Nat.reduceAdd, xi_m1]
    refine xS.ret rfl rfl rfl (fun _ _ => rfl) ?_
    exact ⟨rfl, rfl⟩
  · have g5 := xf_eq h5
    refine xS.s1 rfl rfl ?_
    try dsimp only [Nat.reduceAdd]
    -- 9 yX12_isRow
    refine xS.callS rfl rfl rfl ⟨Nat.le_of_ble_eq_true rfl, rfl⟩ c_X12_isRow (fun v M1 hv => ?_)
    rw [hv.1, hv.2]
    clear hv M1 v
    try dsimp only [Nat.reduceAdd, Option.toList, List.cons_append, List.nil_append, List.drop]
    refine xS.br0 (c := .ne) (off := 5) (l := 3) rfl rfl (fun h12 => ?_) (fun h12 => ?_)
    · have g12 := xt_ne h12
      exact absurd ⟨xif1 g5, xif1 g12⟩ hx
    · have g12 := xf_ne h12
      refine xS.s1 rfl rfl ?_
      try dsimp only [Nat.reduceAdd, xi_m1]
      refine xS.ret rfl rfl rfl (fun _ _ => rfl) ?_
      exact ⟨rfl, rfl⟩

set_option maxRecDepth 10000 in
theorem c_X12_can_bad (hR : xRr g h tx G T Lw) (hx : ¬ ((0 ≤ x ∧ x < nI G) ∧ (0 ≤ y ∧ y < 6) ∧ 0 ≤ z)) : xT (k + 5) 212 [.ref 73, .int x, .int y, .int z] (xH b g l) (fun r M' => M' = xH b g l ∧ r = some (.int (-1))) := by
  refine xT.of rfl (Nat.le_of_ble_eq_true rfl) ?_
  change xS _ _ 0 [(0, .ref 73), (1, .int x), (2, .int y), (3, .int z)] [] _ _
  refine xS.s1 rfl rfl ?_
  try dsimp only [Nat.reduceAdd]
  refine xS.s1 rfl rfl ?_
  try dsimp only [Nat.reduceAdd]
  -- 2 yX12_isGlass
  refine xS.cv rfl rfl rfl rfl rfl rfl ⟨by decide, rfl, rfl⟩ (c_X12_isGlass hR.1.1 hR.1.2) (fun v M1 hv => ?_)
  rw [hv.1, hv.2]
  clear hv M1 v
  try dsimp only [Nat.reduceAdd, Option.toList, List.cons_append, List.nil_append, List.drop]
  refine xS.br0 (c := .eq) (off := 14) (l := 3) rfl rfl (fun h5 => ?_) (fun h5 => ?_)
  · have g5 := xt_eq h5
    refine xS.s1 rfl rfl ?_
    try dsimp only [Nat.reduceAdd, xi_m1]
    refine xS.ret rfl rfl rfl (fun _ _ => rfl) ?_
    exact ⟨rfl, rfl⟩
  · have g5 := xf_eq h5
    refine xS.s1 rfl rfl ?_
    try dsimp only [Nat.reduceAdd]
    -- 9 yX12_isRow
    refine xS.callS rfl rfl rfl ⟨Nat.le_of_ble_eq_true rfl, rfl⟩ c_X12_isRow (fun v M1 hv => ?_)
    rw [hv.1, hv.2]
    clear hv M1 v
    try dsimp only [Nat.reduceAdd, Option.toList, List.cons_append, List.nil_append, List.drop]
    refine xS.br0 (c := .eq) (off := 7) (l := 3) rfl rfl (fun h12 => ?_) (fun h12 => ?_)
    · have g12 := xt_eq h12
      refine xS.s1 rfl rfl ?_
      try dsimp only [Nat.reduceAdd, xi_m1]
      refine xS.ret rfl rfl rfl (fun _ _ => rfl) ?_
      exact ⟨rfl, rfl⟩
    · have g12 := xf_eq h12
      refine xS.s1 rfl rfl ?_
      try dsimp only [Nat.reduceAdd]
      refine xS.br0 (c := .ge) (off := 5) (l := 3) rfl rfl (fun h16 => ?_) (fun h16 => ?_)
      · have g16 := xt_ge h16
        exact absurd ⟨xif1 g5, xif1 g12, g16⟩ hx
      · have g16 := xf_ge h16
        refine xS.s1 rfl rfl ?_
        try dsimp only [Nat.reduceAdd, xi_m1]
        refine xS.ret rfl rfl rfl (fun _ _ => rfl) ?_
        exact ⟨rfl, rfl⟩

set_option maxRecDepth 10000 in
theorem c_X12_fit_bad (hx : ¬ ((0 ≤ x ∧ x < 6) ∧ 0 ≤ y ∧ y < 6)) : xT (k + 5) 206 [.ref 73, .int x, .int y] (xH b g l) (fun r M' => M' = xH b g l ∧ r = some (.int (-1))) := by
  refine xT.of rfl (Nat.le_of_ble_eq_true rfl) ?_
  change xS _ _ 0 [(0, .ref 73), (1, .int x), (2, .int y)] [] _ _
  refine xS.s1 rfl rfl ?_
  try dsimp only [Nat.reduceAdd]
  -- 1 yX12_isRow
  refine xS.callS rfl rfl rfl ⟨Nat.le_of_ble_eq_true rfl, rfl⟩ c_X12_isRow (fun v M1 hv => ?_)
  rw [hv.1, hv.2]
  clear hv M1 v
  try dsimp only [Nat.reduceAdd, Option.toList, List.cons_append, List.nil_append, List.drop]
  refine xS.br0 (c := .eq) (off := 10) (l := 3) rfl rfl (fun h4 => ?_) (fun h4 => ?_)
  · have g4 := xt_eq h4
    refine xS.s1 rfl rfl ?_
    try dsimp only [Nat.reduceAdd, xi_m1]
    refine xS.ret rfl rfl rfl (fun _ _ => rfl) ?_
    exact ⟨rfl, rfl⟩
  · have g4 := xf_eq h4
    refine xS.s1 rfl rfl ?_
    try dsimp only [Nat.reduceAdd]
    -- 8 yX12_isRow
    refine xS.callS rfl rfl rfl ⟨Nat.le_of_ble_eq_true rfl, rfl⟩ c_X12_isRow (fun v M1 hv => ?_)
    rw [hv.1, hv.2]
    clear hv M1 v
    try dsimp only [Nat.reduceAdd, Option.toList, List.cons_append, List.nil_append, List.drop]
    refine xS.br0 (c := .ne) (off := 5) (l := 3) rfl rfl (fun h11 => ?_) (fun h11 => ?_)
    · have g11 := xt_ne h11
      exact absurd ⟨xif1 g4, xif1 g11⟩ hx
    · have g11 := xf_ne h11
      refine xS.s1 rfl rfl ?_
      try dsimp only [Nat.reduceAdd, xi_m1]
      refine xS.ret rfl rfl rfl (fun _ _ => rfl) ?_
      exact ⟨rfl, rfl⟩

set_option maxRecDepth 10000 in
theorem c_X12_laws_bad (hx : ¬ ((0 ≤ x ∧ x < 6) ∧ 0 ≤ y ∧ y < 6)) : xT (k + 5) 214 [.ref 73, .int x, .int y] (xH b g l) (fun r M' => M' = xH b g l ∧ r = some (.int (-1))) := by
  refine xT.of rfl (Nat.le_of_ble_eq_true rfl) ?_
  change xS _ _ 0 [(0, .ref 73), (1, .int x), (2, .int y)] [] _ _
  refine xS.s1 rfl rfl ?_
  try dsimp only [Nat.reduceAdd]
  -- 1 yX12_isRow
  refine xS.callS rfl rfl rfl ⟨Nat.le_of_ble_eq_true rfl, rfl⟩ c_X12_isRow (fun v M1 hv => ?_)
  rw [hv.1, hv.2]
  clear hv M1 v
  try dsimp only [Nat.reduceAdd, Option.toList, List.cons_append, List.nil_append, List.drop]
  refine xS.br0 (c := .eq) (off := 10) (l := 3) rfl rfl (fun h4 => ?_) (fun h4 => ?_)
  · have g4 := xt_eq h4
    refine xS.s1 rfl rfl ?_
    try dsimp only [Nat.reduceAdd, xi_m1]
    refine xS.ret rfl rfl rfl (fun _ _ => rfl) ?_
    exact ⟨rfl, rfl⟩
  · have g4 := xf_eq h4
    refine xS.s1 rfl rfl ?_
    try dsimp only [Nat.reduceAdd]
    -- 8 yX12_isRow
    refine xS.callS rfl rfl rfl ⟨Nat.le_of_ble_eq_true rfl, rfl⟩ c_X12_isRow (fun v M1 hv => ?_)
    rw [hv.1, hv.2]
    clear hv M1 v
    try dsimp only [Nat.reduceAdd, Option.toList, List.cons_append, List.nil_append, List.drop]
    refine xS.br0 (c := .ne) (off := 5) (l := 3) rfl rfl (fun h11 => ?_) (fun h11 => ?_)
    · have g11 := xt_ne h11
      exact absurd ⟨xif1 g4, xif1 g11⟩ hx
    · have g11 := xf_ne h11
      refine xS.s1 rfl rfl ?_
      try dsimp only [Nat.reduceAdd, xi_m1]
      refine xS.ret rfl rfl rfl (fun _ _ => rfl) ?_
      exact ⟨rfl, rfl⟩

set_option maxRecDepth 10000 in
theorem c_X12_next_bad (hx : ¬ ((0 ≤ x ∧ x < 6) ∧ 0 ≤ y ∧ y < 6)) : xT (k + 5) 216 [.ref 73, .int x, .int y] (xH b g l) (fun r M' => M' = xH b g l ∧ r = some (.int (-1))) := by
  refine xT.of rfl (Nat.le_of_ble_eq_true rfl) ?_
  change xS _ _ 0 [(0, .ref 73), (1, .int x), (2, .int y)] [] _ _
  refine xS.s1 rfl rfl ?_
  try dsimp only [Nat.reduceAdd]
  -- 1 yX12_isRow
  refine xS.callS rfl rfl rfl ⟨Nat.le_of_ble_eq_true rfl, rfl⟩ c_X12_isRow (fun v M1 hv => ?_)
  rw [hv.1, hv.2]
  clear hv M1 v
  try dsimp only [Nat.reduceAdd, Option.toList, List.cons_append, List.nil_append, List.drop]
  refine xS.br0 (c := .eq) (off := 10) (l := 3) rfl rfl (fun h4 => ?_) (fun h4 => ?_)
  · have g4 := xt_eq h4
    refine xS.s1 rfl rfl ?_
    try dsimp only [Nat.reduceAdd, xi_m1]
    refine xS.ret rfl rfl rfl (fun _ _ => rfl) ?_
    exact ⟨rfl, rfl⟩
  · have g4 := xf_eq h4
    refine xS.s1 rfl rfl ?_
    try dsimp only [Nat.reduceAdd]
    -- 8 yX12_isRow
    refine xS.callS rfl rfl rfl ⟨Nat.le_of_ble_eq_true rfl, rfl⟩ c_X12_isRow (fun v M1 hv => ?_)
    rw [hv.1, hv.2]
    clear hv M1 v
    try dsimp only [Nat.reduceAdd, Option.toList, List.cons_append, List.nil_append, List.drop]
    refine xS.br0 (c := .ne) (off := 5) (l := 3) rfl rfl (fun h11 => ?_) (fun h11 => ?_)
    · have g11 := xt_ne h11
      exact absurd ⟨xif1 g4, xif1 g11⟩ hx
    · have g11 := xf_ne h11
      refine xS.s1 rfl rfl ?_
      try dsimp only [Nat.reduceAdd, xi_m1]
      refine xS.ret rfl rfl rfl (fun _ _ => rfl) ?_
      exact ⟨rfl, rfl⟩

set_option maxRecDepth 10000 in
theorem c_X12_show_ref (hR : xRr g h tx G T Lw) (hk : s < G) (hp1 : p < 6) (ht : t < 6) (hz : xsz (g 74 p) 40) (hf : xfos (g 74 p) (fun i => g 75 (40 * p + i)) 12 ≠ 0) : xT (k + 4) 202 [.ref 73, .int (nI s), .int (nI p), .int (nI t)] (xH b g l) (fun r M' => ∃ g', xFr g g' ∧ M' = xH b g' l ∧ r = some (.int (-3))) := by
  refine xT.of rfl (Nat.le_of_ble_eq_true rfl) ?_
  change xS _ _ 0 [(0, .ref 73), (1, .int (nI s)), (2, .int (nI p)), (3, .int (nI t))] [] _ _
  refine xS.s1 rfl rfl ?_
  try dsimp only [Nat.reduceAdd]
  refine xS.s1 rfl rfl ?_
  try dsimp only [Nat.reduceAdd]
  -- 2 yX12_isGlass
  refine xS.cv rfl rfl rfl rfl rfl rfl ⟨by decide, rfl, rfl⟩ (c_X12_isGlass_in hR.1.1 hR.1.2 hk) (fun v M1 hv => ?_)
  rw [hv.1, hv.2]
  clear hv M1 v
  try dsimp only [Nat.reduceAdd, Option.toList, List.cons_append, List.nil_append, List.drop]
  refine xS.br0 (c := .eq) (off := 17) (l := 3) rfl rfl (fun h5 => ?_) (fun h5 => ?_)
  · have g5 := xt_eq h5
    exfalso; first | exact absurd g5 (by decide) | (simp (disch := omega) only [Int32.lt_iff_toInt_lt, Int32.le_iff_toInt_le, nI_toInt, Int32.reduceToInt] at g5 <;> omega)
  · have g5 := xf_eq h5
    refine xS.s1 rfl rfl ?_
    try dsimp only [Nat.reduceAdd]
    -- 9 yX12_isRow
    refine xS.callS rfl rfl rfl ⟨Nat.le_of_ble_eq_true rfl, rfl⟩ (c_X12_isRow_in hp1) (fun v M1 hv => ?_)
    rw [hv.1, hv.2]
    clear hv M1 v
    try dsimp only [Nat.reduceAdd, Option.toList, List.cons_append, List.nil_append, List.drop]
    refine xS.br0 (c := .eq) (off := 10) (l := 3) rfl rfl (fun h12 => ?_) (fun h12 => ?_)
    · have g12 := xt_eq h12
      exfalso; first | exact absurd g12 (by decide) | (simp (disch := omega) only [Int32.lt_iff_toInt_lt, Int32.le_iff_toInt_le, nI_toInt, Int32.reduceToInt] at g12 <;> omega)
    · have g12 := xf_eq h12
      refine xS.s1 rfl rfl ?_
      try dsimp only [Nat.reduceAdd]
      -- 16 yX12_isRow
      refine xS.callS rfl rfl rfl ⟨Nat.le_of_ble_eq_true rfl, rfl⟩ (c_X12_isRow_in ht) (fun v M1 hv => ?_)
      rw [hv.1, hv.2]
      clear hv M1 v
      try dsimp only [Nat.reduceAdd, Option.toList, List.cons_append, List.nil_append, List.drop]
      refine xS.br0 (c := .ne) (off := 5) (l := 3) rfl rfl (fun h19 => ?_) (fun h19 => ?_)
      · have g19 := xt_ne h19
        refine xS.s1 rfl rfl ?_
        try dsimp only [Nat.reduceAdd]
        refine xS.s1 rfl rfl ?_
        try dsimp only [Nat.reduceAdd]
        refine xS.s1 rfl rfl ?_
        try dsimp only [Nat.reduceAdd, xj_12]
        refine xS.s1 rfl rfl ?_
        try dsimp only [Nat.reduceAdd]
        refine xS.gR rfl rfl rfl ⟨by decide, rfl⟩ rfl ?_
        try dsimp only [Nat.reduceAdd]
        -- 32 yX12_takeOut
        refine xS.cv rfl rfl rfl rfl rfl rfl ⟨by decide, rfl, rfl⟩ (c_X12_takeOut_ref xar_90 (by decide) hp1 hz (by decide) hf) (fun v M1 hv => ?_)
        obtain ⟨g2, hF2, hM2, hv2⟩ := hv
        rw [hM2, hv2]
        clear hM2 hv2 M1 v
        try dsimp only [Nat.reduceAdd, Option.toList, List.cons_append, List.nil_append, List.drop]
        refine xS.s1 rfl rfl ?_
        try dsimp only [Nat.reduceAdd]
        refine xS.s1 rfl rfl ?_
        try dsimp only [Nat.reduceAdd]
        refine xS.br0 (c := .ge) (off := 6) (l := 3) rfl rfl (fun h39 => ?_) (fun h39 => ?_)
        · have g39 := xt_ge h39
          exfalso; first | exact absurd g39 (by decide) | (simp (disch := omega) only [Int32.lt_iff_toInt_lt, Int32.le_iff_toInt_le, nI_toInt, Int32.reduceToInt] at g39 <;> omega)
        · have g39 := xf_ge h39
          refine xS.s1 rfl rfl ?_
          try dsimp only [Nat.reduceAdd]
          refine xS.ret rfl rfl rfl (fun _ _ => rfl) ?_
          exact ⟨g2, hF2, rfl, rfl⟩
      · have g19 := xf_ne h19
        exfalso; first | exact absurd g19 (by decide) | (simp (disch := omega) only [Int32.lt_iff_toInt_lt, Int32.le_iff_toInt_le, nI_toInt, Int32.reduceToInt] at g19 <;> omega)

set_option maxRecDepth 10000 in
theorem c_X12_first_ref (hR : xRr g h tx G T Lw) (hk : s < G) (hp1 : p < 6) (ht : t < 6) (hz : xsz (g 74 p) 40) (hf : xfos (g 74 p) (fun i => g 75 (40 * p + i)) 6 ≠ 0) : xT (k + 5) 211 [.ref 73, .int (nI s), .int (nI p), .int (nI t)] (xH b g l) (fun r M' => ∃ g', xFr g g' ∧ M' = xH b g' l ∧ r = some (.int (-3))) := by
  refine xT.of rfl (Nat.le_of_ble_eq_true rfl) ?_
  change xS _ _ 0 [(0, .ref 73), (1, .int (nI s)), (2, .int (nI p)), (3, .int (nI t))] [] _ _
  refine xS.s1 rfl rfl ?_
  try dsimp only [Nat.reduceAdd]
  refine xS.s1 rfl rfl ?_
  try dsimp only [Nat.reduceAdd]
  -- 2 yX12_isGlass
  refine xS.cv rfl rfl rfl rfl rfl rfl ⟨by decide, rfl, rfl⟩ (c_X12_isGlass_in hR.1.1 hR.1.2 hk) (fun v M1 hv => ?_)
  rw [hv.1, hv.2]
  clear hv M1 v
  try dsimp only [Nat.reduceAdd, Option.toList, List.cons_append, List.nil_append, List.drop]
  refine xS.br0 (c := .eq) (off := 17) (l := 3) rfl rfl (fun h5 => ?_) (fun h5 => ?_)
  · have g5 := xt_eq h5
    exfalso; first | exact absurd g5 (by decide) | (simp (disch := omega) only [Int32.lt_iff_toInt_lt, Int32.le_iff_toInt_le, nI_toInt, Int32.reduceToInt] at g5 <;> omega)
  · have g5 := xf_eq h5
    refine xS.s1 rfl rfl ?_
    try dsimp only [Nat.reduceAdd]
    -- 9 yX12_isRow
    refine xS.callS rfl rfl rfl ⟨Nat.le_of_ble_eq_true rfl, rfl⟩ (c_X12_isRow_in hp1) (fun v M1 hv => ?_)
    rw [hv.1, hv.2]
    clear hv M1 v
    try dsimp only [Nat.reduceAdd, Option.toList, List.cons_append, List.nil_append, List.drop]
    refine xS.br0 (c := .eq) (off := 10) (l := 3) rfl rfl (fun h12 => ?_) (fun h12 => ?_)
    · have g12 := xt_eq h12
      exfalso; first | exact absurd g12 (by decide) | (simp (disch := omega) only [Int32.lt_iff_toInt_lt, Int32.le_iff_toInt_le, nI_toInt, Int32.reduceToInt] at g12 <;> omega)
    · have g12 := xf_eq h12
      refine xS.s1 rfl rfl ?_
      try dsimp only [Nat.reduceAdd]
      -- 16 yX12_isRow
      refine xS.callS rfl rfl rfl ⟨Nat.le_of_ble_eq_true rfl, rfl⟩ (c_X12_isRow_in ht) (fun v M1 hv => ?_)
      rw [hv.1, hv.2]
      clear hv M1 v
      try dsimp only [Nat.reduceAdd, Option.toList, List.cons_append, List.nil_append, List.drop]
      refine xS.br0 (c := .ne) (off := 5) (l := 3) rfl rfl (fun h19 => ?_) (fun h19 => ?_)
      · have g19 := xt_ne h19
        refine xS.s1 rfl rfl ?_
        try dsimp only [Nat.reduceAdd]
        refine xS.s1 rfl rfl ?_
        try dsimp only [Nat.reduceAdd]
        refine xS.s1 rfl rfl ?_
        try dsimp only [Nat.reduceAdd, xj_6]
        refine xS.s1 rfl rfl ?_
        try dsimp only [Nat.reduceAdd]
        refine xS.gR rfl rfl rfl ⟨by decide, rfl⟩ rfl ?_
        try dsimp only [Nat.reduceAdd]
        -- 32 yX12_takeOut
        refine xS.cv rfl rfl rfl rfl rfl rfl ⟨by decide, rfl, rfl⟩ (c_X12_takeOut_ref xar_91 (by decide) hp1 hz (by decide) hf) (fun v M1 hv => ?_)
        obtain ⟨g2, hF2, hM2, hv2⟩ := hv
        rw [hM2, hv2]
        clear hM2 hv2 M1 v
        try dsimp only [Nat.reduceAdd, Option.toList, List.cons_append, List.nil_append, List.drop]
        refine xS.s1 rfl rfl ?_
        try dsimp only [Nat.reduceAdd]
        refine xS.s1 rfl rfl ?_
        try dsimp only [Nat.reduceAdd]
        refine xS.br0 (c := .ge) (off := 6) (l := 3) rfl rfl (fun h39 => ?_) (fun h39 => ?_)
        · have g39 := xt_ge h39
          exfalso; first | exact absurd g39 (by decide) | (simp (disch := omega) only [Int32.lt_iff_toInt_lt, Int32.le_iff_toInt_le, nI_toInt, Int32.reduceToInt] at g39 <;> omega)
        · have g39 := xf_ge h39
          refine xS.s1 rfl rfl ?_
          try dsimp only [Nat.reduceAdd]
          refine xS.ret rfl rfl rfl (fun _ _ => rfl) ?_
          exact ⟨g2, hF2, rfl, rfl⟩
      · have g19 := xf_ne h19
        exfalso; first | exact absurd g19 (by decide) | (simp (disch := omega) only [Int32.lt_iff_toInt_lt, Int32.le_iff_toInt_le, nI_toInt, Int32.reduceToInt] at g19 <;> omega)

set_option maxRecDepth 10000 in
theorem c_X12_breaks_ref (hR : xRr g h tx G T Lw) (hk : s < G) (hp1 : p < 6)  (hz : xsz (g 74 p) 40) (hf : xfos (g 74 p) (fun i => g 75 (40 * p + i)) 12 ≠ 0) : xT (k + 5) 204 [.ref 73, .int (nI s), .int (nI p)] (xH b g l) (fun r M' => ∃ g', xFr g g' ∧ M' = xH b g' l ∧ r = some (.int (-3))) := by
  refine xT.of rfl (Nat.le_of_ble_eq_true rfl) ?_
  change xS _ _ 0 [(0, .ref 73), (1, .int (nI s)), (2, .int (nI p))] [] _ _
  refine xS.s1 rfl rfl ?_
  try dsimp only [Nat.reduceAdd]
  refine xS.s1 rfl rfl ?_
  try dsimp only [Nat.reduceAdd]
  -- 2 yX12_isGlass
  refine xS.cv rfl rfl rfl rfl rfl rfl ⟨by decide, rfl, rfl⟩ (c_X12_isGlass_in hR.1.1 hR.1.2 hk) (fun v M1 hv => ?_)
  rw [hv.1, hv.2]
  clear hv M1 v
  try dsimp only [Nat.reduceAdd, Option.toList, List.cons_append, List.nil_append, List.drop]
  refine xS.br0 (c := .eq) (off := 10) (l := 3) rfl rfl (fun h5 => ?_) (fun h5 => ?_)
  · have g5 := xt_eq h5
    exfalso; first | exact absurd g5 (by decide) | (simp (disch := omega) only [Int32.lt_iff_toInt_lt, Int32.le_iff_toInt_le, nI_toInt, Int32.reduceToInt] at g5 <;> omega)
  · have g5 := xf_eq h5
    refine xS.s1 rfl rfl ?_
    try dsimp only [Nat.reduceAdd]
    -- 9 yX12_isRow
    refine xS.callS rfl rfl rfl ⟨Nat.le_of_ble_eq_true rfl, rfl⟩ (c_X12_isRow_in hp1) (fun v M1 hv => ?_)
    rw [hv.1, hv.2]
    clear hv M1 v
    try dsimp only [Nat.reduceAdd, Option.toList, List.cons_append, List.nil_append, List.drop]
    refine xS.br0 (c := .ne) (off := 5) (l := 3) rfl rfl (fun h12 => ?_) (fun h12 => ?_)
    · have g12 := xt_ne h12
      refine xS.s1 rfl rfl ?_
      try dsimp only [Nat.reduceAdd]
      refine xS.s1 rfl rfl ?_
      try dsimp only [Nat.reduceAdd]
      refine xS.s1 rfl rfl ?_
      try dsimp only [Nat.reduceAdd, xj_12]
      refine xS.s1 rfl rfl ?_
      try dsimp only [Nat.reduceAdd]
      refine xS.gR rfl rfl rfl ⟨by decide, rfl⟩ rfl ?_
      try dsimp only [Nat.reduceAdd]
      -- 25 yX12_takeOut
      refine xS.cv rfl rfl rfl rfl rfl rfl ⟨by decide, rfl, rfl⟩ (c_X12_takeOut_ref xar_90 (by decide) hp1 hz (by decide) hf) (fun v M1 hv => ?_)
      obtain ⟨g2, hF2, hM2, hv2⟩ := hv
      rw [hM2, hv2]
      clear hM2 hv2 M1 v
      try dsimp only [Nat.reduceAdd, Option.toList, List.cons_append, List.nil_append, List.drop]
      refine xS.s1 rfl rfl ?_
      try dsimp only [Nat.reduceAdd]
      refine xS.s1 rfl rfl ?_
      try dsimp only [Nat.reduceAdd]
      refine xS.br0 (c := .ge) (off := 5) (l := 3) rfl rfl (fun h30 => ?_) (fun h30 => ?_)
      · have g30 := xt_ge h30
        exfalso; first | exact absurd g30 (by decide) | (simp (disch := omega) only [Int32.lt_iff_toInt_lt, Int32.le_iff_toInt_le, nI_toInt, Int32.reduceToInt] at g30 <;> omega)
      · have g30 := xf_ge h30
        refine xS.s1 rfl rfl ?_
        try dsimp only [Nat.reduceAdd]
        refine xS.ret rfl rfl rfl (fun _ _ => rfl) ?_
        exact ⟨g2, hF2, rfl, rfl⟩
    · have g12 := xf_ne h12
      exfalso; first | exact absurd g12 (by decide) | (simp (disch := omega) only [Int32.lt_iff_toInt_lt, Int32.le_iff_toInt_le, nI_toInt, Int32.reduceToInt] at g12 <;> omega)

set_option maxRecDepth 10000 in
theorem c_X12_alike_ref (hR : xRr g h tx G T Lw) (hk : s < G) (hp1 : p < 6)  (hz : xsz (g 74 p) 40) (hf : xfos (g 74 p) (fun i => g 75 (40 * p + i)) 12 ≠ 0) : xT (k + 4) 205 [.ref 73, .int (nI s), .int (nI p)] (xH b g l) (fun r M' => ∃ g', xFr g g' ∧ M' = xH b g' l ∧ r = some (.int (-3))) := by
  refine xT.of rfl (Nat.le_of_ble_eq_true rfl) ?_
  change xS _ _ 0 [(0, .ref 73), (1, .int (nI s)), (2, .int (nI p))] [] _ _
  refine xS.s1 rfl rfl ?_
  try dsimp only [Nat.reduceAdd]
  refine xS.s1 rfl rfl ?_
  try dsimp only [Nat.reduceAdd]
  -- 2 yX12_isGlass
  refine xS.cv rfl rfl rfl rfl rfl rfl ⟨by decide, rfl, rfl⟩ (c_X12_isGlass_in hR.1.1 hR.1.2 hk) (fun v M1 hv => ?_)
  rw [hv.1, hv.2]
  clear hv M1 v
  try dsimp only [Nat.reduceAdd, Option.toList, List.cons_append, List.nil_append, List.drop]
  refine xS.br0 (c := .eq) (off := 10) (l := 3) rfl rfl (fun h5 => ?_) (fun h5 => ?_)
  · have g5 := xt_eq h5
    exfalso; first | exact absurd g5 (by decide) | (simp (disch := omega) only [Int32.lt_iff_toInt_lt, Int32.le_iff_toInt_le, nI_toInt, Int32.reduceToInt] at g5 <;> omega)
  · have g5 := xf_eq h5
    refine xS.s1 rfl rfl ?_
    try dsimp only [Nat.reduceAdd]
    -- 9 yX12_isRow
    refine xS.callS rfl rfl rfl ⟨Nat.le_of_ble_eq_true rfl, rfl⟩ (c_X12_isRow_in hp1) (fun v M1 hv => ?_)
    rw [hv.1, hv.2]
    clear hv M1 v
    try dsimp only [Nat.reduceAdd, Option.toList, List.cons_append, List.nil_append, List.drop]
    refine xS.br0 (c := .ne) (off := 5) (l := 3) rfl rfl (fun h12 => ?_) (fun h12 => ?_)
    · have g12 := xt_ne h12
      refine xS.s1 rfl rfl ?_
      try dsimp only [Nat.reduceAdd]
      refine xS.s1 rfl rfl ?_
      try dsimp only [Nat.reduceAdd]
      refine xS.s1 rfl rfl ?_
      try dsimp only [Nat.reduceAdd, xj_12]
      refine xS.s1 rfl rfl ?_
      try dsimp only [Nat.reduceAdd]
      refine xS.gR rfl rfl rfl ⟨by decide, rfl⟩ rfl ?_
      try dsimp only [Nat.reduceAdd]
      -- 25 yX12_takeOut
      refine xS.cv rfl rfl rfl rfl rfl rfl ⟨by decide, rfl, rfl⟩ (c_X12_takeOut_ref xar_90 (by decide) hp1 hz (by decide) hf) (fun v M1 hv => ?_)
      obtain ⟨g2, hF2, hM2, hv2⟩ := hv
      rw [hM2, hv2]
      clear hM2 hv2 M1 v
      try dsimp only [Nat.reduceAdd, Option.toList, List.cons_append, List.nil_append, List.drop]
      refine xS.s1 rfl rfl ?_
      try dsimp only [Nat.reduceAdd]
      refine xS.s1 rfl rfl ?_
      try dsimp only [Nat.reduceAdd]
      refine xS.br0 (c := .ge) (off := 5) (l := 3) rfl rfl (fun h30 => ?_) (fun h30 => ?_)
      · have g30 := xt_ge h30
        exfalso; first | exact absurd g30 (by decide) | (simp (disch := omega) only [Int32.lt_iff_toInt_lt, Int32.le_iff_toInt_le, nI_toInt, Int32.reduceToInt] at g30 <;> omega)
      · have g30 := xf_ge h30
        refine xS.s1 rfl rfl ?_
        try dsimp only [Nat.reduceAdd]
        refine xS.ret rfl rfl rfl (fun _ _ => rfl) ?_
        exact ⟨g2, hF2, rfl, rfl⟩
    · have g12 := xf_ne h12
      exfalso; first | exact absurd g12 (by decide) | (simp (disch := omega) only [Int32.lt_iff_toInt_lt, Int32.le_iff_toInt_le, nI_toInt, Int32.reduceToInt] at g12 <;> omega)

set_option maxRecDepth 10000 in
theorem c_X12_ways_ref (hR : xRr g h tx G T Lw) (hk : s < G) (hp1 : p < 6)  (hz : xsz (g 74 p) 40) (hf : xfos (g 74 p) (fun i => g 75 (40 * p + i)) 6 ≠ 0) : xT (k + 5) 210 [.ref 73, .int (nI s), .int (nI p)] (xH b g l) (fun r M' => ∃ g', xFr g g' ∧ M' = xH b g' l ∧ r = some (.int (-3))) := by
  refine xT.of rfl (Nat.le_of_ble_eq_true rfl) ?_
  change xS _ _ 0 [(0, .ref 73), (1, .int (nI s)), (2, .int (nI p))] [] _ _
  refine xS.s1 rfl rfl ?_
  try dsimp only [Nat.reduceAdd]
  refine xS.s1 rfl rfl ?_
  try dsimp only [Nat.reduceAdd]
  -- 2 yX12_isGlass
  refine xS.cv rfl rfl rfl rfl rfl rfl ⟨by decide, rfl, rfl⟩ (c_X12_isGlass_in hR.1.1 hR.1.2 hk) (fun v M1 hv => ?_)
  rw [hv.1, hv.2]
  clear hv M1 v
  try dsimp only [Nat.reduceAdd, Option.toList, List.cons_append, List.nil_append, List.drop]
  refine xS.br0 (c := .eq) (off := 10) (l := 3) rfl rfl (fun h5 => ?_) (fun h5 => ?_)
  · have g5 := xt_eq h5
    exfalso; first | exact absurd g5 (by decide) | (simp (disch := omega) only [Int32.lt_iff_toInt_lt, Int32.le_iff_toInt_le, nI_toInt, Int32.reduceToInt] at g5 <;> omega)
  · have g5 := xf_eq h5
    refine xS.s1 rfl rfl ?_
    try dsimp only [Nat.reduceAdd]
    -- 9 yX12_isRow
    refine xS.callS rfl rfl rfl ⟨Nat.le_of_ble_eq_true rfl, rfl⟩ (c_X12_isRow_in hp1) (fun v M1 hv => ?_)
    rw [hv.1, hv.2]
    clear hv M1 v
    try dsimp only [Nat.reduceAdd, Option.toList, List.cons_append, List.nil_append, List.drop]
    refine xS.br0 (c := .ne) (off := 5) (l := 3) rfl rfl (fun h12 => ?_) (fun h12 => ?_)
    · have g12 := xt_ne h12
      refine xS.s1 rfl rfl ?_
      try dsimp only [Nat.reduceAdd]
      refine xS.s1 rfl rfl ?_
      try dsimp only [Nat.reduceAdd]
      refine xS.s1 rfl rfl ?_
      try dsimp only [Nat.reduceAdd, xj_6]
      refine xS.s1 rfl rfl ?_
      try dsimp only [Nat.reduceAdd]
      refine xS.gR rfl rfl rfl ⟨by decide, rfl⟩ rfl ?_
      try dsimp only [Nat.reduceAdd]
      -- 25 yX12_takeOut
      refine xS.cv rfl rfl rfl rfl rfl rfl ⟨by decide, rfl, rfl⟩ (c_X12_takeOut_ref xar_91 (by decide) hp1 hz (by decide) hf) (fun v M1 hv => ?_)
      obtain ⟨g2, hF2, hM2, hv2⟩ := hv
      rw [hM2, hv2]
      clear hM2 hv2 M1 v
      try dsimp only [Nat.reduceAdd, Option.toList, List.cons_append, List.nil_append, List.drop]
      refine xS.s1 rfl rfl ?_
      try dsimp only [Nat.reduceAdd]
      refine xS.s1 rfl rfl ?_
      try dsimp only [Nat.reduceAdd]
      refine xS.br0 (c := .ge) (off := 5) (l := 3) rfl rfl (fun h30 => ?_) (fun h30 => ?_)
      · have g30 := xt_ge h30
        exfalso; first | exact absurd g30 (by decide) | (simp (disch := omega) only [Int32.lt_iff_toInt_lt, Int32.le_iff_toInt_le, nI_toInt, Int32.reduceToInt] at g30 <;> omega)
      · have g30 := xf_ge h30
        refine xS.s1 rfl rfl ?_
        try dsimp only [Nat.reduceAdd]
        refine xS.ret rfl rfl rfl (fun _ _ => rfl) ?_
        exact ⟨g2, hF2, rfl, rfl⟩
    · have g12 := xf_ne h12
      exfalso; first | exact absurd g12 (by decide) | (simp (disch := omega) only [Int32.lt_iff_toInt_lt, Int32.le_iff_toInt_le, nI_toInt, Int32.reduceToInt] at g12 <;> omega)

set_option maxRecDepth 10000 in
theorem c_X12_can_ref (hR : xRr g h tx G T Lw) (hk : s < G) (hp1 : p < 6) (hd31 : d < 2 ^ 31) (hz : xsz (g 74 p) 40) (hf : xfos (g 74 p) (fun i => g 75 (40 * p + i)) 6 ≠ 0) : xT (k + 5) 212 [.ref 73, .int (nI s), .int (nI p), .int (nI d)] (xH b g l) (fun r M' => ∃ g', xFr g g' ∧ M' = xH b g' l ∧ r = some (.int (-3))) := by
  refine xT.of rfl (Nat.le_of_ble_eq_true rfl) ?_
  change xS _ _ 0 [(0, .ref 73), (1, .int (nI s)), (2, .int (nI p)), (3, .int (nI d))] [] _ _
  refine xS.s1 rfl rfl ?_
  try dsimp only [Nat.reduceAdd]
  refine xS.s1 rfl rfl ?_
  try dsimp only [Nat.reduceAdd]
  -- 2 yX12_isGlass
  refine xS.cv rfl rfl rfl rfl rfl rfl ⟨by decide, rfl, rfl⟩ (c_X12_isGlass_in hR.1.1 hR.1.2 hk) (fun v M1 hv => ?_)
  rw [hv.1, hv.2]
  clear hv M1 v
  try dsimp only [Nat.reduceAdd, Option.toList, List.cons_append, List.nil_append, List.drop]
  refine xS.br0 (c := .eq) (off := 14) (l := 3) rfl rfl (fun h5 => ?_) (fun h5 => ?_)
  · have g5 := xt_eq h5
    exfalso; first | exact absurd g5 (by decide) | (simp (disch := omega) only [Int32.lt_iff_toInt_lt, Int32.le_iff_toInt_le, nI_toInt, Int32.reduceToInt] at g5 <;> omega)
  · have g5 := xf_eq h5
    refine xS.s1 rfl rfl ?_
    try dsimp only [Nat.reduceAdd]
    -- 9 yX12_isRow
    refine xS.callS rfl rfl rfl ⟨Nat.le_of_ble_eq_true rfl, rfl⟩ (c_X12_isRow_in hp1) (fun v M1 hv => ?_)
    rw [hv.1, hv.2]
    clear hv M1 v
    try dsimp only [Nat.reduceAdd, Option.toList, List.cons_append, List.nil_append, List.drop]
    refine xS.br0 (c := .eq) (off := 7) (l := 3) rfl rfl (fun h12 => ?_) (fun h12 => ?_)
    · have g12 := xt_eq h12
      exfalso; first | exact absurd g12 (by decide) | (simp (disch := omega) only [Int32.lt_iff_toInt_lt, Int32.le_iff_toInt_le, nI_toInt, Int32.reduceToInt] at g12 <;> omega)
    · have g12 := xf_eq h12
      refine xS.s1 rfl rfl ?_
      try dsimp only [Nat.reduceAdd]
      refine xS.br0 (c := .ge) (off := 5) (l := 3) rfl rfl (fun h16 => ?_) (fun h16 => ?_)
      · have g16 := xt_ge h16
        refine xS.s1 rfl rfl ?_
        try dsimp only [Nat.reduceAdd]
        refine xS.s1 rfl rfl ?_
        try dsimp only [Nat.reduceAdd]
        refine xS.s1 rfl rfl ?_
        try dsimp only [Nat.reduceAdd, xj_6]
        refine xS.s1 rfl rfl ?_
        try dsimp only [Nat.reduceAdd]
        refine xS.gR rfl rfl rfl ⟨by decide, rfl⟩ rfl ?_
        try dsimp only [Nat.reduceAdd]
        -- 29 yX12_takeOut
        refine xS.cv rfl rfl rfl rfl rfl rfl ⟨by decide, rfl, rfl⟩ (c_X12_takeOut_ref xar_91 (by decide) hp1 hz (by decide) hf) (fun v M1 hv => ?_)
        obtain ⟨g2, hF2, hM2, hv2⟩ := hv
        rw [hM2, hv2]
        clear hM2 hv2 M1 v
        try dsimp only [Nat.reduceAdd, Option.toList, List.cons_append, List.nil_append, List.drop]
        refine xS.s1 rfl rfl ?_
        try dsimp only [Nat.reduceAdd]
        refine xS.s1 rfl rfl ?_
        try dsimp only [Nat.reduceAdd]
        refine xS.br0 (c := .ge) (off := 6) (l := 3) rfl rfl (fun h36 => ?_) (fun h36 => ?_)
        · have g36 := xt_ge h36
          exfalso; first | exact absurd g36 (by decide) | (simp (disch := omega) only [Int32.lt_iff_toInt_lt, Int32.le_iff_toInt_le, nI_toInt, Int32.reduceToInt] at g36 <;> omega)
        · have g36 := xf_ge h36
          refine xS.s1 rfl rfl ?_
          try dsimp only [Nat.reduceAdd]
          refine xS.ret rfl rfl rfl (fun _ _ => rfl) ?_
          exact ⟨g2, hF2, rfl, rfl⟩
      · have g16 := xf_ge h16
        exfalso; first | exact absurd g16 (by decide) | (simp (disch := omega) only [Int32.lt_iff_toInt_lt, Int32.le_iff_toInt_le, nI_toInt, Int32.reduceToInt] at g16 <;> omega)

set_option maxRecDepth 10000 in
theorem c_X12_fit_ref (hp1 : p < 6) (hz : xsz (g 74 p) 40) (hs1 : s < 6) (hz2 : xsz (g 74 s) 40) (hf : xfop (g 74 p) (fun i => g 75 (40 * p + i)) (g 74 s) (fun i => g 75 (40 * s + i)) 12 ≠ 0) : xT (k + 5) 206 [.ref 73, .int (nI p), .int (nI s)] (xH b g l) (fun r M' => ∃ g', xFr g g' ∧ M' = xH b g' l ∧ r = some (.int (-3))) := by
  refine xT.of rfl (Nat.le_of_ble_eq_true rfl) ?_
  change xS _ _ 0 [(0, .ref 73), (1, .int (nI p)), (2, .int (nI s))] [] _ _
  refine xS.s1 rfl rfl ?_
  try dsimp only [Nat.reduceAdd]
  -- 1 yX12_isRow
  refine xS.callS rfl rfl rfl ⟨Nat.le_of_ble_eq_true rfl, rfl⟩ (c_X12_isRow_in hp1) (fun v M1 hv => ?_)
  rw [hv.1, hv.2]
  clear hv M1 v
  try dsimp only [Nat.reduceAdd, Option.toList, List.cons_append, List.nil_append, List.drop]
  refine xS.br0 (c := .eq) (off := 10) (l := 3) rfl rfl (fun h4 => ?_) (fun h4 => ?_)
  · have g4 := xt_eq h4
    exfalso; first | exact absurd g4 (by decide) | (simp (disch := omega) only [Int32.lt_iff_toInt_lt, Int32.le_iff_toInt_le, nI_toInt, Int32.reduceToInt] at g4 <;> omega)
  · have g4 := xf_eq h4
    refine xS.s1 rfl rfl ?_
    try dsimp only [Nat.reduceAdd]
    -- 8 yX12_isRow
    refine xS.callS rfl rfl rfl ⟨Nat.le_of_ble_eq_true rfl, rfl⟩ (c_X12_isRow_in hs1) (fun v M1 hv => ?_)
    rw [hv.1, hv.2]
    clear hv M1 v
    try dsimp only [Nat.reduceAdd, Option.toList, List.cons_append, List.nil_append, List.drop]
    refine xS.br0 (c := .ne) (off := 5) (l := 3) rfl rfl (fun h11 => ?_) (fun h11 => ?_)
    · have g11 := xt_ne h11
      refine xS.s1 rfl rfl ?_
      try dsimp only [Nat.reduceAdd]
      refine xS.s1 rfl rfl ?_
      try dsimp only [Nat.reduceAdd]
      refine xS.s1 rfl rfl ?_
      try dsimp only [Nat.reduceAdd]
      -- 19 yX12_takeTwo
      refine xS.cv rfl rfl rfl rfl rfl rfl ⟨by decide, rfl, rfl⟩ (c_X12_takeTwo_ref hp1 hz hs1 hz2 hf) (fun v M1 hv => ?_)
      obtain ⟨g2, hF2, hM2, hv2⟩ := hv
      rw [hM2, hv2]
      clear hM2 hv2 M1 v
      try dsimp only [Nat.reduceAdd, Option.toList, List.cons_append, List.nil_append, List.drop]
      refine xS.s1 rfl rfl ?_
      try dsimp only [Nat.reduceAdd]
      refine xS.s1 rfl rfl ?_
      try dsimp only [Nat.reduceAdd]
      refine xS.br0 (c := .ge) (off := 5) (l := 3) rfl rfl (fun h24 => ?_) (fun h24 => ?_)
      · have g24 := xt_ge h24
        exfalso; first | exact absurd g24 (by decide) | (simp (disch := omega) only [Int32.lt_iff_toInt_lt, Int32.le_iff_toInt_le, nI_toInt, Int32.reduceToInt] at g24 <;> omega)
      · have g24 := xf_ge h24
        refine xS.s1 rfl rfl ?_
        try dsimp only [Nat.reduceAdd]
        refine xS.ret rfl rfl rfl (fun _ _ => rfl) ?_
        exact ⟨g2, hF2, rfl, rfl⟩
    · have g11 := xf_ne h11
      exfalso; first | exact absurd g11 (by decide) | (simp (disch := omega) only [Int32.lt_iff_toInt_lt, Int32.le_iff_toInt_le, nI_toInt, Int32.reduceToInt] at g11 <;> omega)

set_option maxRecDepth 10000 in
theorem c_X12_laws_ref (hp1 : p < 6) (hz : xsz (g 74 p) 40) (hs1 : s < 6) (hz2 : xsz (g 74 s) 40) (hf : xfop (g 74 p) (fun i => g 75 (40 * p + i)) (g 74 s) (fun i => g 75 (40 * s + i)) 12 ≠ 0) : xT (k + 5) 214 [.ref 73, .int (nI p), .int (nI s)] (xH b g l) (fun r M' => ∃ g', xFr g g' ∧ M' = xH b g' l ∧ r = some (.int (-3))) := by
  refine xT.of rfl (Nat.le_of_ble_eq_true rfl) ?_
  change xS _ _ 0 [(0, .ref 73), (1, .int (nI p)), (2, .int (nI s))] [] _ _
  refine xS.s1 rfl rfl ?_
  try dsimp only [Nat.reduceAdd]
  -- 1 yX12_isRow
  refine xS.callS rfl rfl rfl ⟨Nat.le_of_ble_eq_true rfl, rfl⟩ (c_X12_isRow_in hp1) (fun v M1 hv => ?_)
  rw [hv.1, hv.2]
  clear hv M1 v
  try dsimp only [Nat.reduceAdd, Option.toList, List.cons_append, List.nil_append, List.drop]
  refine xS.br0 (c := .eq) (off := 10) (l := 3) rfl rfl (fun h4 => ?_) (fun h4 => ?_)
  · have g4 := xt_eq h4
    exfalso; first | exact absurd g4 (by decide) | (simp (disch := omega) only [Int32.lt_iff_toInt_lt, Int32.le_iff_toInt_le, nI_toInt, Int32.reduceToInt] at g4 <;> omega)
  · have g4 := xf_eq h4
    refine xS.s1 rfl rfl ?_
    try dsimp only [Nat.reduceAdd]
    -- 8 yX12_isRow
    refine xS.callS rfl rfl rfl ⟨Nat.le_of_ble_eq_true rfl, rfl⟩ (c_X12_isRow_in hs1) (fun v M1 hv => ?_)
    rw [hv.1, hv.2]
    clear hv M1 v
    try dsimp only [Nat.reduceAdd, Option.toList, List.cons_append, List.nil_append, List.drop]
    refine xS.br0 (c := .ne) (off := 5) (l := 3) rfl rfl (fun h11 => ?_) (fun h11 => ?_)
    · have g11 := xt_ne h11
      refine xS.s1 rfl rfl ?_
      try dsimp only [Nat.reduceAdd]
      refine xS.s1 rfl rfl ?_
      try dsimp only [Nat.reduceAdd]
      refine xS.s1 rfl rfl ?_
      try dsimp only [Nat.reduceAdd]
      -- 19 yX12_takeTwo
      refine xS.cv rfl rfl rfl rfl rfl rfl ⟨by decide, rfl, rfl⟩ (c_X12_takeTwo_ref hp1 hz hs1 hz2 hf) (fun v M1 hv => ?_)
      obtain ⟨g2, hF2, hM2, hv2⟩ := hv
      rw [hM2, hv2]
      clear hM2 hv2 M1 v
      try dsimp only [Nat.reduceAdd, Option.toList, List.cons_append, List.nil_append, List.drop]
      refine xS.s1 rfl rfl ?_
      try dsimp only [Nat.reduceAdd]
      refine xS.s1 rfl rfl ?_
      try dsimp only [Nat.reduceAdd]
      refine xS.br0 (c := .ge) (off := 7) (l := 3) rfl rfl (fun h24 => ?_) (fun h24 => ?_)
      · have g24 := xt_ge h24
        exfalso; first | exact absurd g24 (by decide) | (simp (disch := omega) only [Int32.lt_iff_toInt_lt, Int32.le_iff_toInt_le, nI_toInt, Int32.reduceToInt] at g24 <;> omega)
      · have g24 := xf_ge h24
        refine xS.s1 rfl rfl ?_
        try dsimp only [Nat.reduceAdd]
        refine xS.s1 rfl rfl ?_
        try dsimp only [Nat.reduceAdd]
        refine xS.ret rfl rfl rfl (fun _ _ => rfl) ?_
        exact ⟨g2, hF2, rfl, rfl⟩
    · have g11 := xf_ne h11
      exfalso; first | exact absurd g11 (by decide) | (simp (disch := omega) only [Int32.lt_iff_toInt_lt, Int32.le_iff_toInt_le, nI_toInt, Int32.reduceToInt] at g11 <;> omega)

set_option maxRecDepth 10000 in
theorem c_X12_next_ref (hp1 : p < 6) (hz : xsz (g 74 p) 40) (hs1 : s < 6) (hz2 : xsz (g 74 s) 40) (hf : xfop (g 74 p) (fun i => g 75 (40 * p + i)) (g 74 s) (fun i => g 75 (40 * s + i)) 12 ≠ 0) : xT (k + 5) 216 [.ref 73, .int (nI p), .int (nI s)] (xH b g l) (fun r M' => ∃ g', xFr g g' ∧ M' = xH b g' l ∧ r = some (.int (-3))) := by
  refine xT.of rfl (Nat.le_of_ble_eq_true rfl) ?_
  change xS _ _ 0 [(0, .ref 73), (1, .int (nI p)), (2, .int (nI s))] [] _ _
  refine xS.s1 rfl rfl ?_
  try dsimp only [Nat.reduceAdd]
  -- 1 yX12_isRow
  refine xS.callS rfl rfl rfl ⟨Nat.le_of_ble_eq_true rfl, rfl⟩ (c_X12_isRow_in hp1) (fun v M1 hv => ?_)
  rw [hv.1, hv.2]
  clear hv M1 v
  try dsimp only [Nat.reduceAdd, Option.toList, List.cons_append, List.nil_append, List.drop]
  refine xS.br0 (c := .eq) (off := 10) (l := 3) rfl rfl (fun h4 => ?_) (fun h4 => ?_)
  · have g4 := xt_eq h4
    exfalso; first | exact absurd g4 (by decide) | (simp (disch := omega) only [Int32.lt_iff_toInt_lt, Int32.le_iff_toInt_le, nI_toInt, Int32.reduceToInt] at g4 <;> omega)
  · have g4 := xf_eq h4
    refine xS.s1 rfl rfl ?_
    try dsimp only [Nat.reduceAdd]
    -- 8 yX12_isRow
    refine xS.callS rfl rfl rfl ⟨Nat.le_of_ble_eq_true rfl, rfl⟩ (c_X12_isRow_in hs1) (fun v M1 hv => ?_)
    rw [hv.1, hv.2]
    clear hv M1 v
    try dsimp only [Nat.reduceAdd, Option.toList, List.cons_append, List.nil_append, List.drop]
    refine xS.br0 (c := .ne) (off := 5) (l := 3) rfl rfl (fun h11 => ?_) (fun h11 => ?_)
    · have g11 := xt_ne h11
      refine xS.s1 rfl rfl ?_
      try dsimp only [Nat.reduceAdd]
      refine xS.s1 rfl rfl ?_
      try dsimp only [Nat.reduceAdd]
      refine xS.s1 rfl rfl ?_
      try dsimp only [Nat.reduceAdd]
      -- 19 yX12_takeTwo
      refine xS.cv rfl rfl rfl rfl rfl rfl ⟨by decide, rfl, rfl⟩ (c_X12_takeTwo_ref hp1 hz hs1 hz2 hf) (fun v M1 hv => ?_)
      obtain ⟨g2, hF2, hM2, hv2⟩ := hv
      rw [hM2, hv2]
      clear hM2 hv2 M1 v
      try dsimp only [Nat.reduceAdd, Option.toList, List.cons_append, List.nil_append, List.drop]
      refine xS.s1 rfl rfl ?_
      try dsimp only [Nat.reduceAdd]
      refine xS.s1 rfl rfl ?_
      try dsimp only [Nat.reduceAdd]
      refine xS.br0 (c := .ge) (off := 5) (l := 3) rfl rfl (fun h24 => ?_) (fun h24 => ?_)
      · have g24 := xt_ge h24
        exfalso; first | exact absurd g24 (by decide) | (simp (disch := omega) only [Int32.lt_iff_toInt_lt, Int32.le_iff_toInt_le, nI_toInt, Int32.reduceToInt] at g24 <;> omega)
      · have g24 := xf_ge h24
        refine xS.s1 rfl rfl ?_
        try dsimp only [Nat.reduceAdd]
        refine xS.ret rfl rfl rfl (fun _ _ => rfl) ?_
        exact ⟨g2, hF2, rfl, rfl⟩
    · have g11 := xf_ne h11
      exfalso; first | exact absurd g11 (by decide) | (simp (disch := omega) only [Int32.lt_iff_toInt_lt, Int32.le_iff_toInt_le, nI_toInt, Int32.reduceToInt] at g11 <;> omega)

set_option maxRecDepth 10000 in
theorem c_X12_he_ref (hR : xRr g h tx G T Lw) (hk : t < G) (hp1 : p < 6) (hz : xsz (g 74 p) 40) (hs1 : s < 6) (hz2 : xsz (g 74 s) 40) (hf : xfop (g 74 p) (fun i => g 75 (40 * p + i)) (g 74 s) (fun i => g 75 (40 * s + i)) 12 ≠ 0) : xT (k + 5) 217 [.ref 73, .int (nI t), .int (nI p), .int (nI s)] (xH b g l) (fun r M' => ∃ g', xFr g g' ∧ M' = xH b g' l ∧ r = some (.int (-3))) := by
  refine xT.of rfl (Nat.le_of_ble_eq_true rfl) ?_
  change xS _ _ 0 [(0, .ref 73), (1, .int (nI t)), (2, .int (nI p)), (3, .int (nI s))] [] _ _
  refine xS.s1 rfl rfl ?_
  try dsimp only [Nat.reduceAdd]
  refine xS.s1 rfl rfl ?_
  try dsimp only [Nat.reduceAdd]
  -- 2 yX12_isGlass
  refine xS.cv rfl rfl rfl rfl rfl rfl ⟨by decide, rfl, rfl⟩ (c_X12_isGlass_in hR.1.1 hR.1.2 hk) (fun v M1 hv => ?_)
  rw [hv.1, hv.2]
  clear hv M1 v
  try dsimp only [Nat.reduceAdd, Option.toList, List.cons_append, List.nil_append, List.drop]
  refine xS.br0 (c := .eq) (off := 17) (l := 3) rfl rfl (fun h5 => ?_) (fun h5 => ?_)
  · have g5 := xt_eq h5
    exfalso; first | exact absurd g5 (by decide) | (simp (disch := omega) only [Int32.lt_iff_toInt_lt, Int32.le_iff_toInt_le, nI_toInt, Int32.reduceToInt] at g5 <;> omega)
  · have g5 := xf_eq h5
    refine xS.s1 rfl rfl ?_
    try dsimp only [Nat.reduceAdd]
    -- 9 yX12_isRow
    refine xS.callS rfl rfl rfl ⟨Nat.le_of_ble_eq_true rfl, rfl⟩ (c_X12_isRow_in hp1) (fun v M1 hv => ?_)
    rw [hv.1, hv.2]
    clear hv M1 v
    try dsimp only [Nat.reduceAdd, Option.toList, List.cons_append, List.nil_append, List.drop]
    refine xS.br0 (c := .eq) (off := 10) (l := 3) rfl rfl (fun h12 => ?_) (fun h12 => ?_)
    · have g12 := xt_eq h12
      exfalso; first | exact absurd g12 (by decide) | (simp (disch := omega) only [Int32.lt_iff_toInt_lt, Int32.le_iff_toInt_le, nI_toInt, Int32.reduceToInt] at g12 <;> omega)
    · have g12 := xf_eq h12
      refine xS.s1 rfl rfl ?_
      try dsimp only [Nat.reduceAdd]
      -- 16 yX12_isRow
      refine xS.callS rfl rfl rfl ⟨Nat.le_of_ble_eq_true rfl, rfl⟩ (c_X12_isRow_in hs1) (fun v M1 hv => ?_)
      rw [hv.1, hv.2]
      clear hv M1 v
      try dsimp only [Nat.reduceAdd, Option.toList, List.cons_append, List.nil_append, List.drop]
      refine xS.br0 (c := .ne) (off := 5) (l := 3) rfl rfl (fun h19 => ?_) (fun h19 => ?_)
      · have g19 := xt_ne h19
        refine xS.s1 rfl rfl ?_
        try dsimp only [Nat.reduceAdd]
        refine xS.s1 rfl rfl ?_
        try dsimp only [Nat.reduceAdd]
        refine xS.s1 rfl rfl ?_
        try dsimp only [Nat.reduceAdd]
        -- 27 yX12_takeTwo
        refine xS.cv rfl rfl rfl rfl rfl rfl ⟨by decide, rfl, rfl⟩ (c_X12_takeTwo_ref hp1 hz hs1 hz2 hf) (fun v M1 hv => ?_)
        obtain ⟨g2, hF2, hM2, hv2⟩ := hv
        rw [hM2, hv2]
        clear hM2 hv2 M1 v
        try dsimp only [Nat.reduceAdd, Option.toList, List.cons_append, List.nil_append, List.drop]
        refine xS.s1 rfl rfl ?_
        try dsimp only [Nat.reduceAdd]
        refine xS.s1 rfl rfl ?_
        try dsimp only [Nat.reduceAdd]
        refine xS.br0 (c := .ge) (off := 6) (l := 3) rfl rfl (fun h34 => ?_) (fun h34 => ?_)
        · have g34 := xt_ge h34
          exfalso; first | exact absurd g34 (by decide) | (simp (disch := omega) only [Int32.lt_iff_toInt_lt, Int32.le_iff_toInt_le, nI_toInt, Int32.reduceToInt] at g34 <;> omega)
        · have g34 := xf_ge h34
          refine xS.s1 rfl rfl ?_
          try dsimp only [Nat.reduceAdd]
          refine xS.ret rfl rfl rfl (fun _ _ => rfl) ?_
          exact ⟨g2, hF2, rfl, rfl⟩
      · have g19 := xf_ne h19
        exfalso; first | exact absurd g19 (by decide) | (simp (disch := omega) only [Int32.lt_iff_toInt_lt, Int32.le_iff_toInt_le, nI_toInt, Int32.reduceToInt] at g19 <;> omega)

set_option maxRecDepth 10000 in
theorem c_X12_breaksAt (hR : xRr g h tx G T Lw) (hk : s < G) (hd : d < 13) (hf : ∀ u, u ≤ d → g 90 u = nI (f u) ∧ f u < 6) : xT (k + 4) 203 [.ref 73, .int (nI s), .int (nI d)] (xH b g l) (fun r M' => M' = xH b g l ∧ r = some (.int (if xfb tx T (nI (f d)) (xshw h (Lw s / 4) (Lw s % 4) f d) = none then 0 else 1))) := by
  refine xT.of rfl (Nat.le_of_ble_eq_true rfl) ?_
  change xS _ _ 0 [(0, .ref 73), (1, .int (nI s)), (2, .int (nI d))] [] _ _
  refine xS.s1 rfl rfl ?_
  try dsimp only [Nat.reduceAdd]
  refine xS.s1 rfl rfl ?_
  try dsimp only [Nat.reduceAdd]
  refine xS.gR rfl rfl rfl ⟨by decide, rfl⟩ rfl ?_
  try dsimp only [Nat.reduceAdd]
  refine xS.s1 rfl rfl ?_
  try dsimp only [Nat.reduceAdd]
  refine xS.ia rfl xar_90 (by omega) ?_
  try dsimp only [Nat.reduceAdd]
  rw [(hf d (Nat.le_refl d)).1]
  refine xS.s1 rfl rfl ?_
  try dsimp only [Nat.reduceAdd]
  refine xS.s1 rfl rfl ?_
  try dsimp only [Nat.reduceAdd]
  refine xS.s1 rfl rfl ?_
  try dsimp only [Nat.reduceAdd]
  refine xS.gR rfl rfl rfl ⟨by decide, rfl⟩ rfl ?_
  try dsimp only [Nat.reduceAdd]
  refine xS.s1 rfl rfl ?_
  try dsimp only [Nat.reduceAdd]
  -- 14 yX12_showsOf
  refine xS.cv rfl rfl rfl rfl rfl rfl ⟨by decide, rfl, rfl⟩ (c_X12_showsOf xar_90 hR hd hk hf) (fun v M1 hv => ?_)
  rw [hv.1, hv.2]
  clear hv M1 v
  try dsimp only [Nat.reduceAdd, Option.toList, List.cons_append, List.nil_append, List.drop]
  -- 17 yX12_termBy
  refine xS.cv rfl rfl rfl rfl rfl rfl ⟨by decide, rfl, rfl⟩ (c_X12_termBy hR) (fun v M1 hv => ?_)
  rw [hv.1, hv.2]
  clear hv M1 v
  try dsimp only [Nat.reduceAdd, Option.toList, List.cons_append, List.nil_append, List.drop]
  refine xS.s1 rfl rfl ?_
  try dsimp only [Nat.reduceAdd, xj_m9]
  refine xS.br (c := .eq) (off := 7) (l := 3) rfl rfl (fun h22 => ?_) (fun h22 => ?_)
  · have g22 := xt_eq h22
    refine xS.s1 rfl rfl ?_
    try dsimp only [Nat.reduceAdd, xi_0]
    refine xS.ret rfl rfl rfl (fun _ _ => rfl) ?_
    rw [xfb_n hR.2.1.2] at g22
    exact ⟨rfl, by simp [g22]⟩
  · have g22 := xf_eq h22
    refine xS.s1 rfl rfl ?_
    try dsimp only [Nat.reduceAdd, xi_1]
    refine xS.s1 rfl rfl ?_
    try dsimp only [Nat.reduceAdd]
    refine xS.ret rfl rfl rfl (fun _ _ => rfl) ?_
    rw [xfb_n hR.2.1.2] at g22
    exact ⟨rfl, by simp [g22]⟩

set_option maxRecDepth 10000 in
theorem c_X12_rowsOf (hn : n ≤ 6) : xT (k + 1) 207 [.int (nI n)] (xH b g l) (fun r M' => M' = xH b g l ∧ r = some (.int (nI (6 ^ n)))) := by
  refine xT.of rfl (Nat.le_of_ble_eq_true rfl) ?_
  change xS _ _ 0 [(0, .int (nI n))] [] _ _
  refine xS.s1 rfl rfl ?_
  try dsimp only [Nat.reduceAdd, xi_1]
  refine xS.s1 rfl rfl ?_
  try dsimp only [Nat.reduceAdd]
  refine xS.s1 rfl rfl ?_
  try dsimp only [Nat.reduceAdd, xi_0]
  refine xS.s1 rfl rfl ?_
  try dsimp only [Nat.reduceAdd]
  refine xS.pick [0, 1, 2] rfl ?_
  refine xS.loop (σ := Unit) (n) (fun j S => [(2, .int (nI j)), (1, .int (nI (6 ^ j))), (0, .int (nI n))]) (fun _ _ => xH b g l) (fun _ _ => True) (()) (rfl) (rfl) (trivial) ?_
  intro j S hj hI ih
  try dsimp only
  refine xS.s1 rfl rfl ?_
  try dsimp only [Nat.reduceAdd]
  refine xS.s1 rfl rfl ?_
  try dsimp only [Nat.reduceAdd]
  refine xS.br (c := .ge) (off := 14) (l := 3) rfl rfl (fun h6 => ?_) (fun h6 => ?_)
  · have g6 := xt_ge h6
    have e := xnle g6 (by omega) (by omega)
    have e2 : n = j := by omega
    subst e2
    refine xS.s1 rfl rfl ?_
    try dsimp only [Nat.reduceAdd]
    refine xS.ret rfl rfl rfl (fun _ _ => rfl) ?_
    exact ⟨rfl, rfl⟩
  · have g6 := xf_ge h6
    have hlt := xnlt g6 (by omega) (by omega)
    refine xS.s1 rfl rfl ?_
    try dsimp only [Nat.reduceAdd]
    refine xS.s1 rfl rfl ?_
    try dsimp only [Nat.reduceAdd, xj_6]
    refine xS.s1 rfl rfl ?_
    try dsimp only [Nat.reduceAdd]
    rw [show nI (6 ^ j) * 6 = nI (6 ^ (j + 1)) from pk_mul (6 ^ j) 6]
    refine xS.s1 rfl rfl ?_
    try dsimp only [Nat.reduceAdd]
    refine xS.s1 rfl rfl ?_
    try dsimp only [Nat.reduceAdd, xi_1]
    rw [nI_1]
    refine xS.s1 rfl rfl ?_
    try dsimp only [Nat.reduceAdd]
    refine xS.pick [0, 1, 2] rfl ?_
    exact ih () (by omega) trivial

set_option maxRecDepth 10000 in
theorem c_X12_layDoings (hn : n ≤ 6) (hc : c < 2 ^ 31) : xT (k + 1) 208 [.ref 73, .int (nI c), .int (nI n)] (xH b g l) (fun r M' => M' = xH b (glay g n c n) l ∧ r = none) := by
  refine xT.of rfl (Nat.le_of_ble_eq_true rfl) ?_
  change xS _ _ 0 [(0, .ref 73), (1, .int (nI c)), (2, .int (nI n))] [] _ _
  refine xS.s1 rfl rfl ?_
  try dsimp only [Nat.reduceAdd]
  refine xS.s1 rfl rfl ?_
  try dsimp only [Nat.reduceAdd]
  refine xS.s1 rfl rfl ?_
  try dsimp only [Nat.reduceAdd]
  refine xS.s1 rfl rfl ?_
  try dsimp only [Nat.reduceAdd, xi_1]
  refine xS.s1 rfl rfl ?_
  try dsimp only [Nat.reduceAdd]
  refine xS.s1 rfl rfl ?_
  try dsimp only [Nat.reduceAdd]
  refine xS.pick [0, 1, 2] rfl ?_
  refine xS.loop (σ := Unit) (n) (fun j S => [(4, .int (nI (n - j) - 1)), (3, .int (nI (c / 6 ^ j))), (0, .ref 73)]) (fun j _ => xH b (glay g n c j) l) (fun _ _ => True) (()) (by rw [Nat.pow_zero, Nat.div_one]; rfl) (by rw [glay_0]) (trivial) ?_
  intro j S hj hI ih
  try dsimp only
  refine xS.s1 rfl rfl ?_
  try dsimp only [Nat.reduceAdd]
  refine xS.br0 (c := .lt) (off := 25) (l := 3) rfl rfl (fun h9 => ?_) (fun h9 => ?_)
  · have g9 := xt_lt h9
    rw [xdown0 hj (by omega)] at g9
    subst g9
    refine xS.ret rfl rfl rfl (fun _ _ => rfl) ?_
    exact ⟨rfl, rfl⟩
  · have g9 := xf_lt h9
    have hlt : j < n := by
      have := (not_congr (xdown0 hj (by omega))).mp (Int32.not_lt.mpr g9)
      omega
    rw [xdown hlt]
    have hcj : c / 6 ^ j ≤ c := Nat.div_le_self _ _
    refine xS.s1 rfl rfl ?_
    try dsimp only [Nat.reduceAdd]
    refine xS.gR rfl rfl rfl ⟨by decide, rfl⟩ rfl ?_
    try dsimp only [Nat.reduceAdd]
    refine xS.s1 rfl rfl ?_
    try dsimp only [Nat.reduceAdd]
    refine xS.s1 rfl rfl ?_
    try dsimp only [Nat.reduceAdd]
    refine xS.s1 rfl rfl ?_
    try dsimp only [Nat.reduceAdd, xj_6]
    refine xS.s1 rfl rfl ?_
    try dsimp only [Nat.reduceAdd]
    rw [show nI (c / 6 ^ j) - nI (c / 6 ^ j) / 6 * 6 = nI (c / 6 ^ j % 6) from pk_rem (d := 6) (by omega) (by omega) (by omega)]
    refine xS.ias rfl xar_90 (by omega) ?_
    try dsimp only [Nat.reduceAdd]
    rw [glay_s hlt]
    refine xS.s1 rfl rfl ?_
    try dsimp only [Nat.reduceAdd]
    refine xS.s1 rfl rfl ?_
    try dsimp only [Nat.reduceAdd, xj_6]
    refine xS.s1 rfl rfl ?_
    try dsimp only [Nat.reduceAdd]
    rw [show nI (c / 6 ^ j) / 6 = nI (c / 6 ^ (j + 1)) from by rw [Nat.pow_succ, ← Nat.div_div_eq_div_mul]; exact pk_div (d := 6) (by omega) (by omega) (by omega)]
    refine xS.s1 rfl rfl ?_
    try dsimp only [Nat.reduceAdd]
    refine xS.s1 rfl rfl ?_
    try dsimp only [Nat.reduceAdd, xi_m1]
    refine xS.s1 rfl rfl ?_
    try dsimp only [Nat.reduceAdd]
    refine xS.pick [0, 1, 2] rfl ?_
    rw [xdec]
    exact ih () (by omega) trivial

set_option maxRecDepth 10000 in
theorem c_X12_shows (hR : xRr g h tx G T Lw) (hk : s < G) (hn : n ≤ 6) (hf : ∀ u, u < n → g 90 u = nI (f u) ∧ f u < 6) (hO : ∀ u, u < n → g 91 u = O u) : xT (k + 4) 209 [.ref 73, .int (nI s), .int (nI n)] (xH b g l) (fun r M' => M' = xH b g l ∧ r = some (.int (if xfst (fun i => !decide ((xshw h (Lw s / 4) (Lw s % 4) f i) = O i)) n = none then 1 else 0))) := by
  refine xT.of rfl (Nat.le_of_ble_eq_true rfl) ?_
  change xS _ _ 0 [(0, .ref 73), (1, .int (nI s)), (2, .int (nI n))] [] _ _
  refine xS.s1 rfl rfl ?_
  try dsimp only [Nat.reduceAdd, xi_1]
  refine xS.s1 rfl rfl ?_
  try dsimp only [Nat.reduceAdd]
  refine xS.s1 rfl rfl ?_
  try dsimp only [Nat.reduceAdd, xi_0]
  refine xS.s1 rfl rfl ?_
  try dsimp only [Nat.reduceAdd]
  refine xS.pick [0, 1, 2, 3, 4] rfl ?_
  refine xS.loop (σ := Unit) (n) (fun j S => [(4, .int (nI j)), (3, .int (if xfst (fun i => !decide ((xshw h (Lw s / 4) (Lw s % 4) f i) = O i)) j = none then 1 else 0)), (0, .ref 73), (1, .int (nI s)), (2, .int (nI n))]) (fun _ _ => xH b g l) (fun _ _ => True) (()) (rfl) (rfl) (trivial) ?_
  intro j S hj hI ih
  try dsimp only
  refine xS.s1 rfl rfl ?_
  try dsimp only [Nat.reduceAdd]
  refine xS.s1 rfl rfl ?_
  try dsimp only [Nat.reduceAdd]
  refine xS.br (c := .ge) (off := 40) (l := 3) rfl rfl (fun h8 => ?_) (fun h8 => ?_)
  · have g8 := xt_ge h8
    have e := xnle g8 (by omega) (by omega)
    have e2 : n = j := by omega
    subst e2
    refine xS.s1 rfl rfl ?_
    try dsimp only [Nat.reduceAdd]
    refine xS.retB rfl rfl ?_
    exact ⟨rfl, rfl⟩
  · have g8 := xf_ge h8
    have hlt := xnlt g8 (by omega) (by omega)
    refine xS.s1 rfl rfl ?_
    try dsimp only [Nat.reduceAdd]
    refine xS.br0 (c := .eq) (off := 36) (l := 3) rfl rfl (fun h12 => ?_) (fun h12 => ?_)
    · have g12 := xt_eq h12
      refine xS.s1 rfl rfl ?_
      try dsimp only [Nat.reduceAdd]
      refine xS.retB rfl rfl ?_
      have e12 := xif0 g12
      have e3 := xfst_up2 e12 hj
      rw [if_neg e12, if_neg e3]
      exact ⟨rfl, rfl⟩
    · have g12 := xf_eq h12
      refine xS.s1 rfl rfl ?_
      try dsimp only [Nat.reduceAdd]
      refine xS.s1 rfl rfl ?_
      try dsimp only [Nat.reduceAdd]
      refine xS.s1 rfl rfl ?_
      try dsimp only [Nat.reduceAdd]
      refine xS.gR rfl rfl rfl ⟨by decide, rfl⟩ rfl ?_
      try dsimp only [Nat.reduceAdd]
      refine xS.s1 rfl rfl ?_
      try dsimp only [Nat.reduceAdd]
      -- 23 yX12_showsOf
      refine xS.cv rfl rfl rfl rfl rfl rfl ⟨by decide, rfl, rfl⟩ (c_X12_showsOf xar_90 hR (by omega) hk (fun u hu => hf u (by omega))) (fun v M1 hv => ?_)
      rw [hv.1, hv.2]
      clear hv M1 v
      try dsimp only [Nat.reduceAdd, Option.toList, List.cons_append, List.nil_append, List.drop]
      refine xS.s1 rfl rfl ?_
      try dsimp only [Nat.reduceAdd]
      refine xS.gR rfl rfl rfl ⟨by decide, rfl⟩ rfl ?_
      try dsimp only [Nat.reduceAdd]
      refine xS.s1 rfl rfl ?_
      try dsimp only [Nat.reduceAdd]
      refine xS.ia rfl xar_91 (by omega) ?_
      try dsimp only [Nat.reduceAdd]
      rw [hO j hlt]
      refine xS.br (c := .ne) (off := 7) (l := 3) rfl rfl (fun h33 => ?_) (fun h33 => ?_)
      · have g33 := xt_ne h33
        refine xS.s1 rfl rfl ?_
        try dsimp only [Nat.reduceAdd, xi_0]
        refine xS.s1 rfl rfl ?_
        try dsimp only [Nat.reduceAdd]
        refine xS.s1 rfl rfl ?_
        try dsimp only [Nat.reduceAdd, xi_1]
        rw [nI_1]
        refine xS.s1 rfl rfl ?_
        try dsimp only [Nat.reduceAdd]
        refine xS.pick [0, 1, 2, 3, 4] rfl ?_
        have ih2 := ih () (by omega) trivial
        have e12 := xif1 g12
        rw [if_neg (by rw [xfst_c e12 (by simp [g33])]; exact fun z => by cases z)] at ih2
        exact ih2
      · have g33 := xf_ne h33
        refine xS.s1 rfl rfl ?_
        try dsimp only [Nat.reduceAdd, xi_1]
        refine xS.s1 rfl rfl ?_
        try dsimp only [Nat.reduceAdd]
        refine xS.s1 rfl rfl ?_
        try dsimp only [Nat.reduceAdd]
        refine xS.s1 rfl rfl ?_
        try dsimp only [Nat.reduceAdd, xi_1]
        rw [nI_1]
        refine xS.s1 rfl rfl ?_
        try dsimp only [Nat.reduceAdd]
        refine xS.pick [0, 1, 2, 3, 4] rfl ?_
        have ih2 := ih () (by omega) trivial
        have e12 := xif1 g12
        rw [if_pos (xfst_n e12 (by simp [g33]))] at ih2
        exact ih2

set_option maxRecDepth 10000 in
theorem c_X12_breaksNone (hR : xRr g h tx G T Lw) (hk : s < G) (hn : n ≤ 6) (hf : ∀ u, u < n → g 90 u = nI (f u) ∧ f u < 6) : xT (k + 5) 218 [.ref 73, .int (nI s), .int (nI n)] (xH b g l) (fun r M' => M' = xH b g l ∧ r = some (.int (if xfst (fun i => !decide (xfb tx T (nI (f i)) (xshw h (Lw s / 4) (Lw s % 4) f i) = none)) n = none then 1 else 0))) := by
  refine xT.of rfl (Nat.le_of_ble_eq_true rfl) ?_
  change xS _ _ 0 [(0, .ref 73), (1, .int (nI s)), (2, .int (nI n))] [] _ _
  refine xS.s1 rfl rfl ?_
  try dsimp only [Nat.reduceAdd, xi_1]
  refine xS.s1 rfl rfl ?_
  try dsimp only [Nat.reduceAdd]
  refine xS.s1 rfl rfl ?_
  try dsimp only [Nat.reduceAdd, xi_0]
  refine xS.s1 rfl rfl ?_
  try dsimp only [Nat.reduceAdd]
  refine xS.pick [0, 1, 2, 3, 4] rfl ?_
  refine xS.loop (σ := Unit) (n) (fun j S => [(4, .int (nI j)), (3, .int (if xfst (fun i => !decide (xfb tx T (nI (f i)) (xshw h (Lw s / 4) (Lw s % 4) f i) = none)) j = none then 1 else 0)), (0, .ref 73), (1, .int (nI s)), (2, .int (nI n))]) (fun _ _ => xH b g l) (fun _ _ => True) (()) (rfl) (rfl) (trivial) ?_
  intro j S hj hI ih
  try dsimp only
  refine xS.s1 rfl rfl ?_
  try dsimp only [Nat.reduceAdd]
  refine xS.s1 rfl rfl ?_
  try dsimp only [Nat.reduceAdd]
  refine xS.br (c := .ge) (off := 29) (l := 3) rfl rfl (fun h8 => ?_) (fun h8 => ?_)
  · have g8 := xt_ge h8
    have e := xnle g8 (by omega) (by omega)
    have e2 : n = j := by omega
    subst e2
    refine xS.s1 rfl rfl ?_
    try dsimp only [Nat.reduceAdd]
    refine xS.retB rfl rfl ?_
    exact ⟨rfl, rfl⟩
  · have g8 := xf_ge h8
    have hlt := xnlt g8 (by omega) (by omega)
    refine xS.s1 rfl rfl ?_
    try dsimp only [Nat.reduceAdd]
    refine xS.br0 (c := .eq) (off := 25) (l := 3) rfl rfl (fun h12 => ?_) (fun h12 => ?_)
    · have g12 := xt_eq h12
      refine xS.s1 rfl rfl ?_
      try dsimp only [Nat.reduceAdd]
      refine xS.retB rfl rfl ?_
      have e12 := xif0 g12
      have e3 := xfst_up2 e12 hj
      rw [if_neg e12, if_neg e3]
      exact ⟨rfl, rfl⟩
    · have g12 := xf_eq h12
      refine xS.s1 rfl rfl ?_
      try dsimp only [Nat.reduceAdd]
      refine xS.s1 rfl rfl ?_
      try dsimp only [Nat.reduceAdd]
      refine xS.s1 rfl rfl ?_
      try dsimp only [Nat.reduceAdd]
      -- 19 yX12_breaksAt
      refine xS.cv rfl rfl rfl rfl rfl rfl ⟨by decide, rfl, rfl⟩ (c_X12_breaksAt hR hk (by omega) (fun u hu => hf u (by omega))) (fun v M1 hv => ?_)
      rw [hv.1, hv.2]
      clear hv M1 v
      try dsimp only [Nat.reduceAdd, Option.toList, List.cons_append, List.nil_append, List.drop]
      refine xS.br0 (c := .ne) (off := 7) (l := 3) rfl rfl (fun h22 => ?_) (fun h22 => ?_)
      · have g22 := xt_ne h22
        refine xS.s1 rfl rfl ?_
        try dsimp only [Nat.reduceAdd, xi_0]
        refine xS.s1 rfl rfl ?_
        try dsimp only [Nat.reduceAdd]
        refine xS.s1 rfl rfl ?_
        try dsimp only [Nat.reduceAdd, xi_1]
        rw [nI_1]
        refine xS.s1 rfl rfl ?_
        try dsimp only [Nat.reduceAdd]
        refine xS.pick [0, 1, 2, 3, 4] rfl ?_
        have ih2 := ih () (by omega) trivial
        have e12 := xif1 g12
        rw [if_neg (by rw [xfst_c e12 (by simp [xif1n g22])]; exact fun z => by cases z)] at ih2
        exact ih2
      · have g22 := xf_ne h22
        refine xS.s1 rfl rfl ?_
        try dsimp only [Nat.reduceAdd, xi_1]
        refine xS.s1 rfl rfl ?_
        try dsimp only [Nat.reduceAdd]
        refine xS.s1 rfl rfl ?_
        try dsimp only [Nat.reduceAdd]
        refine xS.s1 rfl rfl ?_
        try dsimp only [Nat.reduceAdd, xi_1]
        rw [nI_1]
        refine xS.s1 rfl rfl ?_
        try dsimp only [Nat.reduceAdd]
        refine xS.pick [0, 1, 2, 3, 4] rfl ?_
        have ih2 := ih () (by omega) trivial
        have e12 := xif1 g12
        rw [if_pos (xfst_n e12 (by simp [xif0n g22]))] at ih2
        exact ih2

end
end
section
/-! LimpMirrorModel: public methods, what is shown, what was done, laws -/
def xnxr (w : Nat → Nat) (n : Nat) : Nat × Int32 := Nat.rec (motive := fun _ => Nat × Int32) (99, -9) (fun s c => if w s < c.1 then (w s, nI s) else c) n
theorem xnxr_s (w : Nat → Nat) (n : Nat) : xnxr w (n + 1) = if w n < (xnxr w n).1 then (w n, nI n) else xnxr w n := rfl
theorem xnxr_le (w : Nat → Nat) : ∀ n, (xnxr w n).1 ≤ 99
  | 0 => Nat.le_refl _
  | n + 1 => by
    have := xnxr_le w n
    rw [xnxr_s]
    split
    · dsimp only; omega
    · omega
def xmv (w : Nat → Nat) (n : Nat) : Nat := Nat.rec (motive := fun _ => Nat) 0 (fun v c => max c (w v)) n
theorem xmv_s (w : Nat → Nat) (n : Nat) : xmv w (n + 1) = max (xmv w n) (w n) := rfl
theorem xmv_le {w : Nat → Nat} {q : Nat} (h : ∀ v, w v ≤ q) : ∀ n, xmv w n ≤ q
  | 0 => Nat.zero_le _
  | n + 1 => by
    rw [xmv_s]
    have := xmv_le h n
    have := h n
    omega
theorem xor0 (x : Int32) : x ||| 0 = x := Int32.toBitVec_inj.mp (by rw [Int32.toBitVec_or]; show x.toBitVec ||| 0#32 = x.toBitVec; simp)
theorem xrem4 {t : Nat} (h : t < 2 ^ 31) : nI t - nI t / 4 * 4 = nI (t % 4) := pk_rem (d := 4) h (by omega) (by omega)
theorem xdiv4 {t : Nat} (h : t < 2 ^ 31) : nI t / 4 = nI (t / 4) := pk_div (d := 4) h (by omega) (by omega)
theorem xhr_and {p q : Nat → Bool} {j : Nat} : xhr (xfst p j) (xfst q j) &&& ((if p j = true then 0 else 1) + (if q j = true then 0 else 2)) = xhr (xfst p (j + 1)) (xfst q (j + 1)) := by
  have e : ∀ p : Nat → Bool, (xfst p (j + 1) = none) ↔ (xfst p j = none ∧ p j = false) := fun p => by
    rw [xfst_s]
    cases xfst p j <;> cases p j <;> simp
  unfold xhr
  by_cases a1 : xfst p j = none <;> by_cases a2 : xfst q j = none <;> cases a3 : p j <;> cases a4 : q j <;> simp [e, a1, a2, a3, a4] <;> decide
theorem xhr_3 {A B : Option Nat} : xhr A B = 3 ↔ (A = none ∧ B = none) := by
  unfold xhr
  by_cases a : A = none <;> by_cases b : B = none <;> simp [a, b] <;> decide
theorem xfst_or {p q : Nat → Bool} {n : Nat} : xfst (fun i => p i || q i) n = none ↔ (xfst p n = none ∧ xfst q n = none) := by
  simp only [xfst_none]
  constructor
  · intro h
    exact ⟨fun i hi => by have := h i hi; revert this; cases p i <;> simp, fun i hi => by have := h i hi; revert this; cases p i <;> simp⟩
  · rintro ⟨h1, h2⟩ i hi
    rw [h1 i hi, h2 i hi]
    rfl

section
variable {k a c n n2 m t p s d i1 j1 : Nat} {b : Nat × Nat} {g : Nat → Nat → Int32} {l : Nat → Nat → Int64} {i j x y z v w : Int32} {u w1 w2 : Int64}
variable {L G T e1 q1 κ δ : Nat} {Lw f f2 : Nat → Nat} {h tx F4 Rw Rw2 O : Nat → Int32}
set_option maxRecDepth 10000 in
theorem c_X12_tellParts (hp1 : p < 2 ^ 63) (hd1 : d < 2 ^ 63) (hd0 : 0 < d) : xT (k + 1) 155 [.ref 73, .long (lN p), .long (lN d)] (xH b g l) (fun r M' => M' = xH b g (up (up l 73 21 (lN (p / Nat.gcd p d))) 73 22 (lN (d / Nat.gcd p d))) ∧ r = none) := by
  refine xT.of rfl (Nat.le_of_ble_eq_true rfl) ?_
  change xS _ _ 0 [(0, .ref 73), (1, .long (lN p)), (3, .long (lN d))] [] _ _
  refine xS.s1 rfl rfl ?_
  try dsimp only [Nat.reduceAdd]
  refine xS.s1 rfl rfl ?_
  try dsimp only [Nat.reduceAdd]
  refine xS.s1 rfl rfl ?_
  try dsimp only [Nat.reduceAdd]
  refine xS.s1 rfl rfl ?_
  try dsimp only [Nat.reduceAdd]
  refine xS.pick [1, 0, 2, 3, 4] rfl ?_
  refine xS.loop (σ := Nat × Nat) (d) (fun j S => [(5, .long (lN S.1)), (7, .long (lN S.2)), (0, .ref 73), (1, .long (lN p)), (3, .long (lN d))]) (fun _ _ => xH b g l) (fun j S => S.2 + j ≤ d ∧ Nat.gcd S.2 S.1 = Nat.gcd p d ∧ S.1 < 2 ^ 63 ∧ S.2 < 2 ^ 63) ((p, d)) (rfl) (rfl) (⟨Nat.le_refl _, Nat.gcd_comm d p, hp1, hd1⟩) ?_
  intro j S hj hI ih
  obtain ⟨A, B⟩ := S
  obtain ⟨i1, i2, i3, i4⟩ := hI
  dsimp only at i1 i2 i3 i4
  try dsimp only
  refine xS.s1 rfl rfl ?_
  try dsimp only [Nat.reduceAdd]
  refine xS.s1 rfl rfl ?_
  try dsimp only [Nat.reduceAdd]
  refine xS.s1 rfl rfl ?_
  try dsimp only [Nat.reduceAdd]
  refine xS.br0 (c := .le) (off := 21) (l := 3) rfl rfl (fun h10 => ?_) (fun h10 => ?_)
  · have g10 := xt_le h10
    have hB0 : B = 0 := by
      have g11 : lN B ≤ (0 : Int64) := (lg_cmp_le _ _).mp g10
      rw [Int64.le_iff_toInt_le] at g11
      unfold lN at g11
      rw [lg_ofNat_toInt i4] at g11
      have h0 : (0 : Int64).toInt = 0 := rfl
      omega
    subst hB0
    rw [Nat.gcd_zero_left] at i2
    subst i2
    have hA0 : 0 < Nat.gcd p d := Nat.gcd_pos_of_pos_right p hd0
    refine xS.s1 rfl rfl ?_
    try dsimp only [Nat.reduceAdd]
    refine xS.s1 rfl rfl ?_
    try dsimp only [Nat.reduceAdd]
    refine xS.s1 rfl rfl ?_
    try dsimp only [Nat.reduceAdd]
    refine xS.ldiv rfl (lN_0 hA0 i3) ?_
    try dsimp only [Nat.reduceAdd]
    refine xS.pL rfl rfl rfl ⟨⟨by decide, rfl⟩, rfl, by decide, by decide⟩ rfl ?_
    try dsimp only [Nat.reduceAdd]
    refine xS.s1 rfl rfl ?_
    try dsimp only [Nat.reduceAdd]
    refine xS.s1 rfl rfl ?_
    try dsimp only [Nat.reduceAdd]
    refine xS.s1 rfl rfl ?_
    try dsimp only [Nat.reduceAdd]
    refine xS.ldiv rfl (lN_0 hA0 i3) ?_
    try dsimp only [Nat.reduceAdd]
    refine xS.pL rfl rfl rfl ⟨⟨by decide, rfl⟩, rfl, by decide, by decide⟩ rfl ?_
    try dsimp only [Nat.reduceAdd]
    refine xS.ret rfl rfl rfl (fun _ _ => rfl) ?_
    rw [pk_lDiv hp1 hA0 i3, pk_lDiv hd1 hA0 i3]
    exact ⟨rfl, rfl⟩
  · have g10 := xf_le h10
    refine xS.s1 rfl rfl ?_
    try dsimp only [Nat.reduceAdd]
    refine xS.s1 rfl rfl ?_
    try dsimp only [Nat.reduceAdd]
    have hB : 0 < B := by
      rcases Nat.eq_zero_or_pos B with e | e
      · subst e; exact absurd g10 (by decide)
      · exact e
    refine xS.lrem rfl (lN_0 hB i4) ?_
    try dsimp only [Nat.reduceAdd]
    rw [pk_lRem i3 hB i4]
    refine xS.s1 rfl rfl ?_
    try dsimp only [Nat.reduceAdd]
    refine xS.s1 rfl rfl ?_
    try dsimp only [Nat.reduceAdd]
    refine xS.s1 rfl rfl ?_
    try dsimp only [Nat.reduceAdd]
    refine xS.s1 rfl rfl ?_
    try dsimp only [Nat.reduceAdd]
    refine xS.s1 rfl rfl ?_
    try dsimp only [Nat.reduceAdd]
    refine xS.s1 rfl rfl ?_
    try dsimp only [Nat.reduceAdd]
    refine xS.pick [1, 0, 3, 4, 5] rfl ?_
    have hlt := Nat.mod_lt A hB
    exact ih (B, A % B) (by omega) ⟨by show A % B + (j + 1) ≤ d; omega, by rw [← i2, Nat.gcd_rec B A], i4, by show A % B < 2 ^ 63; omega⟩

set_option maxRecDepth 10000 in
theorem c_X12_show_ok (hR : xRr g h tx G T Lw) (hk : s < G) (ht : t < 6) (hp1 : p < 6) (hs : g 74 p = nI m) (hm : m ≤ 12) (hf : xfos (g 74 p) (fun i => g 75 (40 * p + i)) 12 = 0) (hx : ∀ i, i < m → xstp (g 75 (40 * p + i))) : xT (k + 4) 202 [.ref 73, .int (nI s), .int (nI p), .int (nI t)] (xH b g l) (fun r M' => ∃ g0, xFr g g0 ∧ M' = xH b (gseg (up g0 74 t (nI m)) 75 (40 * t) m (xshw h (Lw s / 4) (Lw s % 4) (fun i => xN (g 75 (40 * p + i))))) l ∧ r = some (.int (nI m))) := by
  refine xT.of rfl (Nat.le_of_ble_eq_true rfl) ?_
  change xS _ _ 0 [(0, .ref 73), (1, .int (nI s)), (2, .int (nI p)), (3, .int (nI t))] [] _ _
  refine xS.s1 rfl rfl ?_
  try dsimp only [Nat.reduceAdd]
  refine xS.s1 rfl rfl ?_
  try dsimp only [Nat.reduceAdd]
  -- 2 yX12_isGlass
  refine xS.cv rfl rfl rfl rfl rfl rfl ⟨by decide, rfl, rfl⟩ (c_X12_isGlass_in hR.1.1 hR.1.2 hk) (fun v M1 hv => ?_)
  rw [hv.1, hv.2]
  clear hv M1 v
  try dsimp only [Nat.reduceAdd, Option.toList, List.cons_append, List.nil_append, List.drop]
  refine xS.br0 (c := .eq) (off := 17) (l := 3) rfl rfl (fun h5 => ?_) (fun h5 => ?_)
  · have g5 := xt_eq h5
    exfalso; first | exact absurd g5 (by decide) | (simp (disch := omega) only [Int32.lt_iff_toInt_lt, Int32.le_iff_toInt_le, nI_toInt, Int32.reduceToInt] at g5 <;> omega)
  · have g5 := xf_eq h5
    refine xS.s1 rfl rfl ?_
    try dsimp only [Nat.reduceAdd]
    -- 9 yX12_isRow
    refine xS.callS rfl rfl rfl ⟨Nat.le_of_ble_eq_true rfl, rfl⟩ (c_X12_isRow_in hp1) (fun v M1 hv => ?_)
    rw [hv.1, hv.2]
    clear hv M1 v
    try dsimp only [Nat.reduceAdd, Option.toList, List.cons_append, List.nil_append, List.drop]
    refine xS.br0 (c := .eq) (off := 10) (l := 3) rfl rfl (fun h12 => ?_) (fun h12 => ?_)
    · have g12 := xt_eq h12
      exfalso; first | exact absurd g12 (by decide) | (simp (disch := omega) only [Int32.lt_iff_toInt_lt, Int32.le_iff_toInt_le, nI_toInt, Int32.reduceToInt] at g12 <;> omega)
    · have g12 := xf_eq h12
      refine xS.s1 rfl rfl ?_
      try dsimp only [Nat.reduceAdd]
      -- 16 yX12_isRow
      refine xS.callS rfl rfl rfl ⟨Nat.le_of_ble_eq_true rfl, rfl⟩ (c_X12_isRow_in ht) (fun v M1 hv => ?_)
      rw [hv.1, hv.2]
      clear hv M1 v
      try dsimp only [Nat.reduceAdd, Option.toList, List.cons_append, List.nil_append, List.drop]
      refine xS.br0 (c := .ne) (off := 5) (l := 3) rfl rfl (fun h19 => ?_) (fun h19 => ?_)
      · have g19 := xt_ne h19
        refine xS.s1 rfl rfl ?_
        try dsimp only [Nat.reduceAdd]
        refine xS.s1 rfl rfl ?_
        try dsimp only [Nat.reduceAdd]
        refine xS.s1 rfl rfl ?_
        try dsimp only [Nat.reduceAdd, xj_12]
        refine xS.s1 rfl rfl ?_
        try dsimp only [Nat.reduceAdd]
        refine xS.gR rfl rfl rfl ⟨by decide, rfl⟩ rfl ?_
        try dsimp only [Nat.reduceAdd]
        -- 32 yX12_takeOut
        refine xS.cv rfl rfl rfl rfl rfl rfl ⟨by decide, rfl, rfl⟩ (c_X12_takeOut_0 xar_90 (by decide) hp1 hs (by omega) (by decide) hf) (fun v M1 hv => ?_)
        rw [hv.1, hv.2]
        clear hv M1 v
        have hR1 := xRr_F (xFr_gs (n := m) (S := (fun i => g 75 (40 * p + i))) (by decide : 89 ≤ 90)) hR
        have h90 : ∀ u, u < m → gset g 90 m (fun i => g 75 (40 * p + i)) 90 u = nI ((fun i => xN (g 75 (40 * p + i))) u) ∧ (fun i => xN (g 75 (40 * p + i))) u < 6 := fun u hu => by rw [gset_in hu]; exact ⟨(xstp_N (hx u hu)).2, (xstp_N (hx u hu)).1⟩
        have e74 : gset g 90 m (fun i => g 75 (40 * p + i)) 74 p = nI m := by rw [gset_na (by decide)]; exact hs
        try dsimp only [Nat.reduceAdd, Option.toList, List.cons_append, List.nil_append, List.drop]
        refine xS.s1 rfl rfl ?_
        try dsimp only [Nat.reduceAdd]
        refine xS.s1 rfl rfl ?_
        try dsimp only [Nat.reduceAdd]
        refine xS.br0 (c := .ge) (off := 6) (l := 3) rfl rfl (fun h39 => ?_) (fun h39 => ?_)
        · have g39 := xt_ge h39
          refine xS.s1 rfl rfl ?_
          try dsimp only [Nat.reduceAdd]
          refine xS.gR rfl rfl rfl ⟨by decide, rfl⟩ rfl ?_
          try dsimp only [Nat.reduceAdd]
          refine xS.s1 rfl rfl ?_
          try dsimp only [Nat.reduceAdd]
          refine xS.ia rfl xar_74 (by omega) ?_
          try dsimp only [Nat.reduceAdd]
          rw [e74]
          refine xS.s1 rfl rfl ?_
          try dsimp only [Nat.reduceAdd]
          refine xS.s1 rfl rfl ?_
          try dsimp only [Nat.reduceAdd, xi_0]
          refine xS.s1 rfl rfl ?_
          try dsimp only [Nat.reduceAdd]
          refine xS.pick [0, 3, 4, 6, 1] rfl ?_
          refine xS.loop (σ := Unit) (m) (fun j S => [(6, .int (nI j)), (0, .ref 73), (1, .int (nI s)), (3, .int (nI t)), (5, .int (nI m))]) (fun j _ => xH b (gset (gset g 90 m (fun i => g 75 (40 * p + i))) 92 j (xshw h (Lw s / 4) (Lw s % 4) (fun i => xN (g 75 (40 * p + i))))) l) (fun _ _ => True) (()) (rfl) (by rw [gset_0]) (trivial) ?_
          intro j S hj hI ih
          try dsimp only
          have hFj : xFr (gset g 90 m (fun i => g 75 (40 * p + i))) (gset (gset g 90 m (fun i => g 75 (40 * p + i))) 92 j (xshw h (Lw s / 4) (Lw s % 4) (fun i => xN (g 75 (40 * p + i))))) := xFr_gs (by decide)
          have h90j : ∀ u, u < m → gset (gset g 90 m (fun i => g 75 (40 * p + i))) 92 j (xshw h (Lw s / 4) (Lw s % 4) (fun i => xN (g 75 (40 * p + i)))) 90 u = nI ((fun i => xN (g 75 (40 * p + i))) u) ∧ (fun i => xN (g 75 (40 * p + i))) u < 6 := fun u hu => by rw [gset_na (by decide)]; exact h90 u hu
          refine xS.s1 rfl rfl ?_
          try dsimp only [Nat.reduceAdd]
          refine xS.s1 rfl rfl ?_
          try dsimp only [Nat.reduceAdd]
          refine xS.br (c := .ge) (off := 27) (l := 3) rfl rfl (fun h60 => ?_) (fun h60 => ?_)
          · have g60 := xt_ge h60
            have e := xnle g60 (by omega) (by omega)
            have e2 : m = j := by omega
            subst e2
            refine xS.s1 rfl rfl ?_
            try dsimp only [Nat.reduceAdd]
            refine xS.s1 rfl rfl ?_
            try dsimp only [Nat.reduceAdd]
            refine xS.s1 rfl rfl ?_
            try dsimp only [Nat.reduceAdd]
            refine xS.s1 rfl rfl ?_
            try dsimp only [Nat.reduceAdd]
            refine xS.gR rfl rfl rfl ⟨by decide, rfl⟩ rfl ?_
            try dsimp only [Nat.reduceAdd]
            -- 95 yX12_layRow
            refine xS.cv rfl rfl rfl rfl rfl rfl ⟨by decide, rfl, rfl⟩ (c_X12_layRow xar_92 (by decide) (by decide) ht hm (by omega)) (fun v M1 hv => ?_)
            rw [hv.1, hv.2]
            clear hv M1 v
            try dsimp only [Nat.reduceAdd, Option.toList, List.cons_append, List.nil_append, List.drop]
            refine xS.ret rfl rfl rfl (fun _ _ => rfl) ?_
            refine ⟨gset (gset g 90 m (fun i => g 75 (40 * p + i))) 92 m (xshw h (Lw s / 4) (Lw s % 4) (fun i => xN (g 75 (40 * p + i)))), xFr_t (xFr_gs (a := 90) (by decide)) hFj, ?_, rfl⟩
            rw [gseg_congr (fun i hi => gset_in hi)]
          · have g60 := xf_ge h60
            have hlt := xnlt g60 (by omega) (by omega)
            refine xS.s1 rfl rfl ?_
            try dsimp only [Nat.reduceAdd]
            refine xS.gR rfl rfl rfl ⟨by decide, rfl⟩ rfl ?_
            try dsimp only [Nat.reduceAdd]
            refine xS.s1 rfl rfl ?_
            try dsimp only [Nat.reduceAdd]
            refine xS.s1 rfl rfl ?_
            try dsimp only [Nat.reduceAdd]
            refine xS.s1 rfl rfl ?_
            try dsimp only [Nat.reduceAdd]
            refine xS.s1 rfl rfl ?_
            try dsimp only [Nat.reduceAdd]
            refine xS.gR rfl rfl rfl ⟨by decide, rfl⟩ rfl ?_
            try dsimp only [Nat.reduceAdd]
            refine xS.s1 rfl rfl ?_
            try dsimp only [Nat.reduceAdd]
            -- 77 yX12_showsOf
            refine xS.cv rfl rfl rfl rfl rfl rfl ⟨by decide, rfl, rfl⟩ (c_X12_showsOf (f := (fun i => xN (g 75 (40 * p + i)))) xar_90 (xRr_F hFj hR1) (by omega) hk (fun u hu => h90j u (by omega))) (fun v M1 hv => ?_)
            rw [hv.1, hv.2]
            clear hv M1 v
            try dsimp only [Nat.reduceAdd, Option.toList, List.cons_append, List.nil_append, List.drop]
            refine xS.ias rfl xar_92 (by omega) ?_
            try dsimp only [Nat.reduceAdd]
            rw [gset_s (S := (xshw h (Lw s / 4) (Lw s % 4) (fun i => xN (g 75 (40 * p + i)))))]
            refine xS.s1 rfl rfl ?_
            try dsimp only [Nat.reduceAdd, xi_1]
            rw [nI_1]
            refine xS.s1 rfl rfl ?_
            try dsimp only [Nat.reduceAdd]
            refine xS.pick [0, 1, 2, 3, 4] rfl ?_
            exact ih () (by omega) trivial
        · have g39 := xf_ge h39
          exfalso; first | exact absurd g39 (by decide) | (simp (disch := omega) only [Int32.lt_iff_toInt_lt, Int32.le_iff_toInt_le, nI_toInt, Int32.reduceToInt] at g39 <;> omega)
      · have g19 := xf_ne h19
        exfalso; first | exact absurd g19 (by decide) | (simp (disch := omega) only [Int32.lt_iff_toInt_lt, Int32.le_iff_toInt_le, nI_toInt, Int32.reduceToInt] at g19 <;> omega)

set_option maxRecDepth 10000 in
theorem c_X12_breaks_ok (hR : xRr g h tx G T Lw) (hk : s < G) (hp1 : p < 6) (hs : g 74 p = nI m) (hm : m ≤ 12) (hf : xfos (g 74 p) (fun i => g 75 (40 * p + i)) 12 = 0) (hx : ∀ i, i < m → xstp (g 75 (40 * p + i))) : xT (k + 5) 204 [.ref 73, .int (nI s), .int (nI p)] (xH b g l) (fun r M' => ∃ g0, xFr g g0 ∧ M' = xH b (up g0 73 20 (nI (xcnt (fun i => !decide (xfb tx T (nI ((fun i => xN (g 75 (40 * p + i))) i)) ((xshw h (Lw s / 4) (Lw s % 4) (fun i => xN (g 75 (40 * p + i)))) i) = none)) m))) l ∧ r = some (.int (xfI (xfst (fun i => !decide (xfb tx T (nI ((fun i => xN (g 75 (40 * p + i))) i)) ((xshw h (Lw s / 4) (Lw s % 4) (fun i => xN (g 75 (40 * p + i)))) i) = none)) m)))) := by
  refine xT.of rfl (Nat.le_of_ble_eq_true rfl) ?_
  change xS _ _ 0 [(0, .ref 73), (1, .int (nI s)), (2, .int (nI p))] [] _ _
  refine xS.s1 rfl rfl ?_
  try dsimp only [Nat.reduceAdd]
  refine xS.s1 rfl rfl ?_
  try dsimp only [Nat.reduceAdd]
  -- 2 yX12_isGlass
  refine xS.cv rfl rfl rfl rfl rfl rfl ⟨by decide, rfl, rfl⟩ (c_X12_isGlass_in hR.1.1 hR.1.2 hk) (fun v M1 hv => ?_)
  rw [hv.1, hv.2]
  clear hv M1 v
  try dsimp only [Nat.reduceAdd, Option.toList, List.cons_append, List.nil_append, List.drop]
  refine xS.br0 (c := .eq) (off := 10) (l := 3) rfl rfl (fun h5 => ?_) (fun h5 => ?_)
  · have g5 := xt_eq h5
    exfalso; first | exact absurd g5 (by decide) | (simp (disch := omega) only [Int32.lt_iff_toInt_lt, Int32.le_iff_toInt_le, nI_toInt, Int32.reduceToInt] at g5 <;> omega)
  · have g5 := xf_eq h5
    refine xS.s1 rfl rfl ?_
    try dsimp only [Nat.reduceAdd]
    -- 9 yX12_isRow
    refine xS.callS rfl rfl rfl ⟨Nat.le_of_ble_eq_true rfl, rfl⟩ (c_X12_isRow_in hp1) (fun v M1 hv => ?_)
    rw [hv.1, hv.2]
    clear hv M1 v
    try dsimp only [Nat.reduceAdd, Option.toList, List.cons_append, List.nil_append, List.drop]
    refine xS.br0 (c := .ne) (off := 5) (l := 3) rfl rfl (fun h12 => ?_) (fun h12 => ?_)
    · have g12 := xt_ne h12
      refine xS.s1 rfl rfl ?_
      try dsimp only [Nat.reduceAdd]
      refine xS.s1 rfl rfl ?_
      try dsimp only [Nat.reduceAdd]
      refine xS.s1 rfl rfl ?_
      try dsimp only [Nat.reduceAdd, xj_12]
      refine xS.s1 rfl rfl ?_
      try dsimp only [Nat.reduceAdd]
      refine xS.gR rfl rfl rfl ⟨by decide, rfl⟩ rfl ?_
      try dsimp only [Nat.reduceAdd]
      -- 25 yX12_takeOut
      refine xS.cv rfl rfl rfl rfl rfl rfl ⟨by decide, rfl, rfl⟩ (c_X12_takeOut_0 xar_90 (by decide) hp1 hs (by omega) (by decide) hf) (fun v M1 hv => ?_)
      rw [hv.1, hv.2]
      clear hv M1 v
      have hR1 := xRr_F (xFr_gs (n := m) (S := (fun i => g 75 (40 * p + i))) (by decide : 89 ≤ 90)) hR
      have h90 : ∀ u, u < m → gset g 90 m (fun i => g 75 (40 * p + i)) 90 u = nI ((fun i => xN (g 75 (40 * p + i))) u) ∧ (fun i => xN (g 75 (40 * p + i))) u < 6 := fun u hu => by rw [gset_in hu]; exact ⟨(xstp_N (hx u hu)).2, (xstp_N (hx u hu)).1⟩
      have e74 : gset g 90 m (fun i => g 75 (40 * p + i)) 74 p = nI m := by rw [gset_na (by decide)]; exact hs
      try dsimp only [Nat.reduceAdd, Option.toList, List.cons_append, List.nil_append, List.drop]
      refine xS.s1 rfl rfl ?_
      try dsimp only [Nat.reduceAdd]
      refine xS.s1 rfl rfl ?_
      try dsimp only [Nat.reduceAdd]
      refine xS.br0 (c := .ge) (off := 5) (l := 3) rfl rfl (fun h30 => ?_) (fun h30 => ?_)
      · have g30 := xt_ge h30
        refine xS.s1 rfl rfl ?_
        try dsimp only [Nat.reduceAdd, xj_m9]
        refine xS.s1 rfl rfl ?_
        try dsimp only [Nat.reduceAdd]
        refine xS.s1 rfl rfl ?_
        try dsimp only [Nat.reduceAdd, xi_0]
        refine xS.s1 rfl rfl ?_
        try dsimp only [Nat.reduceAdd]
        refine xS.s1 rfl rfl ?_
        try dsimp only [Nat.reduceAdd]
        refine xS.gR rfl rfl rfl ⟨by decide, rfl⟩ rfl ?_
        try dsimp only [Nat.reduceAdd]
        refine xS.s1 rfl rfl ?_
        try dsimp only [Nat.reduceAdd]
        refine xS.ia rfl xar_74 (by omega) ?_
        try dsimp only [Nat.reduceAdd]
        rw [e74]
        refine xS.s1 rfl rfl ?_
        try dsimp only [Nat.reduceAdd, xi_1]
        refine xS.s1 rfl rfl ?_
        try dsimp only [Nat.reduceAdd]
        refine xS.s1 rfl rfl ?_
        try dsimp only [Nat.reduceAdd]
        refine xS.pick [0, 2, 1, 4, 5] rfl ?_
        refine xS.loop (σ := Unit) (m) (fun j S => [(6, .int (nI (m - j) - 1)), (4, .int (xfI (xdn1 (fun i => !decide (xfb tx T (nI ((fun i => xN (g 75 (40 * p + i))) i)) ((xshw h (Lw s / 4) (Lw s % 4) (fun i => xN (g 75 (40 * p + i)))) i) = none)) m j))), (5, .int (nI (xcd (fun i => !decide (xfb tx T (nI ((fun i => xN (g 75 (40 * p + i))) i)) ((xshw h (Lw s / 4) (Lw s % 4) (fun i => xN (g 75 (40 * p + i)))) i) = none)) m j))), (0, .ref 73), (1, .int (nI s))]) (fun _ _ => xH b (gset g 90 m (fun i => g 75 (40 * p + i))) l) (fun _ _ => True) (()) (rfl) (rfl) (trivial) ?_
        intro j S hj hI ih
        try dsimp only
        refine xS.s1 rfl rfl ?_
        try dsimp only [Nat.reduceAdd]
        refine xS.br0 (c := .lt) (off := 47) (l := 3) rfl rfl (fun h54 => ?_) (fun h54 => ?_)
        · have g54 := xt_lt h54
          rw [xdown0 hj (by omega)] at g54
          subst g54
          refine xS.s1 rfl rfl ?_
          try dsimp only [Nat.reduceAdd]
          refine xS.s1 rfl rfl ?_
          try dsimp only [Nat.reduceAdd]
          refine xS.pI rfl rfl rfl ⟨⟨by decide, rfl⟩, rfl, by decide, by decide⟩ rfl ?_
          try dsimp only [Nat.reduceAdd]
          refine xS.s1 rfl rfl ?_
          try dsimp only [Nat.reduceAdd]
          refine xS.ret rfl rfl rfl (fun _ _ => rfl) ?_
          rw [xdn1_m, xcd_m]
          exact ⟨_, xFr_gs (by decide), rfl, rfl⟩
        · have g54 := xf_lt h54
          have hlt : j < m := by
            have := (not_congr (xdown0 hj (by omega))).mp (Int32.not_lt.mpr g54)
            omega
          rw [xdown hlt]
          refine xS.s1 rfl rfl ?_
          try dsimp only [Nat.reduceAdd]
          refine xS.s1 rfl rfl ?_
          try dsimp only [Nat.reduceAdd]
          refine xS.s1 rfl rfl ?_
          try dsimp only [Nat.reduceAdd]
          -- 61 yX12_breaksAt
          refine xS.cv rfl rfl rfl rfl rfl rfl ⟨by decide, rfl, rfl⟩ (c_X12_breaksAt (f := (fun i => xN (g 75 (40 * p + i)))) hR1 hk (by omega) (fun u hu => h90 u (by omega))) (fun v M1 hv => ?_)
          rw [hv.1, hv.2]
          clear hv M1 v
          try dsimp only [Nat.reduceAdd, Option.toList, List.cons_append, List.nil_append, List.drop]
          refine xS.s1 rfl rfl ?_
          try dsimp only [Nat.reduceAdd]
          refine xS.s1 rfl rfl ?_
          try dsimp only [Nat.reduceAdd]
          refine xS.s1 rfl rfl ?_
          try dsimp only [Nat.reduceAdd]
          refine xS.br0 (c := .eq) (off := 7) (l := 3) rfl rfl (fun h70 => ?_) (fun h70 => ?_)
          · have g70 := xt_eq h70
            refine xS.s1 rfl rfl ?_
            try dsimp only [Nat.reduceAdd, xi_0]
            refine xS.s1 rfl rfl ?_
            try dsimp only [Nat.reduceAdd]
            refine xS.s1 rfl rfl ?_
            try dsimp only [Nat.reduceAdd]
            refine xS.s1 rfl rfl ?_
            try dsimp only [Nat.reduceAdd]
            refine xS.br0 (c := .eq) (off := 8) (l := 3) rfl rfl (fun h83 => ?_) (fun h83 => ?_)
            · have g83 := xt_eq h83
              refine xS.s1 rfl rfl ?_
              try dsimp only [Nat.reduceAdd]
              refine xS.s1 rfl rfl ?_
              try dsimp only [Nat.reduceAdd]
              refine xS.s1 rfl rfl ?_
              try dsimp only [Nat.reduceAdd, xi_m1]
              refine xS.s1 rfl rfl ?_
              try dsimp only [Nat.reduceAdd]
              refine xS.pick [0, 1, 2, 4, 5] rfl ?_
              have ih2 := ih () (by omega) trivial
              rw [xdec]
              rw [show xdn1 (fun i => !decide (xfb tx T (nI ((fun i => xN (g 75 (40 * p + i))) i)) ((xshw h (Lw s / 4) (Lw s % 4) (fun i => xN (g 75 (40 * p + i)))) i) = none)) m (j + 1) = xdn1 (fun i => !decide (xfb tx T (nI ((fun i => xN (g 75 (40 * p + i))) i)) ((xshw h (Lw s / 4) (Lw s % 4) (fun i => xN (g 75 (40 * p + i)))) i) = none)) m j from by rw [xdn1_s]; simp [xif0n g70], show xcd (fun i => !decide (xfb tx T (nI ((fun i => xN (g 75 (40 * p + i))) i)) ((xshw h (Lw s / 4) (Lw s % 4) (fun i => xN (g 75 (40 * p + i)))) i) = none)) m (j + 1) = xcd (fun i => !decide (xfb tx T (nI ((fun i => xN (g 75 (40 * p + i))) i)) ((xshw h (Lw s / 4) (Lw s % 4) (fun i => xN (g 75 (40 * p + i)))) i) = none)) m j from by rw [xcd_s]; simp [xif0n g70]] at ih2
              rw [show nI (xcd (fun i => !decide (xfb tx T (nI ((fun i => xN (g 75 (40 * p + i))) i)) ((xshw h (Lw s / 4) (Lw s % 4) (fun i => xN (g 75 (40 * p + i)))) i) = none)) m j) + 0 = nI (xcd (fun i => !decide (xfb tx T (nI ((fun i => xN (g 75 (40 * p + i))) i)) ((xshw h (Lw s / 4) (Lw s % 4) (fun i => xN (g 75 (40 * p + i)))) i) = none)) m j) from nI_add _ 0]
              exact ih2
            · have g83 := xf_eq h83
              refine xS.s1 rfl rfl ?_
              try dsimp only [Nat.reduceAdd]
              refine xS.s1 rfl rfl ?_
              try dsimp only [Nat.reduceAdd]
              refine xS.s1 rfl rfl ?_
              try dsimp only [Nat.reduceAdd]
              refine xS.s1 rfl rfl ?_
              try dsimp only [Nat.reduceAdd, xi_m1]
              refine xS.s1 rfl rfl ?_
              try dsimp only [Nat.reduceAdd]
              refine xS.pick [0, 1, 2, 4, 5] rfl ?_
              exact absurd g70 g83
          · have g70 := xf_eq h70
            refine xS.s1 rfl rfl ?_
            try dsimp only [Nat.reduceAdd, xi_1]
            refine xS.s1 rfl rfl ?_
            try dsimp only [Nat.reduceAdd]
            refine xS.s1 rfl rfl ?_
            try dsimp only [Nat.reduceAdd]
            refine xS.s1 rfl rfl ?_
            try dsimp only [Nat.reduceAdd]
            refine xS.s1 rfl rfl ?_
            try dsimp only [Nat.reduceAdd]
            refine xS.br0 (c := .eq) (off := 8) (l := 3) rfl rfl (fun h83 => ?_) (fun h83 => ?_)
            · have g83 := xt_eq h83
              refine xS.s1 rfl rfl ?_
              try dsimp only [Nat.reduceAdd]
              refine xS.s1 rfl rfl ?_
              try dsimp only [Nat.reduceAdd]
              refine xS.s1 rfl rfl ?_
              try dsimp only [Nat.reduceAdd, xi_m1]
              refine xS.s1 rfl rfl ?_
              try dsimp only [Nat.reduceAdd]
              refine xS.pick [0, 1, 2, 4, 5] rfl ?_
              exact absurd g83 g70
            · have g83 := xf_eq h83
              refine xS.s1 rfl rfl ?_
              try dsimp only [Nat.reduceAdd]
              refine xS.s1 rfl rfl ?_
              try dsimp only [Nat.reduceAdd]
              refine xS.s1 rfl rfl ?_
              try dsimp only [Nat.reduceAdd]
              refine xS.s1 rfl rfl ?_
              try dsimp only [Nat.reduceAdd, xi_m1]
              refine xS.s1 rfl rfl ?_
              try dsimp only [Nat.reduceAdd]
              refine xS.pick [0, 1, 2, 4, 5] rfl ?_
              have ih2 := ih () (by omega) trivial
              rw [xdec]
              rw [show xdn1 (fun i => !decide (xfb tx T (nI ((fun i => xN (g 75 (40 * p + i))) i)) ((xshw h (Lw s / 4) (Lw s % 4) (fun i => xN (g 75 (40 * p + i)))) i) = none)) m (j + 1) = some (m - j - 1) from by rw [xdn1_s]; simp [xif1n g70], show xcd (fun i => !decide (xfb tx T (nI ((fun i => xN (g 75 (40 * p + i))) i)) ((xshw h (Lw s / 4) (Lw s % 4) (fun i => xN (g 75 (40 * p + i)))) i) = none)) m (j + 1) = xcd (fun i => !decide (xfb tx T (nI ((fun i => xN (g 75 (40 * p + i))) i)) ((xshw h (Lw s / 4) (Lw s % 4) (fun i => xN (g 75 (40 * p + i)))) i) = none)) m j + 1 from by rw [xcd_s]; simp [xif1n g70]] at ih2
              rw [nI_1]
              exact ih2
      · have g30 := xf_ge h30
        exfalso; first | exact absurd g30 (by decide) | (simp (disch := omega) only [Int32.lt_iff_toInt_lt, Int32.le_iff_toInt_le, nI_toInt, Int32.reduceToInt] at g30 <;> omega)
    · have g12 := xf_ne h12
      exfalso; first | exact absurd g12 (by decide) | (simp (disch := omega) only [Int32.lt_iff_toInt_lt, Int32.le_iff_toInt_le, nI_toInt, Int32.reduceToInt] at g12 <;> omega)

set_option maxRecDepth 10000 in
theorem c_X12_alike_ok (hR : xRr g h tx G T Lw) (hk : s < G) (hp1 : p < 6) (hs : g 74 p = nI m) (hm : m ≤ 12) (hf : xfos (g 74 p) (fun i => g 75 (40 * p + i)) 12 = 0) (hx : ∀ i, i < m → xstp (g 75 (40 * p + i))) : xT (k + 4) 205 [.ref 73, .int (nI s), .int (nI p)] (xH b g l) (fun r M' => ∃ g0, xFr g g0 ∧ M' = xH b g0 l ∧ r = some (.int (nI (xcnt (fun i => decide ((xshw h (Lw s / 4) (Lw s % 4) (fun i => xN (g 75 (40 * p + i)))) i = g 75 (40 * p + i))) m)))) := by
  refine xT.of rfl (Nat.le_of_ble_eq_true rfl) ?_
  change xS _ _ 0 [(0, .ref 73), (1, .int (nI s)), (2, .int (nI p))] [] _ _
  refine xS.s1 rfl rfl ?_
  try dsimp only [Nat.reduceAdd]
  refine xS.s1 rfl rfl ?_
  try dsimp only [Nat.reduceAdd]
  -- 2 yX12_isGlass
  refine xS.cv rfl rfl rfl rfl rfl rfl ⟨by decide, rfl, rfl⟩ (c_X12_isGlass_in hR.1.1 hR.1.2 hk) (fun v M1 hv => ?_)
  rw [hv.1, hv.2]
  clear hv M1 v
  try dsimp only [Nat.reduceAdd, Option.toList, List.cons_append, List.nil_append, List.drop]
  refine xS.br0 (c := .eq) (off := 10) (l := 3) rfl rfl (fun h5 => ?_) (fun h5 => ?_)
  · have g5 := xt_eq h5
    exfalso; first | exact absurd g5 (by decide) | (simp (disch := omega) only [Int32.lt_iff_toInt_lt, Int32.le_iff_toInt_le, nI_toInt, Int32.reduceToInt] at g5 <;> omega)
  · have g5 := xf_eq h5
    refine xS.s1 rfl rfl ?_
    try dsimp only [Nat.reduceAdd]
    -- 9 yX12_isRow
    refine xS.callS rfl rfl rfl ⟨Nat.le_of_ble_eq_true rfl, rfl⟩ (c_X12_isRow_in hp1) (fun v M1 hv => ?_)
    rw [hv.1, hv.2]
    clear hv M1 v
    try dsimp only [Nat.reduceAdd, Option.toList, List.cons_append, List.nil_append, List.drop]
    refine xS.br0 (c := .ne) (off := 5) (l := 3) rfl rfl (fun h12 => ?_) (fun h12 => ?_)
    · have g12 := xt_ne h12
      refine xS.s1 rfl rfl ?_
      try dsimp only [Nat.reduceAdd]
      refine xS.s1 rfl rfl ?_
      try dsimp only [Nat.reduceAdd]
      refine xS.s1 rfl rfl ?_
      try dsimp only [Nat.reduceAdd, xj_12]
      refine xS.s1 rfl rfl ?_
      try dsimp only [Nat.reduceAdd]
      refine xS.gR rfl rfl rfl ⟨by decide, rfl⟩ rfl ?_
      try dsimp only [Nat.reduceAdd]
      -- 25 yX12_takeOut
      refine xS.cv rfl rfl rfl rfl rfl rfl ⟨by decide, rfl, rfl⟩ (c_X12_takeOut_0 xar_90 (by decide) hp1 hs (by omega) (by decide) hf) (fun v M1 hv => ?_)
      rw [hv.1, hv.2]
      clear hv M1 v
      have hR1 := xRr_F (xFr_gs (n := m) (S := (fun i => g 75 (40 * p + i))) (by decide : 89 ≤ 90)) hR
      have h90 : ∀ u, u < m → gset g 90 m (fun i => g 75 (40 * p + i)) 90 u = nI ((fun i => xN (g 75 (40 * p + i))) u) ∧ (fun i => xN (g 75 (40 * p + i))) u < 6 := fun u hu => by rw [gset_in hu]; exact ⟨(xstp_N (hx u hu)).2, (xstp_N (hx u hu)).1⟩
      have e74 : gset g 90 m (fun i => g 75 (40 * p + i)) 74 p = nI m := by rw [gset_na (by decide)]; exact hs
      try dsimp only [Nat.reduceAdd, Option.toList, List.cons_append, List.nil_append, List.drop]
      refine xS.s1 rfl rfl ?_
      try dsimp only [Nat.reduceAdd]
      refine xS.s1 rfl rfl ?_
      try dsimp only [Nat.reduceAdd]
      refine xS.br0 (c := .ge) (off := 5) (l := 3) rfl rfl (fun h30 => ?_) (fun h30 => ?_)
      · have g30 := xt_ge h30
        refine xS.s1 rfl rfl ?_
        try dsimp only [Nat.reduceAdd, xi_0]
        refine xS.s1 rfl rfl ?_
        try dsimp only [Nat.reduceAdd]
        refine xS.s1 rfl rfl ?_
        try dsimp only [Nat.reduceAdd, xi_0]
        refine xS.s1 rfl rfl ?_
        try dsimp only [Nat.reduceAdd]
        refine xS.pick [0, 1, 3, 4, 5] rfl ?_
        refine xS.loop (σ := Unit) (m) (fun j S => [(5, .int (nI j)), (4, .int (nI (xcnt (fun i => decide ((xshw h (Lw s / 4) (Lw s % 4) (fun i => xN (g 75 (40 * p + i)))) i = g 75 (40 * p + i))) j))), (0, .ref 73), (1, .int (nI s)), (2, .int (nI p))]) (fun _ _ => xH b (gset g 90 m (fun i => g 75 (40 * p + i))) l) (fun _ _ => True) (()) (rfl) (rfl) (trivial) ?_
        intro j S hj hI ih
        try dsimp only
        refine xS.s1 rfl rfl ?_
        try dsimp only [Nat.reduceAdd]
        refine xS.s1 rfl rfl ?_
        try dsimp only [Nat.reduceAdd]
        refine xS.gR rfl rfl rfl ⟨by decide, rfl⟩ rfl ?_
        try dsimp only [Nat.reduceAdd]
        refine xS.s1 rfl rfl ?_
        try dsimp only [Nat.reduceAdd]
        refine xS.ia rfl xar_74 (by omega) ?_
        try dsimp only [Nat.reduceAdd]
        refine xS.br (c := .ge) (off := 40) (l := 3) rfl rfl (fun h49 => ?_) (fun h49 => ?_)
        · have g49 := xt_ge h49
          rw [e74] at g49
          have e := xnle g49 (by omega) (by omega)
          have e2 : m = j := by omega
          subst e2
          refine xS.s1 rfl rfl ?_
          try dsimp only [Nat.reduceAdd]
          refine xS.ret rfl rfl rfl (fun _ _ => rfl) ?_
          exact ⟨_, xFr_gs (by decide), rfl, rfl⟩
        · have g49 := xf_ge h49
          rw [e74] at g49
          have hlt := xnlt g49 (by omega) (by omega)
          refine xS.s1 rfl rfl ?_
          try dsimp only [Nat.reduceAdd]
          refine xS.s1 rfl rfl ?_
          try dsimp only [Nat.reduceAdd]
          refine xS.s1 rfl rfl ?_
          try dsimp only [Nat.reduceAdd]
          refine xS.s1 rfl rfl ?_
          try dsimp only [Nat.reduceAdd]
          refine xS.gR rfl rfl rfl ⟨by decide, rfl⟩ rfl ?_
          try dsimp only [Nat.reduceAdd]
          refine xS.s1 rfl rfl ?_
          try dsimp only [Nat.reduceAdd]
          -- 62 yX12_showsOf
          refine xS.cv rfl rfl rfl rfl rfl rfl ⟨by decide, rfl, rfl⟩ (c_X12_showsOf (f := (fun i => xN (g 75 (40 * p + i)))) xar_90 hR1 (by omega) hk (fun u hu => h90 u (by omega))) (fun v M1 hv => ?_)
          rw [hv.1, hv.2]
          clear hv M1 v
          try dsimp only [Nat.reduceAdd, Option.toList, List.cons_append, List.nil_append, List.drop]
          refine xS.s1 rfl rfl ?_
          try dsimp only [Nat.reduceAdd]
          refine xS.gR rfl rfl rfl ⟨by decide, rfl⟩ rfl ?_
          try dsimp only [Nat.reduceAdd]
          refine xS.s1 rfl rfl ?_
          try dsimp only [Nat.reduceAdd]
          refine xS.ia rfl xar_90 (by omega) ?_
          try dsimp only [Nat.reduceAdd]
          rw [gset_in hlt]
          refine xS.br (c := .ne) (off := 7) (l := 3) rfl rfl (fun h72 => ?_) (fun h72 => ?_)
          · have g72 := xt_ne h72
            refine xS.s1 rfl rfl ?_
            try dsimp only [Nat.reduceAdd, xi_0]
            refine xS.s1 rfl rfl ?_
            try dsimp only [Nat.reduceAdd]
            refine xS.s1 rfl rfl ?_
            try dsimp only [Nat.reduceAdd]
            refine xS.s1 rfl rfl ?_
            try dsimp only [Nat.reduceAdd, xi_1]
            rw [nI_1]
            refine xS.s1 rfl rfl ?_
            try dsimp only [Nat.reduceAdd]
            refine xS.pick [0, 1, 2, 3, 4] rfl ?_
            rw [show nI (xcnt (fun i => decide ((xshw h (Lw s / 4) (Lw s % 4) (fun i => xN (g 75 (40 * p + i)))) i = g 75 (40 * p + i))) j) + 0 = nI (xcnt (fun i => decide ((xshw h (Lw s / 4) (Lw s % 4) (fun i => xN (g 75 (40 * p + i)))) i = g 75 (40 * p + i))) j) from nI_add _ 0]
            have ih2 := ih () (by omega) trivial
            first | (rw [show xcnt (fun i => decide ((xshw h (Lw s / 4) (Lw s % 4) (fun i => xN (g 75 (40 * p + i)))) i = g 75 (40 * p + i))) (j + 1) = xcnt (fun i => decide ((xshw h (Lw s / 4) (Lw s % 4) (fun i => xN (g 75 (40 * p + i)))) i = g 75 (40 * p + i))) j from by simp [xcnt_s, g72]] at ih2; exact ih2) | (rw [show xcnt (fun i => decide ((xshw h (Lw s / 4) (Lw s % 4) (fun i => xN (g 75 (40 * p + i)))) i = g 75 (40 * p + i))) (j + 1) = xcnt (fun i => decide ((xshw h (Lw s / 4) (Lw s % 4) (fun i => xN (g 75 (40 * p + i)))) i = g 75 (40 * p + i))) j + 1 from by simp [xcnt_s, g72]] at ih2; exact ih2)
          · have g72 := xf_ne h72
            refine xS.s1 rfl rfl ?_
            try dsimp only [Nat.reduceAdd, xi_1]
            refine xS.s1 rfl rfl ?_
            try dsimp only [Nat.reduceAdd]
            refine xS.s1 rfl rfl ?_
            try dsimp only [Nat.reduceAdd]
            refine xS.s1 rfl rfl ?_
            try dsimp only [Nat.reduceAdd]
            refine xS.s1 rfl rfl ?_
            try dsimp only [Nat.reduceAdd, xi_1]
            rw [nI_1]
            refine xS.s1 rfl rfl ?_
            try dsimp only [Nat.reduceAdd]
            refine xS.pick [0, 1, 2, 3, 4] rfl ?_
            rw [nI_1]
            have ih2 := ih () (by omega) trivial
            first | (rw [show xcnt (fun i => decide ((xshw h (Lw s / 4) (Lw s % 4) (fun i => xN (g 75 (40 * p + i)))) i = g 75 (40 * p + i))) (j + 1) = xcnt (fun i => decide ((xshw h (Lw s / 4) (Lw s % 4) (fun i => xN (g 75 (40 * p + i)))) i = g 75 (40 * p + i))) j from by simp [xcnt_s, g72]] at ih2; exact ih2) | (rw [show xcnt (fun i => decide ((xshw h (Lw s / 4) (Lw s % 4) (fun i => xN (g 75 (40 * p + i)))) i = g 75 (40 * p + i))) (j + 1) = xcnt (fun i => decide ((xshw h (Lw s / 4) (Lw s % 4) (fun i => xN (g 75 (40 * p + i)))) i = g 75 (40 * p + i))) j + 1 from by simp [xcnt_s, g72]] at ih2; exact ih2)
      · have g30 := xf_ge h30
        exfalso; first | exact absurd g30 (by decide) | (simp (disch := omega) only [Int32.lt_iff_toInt_lt, Int32.le_iff_toInt_le, nI_toInt, Int32.reduceToInt] at g30 <;> omega)
    · have g12 := xf_ne h12
      exfalso; first | exact absurd g12 (by decide) | (simp (disch := omega) only [Int32.lt_iff_toInt_lt, Int32.le_iff_toInt_le, nI_toInt, Int32.reduceToInt] at g12 <;> omega)

set_option maxRecDepth 10000 in
theorem c_X12_fit_ok (hp1 : p < 6) (hs1 : s < 6) (hs : g 74 p = nI m) (hs2 : g 74 s = nI m) (hm : m ≤ 12) (hf : xfos (g 74 p) (fun i => g 75 (40 * p + i)) 12 = 0) (hf2 : xfos (g 74 s) (fun i => g 75 (40 * s + i)) 12 = 0) (hx : ∀ i, i < m → xstp (g 75 (40 * p + i))) (hx2 : ∀ i, i < m → xstp (g 75 (40 * s + i))) : xT (k + 5) 206 [.ref 73, .int (nI p), .int (nI s)] (xH b g l) (fun r M' => ∃ g0, xFr g g0 ∧ M' = xH b (up g0 73 20 (xfI (xfst (fun i => !decide (g 75 (40 * p + i) = g 75 (40 * s + i))) m))) l ∧ r = some (.int (nI (xcnt (fun i => !decide (g 75 (40 * p + i) = g 75 (40 * s + i))) m)))) := by
  refine xT.of rfl (Nat.le_of_ble_eq_true rfl) ?_
  change xS _ _ 0 [(0, .ref 73), (1, .int (nI p)), (2, .int (nI s))] [] _ _
  refine xS.s1 rfl rfl ?_
  try dsimp only [Nat.reduceAdd]
  -- 1 yX12_isRow
  refine xS.callS rfl rfl rfl ⟨Nat.le_of_ble_eq_true rfl, rfl⟩ (c_X12_isRow_in hp1) (fun v M1 hv => ?_)
  rw [hv.1, hv.2]
  clear hv M1 v
  try dsimp only [Nat.reduceAdd, Option.toList, List.cons_append, List.nil_append, List.drop]
  refine xS.br0 (c := .eq) (off := 10) (l := 3) rfl rfl (fun h4 => ?_) (fun h4 => ?_)
  · have g4 := xt_eq h4
    exfalso; first | exact absurd g4 (by decide) | (simp (disch := omega) only [Int32.lt_iff_toInt_lt, Int32.le_iff_toInt_le, nI_toInt, Int32.reduceToInt] at g4 <;> omega)
  · have g4 := xf_eq h4
    refine xS.s1 rfl rfl ?_
    try dsimp only [Nat.reduceAdd]
    -- 8 yX12_isRow
    refine xS.callS rfl rfl rfl ⟨Nat.le_of_ble_eq_true rfl, rfl⟩ (c_X12_isRow_in hs1) (fun v M1 hv => ?_)
    rw [hv.1, hv.2]
    clear hv M1 v
    try dsimp only [Nat.reduceAdd, Option.toList, List.cons_append, List.nil_append, List.drop]
    refine xS.br0 (c := .ne) (off := 5) (l := 3) rfl rfl (fun h11 => ?_) (fun h11 => ?_)
    · have g11 := xt_ne h11
      refine xS.s1 rfl rfl ?_
      try dsimp only [Nat.reduceAdd]
      refine xS.s1 rfl rfl ?_
      try dsimp only [Nat.reduceAdd]
      refine xS.s1 rfl rfl ?_
      try dsimp only [Nat.reduceAdd]
      -- 19 yX12_takeTwo
      refine xS.cv rfl rfl rfl rfl rfl rfl ⟨by decide, rfl, rfl⟩ (c_X12_takeTwo_0 hp1 hs (by omega) hs1 hs2 hf hf2) (fun v M1 hv => ?_)
      rw [hv.1, hv.2]
      clear hv M1 v
      have hF1 : xFr g (gset (gset g 90 m (fun i => g 75 (40 * p + i))) 91 m (fun i => g 75 (40 * s + i))) := xFr_t (xFr_gs (by decide)) (xFr_gs (by decide))
      have h90 : ∀ u, u < m → (gset (gset g 90 m (fun i => g 75 (40 * p + i))) 91 m (fun i => g 75 (40 * s + i))) 90 u = nI ((fun i => xN (g 75 (40 * p + i))) u) ∧ (fun i => xN (g 75 (40 * p + i))) u < 6 := fun u hu => by rw [gset_na (by decide), gset_in hu]; exact ⟨(xstp_N (hx u hu)).2, (xstp_N (hx u hu)).1⟩
      have h91 : ∀ u, u < m → (gset (gset g 90 m (fun i => g 75 (40 * p + i))) 91 m (fun i => g 75 (40 * s + i))) 91 u = g 75 (40 * s + u) := fun u hu => by rw [gset_in hu]
      have e74 : (gset (gset g 90 m (fun i => g 75 (40 * p + i))) 91 m (fun i => g 75 (40 * s + i))) 74 p = nI m := by rw [gset_na (by decide), gset_na (by decide)]; exact hs
      try dsimp only [Nat.reduceAdd, Option.toList, List.cons_append, List.nil_append, List.drop]
      refine xS.s1 rfl rfl ?_
      try dsimp only [Nat.reduceAdd]
      refine xS.s1 rfl rfl ?_
      try dsimp only [Nat.reduceAdd]
      refine xS.br0 (c := .ge) (off := 5) (l := 3) rfl rfl (fun h24 => ?_) (fun h24 => ?_)
      · have g24 := xt_ge h24
        refine xS.s1 rfl rfl ?_
        try dsimp only [Nat.reduceAdd, xj_m9]
        refine xS.s1 rfl rfl ?_
        try dsimp only [Nat.reduceAdd]
        refine xS.s1 rfl rfl ?_
        try dsimp only [Nat.reduceAdd, xi_0]
        refine xS.s1 rfl rfl ?_
        try dsimp only [Nat.reduceAdd]
        refine xS.s1 rfl rfl ?_
        try dsimp only [Nat.reduceAdd]
        refine xS.gR rfl rfl rfl ⟨by decide, rfl⟩ rfl ?_
        try dsimp only [Nat.reduceAdd]
        refine xS.s1 rfl rfl ?_
        try dsimp only [Nat.reduceAdd]
        refine xS.ia rfl xar_74 (by omega) ?_
        try dsimp only [Nat.reduceAdd]
        rw [e74]
        refine xS.s1 rfl rfl ?_
        try dsimp only [Nat.reduceAdd, xi_1]
        refine xS.s1 rfl rfl ?_
        try dsimp only [Nat.reduceAdd]
        refine xS.s1 rfl rfl ?_
        try dsimp only [Nat.reduceAdd]
        refine xS.pick [0, 2, 1, 4] rfl ?_
        refine xS.loop (σ := Unit) (m) (fun j S => [(6, .int (nI (m - j) - 1)), (4, .int (xfI (xdn1 (fun i => !decide (g 75 (40 * p + i) = g 75 (40 * s + i))) m j))), (5, .int (nI (xcd (fun i => !decide (g 75 (40 * p + i) = g 75 (40 * s + i))) m j))), (0, .ref 73)]) (fun _ _ => xH b (gset (gset g 90 m (fun i => g 75 (40 * p + i))) 91 m (fun i => g 75 (40 * s + i))) l) (fun _ _ => True) (()) (rfl) (rfl) (trivial) ?_
        intro j S hj hI ih
        try dsimp only
        refine xS.s1 rfl rfl ?_
        try dsimp only [Nat.reduceAdd]
        refine xS.br0 (c := .lt) (off := 62) (l := 3) rfl rfl (fun h48 => ?_) (fun h48 => ?_)
        · have g48 := xt_lt h48
          rw [xdown0 hj (by omega)] at g48
          subst g48
          refine xS.s1 rfl rfl ?_
          try dsimp only [Nat.reduceAdd]
          refine xS.s1 rfl rfl ?_
          try dsimp only [Nat.reduceAdd]
          refine xS.pI rfl rfl rfl ⟨⟨by decide, rfl⟩, rfl, by decide, by decide⟩ rfl ?_
          try dsimp only [Nat.reduceAdd]
          refine xS.s1 rfl rfl ?_
          try dsimp only [Nat.reduceAdd]
          refine xS.ret rfl rfl rfl (fun _ _ => rfl) ?_
          rw [xdn1_m, xcd_m]
          exact ⟨_, hF1, rfl, rfl⟩
        · have g48 := xf_lt h48
          have hlt : j < m := by
            have := (not_congr (xdown0 hj (by omega))).mp (Int32.not_lt.mpr g48)
            omega
          rw [xdown hlt]
          refine xS.s1 rfl rfl ?_
          try dsimp only [Nat.reduceAdd]
          refine xS.s1 rfl rfl ?_
          try dsimp only [Nat.reduceAdd]
          refine xS.gR rfl rfl rfl ⟨by decide, rfl⟩ rfl ?_
          try dsimp only [Nat.reduceAdd]
          refine xS.s1 rfl rfl ?_
          try dsimp only [Nat.reduceAdd]
          refine xS.ia rfl xar_90 (by omega) ?_
          try dsimp only [Nat.reduceAdd]
          rw [gset_na (by decide), gset_in (by omega)]
          refine xS.s1 rfl rfl ?_
          try dsimp only [Nat.reduceAdd]
          refine xS.gR rfl rfl rfl ⟨by decide, rfl⟩ rfl ?_
          try dsimp only [Nat.reduceAdd]
          refine xS.s1 rfl rfl ?_
          try dsimp only [Nat.reduceAdd]
          refine xS.ia rfl xar_91 (by omega) ?_
          try dsimp only [Nat.reduceAdd]
          rw [gset_in (by omega)]
          refine xS.br (c := .ne) (off := 7) (l := 3) rfl rfl (fun h67 => ?_) (fun h67 => ?_)
          · have g67 := xt_ne h67
            refine xS.s1 rfl rfl ?_
            try dsimp only [Nat.reduceAdd, xi_1]
            refine xS.s1 rfl rfl ?_
            try dsimp only [Nat.reduceAdd]
            refine xS.s1 rfl rfl ?_
            try dsimp only [Nat.reduceAdd]
            refine xS.s1 rfl rfl ?_
            try dsimp only [Nat.reduceAdd]
            refine xS.gR rfl rfl rfl ⟨by decide, rfl⟩ rfl ?_
            try dsimp only [Nat.reduceAdd]
            refine xS.s1 rfl rfl ?_
            try dsimp only [Nat.reduceAdd]
            refine xS.ia rfl xar_90 (by omega) ?_
            try dsimp only [Nat.reduceAdd]
            rw [gset_na (by decide), gset_in (by omega)]
            refine xS.s1 rfl rfl ?_
            try dsimp only [Nat.reduceAdd]
            refine xS.gR rfl rfl rfl ⟨by decide, rfl⟩ rfl ?_
            try dsimp only [Nat.reduceAdd]
            refine xS.s1 rfl rfl ?_
            try dsimp only [Nat.reduceAdd]
            refine xS.ia rfl xar_91 (by omega) ?_
            try dsimp only [Nat.reduceAdd]
            rw [gset_in (by omega)]
            refine xS.br (c := .ne) (off := 8) (l := 3) rfl rfl (fun h92 => ?_) (fun h92 => ?_)
            · have g92 := xt_ne h92
              refine xS.s1 rfl rfl ?_
              try dsimp only [Nat.reduceAdd]
              refine xS.s1 rfl rfl ?_
              try dsimp only [Nat.reduceAdd]
              refine xS.s1 rfl rfl ?_
              try dsimp only [Nat.reduceAdd, xi_m1]
              refine xS.s1 rfl rfl ?_
              try dsimp only [Nat.reduceAdd]
              refine xS.pick [0, 1, 2, 3] rfl ?_
              have ih2 := ih () (by omega) trivial
              rw [xdec]
              rw [show xdn1 (fun i => !decide (g 75 (40 * p + i) = g 75 (40 * s + i))) m (j + 1) = some (m - j - 1) from by rw [xdn1_s]; simp [g67], show xcd (fun i => !decide (g 75 (40 * p + i) = g 75 (40 * s + i))) m (j + 1) = xcd (fun i => !decide (g 75 (40 * p + i) = g 75 (40 * s + i))) m j + 1 from by rw [xcd_s]; simp [g67]] at ih2
              rw [nI_1]
              exact ih2
            · have g92 := xf_ne h92
              refine xS.s1 rfl rfl ?_
              try dsimp only [Nat.reduceAdd]
              refine xS.s1 rfl rfl ?_
              try dsimp only [Nat.reduceAdd]
              refine xS.s1 rfl rfl ?_
              try dsimp only [Nat.reduceAdd]
              refine xS.s1 rfl rfl ?_
              try dsimp only [Nat.reduceAdd, xi_m1]
              refine xS.s1 rfl rfl ?_
              try dsimp only [Nat.reduceAdd]
              refine xS.pick [0, 1, 2, 3] rfl ?_
              exact absurd g92 g67
          · have g67 := xf_ne h67
            refine xS.s1 rfl rfl ?_
            try dsimp only [Nat.reduceAdd, xi_0]
            refine xS.s1 rfl rfl ?_
            try dsimp only [Nat.reduceAdd]
            refine xS.s1 rfl rfl ?_
            try dsimp only [Nat.reduceAdd]
            refine xS.s1 rfl rfl ?_
            try dsimp only [Nat.reduceAdd]
            refine xS.s1 rfl rfl ?_
            try dsimp only [Nat.reduceAdd]
            refine xS.gR rfl rfl rfl ⟨by decide, rfl⟩ rfl ?_
            try dsimp only [Nat.reduceAdd]
            refine xS.s1 rfl rfl ?_
            try dsimp only [Nat.reduceAdd]
            refine xS.ia rfl xar_90 (by omega) ?_
            try dsimp only [Nat.reduceAdd]
            rw [gset_na (by decide), gset_in (by omega)]
            refine xS.s1 rfl rfl ?_
            try dsimp only [Nat.reduceAdd]
            refine xS.gR rfl rfl rfl ⟨by decide, rfl⟩ rfl ?_
            try dsimp only [Nat.reduceAdd]
            refine xS.s1 rfl rfl ?_
            try dsimp only [Nat.reduceAdd]
            refine xS.ia rfl xar_91 (by omega) ?_
            try dsimp only [Nat.reduceAdd]
            rw [gset_in (by omega)]
            refine xS.br (c := .ne) (off := 8) (l := 3) rfl rfl (fun h92 => ?_) (fun h92 => ?_)
            · have g92 := xt_ne h92
              refine xS.s1 rfl rfl ?_
              try dsimp only [Nat.reduceAdd]
              refine xS.s1 rfl rfl ?_
              try dsimp only [Nat.reduceAdd]
              refine xS.s1 rfl rfl ?_
              try dsimp only [Nat.reduceAdd, xi_m1]
              refine xS.s1 rfl rfl ?_
              try dsimp only [Nat.reduceAdd]
              refine xS.pick [0, 1, 2, 3] rfl ?_
              exact absurd g67 g92
            · have g92 := xf_ne h92
              refine xS.s1 rfl rfl ?_
              try dsimp only [Nat.reduceAdd]
              refine xS.s1 rfl rfl ?_
              try dsimp only [Nat.reduceAdd]
              refine xS.s1 rfl rfl ?_
              try dsimp only [Nat.reduceAdd]
              refine xS.s1 rfl rfl ?_
              try dsimp only [Nat.reduceAdd, xi_m1]
              refine xS.s1 rfl rfl ?_
              try dsimp only [Nat.reduceAdd]
              refine xS.pick [0, 1, 2, 3] rfl ?_
              have ih2 := ih () (by omega) trivial
              rw [xdec]
              rw [show xdn1 (fun i => !decide (g 75 (40 * p + i) = g 75 (40 * s + i))) m (j + 1) = xdn1 (fun i => !decide (g 75 (40 * p + i) = g 75 (40 * s + i))) m j from by rw [xdn1_s]; simp [g67], show xcd (fun i => !decide (g 75 (40 * p + i) = g 75 (40 * s + i))) m (j + 1) = xcd (fun i => !decide (g 75 (40 * p + i) = g 75 (40 * s + i))) m j from by rw [xcd_s]; simp [g67]] at ih2
              rw [show nI (xcd (fun i => !decide (g 75 (40 * p + i) = g 75 (40 * s + i))) m j) + 0 = nI (xcd (fun i => !decide (g 75 (40 * p + i) = g 75 (40 * s + i))) m j) from nI_add _ 0]
              exact ih2
      · have g24 := xf_ge h24
        exfalso; first | exact absurd g24 (by decide) | (simp (disch := omega) only [Int32.lt_iff_toInt_lt, Int32.le_iff_toInt_le, nI_toInt, Int32.reduceToInt] at g24 <;> omega)
    · have g11 := xf_ne h11
      exfalso; first | exact absurd g11 (by decide) | (simp (disch := omega) only [Int32.lt_iff_toInt_lt, Int32.le_iff_toInt_le, nI_toInt, Int32.reduceToInt] at g11 <;> omega)

set_option maxRecDepth 10000 in
theorem c_X12_ways_ok (hR : xRr g h tx G T Lw) (hk : s < G) (hp1 : p < 6) (hs : g 74 p = nI m) (hm : m ≤ 6) (hf : xfos (g 74 p) (fun i => g 75 (40 * p + i)) 6 = 0) (hx : ∀ i, i < m → xstp (g 75 (40 * p + i))) : xT (k + 5) 210 [.ref 73, .int (nI s), .int (nI p)] (xH b g l) (fun r M' => ∃ g0, xFr g g0 ∧ M' = xH b g0 (up (up l 73 21 (lN (xcnt (fun c => decide (xfst (fun i => !decide (xshw h (Lw s / 4) (Lw s % 4) (xd6 m c) i = g 75 (40 * p + i))) m = none)) (6 ^ m) / 1))) 73 22 1) ∧ r = some (.int 1)) := by
  refine xT.of rfl (Nat.le_of_ble_eq_true rfl) ?_
  change xS _ _ 0 [(0, .ref 73), (1, .int (nI s)), (2, .int (nI p))] [] _ _
  refine xS.s1 rfl rfl ?_
  try dsimp only [Nat.reduceAdd]
  refine xS.s1 rfl rfl ?_
  try dsimp only [Nat.reduceAdd]
  -- 2 yX12_isGlass
  refine xS.cv rfl rfl rfl rfl rfl rfl ⟨by decide, rfl, rfl⟩ (c_X12_isGlass_in hR.1.1 hR.1.2 hk) (fun v M1 hv => ?_)
  rw [hv.1, hv.2]
  clear hv M1 v
  try dsimp only [Nat.reduceAdd, Option.toList, List.cons_append, List.nil_append, List.drop]
  refine xS.br0 (c := .eq) (off := 10) (l := 3) rfl rfl (fun h5 => ?_) (fun h5 => ?_)
  · have g5 := xt_eq h5
    exfalso; first | exact absurd g5 (by decide) | (simp (disch := omega) only [Int32.lt_iff_toInt_lt, Int32.le_iff_toInt_le, nI_toInt, Int32.reduceToInt] at g5 <;> omega)
  · have g5 := xf_eq h5
    refine xS.s1 rfl rfl ?_
    try dsimp only [Nat.reduceAdd]
    -- 9 yX12_isRow
    refine xS.callS rfl rfl rfl ⟨Nat.le_of_ble_eq_true rfl, rfl⟩ (c_X12_isRow_in hp1) (fun v M1 hv => ?_)
    rw [hv.1, hv.2]
    clear hv M1 v
    try dsimp only [Nat.reduceAdd, Option.toList, List.cons_append, List.nil_append, List.drop]
    refine xS.br0 (c := .ne) (off := 5) (l := 3) rfl rfl (fun h12 => ?_) (fun h12 => ?_)
    · have g12 := xt_ne h12
      refine xS.s1 rfl rfl ?_
      try dsimp only [Nat.reduceAdd]
      refine xS.s1 rfl rfl ?_
      try dsimp only [Nat.reduceAdd]
      refine xS.s1 rfl rfl ?_
      try dsimp only [Nat.reduceAdd, xj_6]
      refine xS.s1 rfl rfl ?_
      try dsimp only [Nat.reduceAdd]
      refine xS.gR rfl rfl rfl ⟨by decide, rfl⟩ rfl ?_
      try dsimp only [Nat.reduceAdd]
      -- 25 yX12_takeOut
      refine xS.cv rfl rfl rfl rfl rfl rfl ⟨by decide, rfl, rfl⟩ (c_X12_takeOut_0 xar_91 (by decide) hp1 hs (by omega) (by decide) hf) (fun v M1 hv => ?_)
      rw [hv.1, hv.2]
      clear hv M1 v
      have hR1 := xRr_F (xFr_gs (n := m) (S := (fun i => g 75 (40 * p + i))) (by decide : 89 ≤ 91)) hR
      have h90 : ∀ u, u < m → gset g 91 m (fun i => g 75 (40 * p + i)) 91 u = nI ((fun i => xN (g 75 (40 * p + i))) u) ∧ (fun i => xN (g 75 (40 * p + i))) u < 6 := fun u hu => by rw [gset_in hu]; exact ⟨(xstp_N (hx u hu)).2, (xstp_N (hx u hu)).1⟩
      have e74 : gset g 91 m (fun i => g 75 (40 * p + i)) 74 p = nI m := by rw [gset_na (by decide)]; exact hs
      try dsimp only [Nat.reduceAdd, Option.toList, List.cons_append, List.nil_append, List.drop]
      refine xS.s1 rfl rfl ?_
      try dsimp only [Nat.reduceAdd]
      refine xS.s1 rfl rfl ?_
      try dsimp only [Nat.reduceAdd]
      refine xS.br0 (c := .ge) (off := 5) (l := 3) rfl rfl (fun h30 => ?_) (fun h30 => ?_)
      · have g30 := xt_ge h30
        refine xS.s1 rfl rfl ?_
        try dsimp only [Nat.reduceAdd]
        refine xS.gR rfl rfl rfl ⟨by decide, rfl⟩ rfl ?_
        try dsimp only [Nat.reduceAdd]
        refine xS.s1 rfl rfl ?_
        try dsimp only [Nat.reduceAdd]
        refine xS.ia rfl xar_74 (by omega) ?_
        try dsimp only [Nat.reduceAdd]
        rw [e74]
        refine xS.s1 rfl rfl ?_
        try dsimp only [Nat.reduceAdd]
        refine xS.s1 rfl rfl ?_
        try dsimp only [Nat.reduceAdd, xi_0]
        refine xS.s1 rfl rfl ?_
        try dsimp only [Nat.reduceAdd]
        refine xS.s1 rfl rfl ?_
        try dsimp only [Nat.reduceAdd, xi_0]
        refine xS.s1 rfl rfl ?_
        try dsimp only [Nat.reduceAdd]
        refine xS.pick [0, 1, 4, 5, 2] rfl ?_
        refine xS.loop (σ := Nat → Nat → Int32) (6 ^ m) (fun j S => [(6, .int (nI j)), (5, .int (nI (xcnt (fun c => decide (xfst (fun i => !decide (xshw h (Lw s / 4) (Lw s % 4) (xd6 m c) i = g 75 (40 * p + i))) m = none)) j))), (0, .ref 73), (1, .int (nI s)), (4, .int (nI m))]) (fun _ S => xH b S l) (fun _ S => ∀ a, a ≠ 90 → S a = (gset g 91 m (fun i => g 75 (40 * p + i))) a) ((gset g 91 m (fun i => g 75 (40 * p + i)))) (rfl) (rfl) (fun _ _ => rfl) ?_
        intro j S hj hI ih
        try dsimp only
        have hp6 := pow6 hm
        have hRj : xRr S h tx G T Lw := xRr_fr (by rw [hI 73 (by decide)]) (by rw [hI 73 (by decide)]) (hI 81 (by decide)) (hI 82 (by decide)) (hI 83 (by decide)) hR1
        refine xS.s1 rfl rfl ?_
        try dsimp only [Nat.reduceAdd]
        refine xS.s1 rfl rfl ?_
        try dsimp only [Nat.reduceAdd]
        -- 53 yX12_rowsOf
        refine xS.callS rfl rfl rfl ⟨Nat.le_of_ble_eq_true rfl, rfl⟩ (c_X12_rowsOf hm) (fun v M1 hv => ?_)
        rw [hv.1, hv.2]
        clear hv M1 v
        try dsimp only [Nat.reduceAdd, Option.toList, List.cons_append, List.nil_append, List.drop]
        refine xS.br (c := .ge) (off := 37) (l := 3) rfl rfl (fun h56 => ?_) (fun h56 => ?_)
        · have g56 := xt_ge h56
          have e := xnle (b := 6 ^ m) g56 (by omega) (by omega)
          have e2 : 6 ^ m = j := by omega
          rw [← e2]
          have hcl := xcnt_le (fun c => decide (xfst (fun i => !decide (xshw h (Lw s / 4) (Lw s % 4) (xd6 m c) i = g 75 (40 * p + i))) m = none)) (6 ^ m)
          refine xS.s1 rfl rfl ?_
          try dsimp only [Nat.reduceAdd]
          refine xS.s1 rfl rfl ?_
          try dsimp only [Nat.reduceAdd]
          refine xS.s1 rfl rfl ?_
          try dsimp only [Nat.reduceAdd]
          rw [nI_l (by omega)]
          refine xS.s1 rfl rfl ?_
          try dsimp only [Nat.reduceAdd]
          -- 98 yX12_tellParts
          refine xS.cv rfl rfl rfl rfl rfl rfl ⟨by decide, rfl, rfl⟩ (c_X12_tellParts (p := xcnt (fun c => decide (xfst (fun i => !decide (xshw h (Lw s / 4) (Lw s % 4) (xd6 m c) i = g 75 (40 * p + i))) m = none)) (6 ^ m)) (d := 1) (by omega) (by omega) (by omega)) (fun v M1 hv => ?_)
          rw [hv.1, hv.2, Nat.gcd_one_right]
          clear hv M1 v
          try dsimp only [Nat.reduceAdd, Option.toList, List.cons_append, List.nil_append, List.drop]
          refine xS.s1 rfl rfl ?_
          try dsimp only [Nat.reduceAdd, xi_1]
          refine xS.ret rfl rfl rfl (fun _ _ => rfl) ?_
          exact ⟨S, ⟨fun a h1 h2 => by rw [hI a (by omega), gset_na (by omega)], fun i _ => by rw [hI 73 (by decide), gset_na (by decide)]⟩, rfl, rfl⟩
        · have g56 := xf_ge h56
          have hlt := xnlt (b := 6 ^ m) g56 (by omega) (by omega)
          refine xS.s1 rfl rfl ?_
          try dsimp only [Nat.reduceAdd]
          refine xS.s1 rfl rfl ?_
          try dsimp only [Nat.reduceAdd]
          refine xS.s1 rfl rfl ?_
          try dsimp only [Nat.reduceAdd]
          -- 64 yX12_layDoings
          refine xS.cv rfl rfl rfl rfl rfl rfl ⟨by decide, rfl, rfl⟩ (c_X12_layDoings hm (by omega)) (fun v M1 hv => ?_)
          rw [hv.1, hv.2]
          clear hv M1 v
          have hRg : xRr (glay S m j m) h tx G T Lw := xRr_fr (by rw [glay_na (by decide)]) (by rw [glay_na (by decide)]) (glay_na (by decide)) (glay_na (by decide)) (glay_na (by decide)) hRj
          try dsimp only [Nat.reduceAdd, Option.toList, List.cons_append, List.nil_append, List.drop]
          refine xS.s1 rfl rfl ?_
          try dsimp only [Nat.reduceAdd]
          refine xS.s1 rfl rfl ?_
          try dsimp only [Nat.reduceAdd]
          refine xS.s1 rfl rfl ?_
          try dsimp only [Nat.reduceAdd]
          refine xS.s1 rfl rfl ?_
          try dsimp only [Nat.reduceAdd]
          -- 73 yX12_shows
          refine xS.cv rfl rfl rfl rfl rfl rfl ⟨by decide, rfl, rfl⟩ (c_X12_shows (f := xd6 m j) (O := fun i => g 75 (40 * p + i)) hRg hk hm (fun u hu => ⟨glay_in hu, xd6_lt _ _ _⟩) (fun u hu => by rw [glay_na (by decide), hI 91 (by decide), gset_in hu])) (fun v M1 hv => ?_)
          rw [hv.1, hv.2]
          clear hv M1 v
          try dsimp only [Nat.reduceAdd, Option.toList, List.cons_append, List.nil_append, List.drop]
          refine xS.br0 (c := .eq) (off := 7) (l := 3) rfl rfl (fun h76 => ?_) (fun h76 => ?_)
          · have g76 := xt_eq h76
            refine xS.s1 rfl rfl ?_
            try dsimp only [Nat.reduceAdd, xi_0]
            refine xS.s1 rfl rfl ?_
            try dsimp only [Nat.reduceAdd]
            refine xS.s1 rfl rfl ?_
            try dsimp only [Nat.reduceAdd]
            refine xS.s1 rfl rfl ?_
            try dsimp only [Nat.reduceAdd, xi_1]
            rw [nI_1]
            refine xS.s1 rfl rfl ?_
            try dsimp only [Nat.reduceAdd]
            refine xS.pick [0, 1, 2, 3, 4] rfl ?_
            rw [show nI (xcnt (fun c => decide (xfst (fun i => !decide (xshw h (Lw s / 4) (Lw s % 4) (xd6 m c) i = g 75 (40 * p + i))) m = none)) j) + 0 = nI (xcnt (fun c => decide (xfst (fun i => !decide (xshw h (Lw s / 4) (Lw s % 4) (xd6 m c) i = g 75 (40 * p + i))) m = none)) j) from nI_add _ 0]
            have ih2 := ih (glay S m j m) (by omega) (fun a ha => by rw [glay_na ha, hI a ha])
            rw [show xcnt (fun c => decide (xfst (fun i => !decide (xshw h (Lw s / 4) (Lw s % 4) (xd6 m c) i = g 75 (40 * p + i))) m = none)) (j + 1) = xcnt (fun c => decide (xfst (fun i => !decide (xshw h (Lw s / 4) (Lw s % 4) (xd6 m c) i = g 75 (40 * p + i))) m = none)) j from by rw [xcnt_s]; simp only [decide_eq_false (xif0 g76), cond_false]] at ih2
            exact ih2
          · have g76 := xf_eq h76
            refine xS.s1 rfl rfl ?_
            try dsimp only [Nat.reduceAdd, xi_1]
            refine xS.s1 rfl rfl ?_
            try dsimp only [Nat.reduceAdd]
            refine xS.s1 rfl rfl ?_
            try dsimp only [Nat.reduceAdd]
            refine xS.s1 rfl rfl ?_
            try dsimp only [Nat.reduceAdd]
            refine xS.s1 rfl rfl ?_
            try dsimp only [Nat.reduceAdd, xi_1]
            rw [nI_1]
            refine xS.s1 rfl rfl ?_
            try dsimp only [Nat.reduceAdd]
            refine xS.pick [0, 1, 2, 3, 4] rfl ?_
            rw [nI_1]
            have ih2 := ih (glay S m j m) (by omega) (fun a ha => by rw [glay_na ha, hI a ha])
            rw [show xcnt (fun c => decide (xfst (fun i => !decide (xshw h (Lw s / 4) (Lw s % 4) (xd6 m c) i = g 75 (40 * p + i))) m = none)) (j + 1) = xcnt (fun c => decide (xfst (fun i => !decide (xshw h (Lw s / 4) (Lw s % 4) (xd6 m c) i = g 75 (40 * p + i))) m = none)) j + 1 from by rw [xcnt_s]; simp only [decide_eq_true (xif1 g76), cond_true]] at ih2
            exact ih2
      · have g30 := xf_ge h30
        exfalso; first | exact absurd g30 (by decide) | (simp (disch := omega) only [Int32.lt_iff_toInt_lt, Int32.le_iff_toInt_le, nI_toInt, Int32.reduceToInt] at g30 <;> omega)
    · have g12 := xf_ne h12
      exfalso; first | exact absurd g12 (by decide) | (simp (disch := omega) only [Int32.lt_iff_toInt_lt, Int32.le_iff_toInt_le, nI_toInt, Int32.reduceToInt] at g12 <;> omega)

set_option maxRecDepth 10000 in
theorem c_X12_first_none (hR : xRr g h tx G T Lw) (hk : s < G) (ht : t < 6) (hp1 : p < 6) (hs : g 74 p = nI m) (hm : m ≤ 6) (hf : xfos (g 74 p) (fun i => g 75 (40 * p + i)) 6 = 0) (hx : ∀ i, i < m → xstp (g 75 (40 * p + i))) (hc : xfst (fun c => decide (xfst (fun i => !decide (xshw h (Lw s / 4) (Lw s % 4) (xd6 m c) i = g 75 (40 * p + i))) m = none)) (6 ^ m) = none) : xT (k + 5) 211 [.ref 73, .int (nI s), .int (nI p), .int (nI t)] (xH b g l) (fun r M' => ∃ g0, xFr g g0 ∧ M' = xH b g0 l ∧ r = some (.int (-9))) := by
  refine xT.of rfl (Nat.le_of_ble_eq_true rfl) ?_
  change xS _ _ 0 [(0, .ref 73), (1, .int (nI s)), (2, .int (nI p)), (3, .int (nI t))] [] _ _
  refine xS.s1 rfl rfl ?_
  try dsimp only [Nat.reduceAdd]
  refine xS.s1 rfl rfl ?_
  try dsimp only [Nat.reduceAdd]
  -- 2 yX12_isGlass
  refine xS.cv rfl rfl rfl rfl rfl rfl ⟨by decide, rfl, rfl⟩ (c_X12_isGlass_in hR.1.1 hR.1.2 hk) (fun v M1 hv => ?_)
  rw [hv.1, hv.2]
  clear hv M1 v
  try dsimp only [Nat.reduceAdd, Option.toList, List.cons_append, List.nil_append, List.drop]
  refine xS.br0 (c := .eq) (off := 17) (l := 3) rfl rfl (fun h5 => ?_) (fun h5 => ?_)
  · have g5 := xt_eq h5
    exfalso; first | exact absurd g5 (by decide) | (simp (disch := omega) only [Int32.lt_iff_toInt_lt, Int32.le_iff_toInt_le, nI_toInt, Int32.reduceToInt] at g5 <;> omega)
  · have g5 := xf_eq h5
    refine xS.s1 rfl rfl ?_
    try dsimp only [Nat.reduceAdd]
    -- 9 yX12_isRow
    refine xS.callS rfl rfl rfl ⟨Nat.le_of_ble_eq_true rfl, rfl⟩ (c_X12_isRow_in hp1) (fun v M1 hv => ?_)
    rw [hv.1, hv.2]
    clear hv M1 v
    try dsimp only [Nat.reduceAdd, Option.toList, List.cons_append, List.nil_append, List.drop]
    refine xS.br0 (c := .eq) (off := 10) (l := 3) rfl rfl (fun h12 => ?_) (fun h12 => ?_)
    · have g12 := xt_eq h12
      exfalso; first | exact absurd g12 (by decide) | (simp (disch := omega) only [Int32.lt_iff_toInt_lt, Int32.le_iff_toInt_le, nI_toInt, Int32.reduceToInt] at g12 <;> omega)
    · have g12 := xf_eq h12
      refine xS.s1 rfl rfl ?_
      try dsimp only [Nat.reduceAdd]
      -- 16 yX12_isRow
      refine xS.callS rfl rfl rfl ⟨Nat.le_of_ble_eq_true rfl, rfl⟩ (c_X12_isRow_in ht) (fun v M1 hv => ?_)
      rw [hv.1, hv.2]
      clear hv M1 v
      try dsimp only [Nat.reduceAdd, Option.toList, List.cons_append, List.nil_append, List.drop]
      refine xS.br0 (c := .ne) (off := 5) (l := 3) rfl rfl (fun h19 => ?_) (fun h19 => ?_)
      · have g19 := xt_ne h19
        refine xS.s1 rfl rfl ?_
        try dsimp only [Nat.reduceAdd]
        refine xS.s1 rfl rfl ?_
        try dsimp only [Nat.reduceAdd]
        refine xS.s1 rfl rfl ?_
        try dsimp only [Nat.reduceAdd, xj_6]
        refine xS.s1 rfl rfl ?_
        try dsimp only [Nat.reduceAdd]
        refine xS.gR rfl rfl rfl ⟨by decide, rfl⟩ rfl ?_
        try dsimp only [Nat.reduceAdd]
        -- 32 yX12_takeOut
        refine xS.cv rfl rfl rfl rfl rfl rfl ⟨by decide, rfl, rfl⟩ (c_X12_takeOut_0 xar_91 (by decide) hp1 hs (by omega) (by decide) hf) (fun v M1 hv => ?_)
        rw [hv.1, hv.2]
        clear hv M1 v
        have hR1 := xRr_F (xFr_gs (n := m) (S := (fun i => g 75 (40 * p + i))) (by decide : 89 ≤ 91)) hR
        have h90 : ∀ u, u < m → gset g 91 m (fun i => g 75 (40 * p + i)) 91 u = nI ((fun i => xN (g 75 (40 * p + i))) u) ∧ (fun i => xN (g 75 (40 * p + i))) u < 6 := fun u hu => by rw [gset_in hu]; exact ⟨(xstp_N (hx u hu)).2, (xstp_N (hx u hu)).1⟩
        have e74 : gset g 91 m (fun i => g 75 (40 * p + i)) 74 p = nI m := by rw [gset_na (by decide)]; exact hs
        try dsimp only [Nat.reduceAdd, Option.toList, List.cons_append, List.nil_append, List.drop]
        refine xS.s1 rfl rfl ?_
        try dsimp only [Nat.reduceAdd]
        refine xS.s1 rfl rfl ?_
        try dsimp only [Nat.reduceAdd]
        refine xS.br0 (c := .ge) (off := 6) (l := 3) rfl rfl (fun h39 => ?_) (fun h39 => ?_)
        · have g39 := xt_ge h39
          refine xS.s1 rfl rfl ?_
          try dsimp only [Nat.reduceAdd]
          refine xS.gR rfl rfl rfl ⟨by decide, rfl⟩ rfl ?_
          try dsimp only [Nat.reduceAdd]
          refine xS.s1 rfl rfl ?_
          try dsimp only [Nat.reduceAdd]
          refine xS.ia rfl xar_74 (by omega) ?_
          try dsimp only [Nat.reduceAdd]
          rw [e74]
          refine xS.s1 rfl rfl ?_
          try dsimp only [Nat.reduceAdd]
          refine xS.s1 rfl rfl ?_
          try dsimp only [Nat.reduceAdd, xi_0]
          refine xS.s1 rfl rfl ?_
          try dsimp only [Nat.reduceAdd]
          refine xS.pick [0, 3, 4, 6, 1] rfl ?_
          refine xS.loop (σ := Nat → Nat → Int32) (6 ^ m) (fun j S => [(6, .int (nI j)), (0, .ref 73), (1, .int (nI s)), (3, .int (nI t)), (5, .int (nI m))]) (fun _ S => xH b S l) (fun j S => (∀ a, a ≠ 90 → S a = (gset g 91 m (fun i => g 75 (40 * p + i))) a) ∧ xfst (fun c => decide (xfst (fun i => !decide (xshw h (Lw s / 4) (Lw s % 4) (xd6 m c) i = g 75 (40 * p + i))) m = none)) j = none) ((gset g 91 m (fun i => g 75 (40 * p + i)))) (rfl) (rfl) (⟨fun _ _ => rfl, rfl⟩) ?_
          intro j S hj hI0 ih
          obtain ⟨hI, hI2⟩ := hI0
          try dsimp only
          have hp6 := pow6 hm
          have hRj : xRr S h tx G T Lw := xRr_fr (by rw [hI 73 (by decide)]) (by rw [hI 73 (by decide)]) (hI 81 (by decide)) (hI 82 (by decide)) (hI 83 (by decide)) hR1
          refine xS.s1 rfl rfl ?_
          try dsimp only [Nat.reduceAdd]
          refine xS.s1 rfl rfl ?_
          try dsimp only [Nat.reduceAdd]
          -- 60 yX12_rowsOf
          refine xS.callS rfl rfl rfl ⟨Nat.le_of_ble_eq_true rfl, rfl⟩ (c_X12_rowsOf hm) (fun v M1 hv => ?_)
          rw [hv.1, hv.2]
          clear hv M1 v
          try dsimp only [Nat.reduceAdd, Option.toList, List.cons_append, List.nil_append, List.drop]
          refine xS.br (c := .ge) (off := 39) (l := 3) rfl rfl (fun h63 => ?_) (fun h63 => ?_)
          · have g63 := xt_ge h63
            have e := xnle (b := 6 ^ m) g63 (by omega) (by omega)
            have e2 : 6 ^ m = j := by omega
            refine xS.s1 rfl rfl ?_
            try dsimp only [Nat.reduceAdd, xj_m9]
            refine xS.ret rfl rfl rfl (fun _ _ => rfl) ?_
            exact ⟨S, ⟨fun a h1 h2 => by rw [hI a (by omega), gset_na (by omega)], fun i _ => by rw [hI 73 (by decide), gset_na (by decide)]⟩, rfl, rfl⟩
          · have g63 := xf_ge h63
            have hlt := xnlt (b := 6 ^ m) g63 (by omega) (by omega)
            refine xS.s1 rfl rfl ?_
            try dsimp only [Nat.reduceAdd]
            refine xS.s1 rfl rfl ?_
            try dsimp only [Nat.reduceAdd]
            refine xS.s1 rfl rfl ?_
            try dsimp only [Nat.reduceAdd]
            -- 71 yX12_layDoings
            refine xS.cv rfl rfl rfl rfl rfl rfl ⟨by decide, rfl, rfl⟩ (c_X12_layDoings hm (by omega)) (fun v M1 hv => ?_)
            rw [hv.1, hv.2]
            clear hv M1 v
            have hRg : xRr (glay S m j m) h tx G T Lw := xRr_fr (by rw [glay_na (by decide)]) (by rw [glay_na (by decide)]) (glay_na (by decide)) (glay_na (by decide)) (glay_na (by decide)) hRj
            try dsimp only [Nat.reduceAdd, Option.toList, List.cons_append, List.nil_append, List.drop]
            refine xS.s1 rfl rfl ?_
            try dsimp only [Nat.reduceAdd]
            refine xS.s1 rfl rfl ?_
            try dsimp only [Nat.reduceAdd]
            refine xS.s1 rfl rfl ?_
            try dsimp only [Nat.reduceAdd]
            -- 78 yX12_shows
            refine xS.cv rfl rfl rfl rfl rfl rfl ⟨by decide, rfl, rfl⟩ (c_X12_shows (f := xd6 m j) (O := fun i => g 75 (40 * p + i)) hRg hk hm (fun u hu => ⟨glay_in hu, xd6_lt _ _ _⟩) (fun u hu => by rw [glay_na (by decide), hI 91 (by decide), gset_in hu])) (fun v M1 hv => ?_)
            rw [hv.1, hv.2]
            clear hv M1 v
            try dsimp only [Nat.reduceAdd, Option.toList, List.cons_append, List.nil_append, List.drop]
            refine xS.br0 (c := .eq) (off := 15) (l := 3) rfl rfl (fun h81 => ?_) (fun h81 => ?_)
            · have g81 := xt_eq h81
              refine xS.s1 rfl rfl ?_
              try dsimp only [Nat.reduceAdd, xi_1]
              rw [nI_1]
              refine xS.s1 rfl rfl ?_
              try dsimp only [Nat.reduceAdd]
              refine xS.pick [0, 1, 2, 3, 4] rfl ?_
              exact ih (glay S m j m) (by omega) ⟨fun a ha => by rw [glay_na ha, hI a ha], xfst_n hI2 (decide_eq_false (xif0 g81))⟩
            · have g81 := xf_eq h81
              exfalso; rw [xfst_at hI2 (decide_eq_true (xif1 g81)) hlt] at hc; cases hc
        · have g39 := xf_ge h39
          exfalso; first | exact absurd g39 (by decide) | (simp (disch := omega) only [Int32.lt_iff_toInt_lt, Int32.le_iff_toInt_le, nI_toInt, Int32.reduceToInt] at g39 <;> omega)
      · have g19 := xf_ne h19
        exfalso; first | exact absurd g19 (by decide) | (simp (disch := omega) only [Int32.lt_iff_toInt_lt, Int32.le_iff_toInt_le, nI_toInt, Int32.reduceToInt] at g19 <;> omega)

set_option maxRecDepth 10000 in
theorem c_X12_first_ok (hR : xRr g h tx G T Lw) (hk : s < G) (ht : t < 6) (hp1 : p < 6) (hs : g 74 p = nI m) (hm : m ≤ 6) (hf : xfos (g 74 p) (fun i => g 75 (40 * p + i)) 6 = 0) (hx : ∀ i, i < m → xstp (g 75 (40 * p + i))) (hc : xfst (fun c => decide (xfst (fun i => !decide (xshw h (Lw s / 4) (Lw s % 4) (xd6 m c) i = g 75 (40 * p + i))) m = none)) (6 ^ m) = some c) : xT (k + 5) 211 [.ref 73, .int (nI s), .int (nI p), .int (nI t)] (xH b g l) (fun r M' => ∃ g0, xFr g g0 ∧ M' = xH b (gseg (up g0 74 t (nI m)) 75 (40 * t) m (fun i => nI (xd6 m c i))) l ∧ r = some (.int (nI m))) := by
  refine xT.of rfl (Nat.le_of_ble_eq_true rfl) ?_
  change xS _ _ 0 [(0, .ref 73), (1, .int (nI s)), (2, .int (nI p)), (3, .int (nI t))] [] _ _
  refine xS.s1 rfl rfl ?_
  try dsimp only [Nat.reduceAdd]
  refine xS.s1 rfl rfl ?_
  try dsimp only [Nat.reduceAdd]
  -- 2 yX12_isGlass
  refine xS.cv rfl rfl rfl rfl rfl rfl ⟨by decide, rfl, rfl⟩ (c_X12_isGlass_in hR.1.1 hR.1.2 hk) (fun v M1 hv => ?_)
  rw [hv.1, hv.2]
  clear hv M1 v
  try dsimp only [Nat.reduceAdd, Option.toList, List.cons_append, List.nil_append, List.drop]
  refine xS.br0 (c := .eq) (off := 17) (l := 3) rfl rfl (fun h5 => ?_) (fun h5 => ?_)
  · have g5 := xt_eq h5
    exfalso; first | exact absurd g5 (by decide) | (simp (disch := omega) only [Int32.lt_iff_toInt_lt, Int32.le_iff_toInt_le, nI_toInt, Int32.reduceToInt] at g5 <;> omega)
  · have g5 := xf_eq h5
    refine xS.s1 rfl rfl ?_
    try dsimp only [Nat.reduceAdd]
    -- 9 yX12_isRow
    refine xS.callS rfl rfl rfl ⟨Nat.le_of_ble_eq_true rfl, rfl⟩ (c_X12_isRow_in hp1) (fun v M1 hv => ?_)
    rw [hv.1, hv.2]
    clear hv M1 v
    try dsimp only [Nat.reduceAdd, Option.toList, List.cons_append, List.nil_append, List.drop]
    refine xS.br0 (c := .eq) (off := 10) (l := 3) rfl rfl (fun h12 => ?_) (fun h12 => ?_)
    · have g12 := xt_eq h12
      exfalso; first | exact absurd g12 (by decide) | (simp (disch := omega) only [Int32.lt_iff_toInt_lt, Int32.le_iff_toInt_le, nI_toInt, Int32.reduceToInt] at g12 <;> omega)
    · have g12 := xf_eq h12
      refine xS.s1 rfl rfl ?_
      try dsimp only [Nat.reduceAdd]
      -- 16 yX12_isRow
      refine xS.callS rfl rfl rfl ⟨Nat.le_of_ble_eq_true rfl, rfl⟩ (c_X12_isRow_in ht) (fun v M1 hv => ?_)
      rw [hv.1, hv.2]
      clear hv M1 v
      try dsimp only [Nat.reduceAdd, Option.toList, List.cons_append, List.nil_append, List.drop]
      refine xS.br0 (c := .ne) (off := 5) (l := 3) rfl rfl (fun h19 => ?_) (fun h19 => ?_)
      · have g19 := xt_ne h19
        refine xS.s1 rfl rfl ?_
        try dsimp only [Nat.reduceAdd]
        refine xS.s1 rfl rfl ?_
        try dsimp only [Nat.reduceAdd]
        refine xS.s1 rfl rfl ?_
        try dsimp only [Nat.reduceAdd, xj_6]
        refine xS.s1 rfl rfl ?_
        try dsimp only [Nat.reduceAdd]
        refine xS.gR rfl rfl rfl ⟨by decide, rfl⟩ rfl ?_
        try dsimp only [Nat.reduceAdd]
        -- 32 yX12_takeOut
        refine xS.cv rfl rfl rfl rfl rfl rfl ⟨by decide, rfl, rfl⟩ (c_X12_takeOut_0 xar_91 (by decide) hp1 hs (by omega) (by decide) hf) (fun v M1 hv => ?_)
        rw [hv.1, hv.2]
        clear hv M1 v
        have hR1 := xRr_F (xFr_gs (n := m) (S := (fun i => g 75 (40 * p + i))) (by decide : 89 ≤ 91)) hR
        have h90 : ∀ u, u < m → gset g 91 m (fun i => g 75 (40 * p + i)) 91 u = nI ((fun i => xN (g 75 (40 * p + i))) u) ∧ (fun i => xN (g 75 (40 * p + i))) u < 6 := fun u hu => by rw [gset_in hu]; exact ⟨(xstp_N (hx u hu)).2, (xstp_N (hx u hu)).1⟩
        have e74 : gset g 91 m (fun i => g 75 (40 * p + i)) 74 p = nI m := by rw [gset_na (by decide)]; exact hs
        try dsimp only [Nat.reduceAdd, Option.toList, List.cons_append, List.nil_append, List.drop]
        refine xS.s1 rfl rfl ?_
        try dsimp only [Nat.reduceAdd]
        refine xS.s1 rfl rfl ?_
        try dsimp only [Nat.reduceAdd]
        refine xS.br0 (c := .ge) (off := 6) (l := 3) rfl rfl (fun h39 => ?_) (fun h39 => ?_)
        · have g39 := xt_ge h39
          refine xS.s1 rfl rfl ?_
          try dsimp only [Nat.reduceAdd]
          refine xS.gR rfl rfl rfl ⟨by decide, rfl⟩ rfl ?_
          try dsimp only [Nat.reduceAdd]
          refine xS.s1 rfl rfl ?_
          try dsimp only [Nat.reduceAdd]
          refine xS.ia rfl xar_74 (by omega) ?_
          try dsimp only [Nat.reduceAdd]
          rw [e74]
          refine xS.s1 rfl rfl ?_
          try dsimp only [Nat.reduceAdd]
          refine xS.s1 rfl rfl ?_
          try dsimp only [Nat.reduceAdd, xi_0]
          refine xS.s1 rfl rfl ?_
          try dsimp only [Nat.reduceAdd]
          refine xS.pick [0, 3, 4, 6, 1] rfl ?_
          refine xS.loop (σ := Nat → Nat → Int32) (6 ^ m) (fun j S => [(6, .int (nI j)), (0, .ref 73), (1, .int (nI s)), (3, .int (nI t)), (5, .int (nI m))]) (fun _ S => xH b S l) (fun j S => (∀ a, a ≠ 90 → S a = (gset g 91 m (fun i => g 75 (40 * p + i))) a) ∧ xfst (fun c => decide (xfst (fun i => !decide (xshw h (Lw s / 4) (Lw s % 4) (xd6 m c) i = g 75 (40 * p + i))) m = none)) j = none) ((gset g 91 m (fun i => g 75 (40 * p + i)))) (rfl) (rfl) (⟨fun _ _ => rfl, rfl⟩) ?_
          intro j S hj hI0 ih
          obtain ⟨hI, hI2⟩ := hI0
          try dsimp only
          have hp6 := pow6 hm
          have hRj : xRr S h tx G T Lw := xRr_fr (by rw [hI 73 (by decide)]) (by rw [hI 73 (by decide)]) (hI 81 (by decide)) (hI 82 (by decide)) (hI 83 (by decide)) hR1
          refine xS.s1 rfl rfl ?_
          try dsimp only [Nat.reduceAdd]
          refine xS.s1 rfl rfl ?_
          try dsimp only [Nat.reduceAdd]
          -- 60 yX12_rowsOf
          refine xS.callS rfl rfl rfl ⟨Nat.le_of_ble_eq_true rfl, rfl⟩ (c_X12_rowsOf hm) (fun v M1 hv => ?_)
          rw [hv.1, hv.2]
          clear hv M1 v
          try dsimp only [Nat.reduceAdd, Option.toList, List.cons_append, List.nil_append, List.drop]
          refine xS.br (c := .ge) (off := 39) (l := 3) rfl rfl (fun h63 => ?_) (fun h63 => ?_)
          · have g63 := xt_ge h63
            have e := xnle (b := 6 ^ m) g63 (by omega) (by omega)
            have e2 : 6 ^ m = j := by omega
            refine xS.s1 rfl rfl ?_
            try dsimp only [Nat.reduceAdd, xj_m9]
            refine xS.ret rfl rfl rfl (fun _ _ => rfl) ?_
            rw [e2, hI2] at hc
            cases hc
          · have g63 := xf_ge h63
            have hlt := xnlt (b := 6 ^ m) g63 (by omega) (by omega)
            refine xS.s1 rfl rfl ?_
            try dsimp only [Nat.reduceAdd]
            refine xS.s1 rfl rfl ?_
            try dsimp only [Nat.reduceAdd]
            refine xS.s1 rfl rfl ?_
            try dsimp only [Nat.reduceAdd]
            -- 71 yX12_layDoings
            refine xS.cv rfl rfl rfl rfl rfl rfl ⟨by decide, rfl, rfl⟩ (c_X12_layDoings hm (by omega)) (fun v M1 hv => ?_)
            rw [hv.1, hv.2]
            clear hv M1 v
            have hRg : xRr (glay S m j m) h tx G T Lw := xRr_fr (by rw [glay_na (by decide)]) (by rw [glay_na (by decide)]) (glay_na (by decide)) (glay_na (by decide)) (glay_na (by decide)) hRj
            try dsimp only [Nat.reduceAdd, Option.toList, List.cons_append, List.nil_append, List.drop]
            refine xS.s1 rfl rfl ?_
            try dsimp only [Nat.reduceAdd]
            refine xS.s1 rfl rfl ?_
            try dsimp only [Nat.reduceAdd]
            refine xS.s1 rfl rfl ?_
            try dsimp only [Nat.reduceAdd]
            -- 78 yX12_shows
            refine xS.cv rfl rfl rfl rfl rfl rfl ⟨by decide, rfl, rfl⟩ (c_X12_shows (f := xd6 m j) (O := fun i => g 75 (40 * p + i)) hRg hk hm (fun u hu => ⟨glay_in hu, xd6_lt _ _ _⟩) (fun u hu => by rw [glay_na (by decide), hI 91 (by decide), gset_in hu])) (fun v M1 hv => ?_)
            rw [hv.1, hv.2]
            clear hv M1 v
            try dsimp only [Nat.reduceAdd, Option.toList, List.cons_append, List.nil_append, List.drop]
            refine xS.br0 (c := .eq) (off := 15) (l := 3) rfl rfl (fun h81 => ?_) (fun h81 => ?_)
            · have g81 := xt_eq h81
              refine xS.s1 rfl rfl ?_
              try dsimp only [Nat.reduceAdd, xi_1]
              rw [nI_1]
              refine xS.s1 rfl rfl ?_
              try dsimp only [Nat.reduceAdd]
              refine xS.pick [0, 1, 2, 3, 4] rfl ?_
              exact ih (glay S m j m) (by omega) ⟨fun a ha => by rw [glay_na ha, hI a ha], xfst_n hI2 (decide_eq_false (xif0 g81))⟩
            · have g81 := xf_eq h81
              refine xS.s1 rfl rfl ?_
              try dsimp only [Nat.reduceAdd]
              refine xS.s1 rfl rfl ?_
              try dsimp only [Nat.reduceAdd]
              refine xS.s1 rfl rfl ?_
              try dsimp only [Nat.reduceAdd]
              refine xS.s1 rfl rfl ?_
              try dsimp only [Nat.reduceAdd]
              refine xS.gR rfl rfl rfl ⟨by decide, rfl⟩ rfl ?_
              try dsimp only [Nat.reduceAdd]
              -- 92 yX12_layRow
              refine xS.cv rfl rfl rfl rfl rfl rfl ⟨by decide, rfl, rfl⟩ (c_X12_layRow xar_90 (by decide) (by decide) ht (by omega) (by omega)) (fun v M1 hv => ?_)
              rw [hv.1, hv.2]
              clear hv M1 v
              try dsimp only [Nat.reduceAdd, Option.toList, List.cons_append, List.nil_append, List.drop]
              refine xS.ret rfl rfl rfl (fun _ _ => rfl) ?_
              rw [xfst_at hI2 (decide_eq_true (xif1 g81)) hlt] at hc
              have ec : j = c := Option.some.inj hc
              rw [← ec]
              refine ⟨glay S m j m, ⟨fun a h1 h2 => by rw [glay_na (by omega), hI a (by omega), gset_na (by omega)], fun i _ => by rw [glay_na (by decide), hI 73 (by decide), gset_na (by decide)]⟩, ?_, rfl⟩
              rw [gseg_congr (fun i hi => glay_in hi)]
        · have g39 := xf_ge h39
          exfalso; first | exact absurd g39 (by decide) | (simp (disch := omega) only [Int32.lt_iff_toInt_lt, Int32.le_iff_toInt_le, nI_toInt, Int32.reduceToInt] at g39 <;> omega)
      · have g19 := xf_ne h19
        exfalso; first | exact absurd g19 (by decide) | (simp (disch := omega) only [Int32.lt_iff_toInt_lt, Int32.le_iff_toInt_le, nI_toInt, Int32.reduceToInt] at g19 <;> omega)

set_option maxRecDepth 10000 in
theorem c_X12_can_bad2 (hR : xRr g h tx G T Lw) (hk : s < G) (hp1 : p < 6) (hs : g 74 p = nI m) (hm : m ≤ 6) (hf : xfos (g 74 p) (fun i => g 75 (40 * p + i)) 6 = 0) (hx : ∀ i, i < m → xstp (g 75 (40 * p + i))) (hd31 : d < 2 ^ 31) (hd : ¬ d < m) : xT (k + 5) 212 [.ref 73, .int (nI s), .int (nI p), .int (nI d)] (xH b g l) (fun r M' => ∃ g0, xFr g g0 ∧ M' = xH b g0 l ∧ r = some (.int (-1))) := by
  refine xT.of rfl (Nat.le_of_ble_eq_true rfl) ?_
  change xS _ _ 0 [(0, .ref 73), (1, .int (nI s)), (2, .int (nI p)), (3, .int (nI d))] [] _ _
  refine xS.s1 rfl rfl ?_
  try dsimp only [Nat.reduceAdd]
  refine xS.s1 rfl rfl ?_
  try dsimp only [Nat.reduceAdd]
  -- 2 yX12_isGlass
  refine xS.cv rfl rfl rfl rfl rfl rfl ⟨by decide, rfl, rfl⟩ (c_X12_isGlass_in hR.1.1 hR.1.2 hk) (fun v M1 hv => ?_)
  rw [hv.1, hv.2]
  clear hv M1 v
  try dsimp only [Nat.reduceAdd, Option.toList, List.cons_append, List.nil_append, List.drop]
  refine xS.br0 (c := .eq) (off := 14) (l := 3) rfl rfl (fun h5 => ?_) (fun h5 => ?_)
  · have g5 := xt_eq h5
    exfalso; first | exact absurd g5 (by decide) | (simp (disch := omega) only [Int32.lt_iff_toInt_lt, Int32.le_iff_toInt_le, nI_toInt, Int32.reduceToInt] at g5 <;> omega)
  · have g5 := xf_eq h5
    refine xS.s1 rfl rfl ?_
    try dsimp only [Nat.reduceAdd]
    -- 9 yX12_isRow
    refine xS.callS rfl rfl rfl ⟨Nat.le_of_ble_eq_true rfl, rfl⟩ (c_X12_isRow_in hp1) (fun v M1 hv => ?_)
    rw [hv.1, hv.2]
    clear hv M1 v
    try dsimp only [Nat.reduceAdd, Option.toList, List.cons_append, List.nil_append, List.drop]
    refine xS.br0 (c := .eq) (off := 7) (l := 3) rfl rfl (fun h12 => ?_) (fun h12 => ?_)
    · have g12 := xt_eq h12
      exfalso; first | exact absurd g12 (by decide) | (simp (disch := omega) only [Int32.lt_iff_toInt_lt, Int32.le_iff_toInt_le, nI_toInt, Int32.reduceToInt] at g12 <;> omega)
    · have g12 := xf_eq h12
      refine xS.s1 rfl rfl ?_
      try dsimp only [Nat.reduceAdd]
      refine xS.br0 (c := .ge) (off := 5) (l := 3) rfl rfl (fun h16 => ?_) (fun h16 => ?_)
      · have g16 := xt_ge h16
        refine xS.s1 rfl rfl ?_
        try dsimp only [Nat.reduceAdd]
        refine xS.s1 rfl rfl ?_
        try dsimp only [Nat.reduceAdd]
        refine xS.s1 rfl rfl ?_
        try dsimp only [Nat.reduceAdd, xj_6]
        refine xS.s1 rfl rfl ?_
        try dsimp only [Nat.reduceAdd]
        refine xS.gR rfl rfl rfl ⟨by decide, rfl⟩ rfl ?_
        try dsimp only [Nat.reduceAdd]
        -- 29 yX12_takeOut
        refine xS.cv rfl rfl rfl rfl rfl rfl ⟨by decide, rfl, rfl⟩ (c_X12_takeOut_0 xar_91 (by decide) hp1 hs (by omega) (by decide) hf) (fun v M1 hv => ?_)
        rw [hv.1, hv.2]
        clear hv M1 v
        have hR1 := xRr_F (xFr_gs (n := m) (S := (fun i => g 75 (40 * p + i))) (by decide : 89 ≤ 91)) hR
        have h90 : ∀ u, u < m → gset g 91 m (fun i => g 75 (40 * p + i)) 91 u = nI ((fun i => xN (g 75 (40 * p + i))) u) ∧ (fun i => xN (g 75 (40 * p + i))) u < 6 := fun u hu => by rw [gset_in hu]; exact ⟨(xstp_N (hx u hu)).2, (xstp_N (hx u hu)).1⟩
        have e74 : gset g 91 m (fun i => g 75 (40 * p + i)) 74 p = nI m := by rw [gset_na (by decide)]; exact hs
        try dsimp only [Nat.reduceAdd, Option.toList, List.cons_append, List.nil_append, List.drop]
        refine xS.s1 rfl rfl ?_
        try dsimp only [Nat.reduceAdd]
        refine xS.s1 rfl rfl ?_
        try dsimp only [Nat.reduceAdd]
        refine xS.br0 (c := .ge) (off := 6) (l := 3) rfl rfl (fun h36 => ?_) (fun h36 => ?_)
        · have g36 := xt_ge h36
          refine xS.s1 rfl rfl ?_
          try dsimp only [Nat.reduceAdd]
          refine xS.gR rfl rfl rfl ⟨by decide, rfl⟩ rfl ?_
          try dsimp only [Nat.reduceAdd]
          refine xS.s1 rfl rfl ?_
          try dsimp only [Nat.reduceAdd]
          refine xS.ia rfl xar_74 (by omega) ?_
          try dsimp only [Nat.reduceAdd]
          rw [e74]
          refine xS.s1 rfl rfl ?_
          try dsimp only [Nat.reduceAdd]
          refine xS.s1 rfl rfl ?_
          try dsimp only [Nat.reduceAdd]
          refine xS.s1 rfl rfl ?_
          try dsimp only [Nat.reduceAdd]
          refine xS.br (c := .lt) (off := 5) (l := 3) rfl rfl (fun h53 => ?_) (fun h53 => ?_)
          · have g53 := xt_lt h53
            exact absurd ((nI_ltI hd31 (by omega)).mp g53) hd
          · have g53 := xf_lt h53
            refine xS.s1 rfl rfl ?_
            try dsimp only [Nat.reduceAdd, xi_m1]
            refine xS.ret rfl rfl rfl (fun _ _ => rfl) ?_
            exact ⟨_, xFr_gs (by decide), rfl, rfl⟩
        · have g36 := xf_ge h36
          exfalso; first | exact absurd g36 (by decide) | (simp (disch := omega) only [Int32.lt_iff_toInt_lt, Int32.le_iff_toInt_le, nI_toInt, Int32.reduceToInt] at g36 <;> omega)
      · have g16 := xf_ge h16
        exfalso; first | exact absurd g16 (by decide) | (simp (disch := omega) only [Int32.lt_iff_toInt_lt, Int32.le_iff_toInt_le, nI_toInt, Int32.reduceToInt] at g16 <;> omega)

set_option maxRecDepth 10000 in
theorem c_X12_can_ok (hR : xRr g h tx G T Lw) (hk : s < G) (hp1 : p < 6) (hs : g 74 p = nI m) (hm : m ≤ 6) (hf : xfos (g 74 p) (fun i => g 75 (40 * p + i)) 6 = 0) (hx : ∀ i, i < m → xstp (g 75 (40 * p + i))) (hd : d < m) : xT (k + 5) 212 [.ref 73, .int (nI s), .int (nI p), .int (nI d)] (xH b g l) (fun r M' => ∃ g0, xFr g g0 ∧ M' = xH b g0 l ∧ r = some (.int (xorf (fun c => decide (xfst (fun i => !decide (xshw h (Lw s / 4) (Lw s % 4) (xd6 m c) i = g 75 (40 * p + i))) m = none)) (fun c => xd6 m c d) (6 ^ m)))) := by
  refine xT.of rfl (Nat.le_of_ble_eq_true rfl) ?_
  change xS _ _ 0 [(0, .ref 73), (1, .int (nI s)), (2, .int (nI p)), (3, .int (nI d))] [] _ _
  refine xS.s1 rfl rfl ?_
  try dsimp only [Nat.reduceAdd]
  refine xS.s1 rfl rfl ?_
  try dsimp only [Nat.reduceAdd]
  -- 2 yX12_isGlass
  refine xS.cv rfl rfl rfl rfl rfl rfl ⟨by decide, rfl, rfl⟩ (c_X12_isGlass_in hR.1.1 hR.1.2 hk) (fun v M1 hv => ?_)
  rw [hv.1, hv.2]
  clear hv M1 v
  try dsimp only [Nat.reduceAdd, Option.toList, List.cons_append, List.nil_append, List.drop]
  refine xS.br0 (c := .eq) (off := 14) (l := 3) rfl rfl (fun h5 => ?_) (fun h5 => ?_)
  · have g5 := xt_eq h5
    exfalso; first | exact absurd g5 (by decide) | (simp (disch := omega) only [Int32.lt_iff_toInt_lt, Int32.le_iff_toInt_le, nI_toInt, Int32.reduceToInt] at g5 <;> omega)
  · have g5 := xf_eq h5
    refine xS.s1 rfl rfl ?_
    try dsimp only [Nat.reduceAdd]
    -- 9 yX12_isRow
    refine xS.callS rfl rfl rfl ⟨Nat.le_of_ble_eq_true rfl, rfl⟩ (c_X12_isRow_in hp1) (fun v M1 hv => ?_)
    rw [hv.1, hv.2]
    clear hv M1 v
    try dsimp only [Nat.reduceAdd, Option.toList, List.cons_append, List.nil_append, List.drop]
    refine xS.br0 (c := .eq) (off := 7) (l := 3) rfl rfl (fun h12 => ?_) (fun h12 => ?_)
    · have g12 := xt_eq h12
      exfalso; first | exact absurd g12 (by decide) | (simp (disch := omega) only [Int32.lt_iff_toInt_lt, Int32.le_iff_toInt_le, nI_toInt, Int32.reduceToInt] at g12 <;> omega)
    · have g12 := xf_eq h12
      refine xS.s1 rfl rfl ?_
      try dsimp only [Nat.reduceAdd]
      refine xS.br0 (c := .ge) (off := 5) (l := 3) rfl rfl (fun h16 => ?_) (fun h16 => ?_)
      · have g16 := xt_ge h16
        refine xS.s1 rfl rfl ?_
        try dsimp only [Nat.reduceAdd]
        refine xS.s1 rfl rfl ?_
        try dsimp only [Nat.reduceAdd]
        refine xS.s1 rfl rfl ?_
        try dsimp only [Nat.reduceAdd, xj_6]
        refine xS.s1 rfl rfl ?_
        try dsimp only [Nat.reduceAdd]
        refine xS.gR rfl rfl rfl ⟨by decide, rfl⟩ rfl ?_
        try dsimp only [Nat.reduceAdd]
        -- 29 yX12_takeOut
        refine xS.cv rfl rfl rfl rfl rfl rfl ⟨by decide, rfl, rfl⟩ (c_X12_takeOut_0 xar_91 (by decide) hp1 hs (by omega) (by decide) hf) (fun v M1 hv => ?_)
        rw [hv.1, hv.2]
        clear hv M1 v
        have hR1 := xRr_F (xFr_gs (n := m) (S := (fun i => g 75 (40 * p + i))) (by decide : 89 ≤ 91)) hR
        have h90 : ∀ u, u < m → gset g 91 m (fun i => g 75 (40 * p + i)) 91 u = nI ((fun i => xN (g 75 (40 * p + i))) u) ∧ (fun i => xN (g 75 (40 * p + i))) u < 6 := fun u hu => by rw [gset_in hu]; exact ⟨(xstp_N (hx u hu)).2, (xstp_N (hx u hu)).1⟩
        have e74 : gset g 91 m (fun i => g 75 (40 * p + i)) 74 p = nI m := by rw [gset_na (by decide)]; exact hs
        try dsimp only [Nat.reduceAdd, Option.toList, List.cons_append, List.nil_append, List.drop]
        refine xS.s1 rfl rfl ?_
        try dsimp only [Nat.reduceAdd]
        refine xS.s1 rfl rfl ?_
        try dsimp only [Nat.reduceAdd]
        refine xS.br0 (c := .ge) (off := 6) (l := 3) rfl rfl (fun h36 => ?_) (fun h36 => ?_)
        · have g36 := xt_ge h36
          refine xS.s1 rfl rfl ?_
          try dsimp only [Nat.reduceAdd]
          refine xS.gR rfl rfl rfl ⟨by decide, rfl⟩ rfl ?_
          try dsimp only [Nat.reduceAdd]
          refine xS.s1 rfl rfl ?_
          try dsimp only [Nat.reduceAdd]
          refine xS.ia rfl xar_74 (by omega) ?_
          try dsimp only [Nat.reduceAdd]
          rw [e74]
          refine xS.s1 rfl rfl ?_
          try dsimp only [Nat.reduceAdd]
          refine xS.s1 rfl rfl ?_
          try dsimp only [Nat.reduceAdd]
          refine xS.s1 rfl rfl ?_
          try dsimp only [Nat.reduceAdd]
          refine xS.br (c := .lt) (off := 5) (l := 3) rfl rfl (fun h53 => ?_) (fun h53 => ?_)
          · have g53 := xt_lt h53
            refine xS.s1 rfl rfl ?_
            try dsimp only [Nat.reduceAdd, xi_0]
            refine xS.s1 rfl rfl ?_
            try dsimp only [Nat.reduceAdd]
            refine xS.s1 rfl rfl ?_
            try dsimp only [Nat.reduceAdd, xi_0]
            refine xS.s1 rfl rfl ?_
            try dsimp only [Nat.reduceAdd]
            refine xS.pick [0, 1, 4, 5, 7, 2] rfl ?_
            refine xS.loop (σ := Nat → Nat → Int32) (6 ^ m) (fun j S => [(7, .int (nI j)), (6, .int (xorf (fun c => decide (xfst (fun i => !decide (xshw h (Lw s / 4) (Lw s % 4) (xd6 m c) i = g 75 (40 * p + i))) m = none)) (fun c => xd6 m c d) j)), (0, .ref 73), (1, .int (nI s)), (3, .int (nI d)), (5, .int (nI m))]) (fun _ S => xH b S l) (fun _ S => ∀ a, a ≠ 90 → S a = (gset g 91 m (fun i => g 75 (40 * p + i))) a) ((gset g 91 m (fun i => g 75 (40 * p + i)))) (rfl) (rfl) (fun _ _ => rfl) ?_
            intro j S hj hI ih
            try dsimp only
            have hp6 := pow6 hm
            have hRj : xRr S h tx G T Lw := xRr_fr (by rw [hI 73 (by decide)]) (by rw [hI 73 (by decide)]) (hI 81 (by decide)) (hI 82 (by decide)) (hI 83 (by decide)) hR1
            refine xS.s1 rfl rfl ?_
            try dsimp only [Nat.reduceAdd]
            refine xS.s1 rfl rfl ?_
            try dsimp only [Nat.reduceAdd]
            -- 68 yX12_rowsOf
            refine xS.callS rfl rfl rfl ⟨Nat.le_of_ble_eq_true rfl, rfl⟩ (c_X12_rowsOf hm) (fun v M1 hv => ?_)
            rw [hv.1, hv.2]
            clear hv M1 v
            try dsimp only [Nat.reduceAdd, Option.toList, List.cons_append, List.nil_append, List.drop]
            refine xS.br (c := .ge) (off := 44) (l := 3) rfl rfl (fun h71 => ?_) (fun h71 => ?_)
            · have g71 := xt_ge h71
              have e := xnle (b := 6 ^ m) g71 (by omega) (by omega)
              have e2 : 6 ^ m = j := by omega
              rw [← e2]
              refine xS.s1 rfl rfl ?_
              try dsimp only [Nat.reduceAdd]
              refine xS.ret rfl rfl rfl (fun _ _ => rfl) ?_
              exact ⟨S, ⟨fun a h1 h2 => by rw [hI a (by omega), gset_na (by omega)], fun i _ => by rw [hI 73 (by decide), gset_na (by decide)]⟩, rfl, rfl⟩
            · have g71 := xf_ge h71
              have hlt := xnlt (b := 6 ^ m) g71 (by omega) (by omega)
              refine xS.s1 rfl rfl ?_
              try dsimp only [Nat.reduceAdd]
              refine xS.s1 rfl rfl ?_
              try dsimp only [Nat.reduceAdd]
              refine xS.s1 rfl rfl ?_
              try dsimp only [Nat.reduceAdd]
              -- 79 yX12_layDoings
              refine xS.cv rfl rfl rfl rfl rfl rfl ⟨by decide, rfl, rfl⟩ (c_X12_layDoings hm (by omega)) (fun v M1 hv => ?_)
              rw [hv.1, hv.2]
              clear hv M1 v
              have hRg : xRr (glay S m j m) h tx G T Lw := xRr_fr (by rw [glay_na (by decide)]) (by rw [glay_na (by decide)]) (glay_na (by decide)) (glay_na (by decide)) (glay_na (by decide)) hRj
              try dsimp only [Nat.reduceAdd, Option.toList, List.cons_append, List.nil_append, List.drop]
              refine xS.s1 rfl rfl ?_
              try dsimp only [Nat.reduceAdd]
              refine xS.s1 rfl rfl ?_
              try dsimp only [Nat.reduceAdd]
              refine xS.s1 rfl rfl ?_
              try dsimp only [Nat.reduceAdd]
              refine xS.s1 rfl rfl ?_
              try dsimp only [Nat.reduceAdd]
              -- 88 yX12_shows
              refine xS.cv rfl rfl rfl rfl rfl rfl ⟨by decide, rfl, rfl⟩ (c_X12_shows (f := xd6 m j) (O := fun i => g 75 (40 * p + i)) hRg hk hm (fun u hu => ⟨glay_in hu, xd6_lt _ _ _⟩) (fun u hu => by rw [glay_na (by decide), hI 91 (by decide), gset_in hu])) (fun v M1 hv => ?_)
              rw [hv.1, hv.2]
              clear hv M1 v
              try dsimp only [Nat.reduceAdd, Option.toList, List.cons_append, List.nil_append, List.drop]
              refine xS.br0 (c := .eq) (off := 14) (l := 3) rfl rfl (fun h91 => ?_) (fun h91 => ?_)
              · have g91 := xt_eq h91
                refine xS.s1 rfl rfl ?_
                try dsimp only [Nat.reduceAdd, xi_0]
                refine xS.s1 rfl rfl ?_
                try dsimp only [Nat.reduceAdd]
                refine xS.s1 rfl rfl ?_
                try dsimp only [Nat.reduceAdd]
                refine xS.s1 rfl rfl ?_
                try dsimp only [Nat.reduceAdd, xi_1]
                rw [nI_1]
                refine xS.s1 rfl rfl ?_
                try dsimp only [Nat.reduceAdd]
                refine xS.pick [0, 1, 2, 3, 4, 5] rfl ?_
                have ih2 := ih (glay S m j m) (by omega) (fun a ha => by rw [glay_na ha, hI a ha])
                rw [xor0]
                rw [show xorf (fun c => decide (xfst (fun i => !decide (xshw h (Lw s / 4) (Lw s % 4) (xd6 m c) i = g 75 (40 * p + i))) m = none)) (fun c => xd6 m c d) (j + 1) = xorf (fun c => decide (xfst (fun i => !decide (xshw h (Lw s / 4) (Lw s % 4) (xd6 m c) i = g 75 (40 * p + i))) m = none)) (fun c => xd6 m c d) j from by rw [xorf_s]; simp only [decide_eq_false (xif0 g91), cond_false]] at ih2
                exact ih2
              · have g91 := xf_eq h91
                refine xS.s1 rfl rfl ?_
                try dsimp only [Nat.reduceAdd, xi_1]
                refine xS.s1 rfl rfl ?_
                try dsimp only [Nat.reduceAdd]
                refine xS.gR rfl rfl rfl ⟨by decide, rfl⟩ rfl ?_
                try dsimp only [Nat.reduceAdd]
                refine xS.s1 rfl rfl ?_
                try dsimp only [Nat.reduceAdd]
                refine xS.ia rfl xar_90 (by omega) ?_
                try dsimp only [Nat.reduceAdd]
                rw [glay_in hd]
                refine xS.s1 rfl rfl ?_
                try dsimp only [Nat.reduceAdd]
                refine xS.s1 rfl rfl ?_
                try dsimp only [Nat.reduceAdd]
                refine xS.s1 rfl rfl ?_
                try dsimp only [Nat.reduceAdd]
                refine xS.s1 rfl rfl ?_
                try dsimp only [Nat.reduceAdd]
                refine xS.s1 rfl rfl ?_
                try dsimp only [Nat.reduceAdd, xi_1]
                rw [nI_1]
                refine xS.s1 rfl rfl ?_
                try dsimp only [Nat.reduceAdd]
                refine xS.pick [0, 1, 2, 3, 4, 5] rfl ?_
                have ih2 := ih (glay S m j m) (by omega) (fun a ha => by rw [glay_na ha, hI a ha])
                rw [show xorf (fun c => decide (xfst (fun i => !decide (xshw h (Lw s / 4) (Lw s % 4) (xd6 m c) i = g 75 (40 * p + i))) m = none)) (fun c => xd6 m c d) (j + 1) = xorf (fun c => decide (xfst (fun i => !decide (xshw h (Lw s / 4) (Lw s % 4) (xd6 m c) i = g 75 (40 * p + i))) m = none)) (fun c => xd6 m c d) j ||| (1 <<< (nI (xd6 m j d) &&& 31)) from by rw [xorf_s]; simp only [decide_eq_true (xif1 g91), cond_true]] at ih2
                exact ih2
          · have g53 := xf_lt h53
            exfalso; first | exact absurd g53 (by decide) | (simp (disch := omega) only [Int32.lt_iff_toInt_lt, Int32.le_iff_toInt_le, nI_toInt, Int32.reduceToInt] at g53 <;> omega)
        · have g36 := xf_ge h36
          exfalso; first | exact absurd g36 (by decide) | (simp (disch := omega) only [Int32.lt_iff_toInt_lt, Int32.le_iff_toInt_le, nI_toInt, Int32.reduceToInt] at g36 <;> omega)
      · have g16 := xf_ge h16
        exfalso; first | exact absurd g16 (by decide) | (simp (disch := omega) only [Int32.lt_iff_toInt_lt, Int32.le_iff_toInt_le, nI_toInt, Int32.reduceToInt] at g16 <;> omega)

end
end
section
/-! LimpMirrorModel: laws, next, he, copy, mark -/
theorem xdn_ge {m j : Nat} (hj : j < m) : m - 1 - j < m := by omega

section
variable {k a c n n2 m t p s d i1 j1 : Nat} {b : Nat × Nat} {g : Nat → Nat → Int32} {l : Nat → Nat → Int64} {i j x y z v w : Int32} {u w1 w2 : Int64}
variable {L G T e1 q1 κ δ : Nat} {Lw f f2 : Nat → Nat} {h tx F4 Rw Rw2 O : Nat → Int32}
set_option maxRecDepth 10000 in
theorem c_X12_has  : xT (k + 1) 152 [.int x, .int (nI t)] (xH b g l) (fun r M' => M' = xH b g l ∧ r = some (.int (if (x >>> (nI t &&& 31)) &&& 1 = 1 then 1 else 0))) := by
  refine xT.of rfl (Nat.le_of_ble_eq_true rfl) ?_
  change xS _ _ 0 [(0, .int x), (1, .int (nI t))] [] _ _
  refine xS.s1 rfl rfl ?_
  try dsimp only [Nat.reduceAdd]
  refine xS.s1 rfl rfl ?_
  try dsimp only [Nat.reduceAdd]
  refine xS.s1 rfl rfl ?_
  try dsimp only [Nat.reduceAdd]
  refine xS.s1 rfl rfl ?_
  try dsimp only [Nat.reduceAdd, xi_1]
  refine xS.s1 rfl rfl ?_
  try dsimp only [Nat.reduceAdd]
  refine xS.s1 rfl rfl ?_
  try dsimp only [Nat.reduceAdd, xi_1]
  refine xS.br (c := .ne) (off := 7) (l := 3) rfl rfl (fun h6 => ?_) (fun h6 => ?_)
  · have g6 := xt_ne h6
    refine xS.s1 rfl rfl ?_
    try dsimp only [Nat.reduceAdd, xi_0]
    refine xS.ret rfl rfl rfl (fun _ _ => rfl) ?_
    exact ⟨rfl, by simp [g6]⟩
  · have g6 := xf_ne h6
    refine xS.s1 rfl rfl ?_
    try dsimp only [Nat.reduceAdd, xi_1]
    refine xS.s1 rfl rfl ?_
    try dsimp only [Nat.reduceAdd]
    refine xS.ret rfl rfl rfl (fun _ _ => rfl) ?_
    exact ⟨rfl, by simp [g6]⟩

set_option maxRecDepth 10000 in
theorem c_X12_bits  : xT (k + 1) 215 [.int x] (xH b g l) (fun r M' => M' = xH b g l ∧ r = some (.int (xbs x 24))) := by
  refine xT.of rfl (Nat.le_of_ble_eq_true rfl) ?_
  change xS _ _ 0 [(0, .int x)] [] _ _
  refine xS.s1 rfl rfl ?_
  try dsimp only [Nat.reduceAdd, xi_0]
  refine xS.s1 rfl rfl ?_
  try dsimp only [Nat.reduceAdd]
  refine xS.s1 rfl rfl ?_
  try dsimp only [Nat.reduceAdd, xi_0]
  refine xS.s1 rfl rfl ?_
  try dsimp only [Nat.reduceAdd]
  refine xS.pick [0, 1, 2] rfl ?_
  refine xS.loop (σ := Unit) (24) (fun j S => [(2, .int (nI j)), (1, .int (xbs x j)), (0, .int x)]) (fun _ _ => xH b g l) (fun _ _ => True) (()) (rfl) (rfl) (trivial) ?_
  intro j S hj hI ih
  try dsimp only
  refine xS.s1 rfl rfl ?_
  try dsimp only [Nat.reduceAdd]
  refine xS.s1 rfl rfl ?_
  try dsimp only [Nat.reduceAdd, xj_24]
  refine xS.br (c := .ge) (off := 17) (l := 3) rfl rfl (fun h7 => ?_) (fun h7 => ?_)
  · have g7 := xt_ge h7
    have e := xnle (b := 24) g7 (by omega) (by omega)
    have e2 : 24 = j := by omega
    subst e2
    refine xS.s1 rfl rfl ?_
    try dsimp only [Nat.reduceAdd]
    refine xS.ret rfl rfl rfl (fun _ _ => rfl) ?_
    exact ⟨rfl, rfl⟩
  · have g7 := xf_ge h7
    have hlt := xnlt (b := 24) g7 (by omega) (by omega)
    refine xS.s1 rfl rfl ?_
    try dsimp only [Nat.reduceAdd]
    refine xS.s1 rfl rfl ?_
    try dsimp only [Nat.reduceAdd]
    refine xS.s1 rfl rfl ?_
    try dsimp only [Nat.reduceAdd]
    refine xS.s1 rfl rfl ?_
    try dsimp only [Nat.reduceAdd]
    refine xS.s1 rfl rfl ?_
    try dsimp only [Nat.reduceAdd, xi_1]
    refine xS.s1 rfl rfl ?_
    try dsimp only [Nat.reduceAdd]
    refine xS.s1 rfl rfl ?_
    try dsimp only [Nat.reduceAdd]
    refine xS.s1 rfl rfl ?_
    try dsimp only [Nat.reduceAdd]
    refine xS.s1 rfl rfl ?_
    try dsimp only [Nat.reduceAdd, xi_1]
    rw [nI_1]
    refine xS.s1 rfl rfl ?_
    try dsimp only [Nat.reduceAdd]
    refine xS.pick [0, 1, 2] rfl ?_
    exact ih () (by omega) trivial

set_option maxRecDepth 10000 in
theorem c_X12_lawsOf (hR : xRr g h tx G T Lw) (hm : m ≤ 12) (hf90 : ∀ u, u < m → g 90 u = nI (f u) ∧ f u < 6) (hO : ∀ u, u < m → g 91 u = O u) : xT (k + 3) 213 [.ref 73, .int (nI m)] (xH b g l) (fun r M' => M' = xH b g l ∧ r = some (.int (xbits (fun q => decide (xfst (fun i => !decide (xshw h (q / 4) (q % 4) f i = O i)) m = none)) 24))) := by
  refine xT.of rfl (Nat.le_of_ble_eq_true rfl) ?_
  change xS _ _ 0 [(0, .ref 73), (1, .int (nI m))] [] _ _
  refine xS.s1 rfl rfl ?_
  try dsimp only [Nat.reduceAdd, xi_0]
  refine xS.s1 rfl rfl ?_
  try dsimp only [Nat.reduceAdd]
  refine xS.s1 rfl rfl ?_
  try dsimp only [Nat.reduceAdd, xi_0]
  refine xS.s1 rfl rfl ?_
  try dsimp only [Nat.reduceAdd]
  refine xS.pick [0, 1, 2, 3] rfl ?_
  refine xS.loop (σ := Unit) (24) (fun j S => [(3, .int (nI j)), (2, .int (xbits (fun q => decide (xfst (fun i => !decide (xshw h (q / 4) (q % 4) f i = O i)) m = none)) j)), (0, .ref 73), (1, .int (nI m))]) (fun _ _ => xH b g l) (fun _ _ => True) (()) (rfl) (rfl) (trivial) ?_
  intro j S hj hI ih
  try dsimp only
  refine xS.s1 rfl rfl ?_
  try dsimp only [Nat.reduceAdd]
  refine xS.s1 rfl rfl ?_
  try dsimp only [Nat.reduceAdd, xj_24]
  refine xS.br (c := .ge) (off := 80) (l := 3) rfl rfl (fun h7 => ?_) (fun h7 => ?_)
  · have g7 := xt_ge h7
    have e := xnle (b := 24) g7 (by omega) (by omega)
    have e2 : 24 = j := by omega
    subst e2
    refine xS.s1 rfl rfl ?_
    try dsimp only [Nat.reduceAdd]
    refine xS.ret rfl rfl rfl (fun _ _ => rfl) ?_
    exact ⟨rfl, rfl⟩
  · have g7 := xf_ge h7
    have hlt := xnlt (b := 24) g7 (by omega) (by omega)
    refine xS.s1 rfl rfl ?_
    try dsimp only [Nat.reduceAdd, xi_1]
    refine xS.s1 rfl rfl ?_
    try dsimp only [Nat.reduceAdd]
    refine xS.s1 rfl rfl ?_
    try dsimp only [Nat.reduceAdd, xi_0]
    refine xS.s1 rfl rfl ?_
    try dsimp only [Nat.reduceAdd]
    refine xS.pick [0, 1, 4, 5, 3, 2] rfl ?_
    refine xS.loop (σ := Unit) (m) (fun i S => [(5, .int (nI i)), (4, .int (if xfst (fun i => !decide (xshw h (j / 4) (j % 4) f i = O i)) i = none then 1 else 0)), (0, .ref 73), (1, .int (nI m)), (2, .int (xbits (fun q => decide (xfst (fun i => !decide (xshw h (q / 4) (q % 4) f i = O i)) m = none)) j)), (3, .int (nI j))]) (fun _ _ => xH b g l) (fun _ _ => True) (()) (rfl) (rfl) (trivial) ?_
    intro i S2 hi hI2 ih2
    try dsimp only
    refine xS.s1 rfl rfl ?_
    try dsimp only [Nat.reduceAdd]
    refine xS.s1 rfl rfl ?_
    try dsimp only [Nat.reduceAdd]
    refine xS.br (c := .ge) (off := 47) (l := 3) rfl rfl (fun h19 => ?_) (fun h19 => ?_)
    · have g19 := xt_ge h19
      have e := xnle g19 (by omega) (by omega)
      have e3 : m = i := by omega
      rw [← e3]
      refine xS.s1 rfl rfl ?_
      try dsimp only [Nat.reduceAdd]
      refine xS.s1 rfl rfl ?_
      try dsimp only [Nat.reduceAdd]
      refine xS.br0 (c := .eq) (off := 9) (l := 3) rfl rfl (fun h69 => ?_) (fun h69 => ?_)
      · have g69 := xt_eq h69
        refine xS.s1 rfl rfl ?_
        try dsimp only [Nat.reduceAdd, xi_0]
        refine xS.s1 rfl rfl ?_
        try dsimp only [Nat.reduceAdd]
        refine xS.s1 rfl rfl ?_
        try dsimp only [Nat.reduceAdd]
        refine xS.s1 rfl rfl ?_
        try dsimp only [Nat.reduceAdd, xi_1]
        rw [nI_1]
        refine xS.s1 rfl rfl ?_
        try dsimp only [Nat.reduceAdd]
        refine xS.pick [0, 1, 4, 5] rfl ?_
        have ih2b := ih () (by omega) trivial
        rw [xor0]
        rw [show xbits (fun q => decide (xfst (fun i => !decide (xshw h (q / 4) (q % 4) f i = O i)) m = none)) (j + 1) = xbits (fun q => decide (xfst (fun i => !decide (xshw h (q / 4) (q % 4) f i = O i)) m = none)) j from by rw [xbits_s]; simp only [decide_eq_false (xif0 g69), cond_false]] at ih2b
        exact ih2b
      · have g69 := xf_eq h69
        refine xS.s1 rfl rfl ?_
        try dsimp only [Nat.reduceAdd, xi_1]
        refine xS.s1 rfl rfl ?_
        try dsimp only [Nat.reduceAdd]
        refine xS.s1 rfl rfl ?_
        try dsimp only [Nat.reduceAdd]
        refine xS.s1 rfl rfl ?_
        try dsimp only [Nat.reduceAdd]
        refine xS.s1 rfl rfl ?_
        try dsimp only [Nat.reduceAdd]
        refine xS.s1 rfl rfl ?_
        try dsimp only [Nat.reduceAdd]
        refine xS.s1 rfl rfl ?_
        try dsimp only [Nat.reduceAdd, xi_1]
        rw [nI_1]
        refine xS.s1 rfl rfl ?_
        try dsimp only [Nat.reduceAdd]
        refine xS.pick [0, 1, 4, 5] rfl ?_
        have ih2b := ih () (by omega) trivial
        rw [show xbits (fun q => decide (xfst (fun i => !decide (xshw h (q / 4) (q % 4) f i = O i)) m = none)) (j + 1) = xbits (fun q => decide (xfst (fun i => !decide (xshw h (q / 4) (q % 4) f i = O i)) m = none)) j ||| (1 <<< (nI j &&& 31)) from by rw [xbits_s]; simp only [decide_eq_true (xif1 g69), cond_true]] at ih2b
        exact ih2b
    · have g19 := xf_ge h19
      have hli := xnlt g19 (by omega) (by omega)
      refine xS.s1 rfl rfl ?_
      try dsimp only [Nat.reduceAdd]
      refine xS.br0 (c := .eq) (off := 33) (l := 3) rfl rfl (fun h24 => ?_) (fun h24 => ?_)
      · have g24 := xt_eq h24
        refine xS.s1 rfl rfl ?_
        try dsimp only [Nat.reduceAdd, xi_0]
        refine xS.s1 rfl rfl ?_
        try dsimp only [Nat.reduceAdd]
        refine xS.s1 rfl rfl ?_
        try dsimp only [Nat.reduceAdd, xi_1]
        rw [nI_1]
        refine xS.s1 rfl rfl ?_
        try dsimp only [Nat.reduceAdd]
        refine xS.pick [0, 1, 2, 3, 4, 5] rfl ?_
        have ih3 := ih2 () (by omega) trivial
        have e24 := xif0 g24
        rw [if_neg (by rw [xfst_k e24]; exact e24)] at ih3
        exact ih3
      · have g24 := xf_eq h24
        refine xS.s1 rfl rfl ?_
        try dsimp only [Nat.reduceAdd]
        refine xS.s1 rfl rfl ?_
        try dsimp only [Nat.reduceAdd]
        refine xS.s1 rfl rfl ?_
        try dsimp only [Nat.reduceAdd, xi_4]
        refine xS.s1 rfl rfl ?_
        try dsimp only [Nat.reduceAdd]
        rw [xdiv4 (by omega)]
        refine xS.s1 rfl rfl ?_
        try dsimp only [Nat.reduceAdd]
        refine xS.s1 rfl rfl ?_
        try dsimp only [Nat.reduceAdd, xi_4]
        refine xS.s1 rfl rfl ?_
        try dsimp only [Nat.reduceAdd]
        rw [xrem4 (by omega)]
        refine xS.s1 rfl rfl ?_
        try dsimp only [Nat.reduceAdd]
        refine xS.gR rfl rfl rfl ⟨by decide, rfl⟩ rfl ?_
        try dsimp only [Nat.reduceAdd]
        refine xS.s1 rfl rfl ?_
        try dsimp only [Nat.reduceAdd]
        -- 40 yX12_showsBy
        refine xS.cv rfl rfl rfl rfl rfl rfl ⟨by decide, rfl, rfl⟩ (c_X12_showsBy (f := f) xar_90 hR (by omega) (by omega) (by omega) (fun u hu => ⟨by have := xat_le hu; omega, hf90 u (by have := xat_le hu; omega)⟩)) (fun v M1 hv => ?_)
        rw [hv.1, hv.2]
        clear hv M1 v
        try dsimp only [Nat.reduceAdd, Option.toList, List.cons_append, List.nil_append, List.drop]
        refine xS.s1 rfl rfl ?_
        try dsimp only [Nat.reduceAdd]
        refine xS.gR rfl rfl rfl ⟨by decide, rfl⟩ rfl ?_
        try dsimp only [Nat.reduceAdd]
        refine xS.s1 rfl rfl ?_
        try dsimp only [Nat.reduceAdd]
        refine xS.ia rfl xar_91 (by omega) ?_
        try dsimp only [Nat.reduceAdd]
        rw [hO i hli]
        refine xS.br (c := .ne) (off := 7) (l := 3) rfl rfl (fun h50 => ?_) (fun h50 => ?_)
        · have g50 := xt_ne h50
          refine xS.s1 rfl rfl ?_
          try dsimp only [Nat.reduceAdd, xi_0]
          refine xS.s1 rfl rfl ?_
          try dsimp only [Nat.reduceAdd]
          refine xS.s1 rfl rfl ?_
          try dsimp only [Nat.reduceAdd, xi_1]
          rw [nI_1]
          refine xS.s1 rfl rfl ?_
          try dsimp only [Nat.reduceAdd]
          refine xS.pick [0, 1, 2, 3, 4, 5] rfl ?_
          have ih3 := ih2 () (by omega) trivial
          have e24 := xif1 g24
          rw [if_neg (by rw [xfst_c e24 (by simp [g50])]; exact fun z => by cases z)] at ih3
          exact ih3
        · have g50 := xf_ne h50
          refine xS.s1 rfl rfl ?_
          try dsimp only [Nat.reduceAdd, xi_1]
          refine xS.s1 rfl rfl ?_
          try dsimp only [Nat.reduceAdd]
          refine xS.s1 rfl rfl ?_
          try dsimp only [Nat.reduceAdd]
          refine xS.s1 rfl rfl ?_
          try dsimp only [Nat.reduceAdd, xi_1]
          rw [nI_1]
          refine xS.s1 rfl rfl ?_
          try dsimp only [Nat.reduceAdd]
          refine xS.pick [0, 1, 2, 3, 4, 5] rfl ?_
          have ih3 := ih2 () (by omega) trivial
          have e24 := xif1 g24
          rw [if_pos (xfst_n e24 (by simp [g50]))] at ih3
          exact ih3

set_option maxRecDepth 10000 in
theorem c_X12_laws_ok (hR : xRr g h tx G T Lw) (hp1 : p < 6) (hs1 : s < 6) (hs : g 74 p = nI m) (hs2 : g 74 s = nI m) (hm : m ≤ 12) (hf : xfos (g 74 p) (fun i => g 75 (40 * p + i)) 12 = 0) (hf2 : xfos (g 74 s) (fun i => g 75 (40 * s + i)) 12 = 0) (hx : ∀ i, i < m → xstp (g 75 (40 * p + i))) (hx2 : ∀ i, i < m → xstp (g 75 (40 * s + i))) : xT (k + 5) 214 [.ref 73, .int (nI p), .int (nI s)] (xH b g l) (fun r M' => ∃ g0, xFr g g0 ∧ M' = xH b g0 l ∧ r = some (.int (xbits (fun q => decide (xfst (fun i => !decide (xshw h (q / 4) (q % 4) (fun i => xN (g 75 (40 * p + i))) i = g 75 (40 * s + i))) m = none)) 24))) := by
  refine xT.of rfl (Nat.le_of_ble_eq_true rfl) ?_
  change xS _ _ 0 [(0, .ref 73), (1, .int (nI p)), (2, .int (nI s))] [] _ _
  refine xS.s1 rfl rfl ?_
  try dsimp only [Nat.reduceAdd]
  -- 1 yX12_isRow
  refine xS.callS rfl rfl rfl ⟨Nat.le_of_ble_eq_true rfl, rfl⟩ (c_X12_isRow_in hp1) (fun v M1 hv => ?_)
  rw [hv.1, hv.2]
  clear hv M1 v
  try dsimp only [Nat.reduceAdd, Option.toList, List.cons_append, List.nil_append, List.drop]
  refine xS.br0 (c := .eq) (off := 10) (l := 3) rfl rfl (fun h4 => ?_) (fun h4 => ?_)
  · have g4 := xt_eq h4
    exfalso; first | exact absurd g4 (by decide) | (simp (disch := omega) only [Int32.lt_iff_toInt_lt, Int32.le_iff_toInt_le, nI_toInt, Int32.reduceToInt] at g4 <;> omega)
  · have g4 := xf_eq h4
    refine xS.s1 rfl rfl ?_
    try dsimp only [Nat.reduceAdd]
    -- 8 yX12_isRow
    refine xS.callS rfl rfl rfl ⟨Nat.le_of_ble_eq_true rfl, rfl⟩ (c_X12_isRow_in hs1) (fun v M1 hv => ?_)
    rw [hv.1, hv.2]
    clear hv M1 v
    try dsimp only [Nat.reduceAdd, Option.toList, List.cons_append, List.nil_append, List.drop]
    refine xS.br0 (c := .ne) (off := 5) (l := 3) rfl rfl (fun h11 => ?_) (fun h11 => ?_)
    · have g11 := xt_ne h11
      refine xS.s1 rfl rfl ?_
      try dsimp only [Nat.reduceAdd]
      refine xS.s1 rfl rfl ?_
      try dsimp only [Nat.reduceAdd]
      refine xS.s1 rfl rfl ?_
      try dsimp only [Nat.reduceAdd]
      -- 19 yX12_takeTwo
      refine xS.cv rfl rfl rfl rfl rfl rfl ⟨by decide, rfl, rfl⟩ (c_X12_takeTwo_0 hp1 hs (by omega) hs1 hs2 hf hf2) (fun v M1 hv => ?_)
      rw [hv.1, hv.2]
      clear hv M1 v
      have hF1 : xFr g (gset (gset g 90 m (fun i => g 75 (40 * p + i))) 91 m (fun i => g 75 (40 * s + i))) := xFr_t (xFr_gs (by decide)) (xFr_gs (by decide))
      have h90 : ∀ u, u < m → (gset (gset g 90 m (fun i => g 75 (40 * p + i))) 91 m (fun i => g 75 (40 * s + i))) 90 u = nI ((fun i => xN (g 75 (40 * p + i))) u) ∧ (fun i => xN (g 75 (40 * p + i))) u < 6 := fun u hu => by rw [gset_na (by decide), gset_in hu]; exact ⟨(xstp_N (hx u hu)).2, (xstp_N (hx u hu)).1⟩
      have h91 : ∀ u, u < m → (gset (gset g 90 m (fun i => g 75 (40 * p + i))) 91 m (fun i => g 75 (40 * s + i))) 91 u = g 75 (40 * s + u) := fun u hu => by rw [gset_in hu]
      have e74 : (gset (gset g 90 m (fun i => g 75 (40 * p + i))) 91 m (fun i => g 75 (40 * s + i))) 74 p = nI m := by rw [gset_na (by decide), gset_na (by decide)]; exact hs
      try dsimp only [Nat.reduceAdd, Option.toList, List.cons_append, List.nil_append, List.drop]
      refine xS.s1 rfl rfl ?_
      try dsimp only [Nat.reduceAdd]
      refine xS.s1 rfl rfl ?_
      try dsimp only [Nat.reduceAdd]
      refine xS.br0 (c := .ge) (off := 7) (l := 3) rfl rfl (fun h24 => ?_) (fun h24 => ?_)
      · have g24 := xt_ge h24
        refine xS.s1 rfl rfl ?_
        try dsimp only [Nat.reduceAdd]
        refine xS.s1 rfl rfl ?_
        try dsimp only [Nat.reduceAdd]
        refine xS.gR rfl rfl rfl ⟨by decide, rfl⟩ rfl ?_
        try dsimp only [Nat.reduceAdd]
        refine xS.s1 rfl rfl ?_
        try dsimp only [Nat.reduceAdd]
        refine xS.ia rfl xar_74 (by omega) ?_
        try dsimp only [Nat.reduceAdd]
        rw [e74]
        -- 38 yX12_lawsOf
        refine xS.cv rfl rfl rfl rfl rfl rfl ⟨by decide, rfl, rfl⟩ (c_X12_lawsOf (f := (fun i => xN (g 75 (40 * p + i)))) (O := fun i => g 75 (40 * s + i)) (xRr_F hF1 hR) hm h90 h91) (fun v M1 hv => ?_)
        rw [hv.1, hv.2]
        clear hv M1 v
        try dsimp only [Nat.reduceAdd, Option.toList, List.cons_append, List.nil_append, List.drop]
        refine xS.ret rfl rfl rfl (fun _ _ => rfl) ?_
        exact ⟨_, hF1, rfl, rfl⟩
      · have g24 := xf_ge h24
        exfalso; first | exact absurd g24 (by decide) | (simp (disch := omega) only [Int32.lt_iff_toInt_lt, Int32.le_iff_toInt_le, nI_toInt, Int32.reduceToInt] at g24 <;> omega)
    · have g11 := xf_ne h11
      exfalso; first | exact absurd g11 (by decide) | (simp (disch := omega) only [Int32.lt_iff_toInt_lt, Int32.le_iff_toInt_le, nI_toInt, Int32.reduceToInt] at g11 <;> omega)

set_option maxRecDepth 10000 in
theorem c_X12_next_12 (hp1 : p < 6) (hs1 : s < 6) (hs : g 74 p = nI m) (hs2 : g 74 s = nI m) (hm12 : m = 12) (hf : xfos (g 74 p) (fun i => g 75 (40 * p + i)) 12 = 0) (hf2 : xfos (g 74 s) (fun i => g 75 (40 * s + i)) 12 = 0) (hx : ∀ i, i < m → xstp (g 75 (40 * p + i))) (hx2 : ∀ i, i < m → xstp (g 75 (40 * s + i))) : xT (k + 5) 216 [.ref 73, .int (nI p), .int (nI s)] (xH b g l) (fun r M' => ∃ g', xFr g g' ∧ M' = xH b g' l ∧ r = some (.int (-3))) := by
  refine xT.of rfl (Nat.le_of_ble_eq_true rfl) ?_
  change xS _ _ 0 [(0, .ref 73), (1, .int (nI p)), (2, .int (nI s))] [] _ _
  refine xS.s1 rfl rfl ?_
  try dsimp only [Nat.reduceAdd]
  -- 1 yX12_isRow
  refine xS.callS rfl rfl rfl ⟨Nat.le_of_ble_eq_true rfl, rfl⟩ (c_X12_isRow_in hp1) (fun v M1 hv => ?_)
  rw [hv.1, hv.2]
  clear hv M1 v
  try dsimp only [Nat.reduceAdd, Option.toList, List.cons_append, List.nil_append, List.drop]
  refine xS.br0 (c := .eq) (off := 10) (l := 3) rfl rfl (fun h4 => ?_) (fun h4 => ?_)
  · have g4 := xt_eq h4
    exfalso; first | exact absurd g4 (by decide) | (simp (disch := omega) only [Int32.lt_iff_toInt_lt, Int32.le_iff_toInt_le, nI_toInt, Int32.reduceToInt] at g4 <;> omega)
  · have g4 := xf_eq h4
    refine xS.s1 rfl rfl ?_
    try dsimp only [Nat.reduceAdd]
    -- 8 yX12_isRow
    refine xS.callS rfl rfl rfl ⟨Nat.le_of_ble_eq_true rfl, rfl⟩ (c_X12_isRow_in hs1) (fun v M1 hv => ?_)
    rw [hv.1, hv.2]
    clear hv M1 v
    try dsimp only [Nat.reduceAdd, Option.toList, List.cons_append, List.nil_append, List.drop]
    refine xS.br0 (c := .ne) (off := 5) (l := 3) rfl rfl (fun h11 => ?_) (fun h11 => ?_)
    · have g11 := xt_ne h11
      refine xS.s1 rfl rfl ?_
      try dsimp only [Nat.reduceAdd]
      refine xS.s1 rfl rfl ?_
      try dsimp only [Nat.reduceAdd]
      refine xS.s1 rfl rfl ?_
      try dsimp only [Nat.reduceAdd]
      -- 19 yX12_takeTwo
      refine xS.cv rfl rfl rfl rfl rfl rfl ⟨by decide, rfl, rfl⟩ (c_X12_takeTwo_0 hp1 hs (by omega) hs1 hs2 hf hf2) (fun v M1 hv => ?_)
      rw [hv.1, hv.2]
      clear hv M1 v
      have hF1 : xFr g (gset (gset g 90 m (fun i => g 75 (40 * p + i))) 91 m (fun i => g 75 (40 * s + i))) := xFr_t (xFr_gs (by decide)) (xFr_gs (by decide))
      have h90 : ∀ u, u < m → (gset (gset g 90 m (fun i => g 75 (40 * p + i))) 91 m (fun i => g 75 (40 * s + i))) 90 u = nI ((fun i => xN (g 75 (40 * p + i))) u) ∧ (fun i => xN (g 75 (40 * p + i))) u < 6 := fun u hu => by rw [gset_na (by decide), gset_in hu]; exact ⟨(xstp_N (hx u hu)).2, (xstp_N (hx u hu)).1⟩
      have h91 : ∀ u, u < m → (gset (gset g 90 m (fun i => g 75 (40 * p + i))) 91 m (fun i => g 75 (40 * s + i))) 91 u = g 75 (40 * s + u) := fun u hu => by rw [gset_in hu]
      have e74 : (gset (gset g 90 m (fun i => g 75 (40 * p + i))) 91 m (fun i => g 75 (40 * s + i))) 74 p = nI m := by rw [gset_na (by decide), gset_na (by decide)]; exact hs
      try dsimp only [Nat.reduceAdd, Option.toList, List.cons_append, List.nil_append, List.drop]
      refine xS.s1 rfl rfl ?_
      try dsimp only [Nat.reduceAdd]
      refine xS.s1 rfl rfl ?_
      try dsimp only [Nat.reduceAdd]
      refine xS.br0 (c := .ge) (off := 5) (l := 3) rfl rfl (fun h24 => ?_) (fun h24 => ?_)
      · have g24 := xt_ge h24
        refine xS.s1 rfl rfl ?_
        try dsimp only [Nat.reduceAdd]
        refine xS.gR rfl rfl rfl ⟨by decide, rfl⟩ rfl ?_
        try dsimp only [Nat.reduceAdd]
        refine xS.s1 rfl rfl ?_
        try dsimp only [Nat.reduceAdd]
        refine xS.ia rfl xar_74 (by omega) ?_
        try dsimp only [Nat.reduceAdd]
        rw [e74]
        refine xS.s1 rfl rfl ?_
        try dsimp only [Nat.reduceAdd]
        refine xS.s1 rfl rfl ?_
        try dsimp only [Nat.reduceAdd]
        refine xS.s1 rfl rfl ?_
        try dsimp only [Nat.reduceAdd, xj_12]
        refine xS.br (c := .ne) (off := 9) (l := 3) rfl rfl (fun h41 => ?_) (fun h41 => ?_)
        · have g41 := xt_ne h41
          exfalso; rw [hm12] at g41; exact g41 rfl
        · have g41 := xf_ne h41
          refine xS.s1 rfl rfl ?_
          try dsimp only [Nat.reduceAdd]
          refine xS.s1 rfl rfl ?_
          try dsimp only [Nat.reduceAdd, xi_5]
          -- 46 yX12_finds
          refine xS.cv rfl rfl rfl rfl rfl rfl ⟨by decide, rfl, rfl⟩ (c_X12_finds (t := 5) (by decide)) (fun v M1 hv => ?_)
          rw [hv.1, hv.2]
          clear hv M1 v
          try dsimp only [Nat.reduceAdd, Option.toList, List.cons_append, List.nil_append, List.drop]
          refine xS.ret rfl rfl rfl (fun _ _ => rfl) ?_
          exact ⟨_, xFr_t hF1 (xFr_fR _ 5), rfl, rfl⟩
      · have g24 := xf_ge h24
        exfalso; first | exact absurd g24 (by decide) | (simp (disch := omega) only [Int32.lt_iff_toInt_lt, Int32.le_iff_toInt_le, nI_toInt, Int32.reduceToInt] at g24 <;> omega)
    · have g11 := xf_ne h11
      exfalso; first | exact absurd g11 (by decide) | (simp (disch := omega) only [Int32.lt_iff_toInt_lt, Int32.le_iff_toInt_le, nI_toInt, Int32.reduceToInt] at g11 <;> omega)

set_option maxRecDepth 10000 in
theorem c_X12_next_none (hR : xRr g h tx G T Lw) (hp1 : p < 6) (hs1 : s < 6) (hs : g 74 p = nI m) (hs2 : g 74 s = nI m) (hm : m ≤ 12) (hf : xfos (g 74 p) (fun i => g 75 (40 * p + i)) 12 = 0) (hf2 : xfos (g 74 s) (fun i => g 75 (40 * s + i)) 12 = 0) (hx : ∀ i, i < m → xstp (g 75 (40 * p + i))) (hx2 : ∀ i, i < m → xstp (g 75 (40 * s + i))) (hm11 : m ≤ 11) (hbc : xbs (xbits (fun q => decide (xfst (fun i => !decide (xshw h (q / 4) (q % 4) (fun i => xN (g 75 (40 * p + i))) i = g 75 (40 * s + i))) m = none)) 24) 24 < 2) : xT (k + 5) 216 [.ref 73, .int (nI p), .int (nI s)] (xH b g l) (fun r M' => ∃ g0, xFr g g0 ∧ M' = xH b g0 l ∧ r = some (.int (-9))) := by
  refine xT.of rfl (Nat.le_of_ble_eq_true rfl) ?_
  change xS _ _ 0 [(0, .ref 73), (1, .int (nI p)), (2, .int (nI s))] [] _ _
  refine xS.s1 rfl rfl ?_
  try dsimp only [Nat.reduceAdd]
  -- 1 yX12_isRow
  refine xS.callS rfl rfl rfl ⟨Nat.le_of_ble_eq_true rfl, rfl⟩ (c_X12_isRow_in hp1) (fun v M1 hv => ?_)
  rw [hv.1, hv.2]
  clear hv M1 v
  try dsimp only [Nat.reduceAdd, Option.toList, List.cons_append, List.nil_append, List.drop]
  refine xS.br0 (c := .eq) (off := 10) (l := 3) rfl rfl (fun h4 => ?_) (fun h4 => ?_)
  · have g4 := xt_eq h4
    exfalso; first | exact absurd g4 (by decide) | (simp (disch := omega) only [Int32.lt_iff_toInt_lt, Int32.le_iff_toInt_le, nI_toInt, Int32.reduceToInt] at g4 <;> omega)
  · have g4 := xf_eq h4
    refine xS.s1 rfl rfl ?_
    try dsimp only [Nat.reduceAdd]
    -- 8 yX12_isRow
    refine xS.callS rfl rfl rfl ⟨Nat.le_of_ble_eq_true rfl, rfl⟩ (c_X12_isRow_in hs1) (fun v M1 hv => ?_)
    rw [hv.1, hv.2]
    clear hv M1 v
    try dsimp only [Nat.reduceAdd, Option.toList, List.cons_append, List.nil_append, List.drop]
    refine xS.br0 (c := .ne) (off := 5) (l := 3) rfl rfl (fun h11 => ?_) (fun h11 => ?_)
    · have g11 := xt_ne h11
      refine xS.s1 rfl rfl ?_
      try dsimp only [Nat.reduceAdd]
      refine xS.s1 rfl rfl ?_
      try dsimp only [Nat.reduceAdd]
      refine xS.s1 rfl rfl ?_
      try dsimp only [Nat.reduceAdd]
      -- 19 yX12_takeTwo
      refine xS.cv rfl rfl rfl rfl rfl rfl ⟨by decide, rfl, rfl⟩ (c_X12_takeTwo_0 hp1 hs (by omega) hs1 hs2 hf hf2) (fun v M1 hv => ?_)
      rw [hv.1, hv.2]
      clear hv M1 v
      have hF1 : xFr g (gset (gset g 90 m (fun i => g 75 (40 * p + i))) 91 m (fun i => g 75 (40 * s + i))) := xFr_t (xFr_gs (by decide)) (xFr_gs (by decide))
      have h90 : ∀ u, u < m → (gset (gset g 90 m (fun i => g 75 (40 * p + i))) 91 m (fun i => g 75 (40 * s + i))) 90 u = nI ((fun i => xN (g 75 (40 * p + i))) u) ∧ (fun i => xN (g 75 (40 * p + i))) u < 6 := fun u hu => by rw [gset_na (by decide), gset_in hu]; exact ⟨(xstp_N (hx u hu)).2, (xstp_N (hx u hu)).1⟩
      have h91 : ∀ u, u < m → (gset (gset g 90 m (fun i => g 75 (40 * p + i))) 91 m (fun i => g 75 (40 * s + i))) 91 u = g 75 (40 * s + u) := fun u hu => by rw [gset_in hu]
      have e74 : (gset (gset g 90 m (fun i => g 75 (40 * p + i))) 91 m (fun i => g 75 (40 * s + i))) 74 p = nI m := by rw [gset_na (by decide), gset_na (by decide)]; exact hs
      try dsimp only [Nat.reduceAdd, Option.toList, List.cons_append, List.nil_append, List.drop]
      refine xS.s1 rfl rfl ?_
      try dsimp only [Nat.reduceAdd]
      refine xS.s1 rfl rfl ?_
      try dsimp only [Nat.reduceAdd]
      refine xS.br0 (c := .ge) (off := 5) (l := 3) rfl rfl (fun h24 => ?_) (fun h24 => ?_)
      · have g24 := xt_ge h24
        refine xS.s1 rfl rfl ?_
        try dsimp only [Nat.reduceAdd]
        refine xS.gR rfl rfl rfl ⟨by decide, rfl⟩ rfl ?_
        try dsimp only [Nat.reduceAdd]
        refine xS.s1 rfl rfl ?_
        try dsimp only [Nat.reduceAdd]
        refine xS.ia rfl xar_74 (by omega) ?_
        try dsimp only [Nat.reduceAdd]
        rw [e74]
        refine xS.s1 rfl rfl ?_
        try dsimp only [Nat.reduceAdd]
        refine xS.s1 rfl rfl ?_
        try dsimp only [Nat.reduceAdd]
        refine xS.s1 rfl rfl ?_
        try dsimp only [Nat.reduceAdd, xj_12]
        refine xS.br (c := .ne) (off := 9) (l := 3) rfl rfl (fun h41 => ?_) (fun h41 => ?_)
        · have g41 := xt_ne h41
          refine xS.s1 rfl rfl ?_
          try dsimp only [Nat.reduceAdd]
          refine xS.s1 rfl rfl ?_
          try dsimp only [Nat.reduceAdd]
          -- 53 yX12_lawsOf
          refine xS.cv rfl rfl rfl rfl rfl rfl ⟨by decide, rfl, rfl⟩ (c_X12_lawsOf (f := (fun i => xN (g 75 (40 * p + i)))) (O := fun i => g 75 (40 * s + i)) (xRr_F hF1 hR) hm h90 h91) (fun v M1 hv => ?_)
          rw [hv.1, hv.2]
          clear hv M1 v
          try dsimp only [Nat.reduceAdd, Option.toList, List.cons_append, List.nil_append, List.drop]
          refine xS.s1 rfl rfl ?_
          try dsimp only [Nat.reduceAdd]
          refine xS.s1 rfl rfl ?_
          try dsimp only [Nat.reduceAdd]
          -- 60 yX12_bits
          refine xS.callS rfl rfl rfl ⟨Nat.le_of_ble_eq_true rfl, rfl⟩ c_X12_bits (fun v M1 hv => ?_)
          rw [hv.1, hv.2]
          clear hv M1 v
          try dsimp only [Nat.reduceAdd, Option.toList, List.cons_append, List.nil_append, List.drop]
          refine xS.s1 rfl rfl ?_
          try dsimp only [Nat.reduceAdd, xi_2]
          refine xS.br (c := .ge) (off := 6) (l := 3) rfl rfl (fun h64 => ?_) (fun h64 => ?_)
          · have g64 := xt_ge h64
            exact absurd hbc (Int32.not_lt.mpr g64)
          · have g64 := xf_ge h64
            refine xS.s1 rfl rfl ?_
            try dsimp only [Nat.reduceAdd, xj_m9]
            refine xS.ret rfl rfl rfl (fun _ _ => rfl) ?_
            exact ⟨_, hF1, rfl, rfl⟩
        · have g41 := xf_ne h41
          exfalso; have := (nI_eq (b := 12) (by omega) (by omega)).mp g41; omega
      · have g24 := xf_ge h24
        exfalso; first | exact absurd g24 (by decide) | (simp (disch := omega) only [Int32.lt_iff_toInt_lt, Int32.le_iff_toInt_le, nI_toInt, Int32.reduceToInt] at g24 <;> omega)
    · have g11 := xf_ne h11
      exfalso; first | exact absurd g11 (by decide) | (simp (disch := omega) only [Int32.lt_iff_toInt_lt, Int32.le_iff_toInt_le, nI_toInt, Int32.reduceToInt] at g11 <;> omega)

set_option maxRecDepth 10000 in
theorem c_X12_next_ok (hR : xRr g h tx G T Lw) (hp1 : p < 6) (hs1 : s < 6) (hs : g 74 p = nI m) (hs2 : g 74 s = nI m) (hm : m ≤ 12) (hf : xfos (g 74 p) (fun i => g 75 (40 * p + i)) 12 = 0) (hf2 : xfos (g 74 s) (fun i => g 75 (40 * s + i)) 12 = 0) (hx : ∀ i, i < m → xstp (g 75 (40 * p + i))) (hx2 : ∀ i, i < m → xstp (g 75 (40 * s + i))) (hm11 : m ≤ 11) (hbc : ¬ xbs (xbits (fun q => decide (xfst (fun i => !decide (xshw h (q / 4) (q % 4) (fun i => xN (g 75 (40 * p + i))) i = g 75 (40 * s + i))) m = none)) 24) 24 < 2) : xT (k + 5) 216 [.ref 73, .int (nI p), .int (nI s)] (xH b g l) (fun r M' => ∃ g0, xFr g g0 ∧ M' = xH b (up g0 73 20 (nI (xnxr (fun y => xmv (fun v => (xcnt (fun q => decide (((xbits (fun q => decide (xfst (fun i => !decide (xshw h (q / 4) (q % 4) (fun i => xN (g 75 (40 * p + i))) i = g 75 (40 * s + i))) m = none)) 24) >>> (nI q &&& 31)) &&& 1 = 1) && decide (xshw h (q / 4) (q % 4) (fup (fun i => xN (g 75 (40 * p + i))) m y) m = nI v)) 24)) 6) 6).1)) l ∧ r = some (.int (xnxr (fun y => xmv (fun v => (xcnt (fun q => decide (((xbits (fun q => decide (xfst (fun i => !decide (xshw h (q / 4) (q % 4) (fun i => xN (g 75 (40 * p + i))) i = g 75 (40 * s + i))) m = none)) 24) >>> (nI q &&& 31)) &&& 1 = 1) && decide (xshw h (q / 4) (q % 4) (fup (fun i => xN (g 75 (40 * p + i))) m y) m = nI v)) 24)) 6) 6).2)) := by
  refine xT.of rfl (Nat.le_of_ble_eq_true rfl) ?_
  change xS _ _ 0 [(0, .ref 73), (1, .int (nI p)), (2, .int (nI s))] [] _ _
  refine xS.s1 rfl rfl ?_
  try dsimp only [Nat.reduceAdd]
  -- 1 yX12_isRow
  refine xS.callS rfl rfl rfl ⟨Nat.le_of_ble_eq_true rfl, rfl⟩ (c_X12_isRow_in hp1) (fun v M1 hv => ?_)
  rw [hv.1, hv.2]
  clear hv M1 v
  try dsimp only [Nat.reduceAdd, Option.toList, List.cons_append, List.nil_append, List.drop]
  refine xS.br0 (c := .eq) (off := 10) (l := 3) rfl rfl (fun h4 => ?_) (fun h4 => ?_)
  · have g4 := xt_eq h4
    exfalso; first | exact absurd g4 (by decide) | (simp (disch := omega) only [Int32.lt_iff_toInt_lt, Int32.le_iff_toInt_le, nI_toInt, Int32.reduceToInt] at g4 <;> omega)
  · have g4 := xf_eq h4
    refine xS.s1 rfl rfl ?_
    try dsimp only [Nat.reduceAdd]
    -- 8 yX12_isRow
    refine xS.callS rfl rfl rfl ⟨Nat.le_of_ble_eq_true rfl, rfl⟩ (c_X12_isRow_in hs1) (fun v M1 hv => ?_)
    rw [hv.1, hv.2]
    clear hv M1 v
    try dsimp only [Nat.reduceAdd, Option.toList, List.cons_append, List.nil_append, List.drop]
    refine xS.br0 (c := .ne) (off := 5) (l := 3) rfl rfl (fun h11 => ?_) (fun h11 => ?_)
    · have g11 := xt_ne h11
      refine xS.s1 rfl rfl ?_
      try dsimp only [Nat.reduceAdd]
      refine xS.s1 rfl rfl ?_
      try dsimp only [Nat.reduceAdd]
      refine xS.s1 rfl rfl ?_
      try dsimp only [Nat.reduceAdd]
      -- 19 yX12_takeTwo
      refine xS.cv rfl rfl rfl rfl rfl rfl ⟨by decide, rfl, rfl⟩ (c_X12_takeTwo_0 hp1 hs (by omega) hs1 hs2 hf hf2) (fun v M1 hv => ?_)
      rw [hv.1, hv.2]
      clear hv M1 v
      have hF1 : xFr g (gset (gset g 90 m (fun i => g 75 (40 * p + i))) 91 m (fun i => g 75 (40 * s + i))) := xFr_t (xFr_gs (by decide)) (xFr_gs (by decide))
      have h90 : ∀ u, u < m → (gset (gset g 90 m (fun i => g 75 (40 * p + i))) 91 m (fun i => g 75 (40 * s + i))) 90 u = nI ((fun i => xN (g 75 (40 * p + i))) u) ∧ (fun i => xN (g 75 (40 * p + i))) u < 6 := fun u hu => by rw [gset_na (by decide), gset_in hu]; exact ⟨(xstp_N (hx u hu)).2, (xstp_N (hx u hu)).1⟩
      have h91 : ∀ u, u < m → (gset (gset g 90 m (fun i => g 75 (40 * p + i))) 91 m (fun i => g 75 (40 * s + i))) 91 u = g 75 (40 * s + u) := fun u hu => by rw [gset_in hu]
      have e74 : (gset (gset g 90 m (fun i => g 75 (40 * p + i))) 91 m (fun i => g 75 (40 * s + i))) 74 p = nI m := by rw [gset_na (by decide), gset_na (by decide)]; exact hs
      try dsimp only [Nat.reduceAdd, Option.toList, List.cons_append, List.nil_append, List.drop]
      refine xS.s1 rfl rfl ?_
      try dsimp only [Nat.reduceAdd]
      refine xS.s1 rfl rfl ?_
      try dsimp only [Nat.reduceAdd]
      refine xS.br0 (c := .ge) (off := 5) (l := 3) rfl rfl (fun h24 => ?_) (fun h24 => ?_)
      · have g24 := xt_ge h24
        refine xS.s1 rfl rfl ?_
        try dsimp only [Nat.reduceAdd]
        refine xS.gR rfl rfl rfl ⟨by decide, rfl⟩ rfl ?_
        try dsimp only [Nat.reduceAdd]
        refine xS.s1 rfl rfl ?_
        try dsimp only [Nat.reduceAdd]
        refine xS.ia rfl xar_74 (by omega) ?_
        try dsimp only [Nat.reduceAdd]
        rw [e74]
        refine xS.s1 rfl rfl ?_
        try dsimp only [Nat.reduceAdd]
        refine xS.s1 rfl rfl ?_
        try dsimp only [Nat.reduceAdd]
        refine xS.s1 rfl rfl ?_
        try dsimp only [Nat.reduceAdd, xj_12]
        refine xS.br (c := .ne) (off := 9) (l := 3) rfl rfl (fun h41 => ?_) (fun h41 => ?_)
        · have g41 := xt_ne h41
          refine xS.s1 rfl rfl ?_
          try dsimp only [Nat.reduceAdd]
          refine xS.s1 rfl rfl ?_
          try dsimp only [Nat.reduceAdd]
          -- 53 yX12_lawsOf
          refine xS.cv rfl rfl rfl rfl rfl rfl ⟨by decide, rfl, rfl⟩ (c_X12_lawsOf (f := (fun i => xN (g 75 (40 * p + i)))) (O := fun i => g 75 (40 * s + i)) (xRr_F hF1 hR) hm h90 h91) (fun v M1 hv => ?_)
          rw [hv.1, hv.2]
          clear hv M1 v
          try dsimp only [Nat.reduceAdd, Option.toList, List.cons_append, List.nil_append, List.drop]
          refine xS.s1 rfl rfl ?_
          try dsimp only [Nat.reduceAdd]
          refine xS.s1 rfl rfl ?_
          try dsimp only [Nat.reduceAdd]
          -- 60 yX12_bits
          refine xS.callS rfl rfl rfl ⟨Nat.le_of_ble_eq_true rfl, rfl⟩ c_X12_bits (fun v M1 hv => ?_)
          rw [hv.1, hv.2]
          clear hv M1 v
          try dsimp only [Nat.reduceAdd, Option.toList, List.cons_append, List.nil_append, List.drop]
          refine xS.s1 rfl rfl ?_
          try dsimp only [Nat.reduceAdd, xi_2]
          refine xS.br (c := .ge) (off := 6) (l := 3) rfl rfl (fun h64 => ?_) (fun h64 => ?_)
          · have g64 := xt_ge h64
            refine xS.s1 rfl rfl ?_
            try dsimp only [Nat.reduceAdd, xj_m9]
            refine xS.s1 rfl rfl ?_
            try dsimp only [Nat.reduceAdd]
            refine xS.s1 rfl rfl ?_
            try dsimp only [Nat.reduceAdd, xj_99]
            refine xS.s1 rfl rfl ?_
            try dsimp only [Nat.reduceAdd]
            refine xS.s1 rfl rfl ?_
            try dsimp only [Nat.reduceAdd, xi_0]
            refine xS.s1 rfl rfl ?_
            try dsimp only [Nat.reduceAdd]
            refine xS.pick [0, 1, 2, 6, 4, 3] rfl ?_
            refine xS.loop (σ := Nat → Nat → Int32) (6) (fun j S => [(8, .int (nI j)), (7, .int (nI (xnxr (fun y => xmv (fun v => (xcnt (fun q => decide (((xbits (fun q => decide (xfst (fun i => !decide (xshw h (q / 4) (q % 4) (fun i => xN (g 75 (40 * p + i))) i = g 75 (40 * s + i))) m = none)) 24) >>> (nI q &&& 31)) &&& 1 = 1) && decide (xshw h (q / 4) (q % 4) (fup (fun i => xN (g 75 (40 * p + i))) m y) m = nI v)) 24)) 6) j).1)), (6, .int (xnxr (fun y => xmv (fun v => (xcnt (fun q => decide (((xbits (fun q => decide (xfst (fun i => !decide (xshw h (q / 4) (q % 4) (fun i => xN (g 75 (40 * p + i))) i = g 75 (40 * s + i))) m = none)) 24) >>> (nI q &&& 31)) &&& 1 = 1) && decide (xshw h (q / 4) (q % 4) (fup (fun i => xN (g 75 (40 * p + i))) m y) m = nI v)) 24)) 6) j).2), (0, .ref 73), (4, .int (nI m)), (5, .int (xbits (fun q => decide (xfst (fun i => !decide (xshw h (q / 4) (q % 4) (fun i => xN (g 75 (40 * p + i))) i = g 75 (40 * s + i))) m = none)) 24))]) (fun _ S => xH b S l) (fun _ S => (∀ a, a ≠ 90 → S a = (gset (gset g 90 m (fun i => g 75 (40 * p + i))) 91 m (fun i => g 75 (40 * s + i))) a) ∧ (∀ u, u < m → S 90 u = nI ((fun i => xN (g 75 (40 * p + i))) u) ∧ (fun i => xN (g 75 (40 * p + i))) u < 6)) ((gset (gset g 90 m (fun i => g 75 (40 * p + i))) 91 m (fun i => g 75 (40 * s + i)))) (rfl) (rfl) (⟨fun _ _ => rfl, h90⟩) ?_
            intro j S hj hI ih
            try dsimp only
            have hS73 : S 73 = (gset (gset g 90 m (fun i => g 75 (40 * p + i))) 91 m (fun i => g 75 (40 * s + i))) 73 := hI.1 73 (by decide)
            have hxl := xnxr_le (fun y => xmv (fun v => (xcnt (fun q => decide (((xbits (fun q => decide (xfst (fun i => !decide (xshw h (q / 4) (q % 4) (fun i => xN (g 75 (40 * p + i))) i = g 75 (40 * s + i))) m = none)) 24) >>> (nI q &&& 31)) &&& 1 = 1) && decide (xshw h (q / 4) (q % 4) (fup (fun i => xN (g 75 (40 * p + i))) m y) m = nI v)) 24)) 6) j
            refine xS.s1 rfl rfl ?_
            try dsimp only [Nat.reduceAdd]
            refine xS.s1 rfl rfl ?_
            try dsimp only [Nat.reduceAdd, xj_6]
            refine xS.br (c := .ge) (off := 147) (l := 3) rfl rfl (fun h85 => ?_) (fun h85 => ?_)
            · have g85 := xt_ge h85
              have e := xnle (b := 6) g85 (by omega) (by omega)
              have e6 : 6 = j := by omega
              rw [← e6]
              refine xS.s1 rfl rfl ?_
              try dsimp only [Nat.reduceAdd]
              refine xS.s1 rfl rfl ?_
              try dsimp only [Nat.reduceAdd]
              refine xS.pI rfl rfl rfl ⟨⟨by decide, rfl⟩, rfl, by decide, by decide⟩ rfl ?_
              try dsimp only [Nat.reduceAdd]
              refine xS.s1 rfl rfl ?_
              try dsimp only [Nat.reduceAdd]
              refine xS.ret rfl rfl rfl (fun _ _ => rfl) ?_
              exact ⟨S, xFr_t hF1 ⟨fun a h1 h2 => hI.1 a (by omega), fun i _ => by rw [hS73]⟩, rfl, rfl⟩
            · have g85 := xf_ge h85
              have hlt := xnlt (b := 6) g85 (by omega) (by omega)
              refine xS.s1 rfl rfl ?_
              try dsimp only [Nat.reduceAdd]
              refine xS.gR rfl rfl rfl ⟨by decide, rfl⟩ rfl ?_
              try dsimp only [Nat.reduceAdd]
              refine xS.s1 rfl rfl ?_
              try dsimp only [Nat.reduceAdd]
              refine xS.s1 rfl rfl ?_
              try dsimp only [Nat.reduceAdd]
              refine xS.ias rfl xar_90 (by omega) ?_
              try dsimp only [Nat.reduceAdd]
              have h90s : ∀ u, u ≤ m → up S 90 m (nI j) 90 u = nI ((fup (fun i => xN (g 75 (40 * p + i))) m j) u) ∧ (fup (fun i => xN (g 75 (40 * p + i))) m j) u < 6 := fun u hu => by
                unfold fup
                by_cases e : u = m
                · rw [e, up_same, if_pos rfl]
                  exact ⟨rfl, hlt⟩
                · rw [up_ne (Or.inr e), if_neg e]
                  exact hI.2 u (by omega)
              have hRs : xRr (up S 90 m (nI j)) h tx G T Lw := xRr_fr (by rw [up_na (by decide), hS73]) (by rw [up_na (by decide), hS73]) (by rw [up_na (by decide)]; exact hI.1 81 (by decide)) (by rw [up_na (by decide)]; exact hI.1 82 (by decide)) (by rw [up_na (by decide)]; exact hI.1 83 (by decide)) (xRr_F hF1 hR)
              refine xS.s1 rfl rfl ?_
              try dsimp only [Nat.reduceAdd, xi_0]
              refine xS.s1 rfl rfl ?_
              try dsimp only [Nat.reduceAdd]
              refine xS.s1 rfl rfl ?_
              try dsimp only [Nat.reduceAdd, xi_0]
              refine xS.s1 rfl rfl ?_
              try dsimp only [Nat.reduceAdd]
              refine xS.pick [0, 1, 2, 3, 4, 5, 6, 7] rfl ?_
              refine xS.loop (σ := Unit) (6) (fun i S => [(10, .int (nI i)), (9, .int (nI (xmv (fun v => (xcnt (fun q => decide (((xbits (fun q => decide (xfst (fun i => !decide (xshw h (q / 4) (q % 4) (fun i => xN (g 75 (40 * p + i))) i = g 75 (40 * s + i))) m = none)) 24) >>> (nI q &&& 31)) &&& 1 = 1) && decide (xshw h (q / 4) (q % 4) (fup (fun i => xN (g 75 (40 * p + i))) m j) m = nI v)) 24)) i))), (8, .int (nI j)), (7, .int (nI (xnxr (fun y => xmv (fun v => (xcnt (fun q => decide (((xbits (fun q => decide (xfst (fun i => !decide (xshw h (q / 4) (q % 4) (fun i => xN (g 75 (40 * p + i))) i = g 75 (40 * s + i))) m = none)) 24) >>> (nI q &&& 31)) &&& 1 = 1) && decide (xshw h (q / 4) (q % 4) (fup (fun i => xN (g 75 (40 * p + i))) m y) m = nI v)) 24)) 6) j).1)), (6, .int (xnxr (fun y => xmv (fun v => (xcnt (fun q => decide (((xbits (fun q => decide (xfst (fun i => !decide (xshw h (q / 4) (q % 4) (fun i => xN (g 75 (40 * p + i))) i = g 75 (40 * s + i))) m = none)) 24) >>> (nI q &&& 31)) &&& 1 = 1) && decide (xshw h (q / 4) (q % 4) (fup (fun i => xN (g 75 (40 * p + i))) m y) m = nI v)) 24)) 6) j).2), (0, .ref 73), (4, .int (nI m)), (5, .int (xbits (fun q => decide (xfst (fun i => !decide (xshw h (q / 4) (q % 4) (fun i => xN (g 75 (40 * p + i))) i = g 75 (40 * s + i))) m = none)) 24))]) (fun _ _ => xH b (up S 90 m (nI j)) l) (fun _ _ => True) (()) (rfl) (rfl) (trivial) ?_
              intro i S9 hi hI9 ih9
              try dsimp only
              have hmv : xmv (fun v => (xcnt (fun q => decide (((xbits (fun q => decide (xfst (fun i => !decide (xshw h (q / 4) (q % 4) (fun i => xN (g 75 (40 * p + i))) i = g 75 (40 * s + i))) m = none)) 24) >>> (nI q &&& 31)) &&& 1 = 1) && decide (xshw h (q / 4) (q % 4) (fup (fun i => xN (g 75 (40 * p + i))) m j) m = nI v)) 24)) i ≤ 24 := xmv_le (fun v => xcnt_le _ _) i
              refine xS.s1 rfl rfl ?_
              try dsimp only [Nat.reduceAdd]
              refine xS.s1 rfl rfl ?_
              try dsimp only [Nat.reduceAdd, xj_6]
              refine xS.br (c := .ge) (off := 87) (l := 3) rfl rfl (fun h107 => ?_) (fun h107 => ?_)
              · have g107 := xt_ge h107
                have e := xnle (b := 6) g107 (by omega) (by omega)
                have e9 : 6 = i := by omega
                rw [← e9]
                have hm6 : xmv (fun v => (xcnt (fun q => decide (((xbits (fun q => decide (xfst (fun i => !decide (xshw h (q / 4) (q % 4) (fun i => xN (g 75 (40 * p + i))) i = g 75 (40 * s + i))) m = none)) 24) >>> (nI q &&& 31)) &&& 1 = 1) && decide (xshw h (q / 4) (q % 4) (fup (fun i => xN (g 75 (40 * p + i))) m j) m = nI v)) 24)) 6 ≤ 24 := xmv_le (fun v => xcnt_le _ _) 6
                refine xS.s1 rfl rfl ?_
                try dsimp only [Nat.reduceAdd]
                refine xS.s1 rfl rfl ?_
                try dsimp only [Nat.reduceAdd]
                refine xS.br (c := .ge) (off := 8) (l := 3) rfl rfl (fun h198 => ?_) (fun h198 => ?_)
                · have g198 := xt_ge h198
                  refine xS.s1 rfl rfl ?_
                  try dsimp only [Nat.reduceAdd]
                  refine xS.s1 rfl rfl ?_
                  try dsimp only [Nat.reduceAdd]
                  refine xS.s1 rfl rfl ?_
                  try dsimp only [Nat.reduceAdd]
                  refine xS.s1 rfl rfl ?_
                  try dsimp only [Nat.reduceAdd]
                  refine xS.br (c := .ge) (off := 8) (l := 3) rfl rfl (fun h214 => ?_) (fun h214 => ?_)
                  · have g214 := xt_ge h214
                    refine xS.s1 rfl rfl ?_
                    try dsimp only [Nat.reduceAdd]
                    refine xS.s1 rfl rfl ?_
                    try dsimp only [Nat.reduceAdd]
                    refine xS.s1 rfl rfl ?_
                    try dsimp only [Nat.reduceAdd, xi_1]
                    rw [nI_1]
                    refine xS.s1 rfl rfl ?_
                    try dsimp only [Nat.reduceAdd]
                    refine xS.pick [0, 1, 2, 5, 6, 7] rfl ?_
                    have hw : ¬ xmv (fun v => (xcnt (fun q => decide (((xbits (fun q => decide (xfst (fun i => !decide (xshw h (q / 4) (q % 4) (fun i => xN (g 75 (40 * p + i))) i = g 75 (40 * s + i))) m = none)) 24) >>> (nI q &&& 31)) &&& 1 = 1) && decide (xshw h (q / 4) (q % 4) (fup (fun i => xN (g 75 (40 * p + i))) m j) m = nI v)) 24)) 6 < (xnxr (fun y => xmv (fun v => (xcnt (fun q => decide (((xbits (fun q => decide (xfst (fun i => !decide (xshw h (q / 4) (q % 4) (fun i => xN (g 75 (40 * p + i))) i = g 75 (40 * s + i))) m = none)) 24) >>> (nI q &&& 31)) &&& 1 = 1) && decide (xshw h (q / 4) (q % 4) (fup (fun i => xN (g 75 (40 * p + i))) m y) m = nI v)) 24)) 6) j).1 := Nat.not_lt.mpr (xnle g198 (by omega) (by omega))
                    have hnx : xnxr (fun y => xmv (fun v => (xcnt (fun q => decide (((xbits (fun q => decide (xfst (fun i => !decide (xshw h (q / 4) (q % 4) (fun i => xN (g 75 (40 * p + i))) i = g 75 (40 * s + i))) m = none)) 24) >>> (nI q &&& 31)) &&& 1 = 1) && decide (xshw h (q / 4) (q % 4) (fup (fun i => xN (g 75 (40 * p + i))) m y) m = nI v)) 24)) 6) (j + 1) = xnxr (fun y => xmv (fun v => (xcnt (fun q => decide (((xbits (fun q => decide (xfst (fun i => !decide (xshw h (q / 4) (q % 4) (fun i => xN (g 75 (40 * p + i))) i = g 75 (40 * s + i))) m = none)) 24) >>> (nI q &&& 31)) &&& 1 = 1) && decide (xshw h (q / 4) (q % 4) (fup (fun i => xN (g 75 (40 * p + i))) m y) m = nI v)) 24)) 6) j := by
                      rw [xnxr_s, if_neg hw]
                    rw [hnx] at ih
                    exact ih _ (by omega) ⟨fun a ha => by rw [up_na ha, hI.1 a ha], fun u hu => by rw [up_ne (Or.inr (by omega))]; exact hI.2 u hu⟩
                  · have g214 := xf_ge h214
                    refine xS.s1 rfl rfl ?_
                    try dsimp only [Nat.reduceAdd]
                    refine xS.s1 rfl rfl ?_
                    try dsimp only [Nat.reduceAdd]
                    refine xS.s1 rfl rfl ?_
                    try dsimp only [Nat.reduceAdd]
                    refine xS.s1 rfl rfl ?_
                    try dsimp only [Nat.reduceAdd, xi_1]
                    rw [nI_1]
                    refine xS.s1 rfl rfl ?_
                    try dsimp only [Nat.reduceAdd]
                    refine xS.pick [0, 1, 2, 5, 6, 7] rfl ?_
                    exact absurd g214 (Int32.not_lt.mpr g198)
                · have g198 := xf_ge h198
                  refine xS.s1 rfl rfl ?_
                  try dsimp only [Nat.reduceAdd]
                  refine xS.s1 rfl rfl ?_
                  try dsimp only [Nat.reduceAdd]
                  refine xS.s1 rfl rfl ?_
                  try dsimp only [Nat.reduceAdd]
                  refine xS.s1 rfl rfl ?_
                  try dsimp only [Nat.reduceAdd]
                  refine xS.s1 rfl rfl ?_
                  try dsimp only [Nat.reduceAdd]
                  refine xS.br (c := .ge) (off := 8) (l := 3) rfl rfl (fun h214 => ?_) (fun h214 => ?_)
                  · have g214 := xt_ge h214
                    refine xS.s1 rfl rfl ?_
                    try dsimp only [Nat.reduceAdd]
                    refine xS.s1 rfl rfl ?_
                    try dsimp only [Nat.reduceAdd]
                    refine xS.s1 rfl rfl ?_
                    try dsimp only [Nat.reduceAdd, xi_1]
                    rw [nI_1]
                    refine xS.s1 rfl rfl ?_
                    try dsimp only [Nat.reduceAdd]
                    refine xS.pick [0, 1, 2, 5, 6, 7] rfl ?_
                    exact absurd g198 (Int32.not_lt.mpr g214)
                  · have g214 := xf_ge h214
                    refine xS.s1 rfl rfl ?_
                    try dsimp only [Nat.reduceAdd]
                    refine xS.s1 rfl rfl ?_
                    try dsimp only [Nat.reduceAdd]
                    refine xS.s1 rfl rfl ?_
                    try dsimp only [Nat.reduceAdd]
                    refine xS.s1 rfl rfl ?_
                    try dsimp only [Nat.reduceAdd, xi_1]
                    rw [nI_1]
                    refine xS.s1 rfl rfl ?_
                    try dsimp only [Nat.reduceAdd]
                    refine xS.pick [0, 1, 2, 5, 6, 7] rfl ?_
                    have hw : xmv (fun v => (xcnt (fun q => decide (((xbits (fun q => decide (xfst (fun i => !decide (xshw h (q / 4) (q % 4) (fun i => xN (g 75 (40 * p + i))) i = g 75 (40 * s + i))) m = none)) 24) >>> (nI q &&& 31)) &&& 1 = 1) && decide (xshw h (q / 4) (q % 4) (fup (fun i => xN (g 75 (40 * p + i))) m j) m = nI v)) 24)) 6 < (xnxr (fun y => xmv (fun v => (xcnt (fun q => decide (((xbits (fun q => decide (xfst (fun i => !decide (xshw h (q / 4) (q % 4) (fun i => xN (g 75 (40 * p + i))) i = g 75 (40 * s + i))) m = none)) 24) >>> (nI q &&& 31)) &&& 1 = 1) && decide (xshw h (q / 4) (q % 4) (fup (fun i => xN (g 75 (40 * p + i))) m y) m = nI v)) 24)) 6) j).1 := xnlt g198 (by omega) (by omega)
                    have hnx : xnxr (fun y => xmv (fun v => (xcnt (fun q => decide (((xbits (fun q => decide (xfst (fun i => !decide (xshw h (q / 4) (q % 4) (fun i => xN (g 75 (40 * p + i))) i = g 75 (40 * s + i))) m = none)) 24) >>> (nI q &&& 31)) &&& 1 = 1) && decide (xshw h (q / 4) (q % 4) (fup (fun i => xN (g 75 (40 * p + i))) m y) m = nI v)) 24)) 6) (j + 1) = (xmv (fun v => (xcnt (fun q => decide (((xbits (fun q => decide (xfst (fun i => !decide (xshw h (q / 4) (q % 4) (fun i => xN (g 75 (40 * p + i))) i = g 75 (40 * s + i))) m = none)) 24) >>> (nI q &&& 31)) &&& 1 = 1) && decide (xshw h (q / 4) (q % 4) (fup (fun i => xN (g 75 (40 * p + i))) m j) m = nI v)) 24)) 6, nI j) := by
                      rw [xnxr_s, if_pos hw]
                    rw [hnx] at ih
                    exact ih _ (by omega) ⟨fun a ha => by rw [up_na ha, hI.1 a ha], fun u hu => by rw [up_ne (Or.inr (by omega))]; exact hI.2 u hu⟩
              · have g107 := xf_ge h107
                have hli := xnlt (b := 6) g107 (by omega) (by omega)
                refine xS.s1 rfl rfl ?_
                try dsimp only [Nat.reduceAdd, xi_0]
                refine xS.s1 rfl rfl ?_
                try dsimp only [Nat.reduceAdd]
                refine xS.s1 rfl rfl ?_
                try dsimp only [Nat.reduceAdd, xi_0]
                refine xS.s1 rfl rfl ?_
                try dsimp only [Nat.reduceAdd]
                refine xS.pick [0, 1, 2, 3, 4, 5, 6, 7, 8, 9] rfl ?_
                refine xS.loop (σ := Unit) (24) (fun y S => [(12, .int (nI y)), (11, .int (nI (xcnt (fun q => decide (((xbits (fun q => decide (xfst (fun i => !decide (xshw h (q / 4) (q % 4) (fun i => xN (g 75 (40 * p + i))) i = g 75 (40 * s + i))) m = none)) 24) >>> (nI q &&& 31)) &&& 1 = 1) && decide (xshw h (q / 4) (q % 4) (fup (fun i => xN (g 75 (40 * p + i))) m j) m = nI i)) y))), (10, .int (nI i)), (9, .int (nI (xmv (fun v => (xcnt (fun q => decide (((xbits (fun q => decide (xfst (fun i => !decide (xshw h (q / 4) (q % 4) (fun i => xN (g 75 (40 * p + i))) i = g 75 (40 * s + i))) m = none)) 24) >>> (nI q &&& 31)) &&& 1 = 1) && decide (xshw h (q / 4) (q % 4) (fup (fun i => xN (g 75 (40 * p + i))) m j) m = nI v)) 24)) i))), (8, .int (nI j)), (7, .int (nI (xnxr (fun y => xmv (fun v => (xcnt (fun q => decide (((xbits (fun q => decide (xfst (fun i => !decide (xshw h (q / 4) (q % 4) (fun i => xN (g 75 (40 * p + i))) i = g 75 (40 * s + i))) m = none)) 24) >>> (nI q &&& 31)) &&& 1 = 1) && decide (xshw h (q / 4) (q % 4) (fup (fun i => xN (g 75 (40 * p + i))) m y) m = nI v)) 24)) 6) j).1)), (6, .int (xnxr (fun y => xmv (fun v => (xcnt (fun q => decide (((xbits (fun q => decide (xfst (fun i => !decide (xshw h (q / 4) (q % 4) (fun i => xN (g 75 (40 * p + i))) i = g 75 (40 * s + i))) m = none)) 24) >>> (nI q &&& 31)) &&& 1 = 1) && decide (xshw h (q / 4) (q % 4) (fup (fun i => xN (g 75 (40 * p + i))) m y) m = nI v)) 24)) 6) j).2), (0, .ref 73), (4, .int (nI m)), (5, .int (xbits (fun q => decide (xfst (fun i => !decide (xshw h (q / 4) (q % 4) (fun i => xN (g 75 (40 * p + i))) i = g 75 (40 * s + i))) m = none)) 24))]) (fun _ _ => xH b (up S 90 m (nI j)) l) (fun _ _ => True) (()) (rfl) (rfl) (trivial) ?_
                intro y S12 hy hI12 ih12
                try dsimp only
                refine xS.s1 rfl rfl ?_
                try dsimp only [Nat.reduceAdd]
                refine xS.s1 rfl rfl ?_
                try dsimp only [Nat.reduceAdd, xj_24]
                refine xS.br (c := .ge) (off := 52) (l := 3) rfl rfl (fun h120 => ?_) (fun h120 => ?_)
                · have g120 := xt_ge h120
                  have e := xnle (b := 24) g120 (by omega) (by omega)
                  have e12 : 24 = y := by omega
                  rw [← e12]
                  have hc24 := xcnt_le (fun q => decide (((xbits (fun q => decide (xfst (fun i => !decide (xshw h (q / 4) (q % 4) (fun i => xN (g 75 (40 * p + i))) i = g 75 (40 * s + i))) m = none)) 24) >>> (nI q &&& 31)) &&& 1 = 1) && decide (xshw h (q / 4) (q % 4) (fup (fun i => xN (g 75 (40 * p + i))) m j) m = nI i)) 24
                  refine xS.s1 rfl rfl ?_
                  try dsimp only [Nat.reduceAdd]
                  refine xS.s1 rfl rfl ?_
                  try dsimp only [Nat.reduceAdd]
                  refine xS.br (c := .le) (off := 8) (l := 3) rfl rfl (fun h176 => ?_) (fun h176 => ?_)
                  · have g176 := xt_le h176
                    refine xS.s1 rfl rfl ?_
                    try dsimp only [Nat.reduceAdd]
                    refine xS.s1 rfl rfl ?_
                    try dsimp only [Nat.reduceAdd]
                    refine xS.s1 rfl rfl ?_
                    try dsimp only [Nat.reduceAdd, xi_1]
                    rw [nI_1]
                    refine xS.s1 rfl rfl ?_
                    try dsimp only [Nat.reduceAdd]
                    refine xS.pick [0, 1, 4, 5, 6, 7, 8, 9] rfl ?_
                    have ih10 := ih9 () (by omega) trivial
                    rw [xmv_s] at ih10
                    rw [Nat.max_eq_left (xnle g176 (by omega) (by omega))] at ih10
                    exact ih10
                  · have g176 := xf_le h176
                    refine xS.s1 rfl rfl ?_
                    try dsimp only [Nat.reduceAdd]
                    refine xS.s1 rfl rfl ?_
                    try dsimp only [Nat.reduceAdd]
                    refine xS.s1 rfl rfl ?_
                    try dsimp only [Nat.reduceAdd]
                    refine xS.s1 rfl rfl ?_
                    try dsimp only [Nat.reduceAdd, xi_1]
                    rw [nI_1]
                    refine xS.s1 rfl rfl ?_
                    try dsimp only [Nat.reduceAdd]
                    refine xS.pick [0, 1, 4, 5, 6, 7, 8, 9] rfl ?_
                    have ih10 := ih9 () (by omega) trivial
                    rw [xmv_s] at ih10
                    rw [Nat.max_eq_right (Nat.le_of_lt (xnlt g176 (by omega) (by omega)))] at ih10
                    exact ih10
                · have g120 := xf_ge h120
                  have hly := xnlt (b := 24) g120 (by omega) (by omega)
                  refine xS.s1 rfl rfl ?_
                  try dsimp only [Nat.reduceAdd]
                  refine xS.s1 rfl rfl ?_
                  try dsimp only [Nat.reduceAdd]
                  refine xS.s1 rfl rfl ?_
                  try dsimp only [Nat.reduceAdd]
                  -- 129 yX12_has
                  refine xS.callS rfl rfl rfl ⟨Nat.le_of_ble_eq_true rfl, rfl⟩ c_X12_has (fun v M1 hv => ?_)
                  rw [hv.1, hv.2]
                  clear hv M1 v
                  try dsimp only [Nat.reduceAdd, Option.toList, List.cons_append, List.nil_append, List.drop]
                  refine xS.br0 (c := .eq) (off := 30) (l := 3) rfl rfl (fun h132 => ?_) (fun h132 => ?_)
                  · have g132 := xt_eq h132
                    refine xS.s1 rfl rfl ?_
                    try dsimp only [Nat.reduceAdd, xi_0]
                    refine xS.s1 rfl rfl ?_
                    try dsimp only [Nat.reduceAdd]
                    refine xS.s1 rfl rfl ?_
                    try dsimp only [Nat.reduceAdd]
                    refine xS.s1 rfl rfl ?_
                    try dsimp only [Nat.reduceAdd, xi_1]
                    rw [nI_1]
                    refine xS.s1 rfl rfl ?_
                    try dsimp only [Nat.reduceAdd]
                    refine xS.pick [0, 1, 2, 3, 4, 5, 6, 7, 8, 9] rfl ?_
                    have ih13 := ih12 () (by omega) trivial
                    rw [show nI (xcnt (fun q => decide (((xbits (fun q => decide (xfst (fun i => !decide (xshw h (q / 4) (q % 4) (fun i => xN (g 75 (40 * p + i))) i = g 75 (40 * s + i))) m = none)) 24) >>> (nI q &&& 31)) &&& 1 = 1) && decide (xshw h (q / 4) (q % 4) (fup (fun i => xN (g 75 (40 * p + i))) m j) m = nI i)) y) + 0 = nI (xcnt (fun q => decide (((xbits (fun q => decide (xfst (fun i => !decide (xshw h (q / 4) (q % 4) (fun i => xN (g 75 (40 * p + i))) i = g 75 (40 * s + i))) m = none)) 24) >>> (nI q &&& 31)) &&& 1 = 1) && decide (xshw h (q / 4) (q % 4) (fup (fun i => xN (g 75 (40 * p + i))) m j) m = nI i)) y) from nI_add _ 0]
                    rw [show xcnt (fun q => decide (((xbits (fun q => decide (xfst (fun i => !decide (xshw h (q / 4) (q % 4) (fun i => xN (g 75 (40 * p + i))) i = g 75 (40 * s + i))) m = none)) 24) >>> (nI q &&& 31)) &&& 1 = 1) && decide (xshw h (q / 4) (q % 4) (fup (fun i => xN (g 75 (40 * p + i))) m j) m = nI i)) (y + 1) = xcnt (fun q => decide (((xbits (fun q => decide (xfst (fun i => !decide (xshw h (q / 4) (q % 4) (fun i => xN (g 75 (40 * p + i))) i = g 75 (40 * s + i))) m = none)) 24) >>> (nI q &&& 31)) &&& 1 = 1) && decide (xshw h (q / 4) (q % 4) (fup (fun i => xN (g 75 (40 * p + i))) m j) m = nI i)) y from by rw [xcnt_s]; simp only [decide_eq_false (xif0 g132), Bool.false_and, cond_false]] at ih13
                    exact ih13
                  · have g132 := xf_eq h132
                    refine xS.s1 rfl rfl ?_
                    try dsimp only [Nat.reduceAdd]
                    refine xS.s1 rfl rfl ?_
                    try dsimp only [Nat.reduceAdd]
                    refine xS.s1 rfl rfl ?_
                    try dsimp only [Nat.reduceAdd, xi_4]
                    refine xS.s1 rfl rfl ?_
                    try dsimp only [Nat.reduceAdd]
                    rw [xdiv4 (by omega)]
                    refine xS.s1 rfl rfl ?_
                    try dsimp only [Nat.reduceAdd]
                    refine xS.s1 rfl rfl ?_
                    try dsimp only [Nat.reduceAdd, xi_4]
                    refine xS.s1 rfl rfl ?_
                    try dsimp only [Nat.reduceAdd]
                    rw [xrem4 (by omega)]
                    refine xS.s1 rfl rfl ?_
                    try dsimp only [Nat.reduceAdd]
                    refine xS.gR rfl rfl rfl ⟨by decide, rfl⟩ rfl ?_
                    try dsimp only [Nat.reduceAdd]
                    refine xS.s1 rfl rfl ?_
                    try dsimp only [Nat.reduceAdd]
                    -- 150 yX12_showsBy
                    refine xS.cv rfl rfl rfl rfl rfl rfl ⟨by decide, rfl, rfl⟩ (c_X12_showsBy (f := (fup (fun i => xN (g 75 (40 * p + i))) m j)) xar_90 hRs (by omega) (by omega) (by omega) (fun u hu => ⟨by have := xat_le hu; omega, h90s u (xat_le hu)⟩)) (fun v M1 hv => ?_)
                    rw [hv.1, hv.2]
                    clear hv M1 v
                    try dsimp only [Nat.reduceAdd, Option.toList, List.cons_append, List.nil_append, List.drop]
                    refine xS.s1 rfl rfl ?_
                    try dsimp only [Nat.reduceAdd]
                    refine xS.br (c := .ne) (off := 7) (l := 3) rfl rfl (fun h155 => ?_) (fun h155 => ?_)
                    · have g155 := xt_ne h155
                      refine xS.s1 rfl rfl ?_
                      try dsimp only [Nat.reduceAdd, xi_0]
                      refine xS.s1 rfl rfl ?_
                      try dsimp only [Nat.reduceAdd]
                      refine xS.s1 rfl rfl ?_
                      try dsimp only [Nat.reduceAdd]
                      refine xS.s1 rfl rfl ?_
                      try dsimp only [Nat.reduceAdd, xi_1]
                      rw [nI_1]
                      refine xS.s1 rfl rfl ?_
                      try dsimp only [Nat.reduceAdd]
                      refine xS.pick [0, 1, 2, 3, 4, 5, 6, 7, 8, 9] rfl ?_
                      have ih13 := ih12 () (by omega) trivial
                      rw [show nI (xcnt (fun q => decide (((xbits (fun q => decide (xfst (fun i => !decide (xshw h (q / 4) (q % 4) (fun i => xN (g 75 (40 * p + i))) i = g 75 (40 * s + i))) m = none)) 24) >>> (nI q &&& 31)) &&& 1 = 1) && decide (xshw h (q / 4) (q % 4) (fup (fun i => xN (g 75 (40 * p + i))) m j) m = nI i)) y) + 0 = nI (xcnt (fun q => decide (((xbits (fun q => decide (xfst (fun i => !decide (xshw h (q / 4) (q % 4) (fun i => xN (g 75 (40 * p + i))) i = g 75 (40 * s + i))) m = none)) 24) >>> (nI q &&& 31)) &&& 1 = 1) && decide (xshw h (q / 4) (q % 4) (fup (fun i => xN (g 75 (40 * p + i))) m j) m = nI i)) y) from nI_add _ 0]
                      rw [show xcnt (fun q => decide (((xbits (fun q => decide (xfst (fun i => !decide (xshw h (q / 4) (q % 4) (fun i => xN (g 75 (40 * p + i))) i = g 75 (40 * s + i))) m = none)) 24) >>> (nI q &&& 31)) &&& 1 = 1) && decide (xshw h (q / 4) (q % 4) (fup (fun i => xN (g 75 (40 * p + i))) m j) m = nI i)) (y + 1) = xcnt (fun q => decide (((xbits (fun q => decide (xfst (fun i => !decide (xshw h (q / 4) (q % 4) (fun i => xN (g 75 (40 * p + i))) i = g 75 (40 * s + i))) m = none)) 24) >>> (nI q &&& 31)) &&& 1 = 1) && decide (xshw h (q / 4) (q % 4) (fup (fun i => xN (g 75 (40 * p + i))) m j) m = nI i)) y from by rw [xcnt_s]; simp only [decide_eq_false g155, Bool.and_false, cond_false]] at ih13
                      exact ih13
                    · have g155 := xf_ne h155
                      refine xS.s1 rfl rfl ?_
                      try dsimp only [Nat.reduceAdd, xi_1]
                      refine xS.s1 rfl rfl ?_
                      try dsimp only [Nat.reduceAdd]
                      refine xS.s1 rfl rfl ?_
                      try dsimp only [Nat.reduceAdd]
                      refine xS.s1 rfl rfl ?_
                      try dsimp only [Nat.reduceAdd]
                      refine xS.s1 rfl rfl ?_
                      try dsimp only [Nat.reduceAdd, xi_1]
                      rw [nI_1]
                      refine xS.s1 rfl rfl ?_
                      try dsimp only [Nat.reduceAdd]
                      refine xS.pick [0, 1, 2, 3, 4, 5, 6, 7, 8, 9] rfl ?_
                      have ih13 := ih12 () (by omega) trivial
                      rw [nI_1]
                      rw [show xcnt (fun q => decide (((xbits (fun q => decide (xfst (fun i => !decide (xshw h (q / 4) (q % 4) (fun i => xN (g 75 (40 * p + i))) i = g 75 (40 * s + i))) m = none)) 24) >>> (nI q &&& 31)) &&& 1 = 1) && decide (xshw h (q / 4) (q % 4) (fup (fun i => xN (g 75 (40 * p + i))) m j) m = nI i)) (y + 1) = xcnt (fun q => decide (((xbits (fun q => decide (xfst (fun i => !decide (xshw h (q / 4) (q % 4) (fun i => xN (g 75 (40 * p + i))) i = g 75 (40 * s + i))) m = none)) 24) >>> (nI q &&& 31)) &&& 1 = 1) && decide (xshw h (q / 4) (q % 4) (fup (fun i => xN (g 75 (40 * p + i))) m j) m = nI i)) y + 1 from by rw [xcnt_s]; simp only [decide_eq_true (xif1 g132), decide_eq_true g155, Bool.and_true, cond_true]] at ih13
                      exact ih13
          · have g64 := xf_ge h64
            exact absurd g64 hbc
        · have g41 := xf_ne h41
          exfalso; have := (nI_eq (b := 12) (by omega) (by omega)).mp g41; omega
      · have g24 := xf_ge h24
        exfalso; first | exact absurd g24 (by decide) | (simp (disch := omega) only [Int32.lt_iff_toInt_lt, Int32.le_iff_toInt_le, nI_toInt, Int32.reduceToInt] at g24 <;> omega)
    · have g11 := xf_ne h11
      exfalso; first | exact absurd g11 (by decide) | (simp (disch := omega) only [Int32.lt_iff_toInt_lt, Int32.le_iff_toInt_le, nI_toInt, Int32.reduceToInt] at g11 <;> omega)

end
end
