/-! LimpMirrorModel: what is shown, what was done -/
/-- all but the scratch rows and the findings -/
def xFr (g g' : Nat → Nat → Int32) : Prop := (∀ a, a < 89 → a ≠ 73 → g' a = g a) ∧ (∀ i, i ≠ 23 → g' 73 i = g 73 i)
theorem xFr_r (g : Nat → Nat → Int32) : xFr g g := ⟨fun _ _ _ => rfl, fun _ _ => rfl⟩
theorem xFr_t {g g' g'' : Nat → Nat → Int32} (h1 : xFr g g') (h2 : xFr g' g'') : xFr g g'' := ⟨fun a h h' => by rw [h2.1 a h h', h1.1 a h h'], fun i h => by rw [h2.2 i h, h1.2 i h]⟩
theorem xFr_fR (g : Nat → Nat → Int32) (t : Nat) : xFr g (xfR g t) := ⟨fun a h h' => by unfold xfR; rw [up_na (by omega), up_na h'], fun i h => by unfold xfR; rw [up_na (by decide), up_ne (Or.inr h)]⟩
theorem xFr_gs {g : Nat → Nat → Int32} {a n : Nat} {S : Nat → Int32} (ha : 89 ≤ a) : xFr g (gset g a n S) := ⟨fun a' h _ => gset_na (by omega), fun i _ => by rw [gset_na (by omega)]⟩
theorem xRr_F {g g' : Nat → Nat → Int32} {h tx : Nat → Int32} {G T : Nat} {Lw : Nat → Nat} (hF : xFr g g') (hR : xRr g h tx G T Lw) : xRr g' h tx G T Lw := xRr_fr (hF.2 10 (by decide)) (hF.2 12 (by decide)) (hF.1 81 (by decide) (by decide)) (hF.1 82 (by decide) (by decide)) (hF.1 83 (by decide) (by decide)) hR
theorem gseg_congr {g : Nat → Nat → Int32} {a o n : Nat} {S S' : Nat → Int32} (h : ∀ i, i < n → S i = S' i) : gseg g a o n S = gseg g a o n S' := by
  funext x y
  unfold gseg
  by_cases e : x = a ∧ o ≤ y ∧ y < o + n
  · rw [if_pos e, if_pos e, h _ (by omega)]
  · rw [if_neg e, if_neg e]
def xd6 (n c i : Nat) : Nat := c / 6 ^ (n - 1 - i) % 6
theorem xd6_lt (n c i : Nat) : xd6 n c i < 6 := Nat.mod_lt _ (by decide)
def glay (g : Nat → Nat → Int32) (n c j : Nat) : Nat → Nat → Int32 := fun a' i' => if a' = 90 ∧ n - j ≤ i' ∧ i' < n then nI (xd6 n c i') else g a' i'
theorem glay_0 (g : Nat → Nat → Int32) (n c : Nat) : glay g n c 0 = g := by
  funext a' i'
  exact if_neg (fun h => by omega)
theorem glay_s {g : Nat → Nat → Int32} {n c j : Nat} (h : j < n) : up (glay g n c j) 90 (n - j - 1) (nI (c / 6 ^ j % 6)) = glay g n c (j + 1) := by
  funext a' i'
  unfold up glay
  by_cases e : a' = 90
  · subst e
    by_cases e2 : i' = n - j - 1
    · subst e2
      rw [if_pos ⟨rfl, rfl⟩, if_pos ⟨rfl, by omega, by omega⟩]
      unfold xd6
      rw [show n - 1 - (n - j - 1) = j by omega]
    · rw [if_neg (fun z => e2 z.2)]
      by_cases e3 : n - j ≤ i' ∧ i' < n
      · rw [if_pos ⟨rfl, e3⟩, if_pos ⟨rfl, by omega, e3.2⟩]
      · rw [if_neg (fun z => e3 z.2), if_neg (fun z => e3 ⟨by omega, z.2.2⟩)]
  · rw [if_neg (fun z => e z.1), if_neg (fun z => e z.1), if_neg (fun z => e z.1)]
theorem glay_na {g : Nat → Nat → Int32} {n c j a' : Nat} (h : a' ≠ 90) : glay g n c j a' = g a' := funext (fun _ => if_neg (fun z => h z.1))
theorem glay_in {g : Nat → Nat → Int32} {n c i : Nat} (h : i < n) : glay g n c n 90 i = nI (xd6 n c i) := if_pos ⟨rfl, by omega, h⟩
theorem pow6 {n : Nat} (h : n ≤ 6) : 6 ^ n ≤ 46656 := Nat.le_trans (Nat.pow_le_pow_right (by decide) h) (by decide)
def xbs (x : Int32) (n : Nat) : Int32 := Nat.rec (motive := fun _ => Int32) 0 (fun k c => c + ((x >>> (nI k &&& 31)) &&& 1)) n
def xorf (p : Nat → Bool) (v : Nat → Nat) (n : Nat) : Int32 := Nat.rec (motive := fun _ => Int32) 0 (fun c s => bif p c then s ||| (1 <<< (nI (v c) &&& 31)) else s) n
theorem xorf_s (p : Nat → Bool) (v : Nat → Nat) (n : Nat) : xorf p v (n + 1) = bif p n then xorf p v n ||| (1 <<< (nI (v n) &&& 31)) else xorf p v n := rfl

theorem xfst_up2 {p : Nat → Bool} {j n : Nat} (h : ¬ xfst p j = none) (hj : j ≤ n) : ¬ xfst p n = none := by
  cases e : xfst p j with
  | none => exact absurd e h
  | some d =>
    have := xfst_up e (n - j)
    rw [show j + (n - j) = n by omega] at this
    rw [this]
    exact fun z => by cases z

section
variable {k a c n n2 m t p s d i1 j1 : Nat} {b : Nat × Nat} {g : Nat → Nat → Int32} {l : Nat → Nat → Int64} {i j x y z v w : Int32} {u w1 w2 : Int64}
variable {L G T e1 q1 κ δ : Nat} {Lw f f2 : Nat → Nat} {h tx F4 Rw Rw2 O : Nat → Int32}
theorem c_X12_takeOut_ref (hA : xar a n) (ha : 89 ≤ a) (hp1 : p < 6) (hz : xsz (g 74 p) 40) (ht : t ≤ n) (hf : xfos (g 74 p) (fun i => g 75 (40 * p + i)) t ≠ 0) : xT (k + 3) 199 [.ref 73, .int (nI p), .int (nI t), .ref a] (xH b g l) (fun r M' => ∃ g', xFr g g' ∧ M' = xH b g' l ∧ r = some (.int (-3))) := by
  have hn := hA.2
  rcases hz with hs | ⟨m, hm, hs⟩
  · exact (c_X12_takeOut_no hA (by omega) (by omega) hp1 hs).weak (fun r M' q => ⟨_, xFr_fR g 1, q.1, q.2⟩)
  · by_cases c : t < m
    · exact (c_X12_takeOut_big hA (by omega) (by omega) hp1 hs hm c).weak (fun r M' q => ⟨_, xFr_fR g 5, q.1, q.2⟩)
    · by_cases c2 : xfst (xnst (fun i => g 75 (40 * p + i))) m = none
      · exfalso
        apply hf
        unfold xfos
        rw [hs, if_neg (nI_nm1 (by omega)), if_neg (nI_nlt (by omega) (by omega)), xN_nI (by omega), if_pos c2]
      · exact (c_X12_takeOut_unl hA (by omega) (by omega) hp1 hs hm (by omega) (by omega) (by omega) c2).weak (fun r M' q => ⟨_, xFr_t (xFr_gs ha) (xFr_fR _ 3), q.1, q.2⟩)
theorem c_X12_takeOut_0 (hA : xar a n) (ha : 89 ≤ a) (hp1 : p < 6) (hs : g 74 p = nI m) (hm : m ≤ 40) (ht : t ≤ n) (hf : xfos (g 74 p) (fun i => g 75 (40 * p + i)) t = 0) : xT (k + 3) 199 [.ref 73, .int (nI p), .int (nI t), .ref a] (xH b g l) (fun r M' => M' = xH b (gset g a m (fun i => g 75 (40 * p + i))) l ∧ r = some (.int 0)) := by
  have hn := hA.2
  have hmt : m ≤ t := by
    unfold xfos at hf
    rw [hs, if_neg (nI_nm1 (by omega))] at hf
    split at hf
    · cases hf
    · rename_i q
      rw [nI_ltI (by omega) (by omega)] at q
      omega
  refine c_X12_takeOut_ok hA (by omega) (by omega) hp1 hs hm hmt (by omega) (by omega) ?_
  unfold xfos at hf
  rw [hs, if_neg (nI_nm1 (by omega)), if_neg (nI_nlt (by omega) (by omega)), xN_nI (by omega)] at hf
  split at hf
  · assumption
  · cases hf

theorem xfop_r {S S' : Int32} {f f' : Nat → Int32} {most : Nat} (h : xfop S f S' f' most ≠ 0) : xfos S f most ≠ 0 ∨ (xfos S f most = 0 ∧ xfos S' f' most ≠ 0) ∨ (xfos S f most = 0 ∧ xfos S' f' most = 0 ∧ S ≠ S') := by
  unfold xfop at h
  by_cases c1 : xfos S f most = 0
  · by_cases c2 : xfos S' f' most = 0
    · by_cases c3 : S = S'
      · exfalso; apply h; rw [if_neg (by omega), if_neg (by omega), if_pos c3]
      · exact Or.inr (Or.inr ⟨c1, c2, c3⟩)
    · exact Or.inr (Or.inl ⟨c1, c2⟩)
  · exact Or.inl c1

set_option maxRecDepth 10000 in
theorem c_X12_takeTwo_1 (hp1 : p < 6) (hz : xsz (g 74 p) 40) (hs1 : s < 6) (hz2 : xsz (g 74 s) 40) (hf : xfos (g 74 p) (fun i => g 75 (40 * p + i)) 12 ≠ 0) : xT (k + 4) 200 [.ref 73, .int (nI p), .int (nI s)] (xH b g l) (fun r M' => ∃ g', xFr g g' ∧ M' = xH b g' l ∧ r = some (.int (-3))) := by
  refine xT.of rfl (Nat.le_of_ble_eq_true rfl) ?_
  change xS _ _ 0 [(0, .ref 73), (1, .int (nI p)), (2, .int (nI s))] [] _ _
  refine xS.s1 rfl rfl ?_
  try dsimp only [Nat.reduceAdd]
  refine xS.s1 rfl rfl ?_
  try dsimp only [Nat.reduceAdd]
  refine xS.s1 rfl rfl ?_
  try dsimp only [Nat.reduceAdd, xj_12]
  refine xS.s1 rfl rfl ?_
  try dsimp only [Nat.reduceAdd]
  refine xS.gR rfl rfl rfl ⟨by decide, rfl⟩ rfl ?_
  try dsimp only [Nat.reduceAdd]
  -- 8 yX12_takeOut
  refine xS.cv rfl rfl rfl rfl rfl rfl ⟨by decide, rfl, rfl⟩ (c_X12_takeOut_ref xar_90 (by decide) hp1 hz (by decide) hf) (fun v M1 hv => ?_)
  obtain ⟨g2, hF2, hM2, hv2⟩ := hv
  rw [hM2, hv2]
  clear hM2 hv2 M1 v
  try dsimp only [Nat.reduceAdd, Option.toList, List.cons_append, List.nil_append, List.drop]
  refine xS.s1 rfl rfl ?_
  try dsimp only [Nat.reduceAdd]
  refine xS.s1 rfl rfl ?_
  try dsimp only [Nat.reduceAdd]
  refine xS.br0 (c := .ge) (off := 7) (l := 3) rfl rfl (fun h13 => ?_) (fun h13 => ?_)
  · have g13 := xt_ge h13
    exfalso; first | exact absurd g13 (by decide) | (simp (disch := omega) only [Int32.lt_iff_toInt_lt, Int32.le_iff_toInt_le, nI_toInt, Int32.reduceToInt] at g13 <;> omega)
  · have g13 := xf_ge h13
    refine xS.s1 rfl rfl ?_
    try dsimp only [Nat.reduceAdd]
    refine xS.s1 rfl rfl ?_
    try dsimp only [Nat.reduceAdd]
    refine xS.s1 rfl rfl ?_
    try dsimp only [Nat.reduceAdd]
    refine xS.s1 rfl rfl ?_
    try dsimp only [Nat.reduceAdd]
    refine xS.br0 (c := .ge) (off := 7) (l := 3) rfl rfl (fun h33 => ?_) (fun h33 => ?_)
    · have g33 := xt_ge h33
      exfalso; first | exact absurd g33 (by decide) | (simp (disch := omega) only [Int32.lt_iff_toInt_lt, Int32.le_iff_toInt_le, nI_toInt, Int32.reduceToInt] at g33 <;> omega)
    · have g33 := xf_ge h33
      refine xS.s1 rfl rfl ?_
      try dsimp only [Nat.reduceAdd]
      refine xS.s1 rfl rfl ?_
      try dsimp only [Nat.reduceAdd]
      refine xS.ret rfl rfl rfl (fun _ _ => rfl) ?_
      exact ⟨g2, hF2, rfl, rfl⟩

set_option maxRecDepth 10000 in
theorem c_X12_takeTwo_2 (hp1 : p < 6) (hs : g 74 p = nI m) (hm : m ≤ 40) (hs1 : s < 6) (hz2 : xsz (g 74 s) 40) (hf : xfos (g 74 p) (fun i => g 75 (40 * p + i)) 12 = 0) (hf2 : xfos (g 74 s) (fun i => g 75 (40 * s + i)) 12 ≠ 0) : xT (k + 4) 200 [.ref 73, .int (nI p), .int (nI s)] (xH b g l) (fun r M' => ∃ g', xFr g g' ∧ M' = xH b g' l ∧ r = some (.int (-3))) := by
  refine xT.of rfl (Nat.le_of_ble_eq_true rfl) ?_
  change xS _ _ 0 [(0, .ref 73), (1, .int (nI p)), (2, .int (nI s))] [] _ _
  refine xS.s1 rfl rfl ?_
  try dsimp only [Nat.reduceAdd]
  refine xS.s1 rfl rfl ?_
  try dsimp only [Nat.reduceAdd]
  refine xS.s1 rfl rfl ?_
  try dsimp only [Nat.reduceAdd, xj_12]
  refine xS.s1 rfl rfl ?_
  try dsimp only [Nat.reduceAdd]
  refine xS.gR rfl rfl rfl ⟨by decide, rfl⟩ rfl ?_
  try dsimp only [Nat.reduceAdd]
  -- 8 yX12_takeOut
  refine xS.cv rfl rfl rfl rfl rfl rfl ⟨by decide, rfl, rfl⟩ (c_X12_takeOut_0 xar_90 (by decide) hp1 hs hm (by decide) hf) (fun v M1 hv => ?_)
  rw [hv.1, hv.2]
  clear hv M1 v
  have e75 : gset g 90 m (fun i => g 75 (40 * p + i)) 75 = g 75 := gset_na (by decide)
  have e74 : gset g 90 m (fun i => g 75 (40 * p + i)) 74 = g 74 := gset_na (by decide)
  try dsimp only [Nat.reduceAdd, Option.toList, List.cons_append, List.nil_append, List.drop]
  refine xS.s1 rfl rfl ?_
  try dsimp only [Nat.reduceAdd]
  refine xS.s1 rfl rfl ?_
  try dsimp only [Nat.reduceAdd]
  refine xS.br0 (c := .ge) (off := 7) (l := 3) rfl rfl (fun h13 => ?_) (fun h13 => ?_)
  · have g13 := xt_ge h13
    refine xS.s1 rfl rfl ?_
    try dsimp only [Nat.reduceAdd]
    refine xS.s1 rfl rfl ?_
    try dsimp only [Nat.reduceAdd]
    refine xS.s1 rfl rfl ?_
    try dsimp only [Nat.reduceAdd, xj_12]
    refine xS.s1 rfl rfl ?_
    try dsimp only [Nat.reduceAdd]
    refine xS.gR rfl rfl rfl ⟨by decide, rfl⟩ rfl ?_
    try dsimp only [Nat.reduceAdd]
    -- 28 yX12_takeOut
    refine xS.cv rfl rfl rfl rfl rfl rfl ⟨by decide, rfl, rfl⟩ (c_X12_takeOut_ref xar_91 (by decide) hs1 (by rw [e74]; exact hz2) (by decide) (by rw [e74, e75]; exact hf2)) (fun v M1 hv => ?_)
    obtain ⟨g2, hF2, hM2, hv2⟩ := hv
    rw [hM2, hv2]
    clear hM2 hv2 M1 v
    try dsimp only [Nat.reduceAdd, Option.toList, List.cons_append, List.nil_append, List.drop]
    refine xS.s1 rfl rfl ?_
    try dsimp only [Nat.reduceAdd]
    refine xS.s1 rfl rfl ?_
    try dsimp only [Nat.reduceAdd]
    refine xS.br0 (c := .ge) (off := 7) (l := 3) rfl rfl (fun h33 => ?_) (fun h33 => ?_)
    · have g33 := xt_ge h33
      exfalso; first | exact absurd g33 (by decide) | (simp (disch := omega) only [Int32.lt_iff_toInt_lt, Int32.le_iff_toInt_le, nI_toInt, Int32.reduceToInt] at g33 <;> omega)
    · have g33 := xf_ge h33
      refine xS.s1 rfl rfl ?_
      try dsimp only [Nat.reduceAdd]
      refine xS.s1 rfl rfl ?_
      try dsimp only [Nat.reduceAdd]
      refine xS.ret rfl rfl rfl (fun _ _ => rfl) ?_
      exact ⟨g2, xFr_t (xFr_gs (by decide)) hF2, rfl, rfl⟩
  · have g13 := xf_ge h13
    exfalso; first | exact absurd g13 (by decide) | (simp (disch := omega) only [Int32.lt_iff_toInt_lt, Int32.le_iff_toInt_le, nI_toInt, Int32.reduceToInt] at g13 <;> omega)

set_option maxRecDepth 10000 in
theorem c_X12_takeTwo_3 (hp1 : p < 6) (hs : g 74 p = nI m) (hm : m ≤ 40) (hs1 : s < 6) (hs2 : g 74 s = nI n) (hm2 : n ≤ 40) (hf : xfos (g 74 p) (fun i => g 75 (40 * p + i)) 12 = 0) (hf2 : xfos (g 74 s) (fun i => g 75 (40 * s + i)) 12 = 0) (hne : m ≠ n) : xT (k + 4) 200 [.ref 73, .int (nI p), .int (nI s)] (xH b g l) (fun r M' => ∃ g', xFr g g' ∧ M' = xH b g' l ∧ r = some (.int (-3))) := by
  refine xT.of rfl (Nat.le_of_ble_eq_true rfl) ?_
  change xS _ _ 0 [(0, .ref 73), (1, .int (nI p)), (2, .int (nI s))] [] _ _
  refine xS.s1 rfl rfl ?_
  try dsimp only [Nat.reduceAdd]
  refine xS.s1 rfl rfl ?_
  try dsimp only [Nat.reduceAdd]
  refine xS.s1 rfl rfl ?_
  try dsimp only [Nat.reduceAdd, xj_12]
  refine xS.s1 rfl rfl ?_
  try dsimp only [Nat.reduceAdd]
  refine xS.gR rfl rfl rfl ⟨by decide, rfl⟩ rfl ?_
  try dsimp only [Nat.reduceAdd]
  -- 8 yX12_takeOut
  refine xS.cv rfl rfl rfl rfl rfl rfl ⟨by decide, rfl, rfl⟩ (c_X12_takeOut_0 xar_90 (by decide) hp1 hs hm (by decide) hf) (fun v M1 hv => ?_)
  rw [hv.1, hv.2]
  clear hv M1 v
  have e75 : gset g 90 m (fun i => g 75 (40 * p + i)) 75 = g 75 := gset_na (by decide)
  have e74 : gset g 90 m (fun i => g 75 (40 * p + i)) 74 = g 74 := gset_na (by decide)
  try dsimp only [Nat.reduceAdd, Option.toList, List.cons_append, List.nil_append, List.drop]
  refine xS.s1 rfl rfl ?_
  try dsimp only [Nat.reduceAdd]
  refine xS.s1 rfl rfl ?_
  try dsimp only [Nat.reduceAdd]
  refine xS.br0 (c := .ge) (off := 7) (l := 3) rfl rfl (fun h13 => ?_) (fun h13 => ?_)
  · have g13 := xt_ge h13
    refine xS.s1 rfl rfl ?_
    try dsimp only [Nat.reduceAdd]
    refine xS.s1 rfl rfl ?_
    try dsimp only [Nat.reduceAdd]
    refine xS.s1 rfl rfl ?_
    try dsimp only [Nat.reduceAdd, xj_12]
    refine xS.s1 rfl rfl ?_
    try dsimp only [Nat.reduceAdd]
    refine xS.gR rfl rfl rfl ⟨by decide, rfl⟩ rfl ?_
    try dsimp only [Nat.reduceAdd]
    -- 28 yX12_takeOut
    refine xS.cv rfl rfl rfl rfl rfl rfl ⟨by decide, rfl, rfl⟩ (c_X12_takeOut_0 xar_91 (by decide) hs1 (by rw [e74]; exact hs2) hm2 (by decide) (by rw [e74, e75]; exact hf2)) (fun v M1 hv => ?_)
    rw [hv.1, hv.2, e75]
    clear hv M1 v
    have f74 : gset (gset g 90 m (fun i => g 75 (40 * p + i))) 91 n (fun i => g 75 (40 * s + i)) 74 = g 74 := by rw [gset_na (by decide), gset_na (by decide)]
    try dsimp only [Nat.reduceAdd, Option.toList, List.cons_append, List.nil_append, List.drop]
    refine xS.s1 rfl rfl ?_
    try dsimp only [Nat.reduceAdd]
    refine xS.s1 rfl rfl ?_
    try dsimp only [Nat.reduceAdd]
    refine xS.br0 (c := .ge) (off := 7) (l := 3) rfl rfl (fun h33 => ?_) (fun h33 => ?_)
    · have g33 := xt_ge h33
      refine xS.s1 rfl rfl ?_
      try dsimp only [Nat.reduceAdd]
      refine xS.gR rfl rfl rfl ⟨by decide, rfl⟩ rfl ?_
      try dsimp only [Nat.reduceAdd]
      refine xS.s1 rfl rfl ?_
      try dsimp only [Nat.reduceAdd]
      refine xS.ia rfl xar_74 (by omega) ?_
      try dsimp only [Nat.reduceAdd]
      refine xS.s1 rfl rfl ?_
      try dsimp only [Nat.reduceAdd]
      refine xS.gR rfl rfl rfl ⟨by decide, rfl⟩ rfl ?_
      try dsimp only [Nat.reduceAdd]
      refine xS.s1 rfl rfl ?_
      try dsimp only [Nat.reduceAdd]
      refine xS.ia rfl xar_74 (by omega) ?_
      try dsimp only [Nat.reduceAdd]
      refine xS.br (c := .eq) (off := 11) (l := 3) rfl rfl (fun h52 => ?_) (fun h52 => ?_)
      · have g52 := xt_eq h52
        rw [f74, hs, hs2] at g52; exact absurd ((nI_eq (by omega) (by omega)).mp g52) hne
      · have g52 := xf_eq h52
        refine xS.s1 rfl rfl ?_
        try dsimp only [Nat.reduceAdd]
        refine xS.s1 rfl rfl ?_
        try dsimp only [Nat.reduceAdd, xi_5]
        -- 57 yX12_finds
        refine xS.cv rfl rfl rfl rfl rfl rfl ⟨by decide, rfl, rfl⟩ (c_X12_finds (t := 5) (by decide)) (fun v M1 hv => ?_)
        rw [hv.1, hv.2]
        clear hv M1 v
        try dsimp only [Nat.reduceAdd, Option.toList, List.cons_append, List.nil_append, List.drop]
        refine xS.s1 rfl rfl ?_
        try dsimp only [Nat.reduceAdd]
        refine xS.ret rfl rfl rfl (fun _ _ => rfl) ?_
        exact ⟨_, xFr_t (xFr_t (xFr_gs (by decide)) (xFr_gs (by decide))) (xFr_fR _ 5), rfl, rfl⟩
    · have g33 := xf_ge h33
      exfalso; first | exact absurd g33 (by decide) | (simp (disch := omega) only [Int32.lt_iff_toInt_lt, Int32.le_iff_toInt_le, nI_toInt, Int32.reduceToInt] at g33 <;> omega)
  · have g13 := xf_ge h13
    exfalso; first | exact absurd g13 (by decide) | (simp (disch := omega) only [Int32.lt_iff_toInt_lt, Int32.le_iff_toInt_le, nI_toInt, Int32.reduceToInt] at g13 <;> omega)

set_option maxRecDepth 10000 in
theorem c_X12_takeTwo_0 (hp1 : p < 6) (hs : g 74 p = nI m) (hm : m ≤ 40) (hs1 : s < 6) (hs2 : g 74 s = nI m) (hf : xfos (g 74 p) (fun i => g 75 (40 * p + i)) 12 = 0) (hf2 : xfos (g 74 s) (fun i => g 75 (40 * s + i)) 12 = 0) : xT (k + 4) 200 [.ref 73, .int (nI p), .int (nI s)] (xH b g l) (fun r M' => M' = xH b (gset (gset g 90 m (fun i => g 75 (40 * p + i))) 91 m (fun i => g 75 (40 * s + i))) l ∧ r = some (.int 0)) := by
  refine xT.of rfl (Nat.le_of_ble_eq_true rfl) ?_
  change xS _ _ 0 [(0, .ref 73), (1, .int (nI p)), (2, .int (nI s))] [] _ _
  refine xS.s1 rfl rfl ?_
  try dsimp only [Nat.reduceAdd]
  refine xS.s1 rfl rfl ?_
  try dsimp only [Nat.reduceAdd]
  refine xS.s1 rfl rfl ?_
  try dsimp only [Nat.reduceAdd, xj_12]
  refine xS.s1 rfl rfl ?_
  try dsimp only [Nat.reduceAdd]
  refine xS.gR rfl rfl rfl ⟨by decide, rfl⟩ rfl ?_
  try dsimp only [Nat.reduceAdd]
  -- 8 yX12_takeOut
  refine xS.cv rfl rfl rfl rfl rfl rfl ⟨by decide, rfl, rfl⟩ (c_X12_takeOut_0 xar_90 (by decide) hp1 hs hm (by decide) hf) (fun v M1 hv => ?_)
  rw [hv.1, hv.2]
  clear hv M1 v
  have e75 : gset g 90 m (fun i => g 75 (40 * p + i)) 75 = g 75 := gset_na (by decide)
  have e74 : gset g 90 m (fun i => g 75 (40 * p + i)) 74 = g 74 := gset_na (by decide)
  try dsimp only [Nat.reduceAdd, Option.toList, List.cons_append, List.nil_append, List.drop]
  refine xS.s1 rfl rfl ?_
  try dsimp only [Nat.reduceAdd]
  refine xS.s1 rfl rfl ?_
  try dsimp only [Nat.reduceAdd]
  refine xS.br0 (c := .ge) (off := 7) (l := 3) rfl rfl (fun h13 => ?_) (fun h13 => ?_)
  · have g13 := xt_ge h13
    refine xS.s1 rfl rfl ?_
    try dsimp only [Nat.reduceAdd]
    refine xS.s1 rfl rfl ?_
    try dsimp only [Nat.reduceAdd]
    refine xS.s1 rfl rfl ?_
    try dsimp only [Nat.reduceAdd, xj_12]
    refine xS.s1 rfl rfl ?_
    try dsimp only [Nat.reduceAdd]
    refine xS.gR rfl rfl rfl ⟨by decide, rfl⟩ rfl ?_
    try dsimp only [Nat.reduceAdd]
    -- 28 yX12_takeOut
    refine xS.cv rfl rfl rfl rfl rfl rfl ⟨by decide, rfl, rfl⟩ (c_X12_takeOut_0 xar_91 (by decide) hs1 (by rw [e74]; exact hs2) hm (by decide) (by rw [e74, e75]; exact hf2)) (fun v M1 hv => ?_)
    rw [hv.1, hv.2, e75]
    clear hv M1 v
    have f74 : gset (gset g 90 m (fun i => g 75 (40 * p + i))) 91 m (fun i => g 75 (40 * s + i)) 74 = g 74 := by rw [gset_na (by decide), gset_na (by decide)]
    try dsimp only [Nat.reduceAdd, Option.toList, List.cons_append, List.nil_append, List.drop]
    refine xS.s1 rfl rfl ?_
    try dsimp only [Nat.reduceAdd]
    refine xS.s1 rfl rfl ?_
    try dsimp only [Nat.reduceAdd]
    refine xS.br0 (c := .ge) (off := 7) (l := 3) rfl rfl (fun h33 => ?_) (fun h33 => ?_)
    · have g33 := xt_ge h33
      refine xS.s1 rfl rfl ?_
      try dsimp only [Nat.reduceAdd]
      refine xS.gR rfl rfl rfl ⟨by decide, rfl⟩ rfl ?_
      try dsimp only [Nat.reduceAdd]
      refine xS.s1 rfl rfl ?_
      try dsimp only [Nat.reduceAdd]
      refine xS.ia rfl xar_74 (by omega) ?_
      try dsimp only [Nat.reduceAdd]
      refine xS.s1 rfl rfl ?_
      try dsimp only [Nat.reduceAdd]
      refine xS.gR rfl rfl rfl ⟨by decide, rfl⟩ rfl ?_
      try dsimp only [Nat.reduceAdd]
      refine xS.s1 rfl rfl ?_
      try dsimp only [Nat.reduceAdd]
      refine xS.ia rfl xar_74 (by omega) ?_
      try dsimp only [Nat.reduceAdd]
      refine xS.br (c := .eq) (off := 11) (l := 3) rfl rfl (fun h52 => ?_) (fun h52 => ?_)
      · have g52 := xt_eq h52
        refine xS.s1 rfl rfl ?_
        try dsimp only [Nat.reduceAdd, xi_0]
        refine xS.ret rfl rfl rfl (fun _ _ => rfl) ?_
        exact ⟨rfl, rfl⟩
      · have g52 := xf_eq h52
        exfalso; rw [f74, hs, hs2] at g52; exact g52 rfl
    · have g33 := xf_ge h33
      exfalso; first | exact absurd g33 (by decide) | (simp (disch := omega) only [Int32.lt_iff_toInt_lt, Int32.le_iff_toInt_le, nI_toInt, Int32.reduceToInt] at g33 <;> omega)
  · have g13 := xf_ge h13
    exfalso; first | exact absurd g13 (by decide) | (simp (disch := omega) only [Int32.lt_iff_toInt_lt, Int32.le_iff_toInt_le, nI_toInt, Int32.reduceToInt] at g13 <;> omega)

theorem c_X12_takeTwo_ref (hp1 : p < 6) (hz : xsz (g 74 p) 40) (hs1 : s < 6) (hz2 : xsz (g 74 s) 40) (hf : xfop (g 74 p) (fun i => g 75 (40 * p + i)) (g 74 s) (fun i => g 75 (40 * s + i)) 12 ≠ 0) : xT (k + 4) 200 [.ref 73, .int (nI p), .int (nI s)] (xH b g l) (fun r M' => ∃ g', xFr g g' ∧ M' = xH b g' l ∧ r = some (.int (-3))) := by
  rcases xfop_r hf with h | ⟨h1, h2⟩ | ⟨h1, h2, h3⟩
  · exact c_X12_takeTwo_1 hp1 hz hs1 hz2 h
  · obtain ⟨m, e1, e2, e3, e4⟩ := xfos_0 hz (by decide) (by decide) h1
    exact c_X12_takeTwo_2 hp1 e1 e3 hs1 hz2 h1 h2
  · obtain ⟨m, e1, e2, e3, e4⟩ := xfos_0 hz (by decide) (by decide) h1
    obtain ⟨n, d1, d2, d3, d4⟩ := xfos_0 hz2 (by decide) (by decide) h2
    exact c_X12_takeTwo_3 hp1 e1 e3 hs1 d1 d3 h1 h2 (fun z => h3 (by rw [e1, d1, z]))

set_option maxRecDepth 10000 in
theorem c_X12_show_bad (hR : xRr g h tx G T Lw) (hx : ¬ ((0 ≤ x ∧ x < nI G) ∧ (0 ≤ y ∧ y < 6) ∧ 0 ≤ z ∧ z < 6)) : xT (k + 4) 202 [.ref 73, .int x, .int y, .int z] (xH b g l) (fun r M' => M' = xH b g l ∧ r = some (.int (-1))) := by
  refine xT.of rfl (Nat.le_of_ble_eq_true rfl) ?_
  change xS _ _ 0 [(0, .ref 73), (1, .int x), (2, .int y), (3, .int z)] [] _ _
  refine xS.s1 rfl rfl ?_
  try dsimp only [Nat.reduceAdd]
  refine xS.s1 rfl rfl ?_
  try dsimp only [Nat.reduceAdd]
  -- 2 yX12_isGlass
  refine xS.cv rfl rfl rfl rfl rfl rfl ⟨by decide, rfl, rfl⟩ (c_X12_isGlass hR.1.1 hR.1.2) (fun v M1 hv => ?_)
  rw [hv.1, hv.2]
  clear hv M1 v
  try dsimp only [Nat.reduceAdd, Option.toList, List.cons_append, List.nil_append, List.drop]
  refine xS.br0 (c := .eq) (off := 17) (l := 3) rfl rfl (fun h5 => ?_) (fun h5 => ?_)
  · have g5 := xt_eq h5
    refine xS.s1 rfl rfl ?_
    try dsimp only [Nat.reduceAdd, xi_m1]
    refine xS.ret rfl rfl rfl (fun _ _ => rfl) ?_
    exact ⟨rfl, rfl⟩
  · have g5 := xf_eq h5
    refine xS.s1 rfl rfl ?_
    try dsimp only [Nat.reduceAdd]
    -- 9 yX12_isRow
    refine xS.callS rfl rfl rfl ⟨Nat.le_of_ble_eq_true rfl, rfl⟩ c_X12_isRow (fun v M1 hv => ?_)
    rw [hv.1, hv.2]
    clear hv M1 v
    try dsimp only [Nat.reduceAdd, Option.toList, List.cons_append, List.nil_append, List.drop]
    refine xS.br0 (c := .eq) (off := 10) (l := 3) rfl rfl (fun h12 => ?_) (fun h12 => ?_)
    · have g12 := xt_eq h12
      refine xS.s1 rfl rfl ?_
      try dsimp only [Nat.reduceAdd, xi_m1]
      refine xS.ret rfl rfl rfl (fun _ _ => rfl) ?_
      exact ⟨rfl, rfl⟩
    · have g12 := xf_eq h12
      refine xS.s1 rfl rfl ?_
      try dsimp only [Nat.reduceAdd]
      -- 16 yX12_isRow
      refine xS.callS rfl rfl rfl ⟨Nat.le_of_ble_eq_true rfl, rfl⟩ c_X12_isRow (fun v M1 hv => ?_)
      rw [hv.1, hv.2]
      clear hv M1 v
      try dsimp only [Nat.reduceAdd, Option.toList, List.cons_append, List.nil_append, List.drop]
      refine xS.br0 (c := .ne) (off := 5) (l := 3) rfl rfl (fun h19 => ?_) (fun h19 => ?_)
      · have g19 := xt_ne h19
        exact absurd ⟨xif1 g5, xif1 g12, xif1 g19⟩ hx
      · have g19 := xf_ne h19
        refine xS.s1 rfl rfl ?_
        try dsimp only [Nat.reduceAdd, xi_m1]
        refine xS.ret rfl rfl rfl (fun _ _ => rfl) ?_
        exact ⟨rfl, rfl⟩

set_option maxRecDepth 10000 in
theorem c_X12_first_bad (hR : xRr g h tx G T Lw) (hx : ¬ ((0 ≤ x ∧ x < nI G) ∧ (0 ≤ y ∧ y < 6) ∧ 0 ≤ z ∧ z < 6)) : xT (k + 5) 211 [.ref 73, .int x, .int y, .int z] (xH b g l) (fun r M' => M' = xH b g l ∧ r = some (.int (-1))) := by
  refine xT.of rfl (Nat.le_of_ble_eq_true rfl) ?_
  change xS _ _ 0 [(0, .ref 73), (1, .int x), (2, .int y), (3, .int z)] [] _ _
  refine xS.s1 rfl rfl ?_
  try dsimp only [Nat.reduceAdd]
  refine xS.s1 rfl rfl ?_
  try dsimp only [Nat.reduceAdd]
  -- 2 yX12_isGlass
  refine xS.cv rfl rfl rfl rfl rfl rfl ⟨by decide, rfl, rfl⟩ (c_X12_isGlass hR.1.1 hR.1.2) (fun v M1 hv => ?_)
  rw [hv.1, hv.2]
  clear hv M1 v
  try dsimp only [Nat.reduceAdd, Option.toList, List.cons_append, List.nil_append, List.drop]
  refine xS.br0 (c := .eq) (off := 17) (l := 3) rfl rfl (fun h5 => ?_) (fun h5 => ?_)
  · have g5 := xt_eq h5
    refine xS.s1 rfl rfl ?_
    try dsimp only [Nat.reduceAdd, xi_m1]
    refine xS.ret rfl rfl rfl (fun _ _ => rfl) ?_
    exact ⟨rfl, rfl⟩
  · have g5 := xf_eq h5
    refine xS.s1 rfl rfl ?_
    try dsimp only [Nat.reduceAdd]
    -- 9 yX12_isRow
    refine xS.callS rfl rfl rfl ⟨Nat.le_of_ble_eq_true rfl, rfl⟩ c_X12_isRow (fun v M1 hv => ?_)
    rw [hv.1, hv.2]
    clear hv M1 v
    try dsimp only [Nat.reduceAdd, Option.toList, List.cons_append, List.nil_append, List.drop]
    refine xS.br0 (c := .eq) (off := 10) (l := 3) rfl rfl (fun h12 => ?_) (fun h12 => ?_)
    · have g12 := xt_eq h12
      refine xS.s1 rfl rfl ?_
      try dsimp only [Nat.reduceAdd, xi_m1]
      refine xS.ret rfl rfl rfl (fun _ _ => rfl) ?_
      exact ⟨rfl, rfl⟩
    · have g12 := xf_eq h12
      refine xS.s1 rfl rfl ?_
      try dsimp only [Nat.reduceAdd]
      -- 16 yX12_isRow
      refine xS.callS rfl rfl rfl ⟨Nat.le_of_ble_eq_true rfl, rfl⟩ c_X12_isRow (fun v M1 hv => ?_)
      rw [hv.1, hv.2]
      clear hv M1 v
      try dsimp only [Nat.reduceAdd, Option.toList, List.cons_append, List.nil_append, List.drop]
      refine xS.br0 (c := .ne) (off := 5) (l := 3) rfl rfl (fun h19 => ?_) (fun h19 => ?_)
      · have g19 := xt_ne h19
        exact absurd ⟨xif1 g5, xif1 g12, xif1 g19⟩ hx
      · have g19 := xf_ne h19
        refine xS.s1 rfl rfl ?_
        try dsimp only [Nat.reduceAdd, xi_m1]
        refine xS.ret rfl rfl rfl (fun _ _ => rfl) ?_
        exact ⟨rfl, rfl⟩

set_option maxRecDepth 10000 in
theorem c_X12_he_bad (hR : xRr g h tx G T Lw) (hx : ¬ ((0 ≤ x ∧ x < nI G) ∧ (0 ≤ y ∧ y < 6) ∧ 0 ≤ z ∧ z < 6)) : xT (k + 5) 217 [.ref 73, .int x, .int y, .int z] (xH b g l) (fun r M' => M' = xH b g l ∧ r = some (.int (-1))) := by
  refine xT.of rfl (Nat.le_of_ble_eq_true rfl) ?_
  change xS _ _ 0 [(0, .ref 73), (1, .int x), (2, .int y), (3, .int z)] [] _ _
  refine xS.s1 rfl rfl ?_
  try dsimp only [Nat.reduceAdd]
  refine xS.s1 rfl rfl ?_
  try dsimp only [Nat.reduceAdd]
  -- 2 yX12_isGlass
  refine xS.cv rfl rfl rfl rfl rfl rfl ⟨by decide, rfl, rfl⟩ (c_X12_isGlass hR.1.1 hR.1.2) (fun v M1 hv => ?_)
  rw [hv.1, hv.2]
  clear hv M1 v
  try dsimp only [Nat.reduceAdd, Option.toList, List.cons_append, List.nil_append, List.drop]
  refine xS.br0 (c := .eq) (off := 17) (l := 3) rfl rfl (fun h5 => ?_) (fun h5 => ?_)
  · have g5 := xt_eq h5
    refine xS.s1 rfl rfl ?_
    try dsimp only [Nat.reduceAdd, xi_m1]
    refine xS.ret rfl rfl rfl (fun _ _ => rfl) ?_
    exact ⟨rfl, rfl⟩
  · have g5 := xf_eq h5
    refine xS.s1 rfl rfl ?_
    try dsimp only [Nat.reduceAdd]
    -- 9 yX12_isRow
    refine xS.callS rfl rfl rfl ⟨Nat.le_of_ble_eq_true rfl, rfl⟩ c_X12_isRow (fun v M1 hv => ?_)
    rw [hv.1, hv.2]
    clear hv M1 v
    try dsimp only [Nat.reduceAdd, Option.toList, List.cons_append, List.nil_append, List.drop]
    refine xS.br0 (c := .eq) (off := 10) (l := 3) rfl rfl (fun h12 => ?_) (fun h12 => ?_)
    · have g12 := xt_eq h12
      refine xS.s1 rfl rfl ?_
      try dsimp only [Nat.reduceAdd, xi_m1]
      refine xS.ret rfl rfl rfl (fun _ _ => rfl) ?_
      exact ⟨rfl, rfl⟩
    · have g12 := xf_eq h12
      refine xS.s1 rfl rfl ?_
      try dsimp only [Nat.reduceAdd]
      -- 16 yX12_isRow
      refine xS.callS rfl rfl rfl ⟨Nat.le_of_ble_eq_true rfl, rfl⟩ c_X12_isRow (fun v M1 hv => ?_)
      rw [hv.1, hv.2]
      clear hv M1 v
      try dsimp only [Nat.reduceAdd, Option.toList, List.cons_append, List.nil_append, List.drop]
      refine xS.br0 (c := .ne) (off := 5) (l := 3) rfl rfl (fun h19 => ?_) (fun h19 => ?_)
      · have g19 := xt_ne h19
        exact absurd ⟨xif1 g5, xif1 g12, xif1 g19⟩ hx
      · have g19 := xf_ne h19
        refine xS.s1 rfl rfl ?_
        try dsimp only [Nat.reduceAdd, xi_m1]
        refine xS.ret rfl rfl rfl (fun _ _ => rfl) ?_
        exact ⟨rfl, rfl⟩

set_option maxRecDepth 10000 in
theorem c_X12_breaks_bad (hR : xRr g h tx G T Lw) (hx : ¬ ((0 ≤ x ∧ x < nI G) ∧ 0 ≤ y ∧ y < 6)) : xT (k + 5) 204 [.ref 73, .int x, .int y] (xH b g l) (fun r M' => M' = xH b g l ∧ r = some (.int (-1))) := by
  refine xT.of rfl (Nat.le_of_ble_eq_true rfl) ?_
  change xS _ _ 0 [(0, .ref 73), (1, .int x), (2, .int y)] [] _ _
  refine xS.s1 rfl rfl ?_
  try dsimp only [Nat.reduceAdd]
  refine xS.s1 rfl rfl ?_
  try dsimp only [Nat.reduceAdd]
  -- 2 yX12_isGlass
  refine xS.cv rfl rfl rfl rfl rfl rfl ⟨by decide, rfl, rfl⟩ (c_X12_isGlass hR.1.1 hR.1.2) (fun v M1 hv => ?_)
  rw [hv.1, hv.2]
  clear hv M1 v
  try dsimp only [Nat.reduceAdd, Option.toList, List.cons_append, List.nil_append, List.drop]
  refine xS.br0 (c := .eq) (off := 10) (l := 3) rfl rfl (fun h5 => ?_) (fun h5 => ?_)
  · have g5 := xt_eq h5
    refine xS.s1 rfl rfl ?_
    try dsimp only [Nat.reduceAdd, xi_m1]
    refine xS.ret rfl rfl rfl (fun _ _ => rfl) ?_
    exact ⟨rfl, rfl⟩
  · have g5 := xf_eq h5
    refine xS.s1 rfl rfl ?_
    try dsimp only [Nat.reduceAdd]
    -- 9 yX12_isRow
    refine xS.callS rfl rfl rfl ⟨Nat.le_of_ble_eq_true rfl, rfl⟩ c_X12_isRow (fun v M1 hv => ?_)
    rw [hv.1, hv.2]
    clear hv M1 v
    try dsimp only [Nat.reduceAdd, Option.toList, List.cons_append, List.nil_append, List.drop]
    refine xS.br0 (c := .ne) (off := 5) (l := 3) rfl rfl (fun h12 => ?_) (fun h12 => ?_)
    · have g12 := xt_ne h12
      exact absurd ⟨xif1 g5, xif1 g12⟩ hx
    · have g12 := xf_ne h12
      refine xS.s1 rfl rfl ?_
      try dsimp only [Nat.reduceAdd, xi_m1]
      refine xS.ret rfl rfl rfl (fun _ _ => rfl) ?_
      exact ⟨rfl, rfl⟩

set_option maxRecDepth 10000 in
theorem c_X12_alike_bad (hR : xRr g h tx G T Lw) (hx : ¬ ((0 ≤ x ∧ x < nI G) ∧ 0 ≤ y ∧ y < 6)) : xT (k + 4) 205 [.ref 73, .int x, .int y] (xH b g l) (fun r M' => M' = xH b g l ∧ r = some (.int (-1))) := by
  refine xT.of rfl (Nat.le_of_ble_eq_true rfl) ?_
  change xS _ _ 0 [(0, .ref 73), (1, .int x), (2, .int y)] [] _ _
  refine xS.s1 rfl rfl ?_
  try dsimp only [Nat.reduceAdd]
  refine xS.s1 rfl rfl ?_
  try dsimp only [Nat.reduceAdd]
  -- 2 yX12_isGlass
  refine xS.cv rfl rfl rfl rfl rfl rfl ⟨by decide, rfl, rfl⟩ (c_X12_isGlass hR.1.1 hR.1.2) (fun v M1 hv => ?_)
  rw [hv.1, hv.2]
  clear hv M1 v
  try dsimp only [Nat.reduceAdd, Option.toList, List.cons_append, List.nil_append, List.drop]
  refine xS.br0 (c := .eq) (off := 10) (l := 3) rfl rfl (fun h5 => ?_) (fun h5 => ?_)
  · have g5 := xt_eq h5
    refine xS.s1 rfl rfl ?_
    try dsimp only [Nat.reduceAdd, xi_m1]
    refine xS.ret rfl rfl rfl (fun _ _ => rfl) ?_
    exact ⟨rfl, rfl⟩
  · have g5 := xf_eq h5
    refine xS.s1 rfl rfl ?_
    try dsimp only [Nat.reduceAdd]
    -- 9 yX12_isRow
    refine xS.callS rfl rfl rfl ⟨Nat.le_of_ble_eq_true rfl, rfl⟩ c_X12_isRow (fun v M1 hv => ?_)
    rw [hv.1, hv.2]
    clear hv M1 v
    try dsimp only [Nat.reduceAdd, Option.toList, List.cons_append, List.nil_append, List.drop]
    refine xS.br0 (c := .ne) (off := 5) (l := 3) rfl rfl (fun h12 => ?_) (fun h12 => ?_)
    · have g12 := xt_ne h12
      exact absurd ⟨xif1 g5, xif1 g12⟩ hx
    · have g12 := xf_ne h12
      refine xS.s1 rfl rfl ?_
      try dsimp only [Nat.reduceAdd, xi_m1]
      refine xS.ret rfl rfl rfl (fun _ _ => rfl) ?_
      exact ⟨rfl, rfl⟩

set_option maxRecDepth 10000 in
theorem c_X12_ways_bad (hR : xRr g h tx G T Lw) (hx : ¬ ((0 ≤ x ∧ x < nI G) ∧ 0 ≤ y ∧ y < 6)) : xT (k + 5) 210 [.ref 73, .int x, .int y] (xH b g l) (fun r M' => M' = xH b g l ∧ r = some (.int (-1))) := by
  refine xT.of rfl (Nat.le_of_ble_eq_true rfl) ?_
  change xS _ _ 0 [(0, .ref 73), (1, .int x), (2, .int y)] [] _ _
  refine xS.s1 rfl rfl ?_
  try dsimp only [Nat.reduceAdd]
  refine xS.s1 rfl rfl ?_
  try dsimp only [Nat.reduceAdd]
  -- 2 yX12_isGlass
  refine xS.cv rfl rfl rfl rfl rfl rfl ⟨by decide, rfl, rfl⟩ (c_X12_isGlass hR.1.1 hR.1.2) (fun v M1 hv => ?_)
  rw [hv.1, hv.2]
  clear hv M1 v
  try dsimp only [Nat.reduceAdd, Option.toList, List.cons_append, List.nil_append, List.drop]
  refine xS.br0 (c := .eq) (off := 10) (l := 3) rfl rfl (fun h5 => ?_) (fun h5 => ?_)
  · have g5 := xt_eq h5
    refine xS.s1 rfl rfl ?_
    try dsimp only [Nat.reduceAdd, xi_m1]
    refine xS.ret rfl rfl rfl (fun _ _ => rfl) ?_
    exact ⟨rfl, rfl⟩
  · have g5 := xf_eq h5
    refine xS.s1 rfl rfl ?_
    try dsimp only [Nat.reduceAdd]
    -- 9 yX12_isRow
    refine xS.callS rfl rfl rfl ⟨Nat.le_of_ble_eq_true rfl, rfl⟩ c_X12_isRow (fun v M1 hv => ?_)
    rw [hv.1, hv.2]
    clear hv M1 v
    try dsimp only [Nat.reduceAdd, Option.toList, List.cons_append, List.nil_append, List.drop]
    refine xS.br0 (c := .ne) (off := 5) (l := 3) rfl rfl (fun h12 => ?_) (fun h12 => ?_)
    · have g12 := xt_ne h12
      exact absurd ⟨xif1 g5, xif1 g12⟩ hx
    · have g12 := xf_ne h12
      refine xS.s1 rfl rfl ?_
      try dsimp only [Nat.reduceAdd, xi_m1]
      refine xS.ret rfl rfl rfl (fun _ _ => rfl) ?_
      exact ⟨rfl, rfl⟩

set_option maxRecDepth 10000 in
theorem c_X12_can_bad (hR : xRr g h tx G T Lw) (hx : ¬ ((0 ≤ x ∧ x < nI G) ∧ (0 ≤ y ∧ y < 6) ∧ 0 ≤ z)) : xT (k + 5) 212 [.ref 73, .int x, .int y, .int z] (xH b g l) (fun r M' => M' = xH b g l ∧ r = some (.int (-1))) := by
  refine xT.of rfl (Nat.le_of_ble_eq_true rfl) ?_
  change xS _ _ 0 [(0, .ref 73), (1, .int x), (2, .int y), (3, .int z)] [] _ _
  refine xS.s1 rfl rfl ?_
  try dsimp only [Nat.reduceAdd]
  refine xS.s1 rfl rfl ?_
  try dsimp only [Nat.reduceAdd]
  -- 2 yX12_isGlass
  refine xS.cv rfl rfl rfl rfl rfl rfl ⟨by decide, rfl, rfl⟩ (c_X12_isGlass hR.1.1 hR.1.2) (fun v M1 hv => ?_)
  rw [hv.1, hv.2]
  clear hv M1 v
  try dsimp only [Nat.reduceAdd, Option.toList, List.cons_append, List.nil_append, List.drop]
  refine xS.br0 (c := .eq) (off := 14) (l := 3) rfl rfl (fun h5 => ?_) (fun h5 => ?_)
  · have g5 := xt_eq h5
    refine xS.s1 rfl rfl ?_
    try dsimp only [Nat.reduceAdd, xi_m1]
    refine xS.ret rfl rfl rfl (fun _ _ => rfl) ?_
    exact ⟨rfl, rfl⟩
  · have g5 := xf_eq h5
    refine xS.s1 rfl rfl ?_
    try dsimp only [Nat.reduceAdd]
    -- 9 yX12_isRow
    refine xS.callS rfl rfl rfl ⟨Nat.le_of_ble_eq_true rfl, rfl⟩ c_X12_isRow (fun v M1 hv => ?_)
    rw [hv.1, hv.2]
    clear hv M1 v
    try dsimp only [Nat.reduceAdd, Option.toList, List.cons_append, List.nil_append, List.drop]
    refine xS.br0 (c := .eq) (off := 7) (l := 3) rfl rfl (fun h12 => ?_) (fun h12 => ?_)
    · have g12 := xt_eq h12
      refine xS.s1 rfl rfl ?_
      try dsimp only [Nat.reduceAdd, xi_m1]
      refine xS.ret rfl rfl rfl (fun _ _ => rfl) ?_
      exact ⟨rfl, rfl⟩
    · have g12 := xf_eq h12
      refine xS.s1 rfl rfl ?_
      try dsimp only [Nat.reduceAdd]
      refine xS.br0 (c := .ge) (off := 5) (l := 3) rfl rfl (fun h16 => ?_) (fun h16 => ?_)
      · have g16 := xt_ge h16
        exact absurd ⟨xif1 g5, xif1 g12, g16⟩ hx
      · have g16 := xf_ge h16
        refine xS.s1 rfl rfl ?_
        try dsimp only [Nat.reduceAdd, xi_m1]
        refine xS.ret rfl rfl rfl (fun _ _ => rfl) ?_
        exact ⟨rfl, rfl⟩

set_option maxRecDepth 10000 in
theorem c_X12_fit_bad (hx : ¬ ((0 ≤ x ∧ x < 6) ∧ 0 ≤ y ∧ y < 6)) : xT (k + 5) 206 [.ref 73, .int x, .int y] (xH b g l) (fun r M' => M' = xH b g l ∧ r = some (.int (-1))) := by
  refine xT.of rfl (Nat.le_of_ble_eq_true rfl) ?_
  change xS _ _ 0 [(0, .ref 73), (1, .int x), (2, .int y)] [] _ _
  refine xS.s1 rfl rfl ?_
  try dsimp only [Nat.reduceAdd]
  -- 1 yX12_isRow
  refine xS.callS rfl rfl rfl ⟨Nat.le_of_ble_eq_true rfl, rfl⟩ c_X12_isRow (fun v M1 hv => ?_)
  rw [hv.1, hv.2]
  clear hv M1 v
  try dsimp only [Nat.reduceAdd, Option.toList, List.cons_append, List.nil_append, List.drop]
  refine xS.br0 (c := .eq) (off := 10) (l := 3) rfl rfl (fun h4 => ?_) (fun h4 => ?_)
  · have g4 := xt_eq h4
    refine xS.s1 rfl rfl ?_
    try dsimp only [Nat.reduceAdd, xi_m1]
    refine xS.ret rfl rfl rfl (fun _ _ => rfl) ?_
    exact ⟨rfl, rfl⟩
  · have g4 := xf_eq h4
    refine xS.s1 rfl rfl ?_
    try dsimp only [Nat.reduceAdd]
    -- 8 yX12_isRow
    refine xS.callS rfl rfl rfl ⟨Nat.le_of_ble_eq_true rfl, rfl⟩ c_X12_isRow (fun v M1 hv => ?_)
    rw [hv.1, hv.2]
    clear hv M1 v
    try dsimp only [Nat.reduceAdd, Option.toList, List.cons_append, List.nil_append, List.drop]
    refine xS.br0 (c := .ne) (off := 5) (l := 3) rfl rfl (fun h11 => ?_) (fun h11 => ?_)
    · have g11 := xt_ne h11
      exact absurd ⟨xif1 g4, xif1 g11⟩ hx
    · have g11 := xf_ne h11
      refine xS.s1 rfl rfl ?_
      try dsimp only [Nat.reduceAdd, xi_m1]
      refine xS.ret rfl rfl rfl (fun _ _ => rfl) ?_
      exact ⟨rfl, rfl⟩

set_option maxRecDepth 10000 in
theorem c_X12_laws_bad (hx : ¬ ((0 ≤ x ∧ x < 6) ∧ 0 ≤ y ∧ y < 6)) : xT (k + 5) 214 [.ref 73, .int x, .int y] (xH b g l) (fun r M' => M' = xH b g l ∧ r = some (.int (-1))) := by
  refine xT.of rfl (Nat.le_of_ble_eq_true rfl) ?_
  change xS _ _ 0 [(0, .ref 73), (1, .int x), (2, .int y)] [] _ _
  refine xS.s1 rfl rfl ?_
  try dsimp only [Nat.reduceAdd]
  -- 1 yX12_isRow
  refine xS.callS rfl rfl rfl ⟨Nat.le_of_ble_eq_true rfl, rfl⟩ c_X12_isRow (fun v M1 hv => ?_)
  rw [hv.1, hv.2]
  clear hv M1 v
  try dsimp only [Nat.reduceAdd, Option.toList, List.cons_append, List.nil_append, List.drop]
  refine xS.br0 (c := .eq) (off := 10) (l := 3) rfl rfl (fun h4 => ?_) (fun h4 => ?_)
  · have g4 := xt_eq h4
    refine xS.s1 rfl rfl ?_
    try dsimp only [Nat.reduceAdd, xi_m1]
    refine xS.ret rfl rfl rfl (fun _ _ => rfl) ?_
    exact ⟨rfl, rfl⟩
  · have g4 := xf_eq h4
    refine xS.s1 rfl rfl ?_
    try dsimp only [Nat.reduceAdd]
    -- 8 yX12_isRow
    refine xS.callS rfl rfl rfl ⟨Nat.le_of_ble_eq_true rfl, rfl⟩ c_X12_isRow (fun v M1 hv => ?_)
    rw [hv.1, hv.2]
    clear hv M1 v
    try dsimp only [Nat.reduceAdd, Option.toList, List.cons_append, List.nil_append, List.drop]
    refine xS.br0 (c := .ne) (off := 5) (l := 3) rfl rfl (fun h11 => ?_) (fun h11 => ?_)
    · have g11 := xt_ne h11
      exact absurd ⟨xif1 g4, xif1 g11⟩ hx
    · have g11 := xf_ne h11
      refine xS.s1 rfl rfl ?_
      try dsimp only [Nat.reduceAdd, xi_m1]
      refine xS.ret rfl rfl rfl (fun _ _ => rfl) ?_
      exact ⟨rfl, rfl⟩

set_option maxRecDepth 10000 in
theorem c_X12_next_bad (hx : ¬ ((0 ≤ x ∧ x < 6) ∧ 0 ≤ y ∧ y < 6)) : xT (k + 5) 216 [.ref 73, .int x, .int y] (xH b g l) (fun r M' => M' = xH b g l ∧ r = some (.int (-1))) := by
  refine xT.of rfl (Nat.le_of_ble_eq_true rfl) ?_
  change xS _ _ 0 [(0, .ref 73), (1, .int x), (2, .int y)] [] _ _
  refine xS.s1 rfl rfl ?_
  try dsimp only [Nat.reduceAdd]
  -- 1 yX12_isRow
  refine xS.callS rfl rfl rfl ⟨Nat.le_of_ble_eq_true rfl, rfl⟩ c_X12_isRow (fun v M1 hv => ?_)
  rw [hv.1, hv.2]
  clear hv M1 v
  try dsimp only [Nat.reduceAdd, Option.toList, List.cons_append, List.nil_append, List.drop]
  refine xS.br0 (c := .eq) (off := 10) (l := 3) rfl rfl (fun h4 => ?_) (fun h4 => ?_)
  · have g4 := xt_eq h4
    refine xS.s1 rfl rfl ?_
    try dsimp only [Nat.reduceAdd, xi_m1]
    refine xS.ret rfl rfl rfl (fun _ _ => rfl) ?_
    exact ⟨rfl, rfl⟩
  · have g4 := xf_eq h4
    refine xS.s1 rfl rfl ?_
    try dsimp only [Nat.reduceAdd]
    -- 8 yX12_isRow
    refine xS.callS rfl rfl rfl ⟨Nat.le_of_ble_eq_true rfl, rfl⟩ c_X12_isRow (fun v M1 hv => ?_)
    rw [hv.1, hv.2]
    clear hv M1 v
    try dsimp only [Nat.reduceAdd, Option.toList, List.cons_append, List.nil_append, List.drop]
    refine xS.br0 (c := .ne) (off := 5) (l := 3) rfl rfl (fun h11 => ?_) (fun h11 => ?_)
    · have g11 := xt_ne h11
      exact absurd ⟨xif1 g4, xif1 g11⟩ hx
    · have g11 := xf_ne h11
      refine xS.s1 rfl rfl ?_
      try dsimp only [Nat.reduceAdd, xi_m1]
      refine xS.ret rfl rfl rfl (fun _ _ => rfl) ?_
      exact ⟨rfl, rfl⟩

set_option maxRecDepth 10000 in
theorem c_X12_show_ref (hR : xRr g h tx G T Lw) (hk : s < G) (hp1 : p < 6) (ht : t < 6) (hz : xsz (g 74 p) 40) (hf : xfos (g 74 p) (fun i => g 75 (40 * p + i)) 12 ≠ 0) : xT (k + 4) 202 [.ref 73, .int (nI s), .int (nI p), .int (nI t)] (xH b g l) (fun r M' => ∃ g', xFr g g' ∧ M' = xH b g' l ∧ r = some (.int (-3))) := by
  refine xT.of rfl (Nat.le_of_ble_eq_true rfl) ?_
  change xS _ _ 0 [(0, .ref 73), (1, .int (nI s)), (2, .int (nI p)), (3, .int (nI t))] [] _ _
  refine xS.s1 rfl rfl ?_
  try dsimp only [Nat.reduceAdd]
  refine xS.s1 rfl rfl ?_
  try dsimp only [Nat.reduceAdd]
  -- 2 yX12_isGlass
  refine xS.cv rfl rfl rfl rfl rfl rfl ⟨by decide, rfl, rfl⟩ (c_X12_isGlass_in hR.1.1 hR.1.2 hk) (fun v M1 hv => ?_)
  rw [hv.1, hv.2]
  clear hv M1 v
  try dsimp only [Nat.reduceAdd, Option.toList, List.cons_append, List.nil_append, List.drop]
  refine xS.br0 (c := .eq) (off := 17) (l := 3) rfl rfl (fun h5 => ?_) (fun h5 => ?_)
  · have g5 := xt_eq h5
    exfalso; first | exact absurd g5 (by decide) | (simp (disch := omega) only [Int32.lt_iff_toInt_lt, Int32.le_iff_toInt_le, nI_toInt, Int32.reduceToInt] at g5 <;> omega)
  · have g5 := xf_eq h5
    refine xS.s1 rfl rfl ?_
    try dsimp only [Nat.reduceAdd]
    -- 9 yX12_isRow
    refine xS.callS rfl rfl rfl ⟨Nat.le_of_ble_eq_true rfl, rfl⟩ (c_X12_isRow_in hp1) (fun v M1 hv => ?_)
    rw [hv.1, hv.2]
    clear hv M1 v
    try dsimp only [Nat.reduceAdd, Option.toList, List.cons_append, List.nil_append, List.drop]
    refine xS.br0 (c := .eq) (off := 10) (l := 3) rfl rfl (fun h12 => ?_) (fun h12 => ?_)
    · have g12 := xt_eq h12
      exfalso; first | exact absurd g12 (by decide) | (simp (disch := omega) only [Int32.lt_iff_toInt_lt, Int32.le_iff_toInt_le, nI_toInt, Int32.reduceToInt] at g12 <;> omega)
    · have g12 := xf_eq h12
      refine xS.s1 rfl rfl ?_
      try dsimp only [Nat.reduceAdd]
      -- 16 yX12_isRow
      refine xS.callS rfl rfl rfl ⟨Nat.le_of_ble_eq_true rfl, rfl⟩ (c_X12_isRow_in ht) (fun v M1 hv => ?_)
      rw [hv.1, hv.2]
      clear hv M1 v
      try dsimp only [Nat.reduceAdd, Option.toList, List.cons_append, List.nil_append, List.drop]
      refine xS.br0 (c := .ne) (off := 5) (l := 3) rfl rfl (fun h19 => ?_) (fun h19 => ?_)
      · have g19 := xt_ne h19
        refine xS.s1 rfl rfl ?_
        try dsimp only [Nat.reduceAdd]
        refine xS.s1 rfl rfl ?_
        try dsimp only [Nat.reduceAdd]
        refine xS.s1 rfl rfl ?_
        try dsimp only [Nat.reduceAdd, xj_12]
        refine xS.s1 rfl rfl ?_
        try dsimp only [Nat.reduceAdd]
        refine xS.gR rfl rfl rfl ⟨by decide, rfl⟩ rfl ?_
        try dsimp only [Nat.reduceAdd]
        -- 32 yX12_takeOut
        refine xS.cv rfl rfl rfl rfl rfl rfl ⟨by decide, rfl, rfl⟩ (c_X12_takeOut_ref xar_90 (by decide) hp1 hz (by decide) hf) (fun v M1 hv => ?_)
        obtain ⟨g2, hF2, hM2, hv2⟩ := hv
        rw [hM2, hv2]
        clear hM2 hv2 M1 v
        try dsimp only [Nat.reduceAdd, Option.toList, List.cons_append, List.nil_append, List.drop]
        refine xS.s1 rfl rfl ?_
        try dsimp only [Nat.reduceAdd]
        refine xS.s1 rfl rfl ?_
        try dsimp only [Nat.reduceAdd]
        refine xS.br0 (c := .ge) (off := 6) (l := 3) rfl rfl (fun h39 => ?_) (fun h39 => ?_)
        · have g39 := xt_ge h39
          exfalso; first | exact absurd g39 (by decide) | (simp (disch := omega) only [Int32.lt_iff_toInt_lt, Int32.le_iff_toInt_le, nI_toInt, Int32.reduceToInt] at g39 <;> omega)
        · have g39 := xf_ge h39
          refine xS.s1 rfl rfl ?_
          try dsimp only [Nat.reduceAdd]
          refine xS.ret rfl rfl rfl (fun _ _ => rfl) ?_
          exact ⟨g2, hF2, rfl, rfl⟩
      · have g19 := xf_ne h19
        exfalso; first | exact absurd g19 (by decide) | (simp (disch := omega) only [Int32.lt_iff_toInt_lt, Int32.le_iff_toInt_le, nI_toInt, Int32.reduceToInt] at g19 <;> omega)

set_option maxRecDepth 10000 in
theorem c_X12_first_ref (hR : xRr g h tx G T Lw) (hk : s < G) (hp1 : p < 6) (ht : t < 6) (hz : xsz (g 74 p) 40) (hf : xfos (g 74 p) (fun i => g 75 (40 * p + i)) 6 ≠ 0) : xT (k + 5) 211 [.ref 73, .int (nI s), .int (nI p), .int (nI t)] (xH b g l) (fun r M' => ∃ g', xFr g g' ∧ M' = xH b g' l ∧ r = some (.int (-3))) := by
  refine xT.of rfl (Nat.le_of_ble_eq_true rfl) ?_
  change xS _ _ 0 [(0, .ref 73), (1, .int (nI s)), (2, .int (nI p)), (3, .int (nI t))] [] _ _
  refine xS.s1 rfl rfl ?_
  try dsimp only [Nat.reduceAdd]
  refine xS.s1 rfl rfl ?_
  try dsimp only [Nat.reduceAdd]
  -- 2 yX12_isGlass
  refine xS.cv rfl rfl rfl rfl rfl rfl ⟨by decide, rfl, rfl⟩ (c_X12_isGlass_in hR.1.1 hR.1.2 hk) (fun v M1 hv => ?_)
  rw [hv.1, hv.2]
  clear hv M1 v
  try dsimp only [Nat.reduceAdd, Option.toList, List.cons_append, List.nil_append, List.drop]
  refine xS.br0 (c := .eq) (off := 17) (l := 3) rfl rfl (fun h5 => ?_) (fun h5 => ?_)
  · have g5 := xt_eq h5
    exfalso; first | exact absurd g5 (by decide) | (simp (disch := omega) only [Int32.lt_iff_toInt_lt, Int32.le_iff_toInt_le, nI_toInt, Int32.reduceToInt] at g5 <;> omega)
  · have g5 := xf_eq h5
    refine xS.s1 rfl rfl ?_
    try dsimp only [Nat.reduceAdd]
    -- 9 yX12_isRow
    refine xS.callS rfl rfl rfl ⟨Nat.le_of_ble_eq_true rfl, rfl⟩ (c_X12_isRow_in hp1) (fun v M1 hv => ?_)
    rw [hv.1, hv.2]
    clear hv M1 v
    try dsimp only [Nat.reduceAdd, Option.toList, List.cons_append, List.nil_append, List.drop]
    refine xS.br0 (c := .eq) (off := 10) (l := 3) rfl rfl (fun h12 => ?_) (fun h12 => ?_)
    · have g12 := xt_eq h12
      exfalso; first | exact absurd g12 (by decide) | (simp (disch := omega) only [Int32.lt_iff_toInt_lt, Int32.le_iff_toInt_le, nI_toInt, Int32.reduceToInt] at g12 <;> omega)
    · have g12 := xf_eq h12
      refine xS.s1 rfl rfl ?_
      try dsimp only [Nat.reduceAdd]
      -- 16 yX12_isRow
      refine xS.callS rfl rfl rfl ⟨Nat.le_of_ble_eq_true rfl, rfl⟩ (c_X12_isRow_in ht) (fun v M1 hv => ?_)
      rw [hv.1, hv.2]
      clear hv M1 v
      try dsimp only [Nat.reduceAdd, Option.toList, List.cons_append, List.nil_append, List.drop]
      refine xS.br0 (c := .ne) (off := 5) (l := 3) rfl rfl (fun h19 => ?_) (fun h19 => ?_)
      · have g19 := xt_ne h19
        refine xS.s1 rfl rfl ?_
        try dsimp only [Nat.reduceAdd]
        refine xS.s1 rfl rfl ?_
        try dsimp only [Nat.reduceAdd]
        refine xS.s1 rfl rfl ?_
        try dsimp only [Nat.reduceAdd, xj_6]
        refine xS.s1 rfl rfl ?_
        try dsimp only [Nat.reduceAdd]
        refine xS.gR rfl rfl rfl ⟨by decide, rfl⟩ rfl ?_
        try dsimp only [Nat.reduceAdd]
        -- 32 yX12_takeOut
        refine xS.cv rfl rfl rfl rfl rfl rfl ⟨by decide, rfl, rfl⟩ (c_X12_takeOut_ref xar_91 (by decide) hp1 hz (by decide) hf) (fun v M1 hv => ?_)
        obtain ⟨g2, hF2, hM2, hv2⟩ := hv
        rw [hM2, hv2]
        clear hM2 hv2 M1 v
        try dsimp only [Nat.reduceAdd, Option.toList, List.cons_append, List.nil_append, List.drop]
        refine xS.s1 rfl rfl ?_
        try dsimp only [Nat.reduceAdd]
        refine xS.s1 rfl rfl ?_
        try dsimp only [Nat.reduceAdd]
        refine xS.br0 (c := .ge) (off := 6) (l := 3) rfl rfl (fun h39 => ?_) (fun h39 => ?_)
        · have g39 := xt_ge h39
          exfalso; first | exact absurd g39 (by decide) | (simp (disch := omega) only [Int32.lt_iff_toInt_lt, Int32.le_iff_toInt_le, nI_toInt, Int32.reduceToInt] at g39 <;> omega)
        · have g39 := xf_ge h39
          refine xS.s1 rfl rfl ?_
          try dsimp only [Nat.reduceAdd]
          refine xS.ret rfl rfl rfl (fun _ _ => rfl) ?_
          exact ⟨g2, hF2, rfl, rfl⟩
      · have g19 := xf_ne h19
        exfalso; first | exact absurd g19 (by decide) | (simp (disch := omega) only [Int32.lt_iff_toInt_lt, Int32.le_iff_toInt_le, nI_toInt, Int32.reduceToInt] at g19 <;> omega)

set_option maxRecDepth 10000 in
theorem c_X12_breaks_ref (hR : xRr g h tx G T Lw) (hk : s < G) (hp1 : p < 6)  (hz : xsz (g 74 p) 40) (hf : xfos (g 74 p) (fun i => g 75 (40 * p + i)) 12 ≠ 0) : xT (k + 5) 204 [.ref 73, .int (nI s), .int (nI p)] (xH b g l) (fun r M' => ∃ g', xFr g g' ∧ M' = xH b g' l ∧ r = some (.int (-3))) := by
  refine xT.of rfl (Nat.le_of_ble_eq_true rfl) ?_
  change xS _ _ 0 [(0, .ref 73), (1, .int (nI s)), (2, .int (nI p))] [] _ _
  refine xS.s1 rfl rfl ?_
  try dsimp only [Nat.reduceAdd]
  refine xS.s1 rfl rfl ?_
  try dsimp only [Nat.reduceAdd]
  -- 2 yX12_isGlass
  refine xS.cv rfl rfl rfl rfl rfl rfl ⟨by decide, rfl, rfl⟩ (c_X12_isGlass_in hR.1.1 hR.1.2 hk) (fun v M1 hv => ?_)
  rw [hv.1, hv.2]
  clear hv M1 v
  try dsimp only [Nat.reduceAdd, Option.toList, List.cons_append, List.nil_append, List.drop]
  refine xS.br0 (c := .eq) (off := 10) (l := 3) rfl rfl (fun h5 => ?_) (fun h5 => ?_)
  · have g5 := xt_eq h5
    exfalso; first | exact absurd g5 (by decide) | (simp (disch := omega) only [Int32.lt_iff_toInt_lt, Int32.le_iff_toInt_le, nI_toInt, Int32.reduceToInt] at g5 <;> omega)
  · have g5 := xf_eq h5
    refine xS.s1 rfl rfl ?_
    try dsimp only [Nat.reduceAdd]
    -- 9 yX12_isRow
    refine xS.callS rfl rfl rfl ⟨Nat.le_of_ble_eq_true rfl, rfl⟩ (c_X12_isRow_in hp1) (fun v M1 hv => ?_)
    rw [hv.1, hv.2]
    clear hv M1 v
    try dsimp only [Nat.reduceAdd, Option.toList, List.cons_append, List.nil_append, List.drop]
    refine xS.br0 (c := .ne) (off := 5) (l := 3) rfl rfl (fun h12 => ?_) (fun h12 => ?_)
    · have g12 := xt_ne h12
      refine xS.s1 rfl rfl ?_
      try dsimp only [Nat.reduceAdd]
      refine xS.s1 rfl rfl ?_
      try dsimp only [Nat.reduceAdd]
      refine xS.s1 rfl rfl ?_
      try dsimp only [Nat.reduceAdd, xj_12]
      refine xS.s1 rfl rfl ?_
      try dsimp only [Nat.reduceAdd]
      refine xS.gR rfl rfl rfl ⟨by decide, rfl⟩ rfl ?_
      try dsimp only [Nat.reduceAdd]
      -- 25 yX12_takeOut
      refine xS.cv rfl rfl rfl rfl rfl rfl ⟨by decide, rfl, rfl⟩ (c_X12_takeOut_ref xar_90 (by decide) hp1 hz (by decide) hf) (fun v M1 hv => ?_)
      obtain ⟨g2, hF2, hM2, hv2⟩ := hv
      rw [hM2, hv2]
      clear hM2 hv2 M1 v
      try dsimp only [Nat.reduceAdd, Option.toList, List.cons_append, List.nil_append, List.drop]
      refine xS.s1 rfl rfl ?_
      try dsimp only [Nat.reduceAdd]
      refine xS.s1 rfl rfl ?_
      try dsimp only [Nat.reduceAdd]
      refine xS.br0 (c := .ge) (off := 5) (l := 3) rfl rfl (fun h30 => ?_) (fun h30 => ?_)
      · have g30 := xt_ge h30
        exfalso; first | exact absurd g30 (by decide) | (simp (disch := omega) only [Int32.lt_iff_toInt_lt, Int32.le_iff_toInt_le, nI_toInt, Int32.reduceToInt] at g30 <;> omega)
      · have g30 := xf_ge h30
        refine xS.s1 rfl rfl ?_
        try dsimp only [Nat.reduceAdd]
        refine xS.ret rfl rfl rfl (fun _ _ => rfl) ?_
        exact ⟨g2, hF2, rfl, rfl⟩
    · have g12 := xf_ne h12
      exfalso; first | exact absurd g12 (by decide) | (simp (disch := omega) only [Int32.lt_iff_toInt_lt, Int32.le_iff_toInt_le, nI_toInt, Int32.reduceToInt] at g12 <;> omega)

set_option maxRecDepth 10000 in
theorem c_X12_alike_ref (hR : xRr g h tx G T Lw) (hk : s < G) (hp1 : p < 6)  (hz : xsz (g 74 p) 40) (hf : xfos (g 74 p) (fun i => g 75 (40 * p + i)) 12 ≠ 0) : xT (k + 4) 205 [.ref 73, .int (nI s), .int (nI p)] (xH b g l) (fun r M' => ∃ g', xFr g g' ∧ M' = xH b g' l ∧ r = some (.int (-3))) := by
  refine xT.of rfl (Nat.le_of_ble_eq_true rfl) ?_
  change xS _ _ 0 [(0, .ref 73), (1, .int (nI s)), (2, .int (nI p))] [] _ _
  refine xS.s1 rfl rfl ?_
  try dsimp only [Nat.reduceAdd]
  refine xS.s1 rfl rfl ?_
  try dsimp only [Nat.reduceAdd]
  -- 2 yX12_isGlass
  refine xS.cv rfl rfl rfl rfl rfl rfl ⟨by decide, rfl, rfl⟩ (c_X12_isGlass_in hR.1.1 hR.1.2 hk) (fun v M1 hv => ?_)
  rw [hv.1, hv.2]
  clear hv M1 v
  try dsimp only [Nat.reduceAdd, Option.toList, List.cons_append, List.nil_append, List.drop]
  refine xS.br0 (c := .eq) (off := 10) (l := 3) rfl rfl (fun h5 => ?_) (fun h5 => ?_)
  · have g5 := xt_eq h5
    exfalso; first | exact absurd g5 (by decide) | (simp (disch := omega) only [Int32.lt_iff_toInt_lt, Int32.le_iff_toInt_le, nI_toInt, Int32.reduceToInt] at g5 <;> omega)
  · have g5 := xf_eq h5
    refine xS.s1 rfl rfl ?_
    try dsimp only [Nat.reduceAdd]
    -- 9 yX12_isRow
    refine xS.callS rfl rfl rfl ⟨Nat.le_of_ble_eq_true rfl, rfl⟩ (c_X12_isRow_in hp1) (fun v M1 hv => ?_)
    rw [hv.1, hv.2]
    clear hv M1 v
    try dsimp only [Nat.reduceAdd, Option.toList, List.cons_append, List.nil_append, List.drop]
    refine xS.br0 (c := .ne) (off := 5) (l := 3) rfl rfl (fun h12 => ?_) (fun h12 => ?_)
    · have g12 := xt_ne h12
      refine xS.s1 rfl rfl ?_
      try dsimp only [Nat.reduceAdd]
      refine xS.s1 rfl rfl ?_
      try dsimp only [Nat.reduceAdd]
      refine xS.s1 rfl rfl ?_
      try dsimp only [Nat.reduceAdd, xj_12]
      refine xS.s1 rfl rfl ?_
      try dsimp only [Nat.reduceAdd]
      refine xS.gR rfl rfl rfl ⟨by decide, rfl⟩ rfl ?_
      try dsimp only [Nat.reduceAdd]
      -- 25 yX12_takeOut
      refine xS.cv rfl rfl rfl rfl rfl rfl ⟨by decide, rfl, rfl⟩ (c_X12_takeOut_ref xar_90 (by decide) hp1 hz (by decide) hf) (fun v M1 hv => ?_)
      obtain ⟨g2, hF2, hM2, hv2⟩ := hv
      rw [hM2, hv2]
      clear hM2 hv2 M1 v
      try dsimp only [Nat.reduceAdd, Option.toList, List.cons_append, List.nil_append, List.drop]
      refine xS.s1 rfl rfl ?_
      try dsimp only [Nat.reduceAdd]
      refine xS.s1 rfl rfl ?_
      try dsimp only [Nat.reduceAdd]
      refine xS.br0 (c := .ge) (off := 5) (l := 3) rfl rfl (fun h30 => ?_) (fun h30 => ?_)
      · have g30 := xt_ge h30
        exfalso; first | exact absurd g30 (by decide) | (simp (disch := omega) only [Int32.lt_iff_toInt_lt, Int32.le_iff_toInt_le, nI_toInt, Int32.reduceToInt] at g30 <;> omega)
      · have g30 := xf_ge h30
        refine xS.s1 rfl rfl ?_
        try dsimp only [Nat.reduceAdd]
        refine xS.ret rfl rfl rfl (fun _ _ => rfl) ?_
        exact ⟨g2, hF2, rfl, rfl⟩
    · have g12 := xf_ne h12
      exfalso; first | exact absurd g12 (by decide) | (simp (disch := omega) only [Int32.lt_iff_toInt_lt, Int32.le_iff_toInt_le, nI_toInt, Int32.reduceToInt] at g12 <;> omega)

set_option maxRecDepth 10000 in
theorem c_X12_ways_ref (hR : xRr g h tx G T Lw) (hk : s < G) (hp1 : p < 6)  (hz : xsz (g 74 p) 40) (hf : xfos (g 74 p) (fun i => g 75 (40 * p + i)) 6 ≠ 0) : xT (k + 5) 210 [.ref 73, .int (nI s), .int (nI p)] (xH b g l) (fun r M' => ∃ g', xFr g g' ∧ M' = xH b g' l ∧ r = some (.int (-3))) := by
  refine xT.of rfl (Nat.le_of_ble_eq_true rfl) ?_
  change xS _ _ 0 [(0, .ref 73), (1, .int (nI s)), (2, .int (nI p))] [] _ _
  refine xS.s1 rfl rfl ?_
  try dsimp only [Nat.reduceAdd]
  refine xS.s1 rfl rfl ?_
  try dsimp only [Nat.reduceAdd]
  -- 2 yX12_isGlass
  refine xS.cv rfl rfl rfl rfl rfl rfl ⟨by decide, rfl, rfl⟩ (c_X12_isGlass_in hR.1.1 hR.1.2 hk) (fun v M1 hv => ?_)
  rw [hv.1, hv.2]
  clear hv M1 v
  try dsimp only [Nat.reduceAdd, Option.toList, List.cons_append, List.nil_append, List.drop]
  refine xS.br0 (c := .eq) (off := 10) (l := 3) rfl rfl (fun h5 => ?_) (fun h5 => ?_)
  · have g5 := xt_eq h5
    exfalso; first | exact absurd g5 (by decide) | (simp (disch := omega) only [Int32.lt_iff_toInt_lt, Int32.le_iff_toInt_le, nI_toInt, Int32.reduceToInt] at g5 <;> omega)
  · have g5 := xf_eq h5
    refine xS.s1 rfl rfl ?_
    try dsimp only [Nat.reduceAdd]
    -- 9 yX12_isRow
    refine xS.callS rfl rfl rfl ⟨Nat.le_of_ble_eq_true rfl, rfl⟩ (c_X12_isRow_in hp1) (fun v M1 hv => ?_)
    rw [hv.1, hv.2]
    clear hv M1 v
    try dsimp only [Nat.reduceAdd, Option.toList, List.cons_append, List.nil_append, List.drop]
    refine xS.br0 (c := .ne) (off := 5) (l := 3) rfl rfl (fun h12 => ?_) (fun h12 => ?_)
    · have g12 := xt_ne h12
      refine xS.s1 rfl rfl ?_
      try dsimp only [Nat.reduceAdd]
      refine xS.s1 rfl rfl ?_
      try dsimp only [Nat.reduceAdd]
      refine xS.s1 rfl rfl ?_
      try dsimp only [Nat.reduceAdd, xj_6]
      refine xS.s1 rfl rfl ?_
      try dsimp only [Nat.reduceAdd]
      refine xS.gR rfl rfl rfl ⟨by decide, rfl⟩ rfl ?_
      try dsimp only [Nat.reduceAdd]
      -- 25 yX12_takeOut
      refine xS.cv rfl rfl rfl rfl rfl rfl ⟨by decide, rfl, rfl⟩ (c_X12_takeOut_ref xar_91 (by decide) hp1 hz (by decide) hf) (fun v M1 hv => ?_)
      obtain ⟨g2, hF2, hM2, hv2⟩ := hv
      rw [hM2, hv2]
      clear hM2 hv2 M1 v
      try dsimp only [Nat.reduceAdd, Option.toList, List.cons_append, List.nil_append, List.drop]
      refine xS.s1 rfl rfl ?_
      try dsimp only [Nat.reduceAdd]
      refine xS.s1 rfl rfl ?_
      try dsimp only [Nat.reduceAdd]
      refine xS.br0 (c := .ge) (off := 5) (l := 3) rfl rfl (fun h30 => ?_) (fun h30 => ?_)
      · have g30 := xt_ge h30
        exfalso; first | exact absurd g30 (by decide) | (simp (disch := omega) only [Int32.lt_iff_toInt_lt, Int32.le_iff_toInt_le, nI_toInt, Int32.reduceToInt] at g30 <;> omega)
      · have g30 := xf_ge h30
        refine xS.s1 rfl rfl ?_
        try dsimp only [Nat.reduceAdd]
        refine xS.ret rfl rfl rfl (fun _ _ => rfl) ?_
        exact ⟨g2, hF2, rfl, rfl⟩
    · have g12 := xf_ne h12
      exfalso; first | exact absurd g12 (by decide) | (simp (disch := omega) only [Int32.lt_iff_toInt_lt, Int32.le_iff_toInt_le, nI_toInt, Int32.reduceToInt] at g12 <;> omega)

set_option maxRecDepth 10000 in
theorem c_X12_can_ref (hR : xRr g h tx G T Lw) (hk : s < G) (hp1 : p < 6) (hd31 : d < 2 ^ 31) (hz : xsz (g 74 p) 40) (hf : xfos (g 74 p) (fun i => g 75 (40 * p + i)) 6 ≠ 0) : xT (k + 5) 212 [.ref 73, .int (nI s), .int (nI p), .int (nI d)] (xH b g l) (fun r M' => ∃ g', xFr g g' ∧ M' = xH b g' l ∧ r = some (.int (-3))) := by
  refine xT.of rfl (Nat.le_of_ble_eq_true rfl) ?_
  change xS _ _ 0 [(0, .ref 73), (1, .int (nI s)), (2, .int (nI p)), (3, .int (nI d))] [] _ _
  refine xS.s1 rfl rfl ?_
  try dsimp only [Nat.reduceAdd]
  refine xS.s1 rfl rfl ?_
  try dsimp only [Nat.reduceAdd]
  -- 2 yX12_isGlass
  refine xS.cv rfl rfl rfl rfl rfl rfl ⟨by decide, rfl, rfl⟩ (c_X12_isGlass_in hR.1.1 hR.1.2 hk) (fun v M1 hv => ?_)
  rw [hv.1, hv.2]
  clear hv M1 v
  try dsimp only [Nat.reduceAdd, Option.toList, List.cons_append, List.nil_append, List.drop]
  refine xS.br0 (c := .eq) (off := 14) (l := 3) rfl rfl (fun h5 => ?_) (fun h5 => ?_)
  · have g5 := xt_eq h5
    exfalso; first | exact absurd g5 (by decide) | (simp (disch := omega) only [Int32.lt_iff_toInt_lt, Int32.le_iff_toInt_le, nI_toInt, Int32.reduceToInt] at g5 <;> omega)
  · have g5 := xf_eq h5
    refine xS.s1 rfl rfl ?_
    try dsimp only [Nat.reduceAdd]
    -- 9 yX12_isRow
    refine xS.callS rfl rfl rfl ⟨Nat.le_of_ble_eq_true rfl, rfl⟩ (c_X12_isRow_in hp1) (fun v M1 hv => ?_)
    rw [hv.1, hv.2]
    clear hv M1 v
    try dsimp only [Nat.reduceAdd, Option.toList, List.cons_append, List.nil_append, List.drop]
    refine xS.br0 (c := .eq) (off := 7) (l := 3) rfl rfl (fun h12 => ?_) (fun h12 => ?_)
    · have g12 := xt_eq h12
      exfalso; first | exact absurd g12 (by decide) | (simp (disch := omega) only [Int32.lt_iff_toInt_lt, Int32.le_iff_toInt_le, nI_toInt, Int32.reduceToInt] at g12 <;> omega)
    · have g12 := xf_eq h12
      refine xS.s1 rfl rfl ?_
      try dsimp only [Nat.reduceAdd]
      refine xS.br0 (c := .ge) (off := 5) (l := 3) rfl rfl (fun h16 => ?_) (fun h16 => ?_)
      · have g16 := xt_ge h16
        refine xS.s1 rfl rfl ?_
        try dsimp only [Nat.reduceAdd]
        refine xS.s1 rfl rfl ?_
        try dsimp only [Nat.reduceAdd]
        refine xS.s1 rfl rfl ?_
        try dsimp only [Nat.reduceAdd, xj_6]
        refine xS.s1 rfl rfl ?_
        try dsimp only [Nat.reduceAdd]
        refine xS.gR rfl rfl rfl ⟨by decide, rfl⟩ rfl ?_
        try dsimp only [Nat.reduceAdd]
        -- 29 yX12_takeOut
        refine xS.cv rfl rfl rfl rfl rfl rfl ⟨by decide, rfl, rfl⟩ (c_X12_takeOut_ref xar_91 (by decide) hp1 hz (by decide) hf) (fun v M1 hv => ?_)
        obtain ⟨g2, hF2, hM2, hv2⟩ := hv
        rw [hM2, hv2]
        clear hM2 hv2 M1 v
        try dsimp only [Nat.reduceAdd, Option.toList, List.cons_append, List.nil_append, List.drop]
        refine xS.s1 rfl rfl ?_
        try dsimp only [Nat.reduceAdd]
        refine xS.s1 rfl rfl ?_
        try dsimp only [Nat.reduceAdd]
        refine xS.br0 (c := .ge) (off := 6) (l := 3) rfl rfl (fun h36 => ?_) (fun h36 => ?_)
        · have g36 := xt_ge h36
          exfalso; first | exact absurd g36 (by decide) | (simp (disch := omega) only [Int32.lt_iff_toInt_lt, Int32.le_iff_toInt_le, nI_toInt, Int32.reduceToInt] at g36 <;> omega)
        · have g36 := xf_ge h36
          refine xS.s1 rfl rfl ?_
          try dsimp only [Nat.reduceAdd]
          refine xS.ret rfl rfl rfl (fun _ _ => rfl) ?_
          exact ⟨g2, hF2, rfl, rfl⟩
      · have g16 := xf_ge h16
        exfalso; first | exact absurd g16 (by decide) | (simp (disch := omega) only [Int32.lt_iff_toInt_lt, Int32.le_iff_toInt_le, nI_toInt, Int32.reduceToInt] at g16 <;> omega)

set_option maxRecDepth 10000 in
theorem c_X12_fit_ref (hp1 : p < 6) (hz : xsz (g 74 p) 40) (hs1 : s < 6) (hz2 : xsz (g 74 s) 40) (hf : xfop (g 74 p) (fun i => g 75 (40 * p + i)) (g 74 s) (fun i => g 75 (40 * s + i)) 12 ≠ 0) : xT (k + 5) 206 [.ref 73, .int (nI p), .int (nI s)] (xH b g l) (fun r M' => ∃ g', xFr g g' ∧ M' = xH b g' l ∧ r = some (.int (-3))) := by
  refine xT.of rfl (Nat.le_of_ble_eq_true rfl) ?_
  change xS _ _ 0 [(0, .ref 73), (1, .int (nI p)), (2, .int (nI s))] [] _ _
  refine xS.s1 rfl rfl ?_
  try dsimp only [Nat.reduceAdd]
  -- 1 yX12_isRow
  refine xS.callS rfl rfl rfl ⟨Nat.le_of_ble_eq_true rfl, rfl⟩ (c_X12_isRow_in hp1) (fun v M1 hv => ?_)
  rw [hv.1, hv.2]
  clear hv M1 v
  try dsimp only [Nat.reduceAdd, Option.toList, List.cons_append, List.nil_append, List.drop]
  refine xS.br0 (c := .eq) (off := 10) (l := 3) rfl rfl (fun h4 => ?_) (fun h4 => ?_)
  · have g4 := xt_eq h4
    exfalso; first | exact absurd g4 (by decide) | (simp (disch := omega) only [Int32.lt_iff_toInt_lt, Int32.le_iff_toInt_le, nI_toInt, Int32.reduceToInt] at g4 <;> omega)
  · have g4 := xf_eq h4
    refine xS.s1 rfl rfl ?_
    try dsimp only [Nat.reduceAdd]
    -- 8 yX12_isRow
    refine xS.callS rfl rfl rfl ⟨Nat.le_of_ble_eq_true rfl, rfl⟩ (c_X12_isRow_in hs1) (fun v M1 hv => ?_)
    rw [hv.1, hv.2]
    clear hv M1 v
    try dsimp only [Nat.reduceAdd, Option.toList, List.cons_append, List.nil_append, List.drop]
    refine xS.br0 (c := .ne) (off := 5) (l := 3) rfl rfl (fun h11 => ?_) (fun h11 => ?_)
    · have g11 := xt_ne h11
      refine xS.s1 rfl rfl ?_
      try dsimp only [Nat.reduceAdd]
      refine xS.s1 rfl rfl ?_
      try dsimp only [Nat.reduceAdd]
      refine xS.s1 rfl rfl ?_
      try dsimp only [Nat.reduceAdd]
      -- 19 yX12_takeTwo
      refine xS.cv rfl rfl rfl rfl rfl rfl ⟨by decide, rfl, rfl⟩ (c_X12_takeTwo_ref hp1 hz hs1 hz2 hf) (fun v M1 hv => ?_)
      obtain ⟨g2, hF2, hM2, hv2⟩ := hv
      rw [hM2, hv2]
      clear hM2 hv2 M1 v
      try dsimp only [Nat.reduceAdd, Option.toList, List.cons_append, List.nil_append, List.drop]
      refine xS.s1 rfl rfl ?_
      try dsimp only [Nat.reduceAdd]
      refine xS.s1 rfl rfl ?_
      try dsimp only [Nat.reduceAdd]
      refine xS.br0 (c := .ge) (off := 5) (l := 3) rfl rfl (fun h24 => ?_) (fun h24 => ?_)
      · have g24 := xt_ge h24
        exfalso; first | exact absurd g24 (by decide) | (simp (disch := omega) only [Int32.lt_iff_toInt_lt, Int32.le_iff_toInt_le, nI_toInt, Int32.reduceToInt] at g24 <;> omega)
      · have g24 := xf_ge h24
        refine xS.s1 rfl rfl ?_
        try dsimp only [Nat.reduceAdd]
        refine xS.ret rfl rfl rfl (fun _ _ => rfl) ?_
        exact ⟨g2, hF2, rfl, rfl⟩
    · have g11 := xf_ne h11
      exfalso; first | exact absurd g11 (by decide) | (simp (disch := omega) only [Int32.lt_iff_toInt_lt, Int32.le_iff_toInt_le, nI_toInt, Int32.reduceToInt] at g11 <;> omega)

set_option maxRecDepth 10000 in
theorem c_X12_laws_ref (hp1 : p < 6) (hz : xsz (g 74 p) 40) (hs1 : s < 6) (hz2 : xsz (g 74 s) 40) (hf : xfop (g 74 p) (fun i => g 75 (40 * p + i)) (g 74 s) (fun i => g 75 (40 * s + i)) 12 ≠ 0) : xT (k + 5) 214 [.ref 73, .int (nI p), .int (nI s)] (xH b g l) (fun r M' => ∃ g', xFr g g' ∧ M' = xH b g' l ∧ r = some (.int (-3))) := by
  refine xT.of rfl (Nat.le_of_ble_eq_true rfl) ?_
  change xS _ _ 0 [(0, .ref 73), (1, .int (nI p)), (2, .int (nI s))] [] _ _
  refine xS.s1 rfl rfl ?_
  try dsimp only [Nat.reduceAdd]
  -- 1 yX12_isRow
  refine xS.callS rfl rfl rfl ⟨Nat.le_of_ble_eq_true rfl, rfl⟩ (c_X12_isRow_in hp1) (fun v M1 hv => ?_)
  rw [hv.1, hv.2]
  clear hv M1 v
  try dsimp only [Nat.reduceAdd, Option.toList, List.cons_append, List.nil_append, List.drop]
  refine xS.br0 (c := .eq) (off := 10) (l := 3) rfl rfl (fun h4 => ?_) (fun h4 => ?_)
  · have g4 := xt_eq h4
    exfalso; first | exact absurd g4 (by decide) | (simp (disch := omega) only [Int32.lt_iff_toInt_lt, Int32.le_iff_toInt_le, nI_toInt, Int32.reduceToInt] at g4 <;> omega)
  · have g4 := xf_eq h4
    refine xS.s1 rfl rfl ?_
    try dsimp only [Nat.reduceAdd]
    -- 8 yX12_isRow
    refine xS.callS rfl rfl rfl ⟨Nat.le_of_ble_eq_true rfl, rfl⟩ (c_X12_isRow_in hs1) (fun v M1 hv => ?_)
    rw [hv.1, hv.2]
    clear hv M1 v
    try dsimp only [Nat.reduceAdd, Option.toList, List.cons_append, List.nil_append, List.drop]
    refine xS.br0 (c := .ne) (off := 5) (l := 3) rfl rfl (fun h11 => ?_) (fun h11 => ?_)
    · have g11 := xt_ne h11
      refine xS.s1 rfl rfl ?_
      try dsimp only [Nat.reduceAdd]
      refine xS.s1 rfl rfl ?_
      try dsimp only [Nat.reduceAdd]
      refine xS.s1 rfl rfl ?_
      try dsimp only [Nat.reduceAdd]
      -- 19 yX12_takeTwo
      refine xS.cv rfl rfl rfl rfl rfl rfl ⟨by decide, rfl, rfl⟩ (c_X12_takeTwo_ref hp1 hz hs1 hz2 hf) (fun v M1 hv => ?_)
      obtain ⟨g2, hF2, hM2, hv2⟩ := hv
      rw [hM2, hv2]
      clear hM2 hv2 M1 v
      try dsimp only [Nat.reduceAdd, Option.toList, List.cons_append, List.nil_append, List.drop]
      refine xS.s1 rfl rfl ?_
      try dsimp only [Nat.reduceAdd]
      refine xS.s1 rfl rfl ?_
      try dsimp only [Nat.reduceAdd]
      refine xS.br0 (c := .ge) (off := 7) (l := 3) rfl rfl (fun h24 => ?_) (fun h24 => ?_)
      · have g24 := xt_ge h24
        exfalso; first | exact absurd g24 (by decide) | (simp (disch := omega) only [Int32.lt_iff_toInt_lt, Int32.le_iff_toInt_le, nI_toInt, Int32.reduceToInt] at g24 <;> omega)
      · have g24 := xf_ge h24
        refine xS.s1 rfl rfl ?_
        try dsimp only [Nat.reduceAdd]
        refine xS.s1 rfl rfl ?_
        try dsimp only [Nat.reduceAdd]
        refine xS.ret rfl rfl rfl (fun _ _ => rfl) ?_
        exact ⟨g2, hF2, rfl, rfl⟩
    · have g11 := xf_ne h11
      exfalso; first | exact absurd g11 (by decide) | (simp (disch := omega) only [Int32.lt_iff_toInt_lt, Int32.le_iff_toInt_le, nI_toInt, Int32.reduceToInt] at g11 <;> omega)

set_option maxRecDepth 10000 in
theorem c_X12_next_ref (hp1 : p < 6) (hz : xsz (g 74 p) 40) (hs1 : s < 6) (hz2 : xsz (g 74 s) 40) (hf : xfop (g 74 p) (fun i => g 75 (40 * p + i)) (g 74 s) (fun i => g 75 (40 * s + i)) 12 ≠ 0) : xT (k + 5) 216 [.ref 73, .int (nI p), .int (nI s)] (xH b g l) (fun r M' => ∃ g', xFr g g' ∧ M' = xH b g' l ∧ r = some (.int (-3))) := by
  refine xT.of rfl (Nat.le_of_ble_eq_true rfl) ?_
  change xS _ _ 0 [(0, .ref 73), (1, .int (nI p)), (2, .int (nI s))] [] _ _
  refine xS.s1 rfl rfl ?_
  try dsimp only [Nat.reduceAdd]
  -- 1 yX12_isRow
  refine xS.callS rfl rfl rfl ⟨Nat.le_of_ble_eq_true rfl, rfl⟩ (c_X12_isRow_in hp1) (fun v M1 hv => ?_)
  rw [hv.1, hv.2]
  clear hv M1 v
  try dsimp only [Nat.reduceAdd, Option.toList, List.cons_append, List.nil_append, List.drop]
  refine xS.br0 (c := .eq) (off := 10) (l := 3) rfl rfl (fun h4 => ?_) (fun h4 => ?_)
  · have g4 := xt_eq h4
    exfalso; first | exact absurd g4 (by decide) | (simp (disch := omega) only [Int32.lt_iff_toInt_lt, Int32.le_iff_toInt_le, nI_toInt, Int32.reduceToInt] at g4 <;> omega)
  · have g4 := xf_eq h4
    refine xS.s1 rfl rfl ?_
    try dsimp only [Nat.reduceAdd]
    -- 8 yX12_isRow
    refine xS.callS rfl rfl rfl ⟨Nat.le_of_ble_eq_true rfl, rfl⟩ (c_X12_isRow_in hs1) (fun v M1 hv => ?_)
    rw [hv.1, hv.2]
    clear hv M1 v
    try dsimp only [Nat.reduceAdd, Option.toList, List.cons_append, List.nil_append, List.drop]
    refine xS.br0 (c := .ne) (off := 5) (l := 3) rfl rfl (fun h11 => ?_) (fun h11 => ?_)
    · have g11 := xt_ne h11
      refine xS.s1 rfl rfl ?_
      try dsimp only [Nat.reduceAdd]
      refine xS.s1 rfl rfl ?_
      try dsimp only [Nat.reduceAdd]
      refine xS.s1 rfl rfl ?_
      try dsimp only [Nat.reduceAdd]
      -- 19 yX12_takeTwo
      refine xS.cv rfl rfl rfl rfl rfl rfl ⟨by decide, rfl, rfl⟩ (c_X12_takeTwo_ref hp1 hz hs1 hz2 hf) (fun v M1 hv => ?_)
      obtain ⟨g2, hF2, hM2, hv2⟩ := hv
      rw [hM2, hv2]
      clear hM2 hv2 M1 v
      try dsimp only [Nat.reduceAdd, Option.toList, List.cons_append, List.nil_append, List.drop]
      refine xS.s1 rfl rfl ?_
      try dsimp only [Nat.reduceAdd]
      refine xS.s1 rfl rfl ?_
      try dsimp only [Nat.reduceAdd]
      refine xS.br0 (c := .ge) (off := 5) (l := 3) rfl rfl (fun h24 => ?_) (fun h24 => ?_)
      · have g24 := xt_ge h24
        exfalso; first | exact absurd g24 (by decide) | (simp (disch := omega) only [Int32.lt_iff_toInt_lt, Int32.le_iff_toInt_le, nI_toInt, Int32.reduceToInt] at g24 <;> omega)
      · have g24 := xf_ge h24
        refine xS.s1 rfl rfl ?_
        try dsimp only [Nat.reduceAdd]
        refine xS.ret rfl rfl rfl (fun _ _ => rfl) ?_
        exact ⟨g2, hF2, rfl, rfl⟩
    · have g11 := xf_ne h11
      exfalso; first | exact absurd g11 (by decide) | (simp (disch := omega) only [Int32.lt_iff_toInt_lt, Int32.le_iff_toInt_le, nI_toInt, Int32.reduceToInt] at g11 <;> omega)

set_option maxRecDepth 10000 in
theorem c_X12_he_ref (hR : xRr g h tx G T Lw) (hk : t < G) (hp1 : p < 6) (hz : xsz (g 74 p) 40) (hs1 : s < 6) (hz2 : xsz (g 74 s) 40) (hf : xfop (g 74 p) (fun i => g 75 (40 * p + i)) (g 74 s) (fun i => g 75 (40 * s + i)) 12 ≠ 0) : xT (k + 5) 217 [.ref 73, .int (nI t), .int (nI p), .int (nI s)] (xH b g l) (fun r M' => ∃ g', xFr g g' ∧ M' = xH b g' l ∧ r = some (.int (-3))) := by
  refine xT.of rfl (Nat.le_of_ble_eq_true rfl) ?_
  change xS _ _ 0 [(0, .ref 73), (1, .int (nI t)), (2, .int (nI p)), (3, .int (nI s))] [] _ _
  refine xS.s1 rfl rfl ?_
  try dsimp only [Nat.reduceAdd]
  refine xS.s1 rfl rfl ?_
  try dsimp only [Nat.reduceAdd]
  -- 2 yX12_isGlass
  refine xS.cv rfl rfl rfl rfl rfl rfl ⟨by decide, rfl, rfl⟩ (c_X12_isGlass_in hR.1.1 hR.1.2 hk) (fun v M1 hv => ?_)
  rw [hv.1, hv.2]
  clear hv M1 v
  try dsimp only [Nat.reduceAdd, Option.toList, List.cons_append, List.nil_append, List.drop]
  refine xS.br0 (c := .eq) (off := 17) (l := 3) rfl rfl (fun h5 => ?_) (fun h5 => ?_)
  · have g5 := xt_eq h5
    exfalso; first | exact absurd g5 (by decide) | (simp (disch := omega) only [Int32.lt_iff_toInt_lt, Int32.le_iff_toInt_le, nI_toInt, Int32.reduceToInt] at g5 <;> omega)
  · have g5 := xf_eq h5
    refine xS.s1 rfl rfl ?_
    try dsimp only [Nat.reduceAdd]
    -- 9 yX12_isRow
    refine xS.callS rfl rfl rfl ⟨Nat.le_of_ble_eq_true rfl, rfl⟩ (c_X12_isRow_in hp1) (fun v M1 hv => ?_)
    rw [hv.1, hv.2]
    clear hv M1 v
    try dsimp only [Nat.reduceAdd, Option.toList, List.cons_append, List.nil_append, List.drop]
    refine xS.br0 (c := .eq) (off := 10) (l := 3) rfl rfl (fun h12 => ?_) (fun h12 => ?_)
    · have g12 := xt_eq h12
      exfalso; first | exact absurd g12 (by decide) | (simp (disch := omega) only [Int32.lt_iff_toInt_lt, Int32.le_iff_toInt_le, nI_toInt, Int32.reduceToInt] at g12 <;> omega)
    · have g12 := xf_eq h12
      refine xS.s1 rfl rfl ?_
      try dsimp only [Nat.reduceAdd]
      -- 16 yX12_isRow
      refine xS.callS rfl rfl rfl ⟨Nat.le_of_ble_eq_true rfl, rfl⟩ (c_X12_isRow_in hs1) (fun v M1 hv => ?_)
      rw [hv.1, hv.2]
      clear hv M1 v
      try dsimp only [Nat.reduceAdd, Option.toList, List.cons_append, List.nil_append, List.drop]
      refine xS.br0 (c := .ne) (off := 5) (l := 3) rfl rfl (fun h19 => ?_) (fun h19 => ?_)
      · have g19 := xt_ne h19
        refine xS.s1 rfl rfl ?_
        try dsimp only [Nat.reduceAdd]
        refine xS.s1 rfl rfl ?_
        try dsimp only [Nat.reduceAdd]
        refine xS.s1 rfl rfl ?_
        try dsimp only [Nat.reduceAdd]
        -- 27 yX12_takeTwo
        refine xS.cv rfl rfl rfl rfl rfl rfl ⟨by decide, rfl, rfl⟩ (c_X12_takeTwo_ref hp1 hz hs1 hz2 hf) (fun v M1 hv => ?_)
        obtain ⟨g2, hF2, hM2, hv2⟩ := hv
        rw [hM2, hv2]
        clear hM2 hv2 M1 v
        try dsimp only [Nat.reduceAdd, Option.toList, List.cons_append, List.nil_append, List.drop]
        refine xS.s1 rfl rfl ?_
        try dsimp only [Nat.reduceAdd]
        refine xS.s1 rfl rfl ?_
        try dsimp only [Nat.reduceAdd]
        refine xS.br0 (c := .ge) (off := 6) (l := 3) rfl rfl (fun h34 => ?_) (fun h34 => ?_)
        · have g34 := xt_ge h34
          exfalso; first | exact absurd g34 (by decide) | (simp (disch := omega) only [Int32.lt_iff_toInt_lt, Int32.le_iff_toInt_le, nI_toInt, Int32.reduceToInt] at g34 <;> omega)
        · have g34 := xf_ge h34
          refine xS.s1 rfl rfl ?_
          try dsimp only [Nat.reduceAdd]
          refine xS.ret rfl rfl rfl (fun _ _ => rfl) ?_
          exact ⟨g2, hF2, rfl, rfl⟩
      · have g19 := xf_ne h19
        exfalso; first | exact absurd g19 (by decide) | (simp (disch := omega) only [Int32.lt_iff_toInt_lt, Int32.le_iff_toInt_le, nI_toInt, Int32.reduceToInt] at g19 <;> omega)

set_option maxRecDepth 10000 in
theorem c_X12_breaksAt (hR : xRr g h tx G T Lw) (hk : s < G) (hd : d < 13) (hf : ∀ u, u ≤ d → g 90 u = nI (f u) ∧ f u < 6) : xT (k + 4) 203 [.ref 73, .int (nI s), .int (nI d)] (xH b g l) (fun r M' => M' = xH b g l ∧ r = some (.int (if xfb tx T (nI (f d)) (xshw h (Lw s / 4) (Lw s % 4) f d) = none then 0 else 1))) := by
  refine xT.of rfl (Nat.le_of_ble_eq_true rfl) ?_
  change xS _ _ 0 [(0, .ref 73), (1, .int (nI s)), (2, .int (nI d))] [] _ _
  refine xS.s1 rfl rfl ?_
  try dsimp only [Nat.reduceAdd]
  refine xS.s1 rfl rfl ?_
  try dsimp only [Nat.reduceAdd]
  refine xS.gR rfl rfl rfl ⟨by decide, rfl⟩ rfl ?_
  try dsimp only [Nat.reduceAdd]
  refine xS.s1 rfl rfl ?_
  try dsimp only [Nat.reduceAdd]
  refine xS.ia rfl xar_90 (by omega) ?_
  try dsimp only [Nat.reduceAdd]
  rw [(hf d (Nat.le_refl d)).1]
  refine xS.s1 rfl rfl ?_
  try dsimp only [Nat.reduceAdd]
  refine xS.s1 rfl rfl ?_
  try dsimp only [Nat.reduceAdd]
  refine xS.s1 rfl rfl ?_
  try dsimp only [Nat.reduceAdd]
  refine xS.gR rfl rfl rfl ⟨by decide, rfl⟩ rfl ?_
  try dsimp only [Nat.reduceAdd]
  refine xS.s1 rfl rfl ?_
  try dsimp only [Nat.reduceAdd]
  -- 14 yX12_showsOf
  refine xS.cv rfl rfl rfl rfl rfl rfl ⟨by decide, rfl, rfl⟩ (c_X12_showsOf xar_90 hR hd hk hf) (fun v M1 hv => ?_)
  rw [hv.1, hv.2]
  clear hv M1 v
  try dsimp only [Nat.reduceAdd, Option.toList, List.cons_append, List.nil_append, List.drop]
  -- 17 yX12_termBy
  refine xS.cv rfl rfl rfl rfl rfl rfl ⟨by decide, rfl, rfl⟩ (c_X12_termBy hR) (fun v M1 hv => ?_)
  rw [hv.1, hv.2]
  clear hv M1 v
  try dsimp only [Nat.reduceAdd, Option.toList, List.cons_append, List.nil_append, List.drop]
  refine xS.s1 rfl rfl ?_
  try dsimp only [Nat.reduceAdd, xj_m9]
  refine xS.br (c := .eq) (off := 7) (l := 3) rfl rfl (fun h22 => ?_) (fun h22 => ?_)
  · have g22 := xt_eq h22
    refine xS.s1 rfl rfl ?_
    try dsimp only [Nat.reduceAdd, xi_0]
    refine xS.ret rfl rfl rfl (fun _ _ => rfl) ?_
    rw [xfb_n hR.2.1.2] at g22
    exact ⟨rfl, by simp [g22]⟩
  · have g22 := xf_eq h22
    refine xS.s1 rfl rfl ?_
    try dsimp only [Nat.reduceAdd, xi_1]
    refine xS.s1 rfl rfl ?_
    try dsimp only [Nat.reduceAdd]
    refine xS.ret rfl rfl rfl (fun _ _ => rfl) ?_
    rw [xfb_n hR.2.1.2] at g22
    exact ⟨rfl, by simp [g22]⟩

set_option maxRecDepth 10000 in
theorem c_X12_rowsOf (hn : n ≤ 6) : xT (k + 1) 207 [.int (nI n)] (xH b g l) (fun r M' => M' = xH b g l ∧ r = some (.int (nI (6 ^ n)))) := by
  refine xT.of rfl (Nat.le_of_ble_eq_true rfl) ?_
  change xS _ _ 0 [(0, .int (nI n))] [] _ _
  refine xS.s1 rfl rfl ?_
  try dsimp only [Nat.reduceAdd, xi_1]
  refine xS.s1 rfl rfl ?_
  try dsimp only [Nat.reduceAdd]
  refine xS.s1 rfl rfl ?_
  try dsimp only [Nat.reduceAdd, xi_0]
  refine xS.s1 rfl rfl ?_
  try dsimp only [Nat.reduceAdd]
  refine xS.pick [0, 1, 2] rfl ?_
  refine xS.loop (σ := Unit) (n) (fun j S => [(2, .int (nI j)), (1, .int (nI (6 ^ j))), (0, .int (nI n))]) (fun _ _ => xH b g l) (fun _ _ => True) (()) (rfl) (rfl) (trivial) ?_
  intro j S hj hI ih
  try dsimp only
  refine xS.s1 rfl rfl ?_
  try dsimp only [Nat.reduceAdd]
  refine xS.s1 rfl rfl ?_
  try dsimp only [Nat.reduceAdd]
  refine xS.br (c := .ge) (off := 14) (l := 3) rfl rfl (fun h6 => ?_) (fun h6 => ?_)
  · have g6 := xt_ge h6
    have e := xnle g6 (by omega) (by omega)
    have e2 : n = j := by omega
    subst e2
    refine xS.s1 rfl rfl ?_
    try dsimp only [Nat.reduceAdd]
    refine xS.ret rfl rfl rfl (fun _ _ => rfl) ?_
    exact ⟨rfl, rfl⟩
  · have g6 := xf_ge h6
    have hlt := xnlt g6 (by omega) (by omega)
    refine xS.s1 rfl rfl ?_
    try dsimp only [Nat.reduceAdd]
    refine xS.s1 rfl rfl ?_
    try dsimp only [Nat.reduceAdd, xj_6]
    refine xS.s1 rfl rfl ?_
    try dsimp only [Nat.reduceAdd]
    rw [show nI (6 ^ j) * 6 = nI (6 ^ (j + 1)) from pk_mul (6 ^ j) 6]
    refine xS.s1 rfl rfl ?_
    try dsimp only [Nat.reduceAdd]
    refine xS.s1 rfl rfl ?_
    try dsimp only [Nat.reduceAdd, xi_1]
    rw [nI_1]
    refine xS.s1 rfl rfl ?_
    try dsimp only [Nat.reduceAdd]
    refine xS.pick [0, 1, 2] rfl ?_
    exact ih () (by omega) trivial

set_option maxRecDepth 10000 in
theorem c_X12_layDoings (hn : n ≤ 6) (hc : c < 2 ^ 31) : xT (k + 1) 208 [.ref 73, .int (nI c), .int (nI n)] (xH b g l) (fun r M' => M' = xH b (glay g n c n) l ∧ r = none) := by
  refine xT.of rfl (Nat.le_of_ble_eq_true rfl) ?_
  change xS _ _ 0 [(0, .ref 73), (1, .int (nI c)), (2, .int (nI n))] [] _ _
  refine xS.s1 rfl rfl ?_
  try dsimp only [Nat.reduceAdd]
  refine xS.s1 rfl rfl ?_
  try dsimp only [Nat.reduceAdd]
  refine xS.s1 rfl rfl ?_
  try dsimp only [Nat.reduceAdd]
  refine xS.s1 rfl rfl ?_
  try dsimp only [Nat.reduceAdd, xi_1]
  refine xS.s1 rfl rfl ?_
  try dsimp only [Nat.reduceAdd]
  refine xS.s1 rfl rfl ?_
  try dsimp only [Nat.reduceAdd]
  refine xS.pick [0, 1, 2] rfl ?_
  refine xS.loop (σ := Unit) (n) (fun j S => [(4, .int (nI (n - j) - 1)), (3, .int (nI (c / 6 ^ j))), (0, .ref 73)]) (fun j _ => xH b (glay g n c j) l) (fun _ _ => True) (()) (by rw [Nat.pow_zero, Nat.div_one]; rfl) (by rw [glay_0]) (trivial) ?_
  intro j S hj hI ih
  try dsimp only
  refine xS.s1 rfl rfl ?_
  try dsimp only [Nat.reduceAdd]
  refine xS.br0 (c := .lt) (off := 25) (l := 3) rfl rfl (fun h9 => ?_) (fun h9 => ?_)
  · have g9 := xt_lt h9
    rw [xdown0 hj (by omega)] at g9
    subst g9
    refine xS.ret rfl rfl rfl (fun _ _ => rfl) ?_
    exact ⟨rfl, rfl⟩
  · have g9 := xf_lt h9
    have hlt : j < n := by
      have := (not_congr (xdown0 hj (by omega))).mp (Int32.not_lt.mpr g9)
      omega
    rw [xdown hlt]
    have hcj : c / 6 ^ j ≤ c := Nat.div_le_self _ _
    refine xS.s1 rfl rfl ?_
    try dsimp only [Nat.reduceAdd]
    refine xS.gR rfl rfl rfl ⟨by decide, rfl⟩ rfl ?_
    try dsimp only [Nat.reduceAdd]
    refine xS.s1 rfl rfl ?_
    try dsimp only [Nat.reduceAdd]
    refine xS.s1 rfl rfl ?_
    try dsimp only [Nat.reduceAdd]
    refine xS.s1 rfl rfl ?_
    try dsimp only [Nat.reduceAdd, xj_6]
    refine xS.s1 rfl rfl ?_
    try dsimp only [Nat.reduceAdd]
    rw [show nI (c / 6 ^ j) - nI (c / 6 ^ j) / 6 * 6 = nI (c / 6 ^ j % 6) from pk_rem (d := 6) (by omega) (by omega) (by omega)]
    refine xS.ias rfl xar_90 (by omega) ?_
    try dsimp only [Nat.reduceAdd]
    rw [glay_s hlt]
    refine xS.s1 rfl rfl ?_
    try dsimp only [Nat.reduceAdd]
    refine xS.s1 rfl rfl ?_
    try dsimp only [Nat.reduceAdd, xj_6]
    refine xS.s1 rfl rfl ?_
    try dsimp only [Nat.reduceAdd]
    rw [show nI (c / 6 ^ j) / 6 = nI (c / 6 ^ (j + 1)) from by rw [Nat.pow_succ, ← Nat.div_div_eq_div_mul]; exact pk_div (d := 6) (by omega) (by omega) (by omega)]
    refine xS.s1 rfl rfl ?_
    try dsimp only [Nat.reduceAdd]
    refine xS.s1 rfl rfl ?_
    try dsimp only [Nat.reduceAdd, xi_m1]
    refine xS.s1 rfl rfl ?_
    try dsimp only [Nat.reduceAdd]
    refine xS.pick [0, 1, 2] rfl ?_
    rw [xdec]
    exact ih () (by omega) trivial

set_option maxRecDepth 10000 in
theorem c_X12_shows (hR : xRr g h tx G T Lw) (hk : s < G) (hn : n ≤ 6) (hf : ∀ u, u < n → g 90 u = nI (f u) ∧ f u < 6) (hO : ∀ u, u < n → g 91 u = O u) : xT (k + 4) 209 [.ref 73, .int (nI s), .int (nI n)] (xH b g l) (fun r M' => M' = xH b g l ∧ r = some (.int (if xfst (fun i => !decide ((xshw h (Lw s / 4) (Lw s % 4) f i) = O i)) n = none then 1 else 0))) := by
  refine xT.of rfl (Nat.le_of_ble_eq_true rfl) ?_
  change xS _ _ 0 [(0, .ref 73), (1, .int (nI s)), (2, .int (nI n))] [] _ _
  refine xS.s1 rfl rfl ?_
  try dsimp only [Nat.reduceAdd, xi_1]
  refine xS.s1 rfl rfl ?_
  try dsimp only [Nat.reduceAdd]
  refine xS.s1 rfl rfl ?_
  try dsimp only [Nat.reduceAdd, xi_0]
  refine xS.s1 rfl rfl ?_
  try dsimp only [Nat.reduceAdd]
  refine xS.pick [0, 1, 2, 3, 4] rfl ?_
  refine xS.loop (σ := Unit) (n) (fun j S => [(4, .int (nI j)), (3, .int (if xfst (fun i => !decide ((xshw h (Lw s / 4) (Lw s % 4) f i) = O i)) j = none then 1 else 0)), (0, .ref 73), (1, .int (nI s)), (2, .int (nI n))]) (fun _ _ => xH b g l) (fun _ _ => True) (()) (rfl) (rfl) (trivial) ?_
  intro j S hj hI ih
  try dsimp only
  refine xS.s1 rfl rfl ?_
  try dsimp only [Nat.reduceAdd]
  refine xS.s1 rfl rfl ?_
  try dsimp only [Nat.reduceAdd]
  refine xS.br (c := .ge) (off := 40) (l := 3) rfl rfl (fun h8 => ?_) (fun h8 => ?_)
  · have g8 := xt_ge h8
    have e := xnle g8 (by omega) (by omega)
    have e2 : n = j := by omega
    subst e2
    refine xS.s1 rfl rfl ?_
    try dsimp only [Nat.reduceAdd]
    refine xS.retB rfl rfl ?_
    exact ⟨rfl, rfl⟩
  · have g8 := xf_ge h8
    have hlt := xnlt g8 (by omega) (by omega)
    refine xS.s1 rfl rfl ?_
    try dsimp only [Nat.reduceAdd]
    refine xS.br0 (c := .eq) (off := 36) (l := 3) rfl rfl (fun h12 => ?_) (fun h12 => ?_)
    · have g12 := xt_eq h12
      refine xS.s1 rfl rfl ?_
      try dsimp only [Nat.reduceAdd]
      refine xS.retB rfl rfl ?_
      have e12 := xif0 g12
      have e3 := xfst_up2 e12 hj
      rw [if_neg e12, if_neg e3]
      exact ⟨rfl, rfl⟩
    · have g12 := xf_eq h12
      refine xS.s1 rfl rfl ?_
      try dsimp only [Nat.reduceAdd]
      refine xS.s1 rfl rfl ?_
      try dsimp only [Nat.reduceAdd]
      refine xS.s1 rfl rfl ?_
      try dsimp only [Nat.reduceAdd]
      refine xS.gR rfl rfl rfl ⟨by decide, rfl⟩ rfl ?_
      try dsimp only [Nat.reduceAdd]
      refine xS.s1 rfl rfl ?_
      try dsimp only [Nat.reduceAdd]
      -- 23 yX12_showsOf
      refine xS.cv rfl rfl rfl rfl rfl rfl ⟨by decide, rfl, rfl⟩ (c_X12_showsOf xar_90 hR (by omega) hk (fun u hu => hf u (by omega))) (fun v M1 hv => ?_)
      rw [hv.1, hv.2]
      clear hv M1 v
      try dsimp only [Nat.reduceAdd, Option.toList, List.cons_append, List.nil_append, List.drop]
      refine xS.s1 rfl rfl ?_
      try dsimp only [Nat.reduceAdd]
      refine xS.gR rfl rfl rfl ⟨by decide, rfl⟩ rfl ?_
      try dsimp only [Nat.reduceAdd]
      refine xS.s1 rfl rfl ?_
      try dsimp only [Nat.reduceAdd]
      refine xS.ia rfl xar_91 (by omega) ?_
      try dsimp only [Nat.reduceAdd]
      rw [hO j hlt]
      refine xS.br (c := .ne) (off := 7) (l := 3) rfl rfl (fun h33 => ?_) (fun h33 => ?_)
      · have g33 := xt_ne h33
        refine xS.s1 rfl rfl ?_
        try dsimp only [Nat.reduceAdd, xi_0]
        refine xS.s1 rfl rfl ?_
        try dsimp only [Nat.reduceAdd]
        refine xS.s1 rfl rfl ?_
        try dsimp only [Nat.reduceAdd, xi_1]
        rw [nI_1]
        refine xS.s1 rfl rfl ?_
        try dsimp only [Nat.reduceAdd]
        refine xS.pick [0, 1, 2, 3, 4] rfl ?_
        have ih2 := ih () (by omega) trivial
        have e12 := xif1 g12
        rw [if_neg (by rw [xfst_c e12 (by simp [g33])]; exact fun z => by cases z)] at ih2
        exact ih2
      · have g33 := xf_ne h33
        refine xS.s1 rfl rfl ?_
        try dsimp only [Nat.reduceAdd, xi_1]
        refine xS.s1 rfl rfl ?_
        try dsimp only [Nat.reduceAdd]
        refine xS.s1 rfl rfl ?_
        try dsimp only [Nat.reduceAdd]
        refine xS.s1 rfl rfl ?_
        try dsimp only [Nat.reduceAdd, xi_1]
        rw [nI_1]
        refine xS.s1 rfl rfl ?_
        try dsimp only [Nat.reduceAdd]
        refine xS.pick [0, 1, 2, 3, 4] rfl ?_
        have ih2 := ih () (by omega) trivial
        have e12 := xif1 g12
        rw [if_pos (xfst_n e12 (by simp [g33]))] at ih2
        exact ih2

set_option maxRecDepth 10000 in
theorem c_X12_breaksNone (hR : xRr g h tx G T Lw) (hk : s < G) (hn : n ≤ 6) (hf : ∀ u, u < n → g 90 u = nI (f u) ∧ f u < 6) : xT (k + 5) 218 [.ref 73, .int (nI s), .int (nI n)] (xH b g l) (fun r M' => M' = xH b g l ∧ r = some (.int (if xfst (fun i => !decide (xfb tx T (nI (f i)) (xshw h (Lw s / 4) (Lw s % 4) f i) = none)) n = none then 1 else 0))) := by
  refine xT.of rfl (Nat.le_of_ble_eq_true rfl) ?_
  change xS _ _ 0 [(0, .ref 73), (1, .int (nI s)), (2, .int (nI n))] [] _ _
  refine xS.s1 rfl rfl ?_
  try dsimp only [Nat.reduceAdd, xi_1]
  refine xS.s1 rfl rfl ?_
  try dsimp only [Nat.reduceAdd]
  refine xS.s1 rfl rfl ?_
  try dsimp only [Nat.reduceAdd, xi_0]
  refine xS.s1 rfl rfl ?_
  try dsimp only [Nat.reduceAdd]
  refine xS.pick [0, 1, 2, 3, 4] rfl ?_
  refine xS.loop (σ := Unit) (n) (fun j S => [(4, .int (nI j)), (3, .int (if xfst (fun i => !decide (xfb tx T (nI (f i)) (xshw h (Lw s / 4) (Lw s % 4) f i) = none)) j = none then 1 else 0)), (0, .ref 73), (1, .int (nI s)), (2, .int (nI n))]) (fun _ _ => xH b g l) (fun _ _ => True) (()) (rfl) (rfl) (trivial) ?_
  intro j S hj hI ih
  try dsimp only
  refine xS.s1 rfl rfl ?_
  try dsimp only [Nat.reduceAdd]
  refine xS.s1 rfl rfl ?_
  try dsimp only [Nat.reduceAdd]
  refine xS.br (c := .ge) (off := 29) (l := 3) rfl rfl (fun h8 => ?_) (fun h8 => ?_)
  · have g8 := xt_ge h8
    have e := xnle g8 (by omega) (by omega)
    have e2 : n = j := by omega
    subst e2
    refine xS.s1 rfl rfl ?_
    try dsimp only [Nat.reduceAdd]
    refine xS.retB rfl rfl ?_
    exact ⟨rfl, rfl⟩
  · have g8 := xf_ge h8
    have hlt := xnlt g8 (by omega) (by omega)
    refine xS.s1 rfl rfl ?_
    try dsimp only [Nat.reduceAdd]
    refine xS.br0 (c := .eq) (off := 25) (l := 3) rfl rfl (fun h12 => ?_) (fun h12 => ?_)
    · have g12 := xt_eq h12
      refine xS.s1 rfl rfl ?_
      try dsimp only [Nat.reduceAdd]
      refine xS.retB rfl rfl ?_
      have e12 := xif0 g12
      have e3 := xfst_up2 e12 hj
      rw [if_neg e12, if_neg e3]
      exact ⟨rfl, rfl⟩
    · have g12 := xf_eq h12
      refine xS.s1 rfl rfl ?_
      try dsimp only [Nat.reduceAdd]
      refine xS.s1 rfl rfl ?_
      try dsimp only [Nat.reduceAdd]
      refine xS.s1 rfl rfl ?_
      try dsimp only [Nat.reduceAdd]
      -- 19 yX12_breaksAt
      refine xS.cv rfl rfl rfl rfl rfl rfl ⟨by decide, rfl, rfl⟩ (c_X12_breaksAt hR hk (by omega) (fun u hu => hf u (by omega))) (fun v M1 hv => ?_)
      rw [hv.1, hv.2]
      clear hv M1 v
      try dsimp only [Nat.reduceAdd, Option.toList, List.cons_append, List.nil_append, List.drop]
      refine xS.br0 (c := .ne) (off := 7) (l := 3) rfl rfl (fun h22 => ?_) (fun h22 => ?_)
      · have g22 := xt_ne h22
        refine xS.s1 rfl rfl ?_
        try dsimp only [Nat.reduceAdd, xi_0]
        refine xS.s1 rfl rfl ?_
        try dsimp only [Nat.reduceAdd]
        refine xS.s1 rfl rfl ?_
        try dsimp only [Nat.reduceAdd, xi_1]
        rw [nI_1]
        refine xS.s1 rfl rfl ?_
        try dsimp only [Nat.reduceAdd]
        refine xS.pick [0, 1, 2, 3, 4] rfl ?_
        have ih2 := ih () (by omega) trivial
        have e12 := xif1 g12
        rw [if_neg (by rw [xfst_c e12 (by simp [xif1n g22])]; exact fun z => by cases z)] at ih2
        exact ih2
      · have g22 := xf_ne h22
        refine xS.s1 rfl rfl ?_
        try dsimp only [Nat.reduceAdd, xi_1]
        refine xS.s1 rfl rfl ?_
        try dsimp only [Nat.reduceAdd]
        refine xS.s1 rfl rfl ?_
        try dsimp only [Nat.reduceAdd]
        refine xS.s1 rfl rfl ?_
        try dsimp only [Nat.reduceAdd, xi_1]
        rw [nI_1]
        refine xS.s1 rfl rfl ?_
        try dsimp only [Nat.reduceAdd]
        refine xS.pick [0, 1, 2, 3, 4] rfl ?_
        have ih2 := ih () (by omega) trivial
        have e12 := xif1 g12
        rw [if_pos (xfst_n e12 (by simp [xif0n g22]))] at ih2
        exact ih2

end
