/-! LimpMirror.leastPick -/
theorem xshw_congr {h : Nat → Int32} {κ δ i : Nat} {f f' : Nat → Nat} (hf : ∀ s, s ≤ i → f s = f' s) : xshw h κ δ f i = xshw h κ δ f' i := by
  unfold xshw
  cases e : xsrc κ δ i with
  | none => rfl
  | some s =>
    show xseen h κ i (f s) = xseen h κ i (f' s)
    rw [hf s (xsrc_le e)]
def fup (F : Nat → Nat) (t s : Nat) : Nat → Nat := fun i => if i = t then s else F i
/-- a step at place t of F breaks no term before any of G glasses -/
def xsafe (h tx : Nat → Int32) (T G : Nat) (Lw : Nat → Nat) (F : Nat → Nat) (t : Nat) : Bool := decide (xfst (fun k => !decide (xfb tx T (nI (F t)) (xshw h (Lw k / 4) (Lw k % 4) F t) = none)) G = none)
def xlp (safe : (Nat → Nat) → Nat → Bool) (n u : Nat) : Nat → (Nat → Nat) → Option Nat := Nat.rec (motive := fun _ => Nat → (Nat → Nat) → Option Nat) (fun _ _ => none) (fun _ ih t F => xfst (fun s => safe (fup F t s) t && (decide (n ≤ t + 1) || (ih (t + 1) (fup F t s)).isSome)) 6) u

section
variable {k a c n n2 m t p s d i1 j1 : Nat} {b : Nat × Nat} {g : Nat → Nat → Int32} {l : Nat → Nat → Int64} {i j x y z v w : Int32} {u w1 w2 : Int64}
variable {L G T u1 : Nat} {Lw F : Nat → Nat}
theorem xlp_b {safe : (Nat → Nat) → Nat → Bool} {n u t : Nat} {F : Nat → Nat} : ∀ d, xlp safe n u t F = some d → d < 2 ^ 31 := by
  intro d h
  cases u with
  | zero => cases h
  | succ u =>
    have h : xfst (fun s => safe (fup F t s) t && (decide (n ≤ t + 1) || (xlp safe n u (t + 1) (fup F t s)).isSome)) 6 = some d := h
    have := (xfst_lt h).1
    omega
set_option maxRecDepth 10000 in
theorem c_X11_leastPick_u : ∀ (u : Nat) {g : Nat → Nat → Int32} {t : Nat} {F : Nat → Nat} (hb : xro b.1) (hR : xRm g b.1 G T Lw) (hp : xpn g) (hbv : b.1 = 7 ∨ b.1 = 11) (hs : g 15 1 = nI n) (hn : n ≤ 3) (htn : t < n) (htu : t + u = 3) (hx : ∀ i, i < t → g 16 i = nI (F i) ∧ F i < 6), xT (k + u + 6) 145 [.ref 0, .int (nI t), .int (nI n)] (xH b g l) (fun r M' => ∃ g', M' = xH b g' l ∧ (∀ a, a ≠ 16 → g' a = g a) ∧ (∀ i, i < t → g' 16 i = g 16 i) ∧ r = some (.int (xfI (xlp (xsafe (g (b.1 + 1)) (g (b.1 + 3)) T G Lw) n u t F)))) := by
  intro u
  induction u with
  | zero => intro g t F hb hR hp hbv hs hn htn htu; omega
  | succ u1 ihu =>
    intro g t F hb hR hp hbv hs hn htn htu hx
    refine xT.of rfl (Nat.le_of_ble_eq_true rfl) ?_
    try dsimp only [lv_args]
    refine xS.s1 rfl rfl ?_
    try dsimp only [Nat.reduceAdd]
    refine xS.s1 rfl rfl ?_
    try dsimp only [Nat.reduceAdd, xi_3]
    refine xS.br (c := .lt) (off := 6) (l := 3) rfl rfl (fun h2 => ?_) (fun h2 => ?_)
    · have g2 := xt_lt h2
      refine xS.s1 rfl rfl ?_
      try dsimp only [Nat.reduceAdd, xi_0]
      refine xS.s1 rfl rfl ?_
      try dsimp only [Nat.reduceAdd]
      refine xS.pick [0, 1, 2, 3] rfl ?_
      refine xS.loop (σ := Nat → Nat → Int32) (6) (fun j S => [(3, .int (nI j)), (0, .ref 0), (1, .int (nI t)), (2, .int (nI n))]) (fun _ S => xH b S l) (fun j S => (∀ a, a ≠ 16 → S a = g a) ∧ (∀ i, i < t → S 16 i = g 16 i) ∧ xfst (fun s => (xsafe (g (b.1 + 1)) (g (b.1 + 3)) T G Lw) (fup F t s) t && (decide (n ≤ t + 1) || (xlp (xsafe (g (b.1 + 1)) (g (b.1 + 3)) T G Lw) n u1 (t + 1) (fup F t s)).isSome)) j = none) (g) (rfl) (rfl) (⟨fun _ _ => rfl, fun _ _ => rfl, rfl⟩) ?_
      intro j S hj hI ih
      obtain ⟨i1, i2, i3⟩ := hI
      try dsimp only
      refine xS.s1 rfl rfl ?_
      try dsimp only [Nat.reduceAdd]
      refine xS.s1 rfl rfl ?_
      try dsimp only [Nat.reduceAdd, xj_6]
      refine xS.br (c := .ge) (off := 48) (l := 3) rfl rfl (fun h13 => ?_) (fun h13 => ?_)
      · have g13 := xt_ge h13
        refine xS.s1 rfl rfl ?_
        try dsimp only [Nat.reduceAdd, xj_m9]
        refine xS.ret rfl rfl rfl (fun _ _ => rfl) ?_
        have e := xnle (b := 6) g13 (by omega) (by omega)
        refine ⟨S, rfl, i1, i2, ?_⟩
        rw [show xlp (xsafe (g (b.1 + 1)) (g (b.1 + 3)) T G Lw) n (u1 + 1) t F = xfst (fun s => (xsafe (g (b.1 + 1)) (g (b.1 + 3)) T G Lw) (fup F t s) t && (decide (n ≤ t + 1) || (xlp (xsafe (g (b.1 + 1)) (g (b.1 + 3)) T G Lw) n u1 (t + 1) (fup F t s)).isSome)) 6 from rfl, show 6 = j by omega, i3]
        rfl
      · have g13 := xf_ge h13
        have hlt := xnlt (b := 6) g13 (by omega) (by omega)
        refine xS.s1 rfl rfl ?_
        try dsimp only [Nat.reduceAdd]
        refine xS.gR rfl rfl rfl ⟨by decide, rfl⟩ rfl ?_
        try dsimp only [Nat.reduceAdd]
        refine xS.s1 rfl rfl ?_
        try dsimp only [Nat.reduceAdd]
        refine xS.s1 rfl rfl ?_
        try dsimp only [Nat.reduceAdd]
        -- 22 yX0_set
        refine xS.cv rfl rfl rfl (xce_trial.1 _) rfl rfl ⟨by decide, rfl, rfl⟩ (c_X0_set xce_trial (show S 15 1 = nI n by rw [i1 15 (by decide)]; exact hs) (by omega) htn) (fun v M1 hv => ?_)
        rw [hv.1, hv.2]
        clear hv M1 v
        rw [show 15 + 1 = 16 from rfl]
        have hR1 : xRm (up S 16 t (nI j)) b.1 G T Lw := xRm_fr (fun i _ _ => by rw [up_na (by omega), i1 i (by omega)]) hR
        have hp1 : xpn (up S 16 t (nI j)) := xpn_fr (fun i _ _ => by rw [up_na (by omega), i1 i (by omega)]) hp
        have hs1 : up S 16 t (nI j) 15 1 = nI n := by rw [up_na (by decide), i1 15 (by decide)]; exact hs
        have h16 : ∀ i, i ≤ t → up S 16 t (nI j) 16 i = nI (fup F t j i) ∧ fup F t j i < 6 := fun i hi => by
          unfold fup
          by_cases e : i = t
          · subst e
            rw [up_same, if_pos rfl]
            exact ⟨rfl, hlt⟩
          · rw [up_ne (Or.inr e), if_neg e, i2 i (by omega)]
            exact hx i (by omega)
        have e1 : up S 16 t (nI j) (b.1 + 1) = g (b.1 + 1) := by rw [up_na (by omega), i1 _ (by omega)]
        have e3 : up S 16 t (nI j) (b.1 + 3) = g (b.1 + 3) := by rw [up_na (by omega), i1 _ (by omega)]
        have esf : (if xfst (fun k => !decide (xfb (up S 16 t (nI j) (b.1 + 3)) T (up S 16 t (nI j) 16 t) (xshw (up S 16 t (nI j) (b.1 + 1)) (Lw k / 4) (Lw k % 4) (fun i => xN (up S 16 t (nI j) 16 i)) t) = none)) G = none then (1 : Int32) else 0) = if (xsafe (g (b.1 + 1)) (g (b.1 + 3)) T G Lw) (fup F t j) t = true then 1 else 0 := by
          unfold xsafe
          rw [e1, e3, (h16 t (Nat.le_refl t)).1]
          have ef : (fun k => !decide (xfb (g (b.1 + 3)) T (nI (fup F t j t)) (xshw (g (b.1 + 1)) (Lw k / 4) (Lw k % 4) (fun i => xN (up S 16 t (nI j) 16 i)) t) = none)) = fun k => !decide (xfb (g (b.1 + 3)) T (nI (fup F t j t)) (xshw (g (b.1 + 1)) (Lw k / 4) (Lw k % 4) (fup F t j) t) = none) := by
            funext k
            rw [xshw_congr (f' := fup F t j) (fun s hs => by rw [(h16 s hs).1, xN_nI (by have := (h16 s hs).2; omega)])]
          rw [ef]
          simp only [decide_eq_true_eq]
        have fr1 : ∀ a, a ≠ 16 → up S 16 t (nI j) a = g a := fun a ha => by rw [up_na ha, i1 a ha]
        have fr2 : ∀ i, i < t → up S 16 t (nI j) 16 i = g 16 i := fun i hi => by rw [up_ne (Or.inr (by omega)), i2 i hi]
        try dsimp only [Nat.reduceAdd, Option.toList, List.cons_append, List.nil_append, List.drop]
        refine xS.s1 rfl rfl ?_
        try dsimp only [Nat.reduceAdd]
        refine xS.s1 rfl rfl ?_
        try dsimp only [Nat.reduceAdd]
        -- 27 yX11_isSafeBeforeAll
        refine xS.cv rfl rfl rfl rfl rfl rfl ⟨by decide, rfl, rfl⟩ (c_X11_isSafeBeforeAll hb hR1 hp1 hs1 (by omega) (fun i hi => ⟨_, (h16 i hi).2, (h16 i hi).1⟩) htn) (fun v M1 hv => ?_)
        rw [hv.1, hv.2, esf]
        clear hv M1 v
        try dsimp only [Nat.reduceAdd, Option.toList, List.cons_append, List.nil_append, List.drop]
        refine xS.br0 (c := .eq) (off := 25) (l := 3) rfl rfl (fun h30 => ?_) (fun h30 => ?_)
        · have g30 := xt_eq h30
          refine xS.s1 rfl rfl ?_
          try dsimp only [Nat.reduceAdd, xi_1]
          rw [nI_1]
          refine xS.s1 rfl rfl ?_
          try dsimp only [Nat.reduceAdd]
          refine xS.pick [0, 1, 2, 3] rfl ?_
          exact ih _ (by omega) ⟨fr1, fr2, xfst_n i3 (by simp [xif0 g30])⟩
        · have g30 := xf_eq h30
          refine xS.s1 rfl rfl ?_
          try dsimp only [Nat.reduceAdd]
          refine xS.s1 rfl rfl ?_
          try dsimp only [Nat.reduceAdd, xi_1]
          refine xS.s1 rfl rfl ?_
          try dsimp only [Nat.reduceAdd]
          rw [nI_1]
          refine xS.s1 rfl rfl ?_
          try dsimp only [Nat.reduceAdd]
          refine xS.br (c := .ge) (off := 16) (l := 3) rfl rfl (fun h37 => ?_) (fun h37 => ?_)
          · have g37 := xt_ge h37
            refine xS.s1 rfl rfl ?_
            try dsimp only [Nat.reduceAdd]
            refine xS.ret rfl rfl rfl (fun _ _ => rfl) ?_
            refine ⟨_, rfl, fr1, fr2, ?_⟩
            rw [show xlp (xsafe (g (b.1 + 1)) (g (b.1 + 3)) T G Lw) n (u1 + 1) t F = xfst (fun s => (xsafe (g (b.1 + 1)) (g (b.1 + 3)) T G Lw) (fup F t s) t && (decide (n ≤ t + 1) || (xlp (xsafe (g (b.1 + 1)) (g (b.1 + 3)) T G Lw) n u1 (t + 1) (fup F t s)).isSome)) 6 from rfl, xfst_at i3 (by have h37 := (nI_leI (a := n) (b := t + 1) (by omega) (by omega)).mp g37; simp [xif1 g30, h37]) hlt]
            rfl
          · have g37 := xf_ge h37
            have h37 := xnlt g37 (by omega) (by omega)
            refine xS.s1 rfl rfl ?_
            try dsimp only [Nat.reduceAdd]
            refine xS.s1 rfl rfl ?_
            try dsimp only [Nat.reduceAdd]
            refine xS.s1 rfl rfl ?_
            try dsimp only [Nat.reduceAdd, xi_1]
            refine xS.s1 rfl rfl ?_
            try dsimp only [Nat.reduceAdd]
            rw [nI_1]
            refine xS.s1 rfl rfl ?_
            try dsimp only [Nat.reduceAdd]
            -- 45 yX11_leastPick
            refine xS.cv rfl rfl rfl rfl rfl rfl ⟨by decide, rfl, rfl⟩ (ihu (F := fup F t j) hb hR1 hp1 hbv hs1 hn (by omega) (by omega) (fun i hi => h16 i (by omega))) (fun v M1 hv => ?_)
            obtain ⟨g2, hM2, f1, f2, hv2⟩ := hv
            rw [hM2, hv2, e1, e3]
            clear hM2 hv2 M1 v
            try dsimp only [Nat.reduceAdd, Option.toList, List.cons_append, List.nil_append, List.drop]
            refine xS.s1 rfl rfl ?_
            try dsimp only [Nat.reduceAdd, xj_m9]
            refine xS.br (c := .eq) (off := 5) (l := 3) rfl rfl (fun h50 => ?_) (fun h50 => ?_)
            · have g50 := xt_eq h50
              refine xS.s1 rfl rfl ?_
              try dsimp only [Nat.reduceAdd, xi_1]
              rw [nI_1]
              refine xS.s1 rfl rfl ?_
              try dsimp only [Nat.reduceAdd]
              refine xS.pick [0, 1, 2, 3] rfl ?_
              have h50 := (xfI_none xlp_b).mp g50
              exact ih g2 (by omega) ⟨fun a ha => by rw [f1 a ha, fr1 a ha], fun i hi => by rw [f2 i (by omega), fr2 i hi], xfst_n i3 (by simp [h50, Nat.not_le.mpr h37])⟩
            · have g50 := xf_eq h50
              refine xS.s1 rfl rfl ?_
              try dsimp only [Nat.reduceAdd]
              refine xS.ret rfl rfl rfl (fun _ _ => rfl) ?_
              refine ⟨g2, rfl, fun a ha => by rw [f1 a ha, fr1 a ha], fun i hi => by rw [f2 i (by omega), fr2 i hi], ?_⟩
              rw [show xlp (xsafe (g (b.1 + 1)) (g (b.1 + 3)) T G Lw) n (u1 + 1) t F = xfst (fun s => (xsafe (g (b.1 + 1)) (g (b.1 + 3)) T G Lw) (fup F t s) t && (decide (n ≤ t + 1) || (xlp (xsafe (g (b.1 + 1)) (g (b.1 + 3)) T G Lw) n u1 (t + 1) (fup F t s)).isSome)) 6 from rfl, xfst_at i3 ?_ hlt]
              · rfl
              · have h50 := (not_congr (xfI_none xlp_b)).mp g50
                simp [xif1 g30, Option.isSome_iff_ne_none, h50]
    · have g2 := xf_lt h2
      exfalso; have := (nI_leI (a := 3) (b := t) (by omega) (by omega)).mp g2; omega

theorem c_X11_leastPick (hb : xro b.1) (hR : xRm g b.1 G T Lw) (hp : xpn g) (hbv : b.1 = 7 ∨ b.1 = 11) (hs : g 15 1 = nI n) (hn : n ≤ 3) (hn0 : 0 < n) : xT (k + 9) 145 [.ref 0, .int (nI 0), .int (nI n)] (xH b g l) (fun r M' => ∃ g', M' = xH b g' l ∧ (∀ a, a ≠ 16 → g' a = g a) ∧ r = some (.int (xfI (xlp (xsafe (g (b.1 + 1)) (g (b.1 + 3)) T G Lw) n 3 0 (fun _ => 0))))) :=
  (c_X11_leastPick_u 3 (t := 0) (F := fun _ => 0) hb hR hp hbv hs hn hn0 rfl (fun i h => absurd h (by omega))).weak (fun r M' h => by
    obtain ⟨g', h1, h2, _, h3⟩ := h
    exact ⟨g', h1, h2, h3⟩)
end
