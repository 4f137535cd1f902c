/-! every method keeps what the pure machine says; the law over the pure machine -/
theorem xe_rt1 {t : Option FieldType} (h : xe_rt t = 1) : t = some .int := by
  unfold xe_rt at h
  split at h <;> first | rfl | cases h
theorem xe_rt2 {t : Option FieldType} (h : xe_rt t = 2) : t = some .boolean := by
  unfold xe_rt at h
  split at h <;> first | rfl | cases h
theorem xe_rt3 {t : Option FieldType} (h : xe_rt t = 3) : t = some .long := by
  unfold xe_rt at h
  split at h <;> first | rfl | cases h
theorem xe_rt0 {t : Option FieldType} (h : xe_rt t = 0) : t = none := by
  unfold xe_rt at h
  split at h <;> first | rfl | cases h
theorem xe_rt4 {t : Option FieldType} (h : xe_rt t = 4) : ∃ u, t = some u ∧ ((∃ n, u = .object n) ∨ ∃ v, u = .array v) := by
  unfold xe_rt at h
  split at h
  · cases h
  · cases h
  · cases h
  · cases h
  · exact ⟨_, rfl, Or.inl ⟨_, rfl⟩⟩
  · exact ⟨_, rfl, Or.inr ⟨_, rfl⟩⟩
  · cases h
section
variable {l : Launch} {b : Nat → Nat} {B : Nat} {xs : Nat → Int32} {D : va_G} {aC : Nat → ClassId} {iv : List (Int32 × Int32)} {call0 call : Nat → List Value → xM → Option xO} {d : Nat}
set_option maxHeartbeats 4000000 in
theorem xe_meth (hi : xe_in iv xs) (hclen0 : ∀ mn as M o, call0 mn as M = some o → o.2.1.length = M.length + o.2.2.1) (hclen : ∀ mn as M o, call mn as M = some o → o.2.1.length = M.length + o.2.2.1)
    (hcall0 : ∀ mn as M o, call0 mn as M = some o → ∀ q, xm mn = some q → Met l q.2.1 (Cond.code q.2.1 q.2.2.1 q.1.2.2.1 q.2.2.2.1 :: xWS) (xe_rm d o.2.2.1 o.2.2.2) (xe_Pc D aC b B xs as M) (xe_Qc D aC b B xs o.1 o.2.1) o.2.2.1 o.2.2.2 (xe_A B))
    (hcall : ∀ mn as M o, call mn as M = some o → ∀ q, xm mn = some q → Met l q.2.1 (Cond.code q.2.1 q.2.2.1 q.1.2.2.1 q.2.2.2.1 :: xWS) (xe_rm d o.2.2.1 o.2.2.2) (xe_Pc D aC b B xs as M) (xe_Qc D aC b B xs o.1 o.2.1) o.2.2.1 o.2.2.2 (xe_A B))
    {mn : Nat} {as : List Value} {M : xM} {o : xO} {q : xME} (hq : xm mn = some q) (hle : xe_cats as ≤ q.1.2.2.1) {f : Nat} (h : xe_run iv none none call0 call q.1.1 q.1.2.1 q.1.2.2.1 q.1.2.2.2.1 q.1.2.2.2.2 f 0 (lv_args 0 as) [] M = some o) :
    Met l q.2.1 (Cond.code q.2.1 q.2.2.1 q.1.2.2.1 q.2.2.2.1 :: xWS) (xe_rm (d + 1) o.2.2.1 o.2.2.2) (xe_Pc D aC b B xs as M) (xe_Qc D aC b B xs o.1 o.2.1) o.2.2.1 o.2.2.2 (xe_A B) := by
  obtain ⟨g1, g2, g3, g4, g5, g6, g7, g8, g9⟩ := xm_ok hq
  obtain ⟨rF, MF, c1, s1⟩ := o
  refine Met.ofW (cc := q.2.2.1) (maxL := q.1.2.2.1) (ret := q.2.2.2.1) g4.1 rfl ?_
  intro p e s m args below meth c s₁ Bd hml hv
  obtain ⟨rfl, hsz, hP, hK⟩ := hv
  have hx := Bd.exec
  have hb := Bd.bytes
  have hr := Bd.returns
  have hts0 := atoms_spec (ws := Cond.code q.2.1 q.2.2.1 q.1.2.2.1 q.2.2.2.1 :: xWS) Bd.pre
  have hts : ∀ w ∈ xWS, w.before (as.map (xe_cv b B xs)).toArray s = true := fun w hw => hts0 w (List.mem_cons_of_mem _ hw)
  have hown : s.vm.findClass q.2.1.cls = some m.cls := findClass_of_methodNamed Bd.named
  rw [g5] at hown
  have hlocks := Bd.notSynchronized
  have hnm : q.1.2.2.2.2 = true → meth.name = "<init>" := fun z => ((name_of_methodNamed Bd.named Bd.method).1).trans (g6 z)
  have hl := lv_entry (as.map (xe_cv b B xs)) (n := q.1.2.2.1) (by rw [xe_slen, ← xe_cats_eq]; exact hle)
  rw [xe_args] at hl
  rw [lg_entry_eq]
  refine xe_run_ok (d := d) (mc := c1) (ms := s1) (R := (headSpec (Cond.code q.2.1 q.2.2.1 q.1.2.2.1 q.2.2.2.1 :: xWS) (xe_rm (d + 1) c1 s1)).room) (a6 := none) (sc := none) hx hb hml hown hts hK (by omega) (Nat.le_refl (d + 1)) (Nat.le_refl (64 * (d + 1))) (Nat.le_refl c1) (Nat.le_refl s1) hi (fun _ z => by cases z) g1 hnm (fun _ z => by cases z) hclen0 hclen hcall0 hcall ?_ f 0 _ [] M c1 s1 h s.heap [] 0 0 _ hl va_S.rf hP (by omega) (by omega) (by omega)
  intro i pc ls H locs hret hd hS hP2
  unfold xe_isret at hret
  split at hret
  · rename_i v
    rw [Bool.and_eq_true] at hret
    obtain ⟨x, ex⟩ := xe_isI_ok (b := b) (B := B) (xs := xs) hret.1
    have hq2 : ∀ t : State, t.heap = H → s.WarmedH t.vm → xe_Qc D aC b B xs (some v) MF (as.map (xe_cv b B xs)).toArray s (.returned (some (.int x))) t := fun t ht _ => ⟨⟨by rw [← ex]; rfl, by rw [ht]; exact hP2⟩, hS.F ht⟩
    have eg : ((some v).map (xe_cv b B xs)).toList = [.int x] := by rw [← ex]; rfl
    rw [eg]
    by_cases hone : q.1.2.2.2.1 = 1
    · rw [hone] at g7
      exact W.iret hx hb (hr.trans (xe_rt1 g7)) hq2 hS.2.2 hd
    · have h2 := hret.2
      simp only [Bool.or_eq_true, Bool.and_eq_true, beq_iff_eq, decide_eq_true_eq, hone, false_or] at h2
      rw [h2.1] at g7
      have hn : narrow .boolean (.int x) = .int x := by
        rcases h2.2 with rfl | rfl
        · cases ex; rfl
        · cases ex; rfl
      exact W.zret hx hb (hr.trans (xe_rt2 g7)) hn hq2 hS.2.2 hd
  · rename_i v
    rw [Bool.and_eq_true] at hret
    obtain ⟨x, ex⟩ := xe_isL_ok (b := b) (B := B) (xs := xs) hret.1
    have hq2 : ∀ t : State, t.heap = H → s.WarmedH t.vm → xe_Qc D aC b B xs (some v) MF (as.map (xe_cv b B xs)).toArray s (.returned (some (.long x))) t := fun t ht _ => ⟨⟨by rw [← ex]; rfl, by rw [ht]; exact hP2⟩, hS.F ht⟩
    have eg : ((some v).map (xe_cv b B xs)).toList = [.long x] := by rw [← ex]; rfl
    rw [eg]
    have h2 : q.1.2.2.2.1 = 3 := by simpa using hret.2
    rw [h2] at g7
    exact W.lret hx hb (hr.trans (xe_rt3 g7)) hq2 hS.2.2 hd
  · rename_i a
    have h2 : q.1.2.2.2.1 = 4 := by simpa using hret
    rw [h2] at g7
    obtain ⟨u, eu, hu⟩ := xe_rt4 g7
    exact W.aret (v := .ref (B + a)) hx hb (hr.trans eu) hu (Or.inr ⟨_, rfl⟩) (fun t ht _ => ⟨⟨rfl, by rw [ht]; exact hP2⟩, hS.F ht⟩) hS.2.2 hd
  · have h2 : q.1.2.2.2.1 = 0 := by simpa using hret
    rw [h2] at g7
    exact W.vret hx hb (hr.trans (xe_rt0 g7)) (fun t ht _ => ⟨⟨rfl, by rw [ht]; exact hP2⟩, hS.F ht⟩) hS.2.2 hd
  · cases hret
theorem xe_ex_ok : ∀ (f d mn : Nat) (as : List Value) (M : xM) (o : xO), xe_ex f d mn as M = some o → ∀ q, xm mn = some q → Met l q.2.1 (Cond.code q.2.1 q.2.2.1 q.1.2.2.1 q.2.2.2.1 :: xWS) (xe_rm d o.2.2.1 o.2.2.2) (xe_Pc D aC b B xs as M) (xe_Qc D aC b B xs o.1 o.2.1) o.2.2.1 o.2.2.2 (xe_A B) := by
  intro f d
  induction d with
  | zero =>
    intro mn as M o h
    cases h
  | succ d ih =>
    intro mn as M o h q hq
    have h : (match xmF mn with
      | none => none
      | some q => if xe_cats as ≤ q.1.2.2.1 then xe_run [] none none (xe_ex f d) (xe_ex f d) q.1.1 q.1.2.1 q.1.2.2.1 q.1.2.2.2.1 q.1.2.2.2.2 f 0 (lv_args 0 as) [] M else none) = some o := h
    rw [xmF_eq, hq] at h
    dsimp only at h
    split at h
    · rename_i hle
      exact xe_meth (fun j z hz => by simp at hz) (xe_ex_len f d) (xe_ex_len f d) ih ih hq hle h
    · cases h
end
theorem xe_known {bs : Nat} {s : State} (hts : ∀ w ∈ lw_tbl, w.before #[Value.ref bs] s = true) (hgv : (Jvm.Cond.and given_1 narrow_1).before #[Value.ref bs] s = true) : ∃ (D : va_G) (aC : Nat → ClassId) (b : Nat → Nat), b 0 = bs ∧ xe_K D aC b s.heap.size s := by
  have hts' : ∀ w ∈ xWS, w.before #[Value.ref bs] s = true := fun w hw => hts w (List.mem_filter.mp hw).1
  have h0 : ∀ ci : Nat, ∃ x : ClassId × (Nat → Nat), ∀ q, vwCl[ci]? = some q → u_Kn s q.1 q.2.1 q.2.2 x.1 x.2 := by
    intro ci
    cases hq : vwCl[ci]? with
    | none => exact ⟨(0, fun _ => 0), fun q h => by cases h⟩
    | some q =>
      obtain ⟨C, T, N⟩ := q
      obtain ⟨cC, iS, h⟩ := u_known hts' (xcl_ok ci C T N hq).1 (hts' _ (xin_ok ci C T N hq))
      exact ⟨(cC, iS), fun q h1 => by cases h1; exact h⟩
  obtain ⟨cI, kI, compI, i1, i2, i3⟩ := Cond.arrayClass_spec (hts' _ xai)
  have hcell : va_AO RX0 s := va_AO.of (hts _ xao_Cells)
  have hdeed : va_AO RX2 s := va_AO.of (hts _ xao_Deeds)
  have hpane : va_AO RX7 s := va_AO.of (hts _ xao_Pane)
  have arr : ∀ C, va_AO C s → ∃ cA, ArrOfT s cA (.object C) ∧ va_RA s cA (.object C) := by
    intro C h
    obtain ⟨comp, cA, kA, f1, f2, f3, f4, f5⟩ := Cond.arrayOver_spec h
    exact ⟨cA, fun N z => ⟨(fun k h => by cases h), kA, f3, comp, f4⟩, kA, comp, f3, f4, f1, f5⟩
  obtain ⟨c1, a1, r1⟩ := arr _ hcell
  obtain ⟨c2, a2, r2⟩ := arr _ hdeed
  obtain ⟨c3, a3, r3⟩ := arr _ hpane
  have hs := flat_of_before _ hgv
  have hout : ∀ a : Nat, a < s.heap.size → ¬ xe_A s.heap.size a := fun a h z => absurd h (Nat.not_lt.mpr z)
  have hlen := va_eqt (hs (Cond.eq (.length (.static "LimpMirror" "KIND_LETTERS" "[I")) (.int 6)) (by decide +kernel))
  obtain ⟨t, ht, hT⟩ := va_Tof (tm := .static "LimpMirror" "KIND_LETTERS" "[I") (ty := .int) (N := 6) (f := fun j => xLet.getD j .null) (A := xe_A s.heap.size) (by decide) (hs _ (by decide +kernel)) hlen (fun j hj => match j, hj with
    | 0, _ => va_eqt (z := 103) (hs _ (by decide +kernel))
    | 1, _ => va_eqt (z := 108) (hs _ (by decide +kernel))
    | 2, _ => va_eqt (z := 116) (hs _ (by decide +kernel))
    | 3, _ => va_eqt (z := 111) (hs _ (by decide +kernel))
    | 4, _ => va_eqt (z := 105) (hs _ (by decide +kernel))
    | 5, _ => va_eqt (z := 102) (hs _ (by decide +kernel))
    | _ + 6, hj => absurd hj (by omega)) hout
  have hZ := va_Zof (A := xe_A s.heap.size) (hts _ xls) (hts' _ xini) ht hout
  refine ⟨(fun ci => (Classical.choose (h0 ci)).1, fun ci => (Classical.choose (h0 ci)).2), fun k => match k with
    | 0 => cI
    | 1 => c1
    | 2 => c2
    | _ => c3, fun n => if n = 0 then bs else t, rfl, ⟨fun ci q hq => Classical.choose_spec (h0 ci) q hq, ?_⟩, ⟨hcell, hdeed, hpane⟩, fun w hw => ?_, hZ, hT⟩
  · intro k q hk
    match k, hk with
    | 0, hk => cases hk; exact ⟨fun N z => ⟨(fun k h => by cases h), kI, i2, compI, i3⟩, i1⟩
    | 1, hk => cases hk; exact ⟨a1, r1⟩
    | 2, hk => cases hk; exact ⟨a2, r2⟩
    | 3, hk => cases hk; exact ⟨a3, r3⟩
    | _ + 4, hk => cases hk
  · have h4 := hts w (xnw_in w hw)
    refine va_Nw.of ?_ h4
    unfold xnw at hw
    simp only [List.mem_cons, List.not_mem_nil, or_false] at hw
    rcases hw with rfl | rfl | rfl | rfl | rfl | rfl | rfl | rfl | rfl | rfl | rfl | rfl | rfl
    all_goals rfl
