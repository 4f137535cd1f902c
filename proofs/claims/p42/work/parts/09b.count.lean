/-! cells are counted as they are made -/
theorem xe_step2_len {sc : Option (List Value)} {oc : Nat} {ini : Bool} {i : Instr} {pc : Nat} {lv : xL} {st : List Value} {M : xM} {f : xF × xM} (h : xe_step2 sc oc ini i pc lv st M = some f) : f.2.length = M.length := by
  unfold xe_step2 at h
  unfold xb_getfield xb_putfield xb_iaload xb_iastore xb_aaload xb_aastore xb_arraylength xb_getstatic at h
  simp only [xse_eq] at h
  repeat' split at h
  all_goals first | (cases h; rfl) | (cases h; exact List.length_set ..) | cases h
theorem xe_made_len {o : Option xO} {n k : Nat} {r : xO} (h : xe_made o n = some r) (ho : ∀ r, o = some r → r.2.1.length = k + 1 + r.2.2.1) : r.2.1.length = k + r.2.2.1 := by
  unfold xe_made at h
  split at h
  · cases h
    have := ho _ rfl
    dsimp only
    omega
  · cases h
theorem xe_cont_len {ih : Nat → xL → List Value → xM → Option xO} {pc : Nat} {lv : xL} {rest : List Value} {M : xM} {o : Option xO} {r : xO} (hi : ∀ pc lv st M o, ih pc lv st M = some o → o.2.1.length = M.length + o.2.2.1) (ho : ∀ o1, o = some o1 → o1.2.1.length = M.length + o1.2.2.1) (h : xe_cont ih pc lv rest o = some r) : r.2.1.length = M.length + r.2.2.1 := by
  unfold xe_cont at h
  split at h
  · have h1 := ho _ rfl
    split at h
    · rename_i o2 ho2
      have h2 := hi _ _ _ _ _ ho2
      cases h
      dsimp only
      omega
    · cases h
  · cases h
theorem xe_end_len {rt : Nat} {i : Instr} {st : List Value} {M : xM} {r : xO} (h : xe_end rt i st M = some r) : r.2.1.length = M.length + r.2.2.1 := by
  unfold xe_end at h
  repeat' split at h
  all_goals first | (cases h; rfl) | cases h
theorem xe_step3_len {call0 call : Nat → List Value → xM → Option xO} {oc rt : Nat} {i : Instr} {pc : Nat} {lv : xL} {st : List Value} {M : xM} {ih : Nat → xL → List Value → xM → Option xO} {r : xO}
    (h0 : ∀ mn as M o, call0 mn as M = some o → o.2.1.length = M.length + o.2.2.1) (h1 : ∀ mn as M o, call mn as M = some o → o.2.1.length = M.length + o.2.2.1) (hi : ∀ pc lv st M o, ih pc lv st M = some o → o.2.1.length = M.length + o.2.2.1) (h : xe_step3 call0 call oc rt i pc lv st M ih = some r) : r.2.1.length = M.length + r.2.2.1 := by
  have ap : ∀ {x : xC} {pc lv st}, ∀ r, ih pc lv st (M ++ [x]) = some r → r.2.1.length = M.length + 1 + r.2.2.1 := fun r hr => by
    have := hi _ _ _ _ _ hr
    rw [List.length_append] at this
    exact this
  unfold xe_step3 at h
  split at h
  · unfold xd_new at h
    split at h
    · split at h
      · exact xe_made_len h ap
      · cases h
    · cases h
  · unfold xd_newarray at h
    split at h
    · split at h
      · exact xe_made_len h ap
      · cases h
    · cases h
  · unfold xd_anewarray at h
    split at h
    · split at h
      · split at h
        · exact xe_made_len h ap
        · cases h
      · cases h
    · cases h
  · unfold xd_invokestatic at h
    unfold xe_callS xe_copy at h
    simp only [xse_eq] at h
    repeat' split at h
    all_goals first | exact xe_cont_len hi (fun o1 z => h1 _ _ _ _ z) h | exact hi _ _ _ _ _ h | (have := hi _ _ _ _ _ h; rw [List.length_set] at this; exact this) | cases h
  · unfold xd_invokespecial at h
    unfold xe_callI at h
    repeat' split at h
    all_goals first | exact xe_cont_len hi (fun o1 z => h0 _ _ _ _ z) h | exact hi _ _ _ _ _ h | cases h
  · unfold xd_invokevirtual at h
    unfold xe_callV at h
    repeat' split at h
    all_goals first | exact xe_cont_len hi (fun o1 z => h1 _ _ _ _ z) h | exact hi _ _ _ _ _ h | cases h
  · unfold xd_ireturn at h
    exact xe_end_len h
  · unfold xd_lreturn at h
    exact xe_end_len h
  · unfold xd_areturn at h
    exact xe_end_len h
  · unfold xd_return_ at h
    exact xe_end_len h
  · cases h
theorem xe_run_len {iv : List (Int32 × Int32)} {a6 : Option Int32} {sc : Option (List Value)} {call0 call : Nat → List Value → xM → Option xO} {tb : xI} {oc nL rt : Nat} {ini : Bool} (h0 : ∀ mn as M o, call0 mn as M = some o → o.2.1.length = M.length + o.2.2.1) (h1 : ∀ mn as M o, call mn as M = some o → o.2.1.length = M.length + o.2.2.1) :
    ∀ (n pc : Nat) (lv : xL) (st : List Value) (M : xM) (o : xO), xe_run iv a6 sc call0 call tb oc nL rt ini n pc lv st M = some o → o.2.1.length = M.length + o.2.2.1 := by
  intro n
  induction n with
  | zero =>
    intro pc lv st M o h
    cases h
  | succ n ih =>
    intro pc lv st M o h
    have h : xe_body iv a6 sc call0 call tb oc nL rt ini (xe_run iv a6 sc call0 call tb oc nL rt ini n) pc lv st M = some o := h
    unfold xe_body at h
    split at h
    · cases h
    · split at h
      · exact ih _ _ _ _ _ h
      · split at h
        · rename_i g hg
          have := ih _ _ _ _ _ h
          rw [xe_step2_len hg] at this
          exact this
        · exact xe_step3_len h0 h1 ih h
theorem xe_ex_len : ∀ (f d mn : Nat) (as : List Value) (M : xM) (o : xO), xe_ex f d mn as M = some o → o.2.1.length = M.length + o.2.2.1 := by
  intro f d
  induction d with
  | zero =>
    intro mn as M o h
    cases h
  | succ d ih =>
    intro mn as M o h
    have h : (match xmF mn with
      | none => none
      | some q => if xe_cats as ≤ q.1.2.2.1 then xe_run [] none none (xe_ex f d) (xe_ex f d) q.1.1 q.1.2.1 q.1.2.2.1 q.1.2.2.2.1 q.1.2.2.2.2 f 0 (lv_args 0 as) [] M else none) = some o := h
    split at h
    · cases h
    · split at h
      · exact xe_run_len ih ih _ _ _ _ _ _ h
      · cases h
