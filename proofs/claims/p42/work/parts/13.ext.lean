/-! more locals, or the same in another order, do no harm -/
def xx (lv lv' : xL) : Prop := (∀ q ∈ lv, q ∈ lv') ∧ (lv'.map Prod.fst).Nodup
theorem xx_ld {lv lv' : xL} {i : Nat} {v : Value} (he : xx lv lv') (h : xe_ld lv i = some v) : xe_ld lv' i = some v := by
  have h1 := he.1 _ (xe_ld_mem h)
  unfold xe_ld
  rw [xfd_eq]
  have h2 := he.2
  clear h he
  induction lv' with
  | nil => cases h1
  | cons q t ih =>
    rw [List.map_cons, List.nodup_cons] at h2
    rw [List.find?_cons]
    by_cases e : q.1 = i
    · have : (q.1 == i) = true := by simpa using e
      rw [this]
      rcases List.mem_cons.mp h1 with h3 | h3
      · rw [← h3]
      · exact absurd (List.mem_map_of_mem (f := Prod.fst) h3) (by show ¬ i ∈ _; rw [← e]; exact h2.1)
    · have : (q.1 == i) = false := by simpa using e
      rw [this]
      rcases List.mem_cons.mp h1 with h3 | h3
      · exact absurd (by rw [← h3]) e
      · exact ih h3 h2.2
theorem xx_put {lv lv' : xL} {i : Nat} {v : Value} {p : Nat × Value → Bool} (hp : ∀ q, p q = true → q.1 ≠ i) (he : xx lv lv') : xx ((i, v) :: lv.filter p) ((i, v) :: lv'.filter p) := by
  refine ⟨fun q hq => ?_, ?_⟩
  · rcases List.mem_cons.mp hq with h | h
    · exact List.mem_cons.mpr (Or.inl h)
    · have h1 := List.mem_filter.mp h
      exact List.mem_cons.mpr (Or.inr (List.mem_filter.mpr ⟨he.1 _ h1.1, h1.2⟩))
  · rw [List.map_cons, List.nodup_cons]
    refine ⟨fun h => ?_, ?_⟩
    · obtain ⟨q, hq, e⟩ := List.mem_map.mp h
      exact hp q (List.mem_filter.mp hq).2 e
    · exact he.2.sublist (List.Sublist.map _ List.filter_sublist)
theorem xx_s1 {lv lv' : xL} {i : Nat} {v : Value} (he : xx lv lv') : xx (xe_s1 lv i v) (xe_s1 lv' i v) := by
  rw [xe_s1_eq, xe_s1_eq]
  exact xx_put (fun q h e => by simp [e] at h) he
theorem xx_s2 {lv lv' : xL} {i : Nat} {v : Value} (he : xx lv lv') : xx (xe_s2 lv i v) (xe_s2 lv' i v) := by
  unfold xe_s2
  exact xx_put (fun q h e => by simp [e] at h) he
section
variable {iv : List (Int32 × Int32)} {a6 : Option Int32} {oc nL pc : Nat} {i : Instr} {lv lv' : xL} {st : List Value} {f : xF}
theorem xx_jmp {t : Option Nat} (h : xe_jmp t lv st = some f) : xe_jmp t lv' st = some (f.1, lv', f.2.2) ∧ f.2.1 = lv := by
  cases t with
  | none => cases h
  | some t => cases h; exact ⟨rfl, rfl⟩
theorem xx_br {k : ClassFile.Cond} {off : Int} {x y : Value} (h : xe_br iv k off pc lv x y st = some f) : xe_br iv k off pc lv' x y st = some (f.1, lv', f.2.2) ∧ f.2.1 = lv := by
  unfold xe_br at h ⊢
  split at h
  · split at h
    · cases h; exact ⟨rfl, rfl⟩
    · cases h
  · cases h
theorem xx_of {g : Option xF} (h : g = some (f.1, lv', f.2.2) ∧ f.2.1 = lv) (he : xx lv lv') : ∃ lv1, g = some (f.1, lv1, f.2.2) ∧ xx f.2.1 lv1 := ⟨lv', h.1, by rw [h.2]; exact he⟩
set_option maxHeartbeats 4000000 in
theorem xx_step1 (he : xx lv lv') (h : xe_step1 iv a6 oc nL i pc lv st = some f) : ∃ lv1, xe_step1 iv a6 oc nL i pc lv' st = some (f.1, lv1, f.2.2) ∧ xx f.2.1 lv1 := by
  unfold xe_step1 at h ⊢
  split at h
  · cases h; exact ⟨lv', rfl, he⟩
  · cases h; exact ⟨lv', rfl, he⟩
  · cases h; exact ⟨lv', rfl, he⟩
  · cases h; exact ⟨lv', rfl, he⟩
  · unfold xa_iload_n at h ⊢
    split at h
    · rename_i v hv
      rw [xx_ld he hv]
      split at h
      · rename_i h0
        cases h
        exact ⟨lv', by dsimp only; rw [if_pos h0], he⟩
      · cases h
    · cases h
  · unfold xa_iload at h ⊢
    split at h
    · rename_i v hv
      rw [xx_ld he hv]
      split at h
      · rename_i h0
        cases h
        exact ⟨lv', by dsimp only; rw [if_pos h0], he⟩
      · cases h
    · cases h
  · unfold xa_lload_n at h ⊢
    split at h
    · rename_i v hv
      rw [xx_ld he hv]
      split at h
      · rename_i h0
        cases h
        exact ⟨lv', by dsimp only; rw [if_pos h0], he⟩
      · cases h
    · cases h
  · unfold xa_lload at h ⊢
    split at h
    · rename_i v hv
      rw [xx_ld he hv]
      split at h
      · rename_i h0
        cases h
        exact ⟨lv', by dsimp only; rw [if_pos h0], he⟩
      · cases h
    · cases h
  · unfold xa_aload_n at h ⊢
    split at h
    · rename_i v hv
      rw [xx_ld he hv]
      split at h
      · rename_i h0
        cases h
        exact ⟨lv', by dsimp only; rw [if_pos h0], he⟩
      · cases h
    · cases h
  · unfold xa_aload at h ⊢
    split at h
    · rename_i v hv
      rw [xx_ld he hv]
      split at h
      · rename_i h0
        cases h
        exact ⟨lv', by dsimp only; rw [if_pos h0], he⟩
      · cases h
    · cases h
  · unfold xa_istore_n at h ⊢
    split at h
    · split at h
      · rename_i h0
        cases h
        exact ⟨_, by dsimp only; rw [if_pos h0], xx_s1 he⟩
      · cases h
    · cases h
  · unfold xa_istore at h ⊢
    split at h
    · split at h
      · rename_i h0
        cases h
        exact ⟨_, by dsimp only; rw [if_pos h0], xx_s1 he⟩
      · cases h
    · cases h
  · unfold xa_lstore_n at h ⊢
    split at h
    · split at h
      · rename_i h0
        cases h
        exact ⟨_, by dsimp only; rw [if_pos h0], xx_s2 he⟩
      · cases h
    · cases h
  · unfold xa_lstore at h ⊢
    split at h
    · split at h
      · rename_i h0
        cases h
        exact ⟨_, by dsimp only; rw [if_pos h0], xx_s2 he⟩
      · cases h
    · cases h
  · unfold xa_astore_n at h ⊢
    split at h
    · split at h
      · rename_i h0
        cases h
        exact ⟨_, by dsimp only; rw [if_pos h0], xx_s1 he⟩
      · cases h
    · cases h
  · unfold xa_astore at h ⊢
    split at h
    · split at h
      · rename_i h0
        cases h
        exact ⟨_, by dsimp only; rw [if_pos h0], xx_s1 he⟩
      · cases h
    · cases h
  · unfold xa_iinc at h ⊢
    split at h
    · rename_i v hv
      rw [xx_ld he hv]
      split at h
      · rename_i h0
        cases h
        exact ⟨_, by dsimp only; rw [if_pos h0], xx_s1 he⟩
      · cases h
    · cases h
  · unfold xa_iadd at h ⊢
    repeat' split at h
    all_goals first | (cases h; done) | (cases h; refine ⟨lv', ?_, he⟩; simp_all)
  · unfold xa_isub at h ⊢
    repeat' split at h
    all_goals first | (cases h; done) | (cases h; refine ⟨lv', ?_, he⟩; simp_all)
  · unfold xa_imul at h ⊢
    repeat' split at h
    all_goals first | (cases h; done) | (cases h; refine ⟨lv', ?_, he⟩; simp_all)
  · unfold xa_iand at h ⊢
    repeat' split at h
    all_goals first | (cases h; done) | (cases h; refine ⟨lv', ?_, he⟩; simp_all)
  · unfold xa_ior at h ⊢
    repeat' split at h
    all_goals first | (cases h; done) | (cases h; refine ⟨lv', ?_, he⟩; simp_all)
  · unfold xa_ishl at h ⊢
    repeat' split at h
    all_goals first | (cases h; done) | (cases h; refine ⟨lv', ?_, he⟩; simp_all)
  · unfold xa_ishr at h ⊢
    repeat' split at h
    all_goals first | (cases h; done) | (cases h; refine ⟨lv', ?_, he⟩; simp_all)
  · unfold xa_idiv at h ⊢
    repeat' split at h
    all_goals first | (cases h; done) | (cases h; refine ⟨lv', ?_, he⟩; simp_all)
  · unfold xa_irem at h ⊢
    repeat' split at h
    all_goals first | (cases h; done) | (cases h; refine ⟨lv', ?_, he⟩; simp_all)
  · unfold xa_ladd at h ⊢
    repeat' split at h
    all_goals first | (cases h; done) | (cases h; refine ⟨lv', ?_, he⟩; simp_all)
  · unfold xa_lmul at h ⊢
    repeat' split at h
    all_goals first | (cases h; done) | (cases h; refine ⟨lv', ?_, he⟩; simp_all)
  · unfold xa_ldiv at h ⊢
    repeat' split at h
    all_goals first | (cases h; done) | (cases h; refine ⟨lv', ?_, he⟩; simp_all)
  · unfold xa_lrem at h ⊢
    repeat' split at h
    all_goals first | (cases h; done) | (cases h; refine ⟨lv', ?_, he⟩; simp_all)
  · unfold xa_lcmp at h ⊢
    repeat' split at h
    all_goals first | (cases h; done) | (cases h; refine ⟨lv', ?_, he⟩; simp_all)
  · unfold xa_i2l at h ⊢
    repeat' split at h
    all_goals first | (cases h; done) | (cases h; refine ⟨lv', ?_, he⟩; simp_all)
  · unfold xa_l2i at h ⊢
    repeat' split at h
    all_goals first | (cases h; done) | (cases h; refine ⟨lv', ?_, he⟩; simp_all)
  · unfold xa_i2b at h ⊢
    repeat' split at h
    all_goals first | (cases h; done) | (cases h; refine ⟨lv', ?_, he⟩; simp_all)
  · unfold xa_ldc at h ⊢
    repeat' split at h
    all_goals first | (cases h; done) | (cases h; refine ⟨lv', ?_, he⟩; simp_all)
  · unfold xa_ldc_w at h ⊢
    repeat' split at h
    all_goals first | (cases h; done) | (cases h; refine ⟨lv', ?_, he⟩; simp_all)
  · unfold xa_iushr at h ⊢
    repeat' split at h
    all_goals first | (cases h; done) | (cases h; refine ⟨lv', ?_, he⟩; simp_all)
  · unfold xa_ldc2_w at h ⊢
    repeat' split at h
    all_goals first | (cases h; done) | (cases h; refine ⟨lv', ?_, he⟩; simp_all)
  · unfold xa_dup at h ⊢
    repeat' split at h
    all_goals first | (cases h; done) | (cases h; refine ⟨lv', ?_, he⟩; simp_all)
  · unfold xa_dup2 at h ⊢
    repeat' split at h
    all_goals first | (cases h; done) | (cases h; refine ⟨lv', ?_, he⟩; simp_all)
  · unfold xa_pop at h ⊢
    repeat' split at h
    all_goals first | (cases h; done) | (cases h; refine ⟨lv', ?_, he⟩; simp_all)
  · unfold xa_pop2 at h ⊢
    repeat' split at h
    all_goals first | (cases h; done) | (cases h; refine ⟨lv', ?_, he⟩; simp_all)
  · exact xx_of (xx_jmp h) he
  · unfold xa_if_icmp at h ⊢
    split at h
    · exact xx_of (xx_br h) he
    · cases h
  · unfold xa_ifCond at h ⊢
    split at h
    · exact xx_of (xx_br h) he
    · cases h
  · unfold xa_tableswitch at h ⊢
    split at h
    · split at h
      · rename_i h0
        rw [if_pos h0]
        exact xx_of (xx_jmp h) he
      · rename_i h0
        rw [if_neg h0]
        split at h
        · exact xx_of (xx_jmp h) he
        · cases h
    · split at h
      · rename_i q hq
        split at h
        · rename_i h0
          rw [if_pos h0]
          exact xx_of (xx_jmp h) he
        · cases h
      · cases h
    · cases h
  · cases h
end
section
variable {iv : List (Int32 × Int32)} {a6 : Option Int32} {sc : Option (List Value)} {call0 call : Nat → List Value → xM → Option xO} {tb : xI} {oc nL rt : Nat} {ini : Bool}
theorem xx_step2 {i : Instr} {pc : Nat} {lv : xL} (lv' : xL) {st : List Value} {M : xM} {g : xF × xM} (h : xe_step2 sc oc ini i pc lv st M = some g) : xe_step2 sc oc ini i pc lv' st M = some ((g.1.1, lv', g.1.2.2), g.2) ∧ g.1.2.1 = lv ∧ xe_step1 iv a6 oc nL i pc lv' st = none := by
  unfold xe_step2 at h ⊢
  split at h
  · unfold xb_getfield at h ⊢
    repeat' split at h
    all_goals first | (cases h; done) | (cases h; refine ⟨?_, rfl, rfl⟩; simp_all)
  · unfold xb_putfield at h ⊢
    repeat' split at h
    all_goals first | (cases h; done) | (cases h; refine ⟨?_, rfl, rfl⟩; simp_all)
  · unfold xb_iaload at h ⊢
    repeat' split at h
    all_goals first | (cases h; done) | (cases h; refine ⟨?_, rfl, rfl⟩; simp_all)
  · unfold xb_iastore at h ⊢
    repeat' split at h
    all_goals first | (cases h; done) | (cases h; refine ⟨?_, rfl, rfl⟩; simp_all)
  · unfold xb_aaload at h ⊢
    repeat' split at h
    all_goals first | (cases h; done) | (cases h; refine ⟨?_, rfl, rfl⟩; simp_all)
  · unfold xb_aastore at h ⊢
    repeat' split at h
    all_goals first | (cases h; done) | (cases h; refine ⟨?_, rfl, rfl⟩; simp_all)
  · unfold xb_arraylength at h ⊢
    repeat' split at h
    all_goals first | (cases h; done) | (cases h; refine ⟨?_, rfl, rfl⟩; simp_all)
  · unfold xb_getstatic at h ⊢
    repeat' split at h
    all_goals first | (cases h; done) | (cases h; refine ⟨?_, rfl, rfl⟩; simp_all)
  · cases h
theorem xx_cont {ih ih' : Nat → xL → List Value → xM → Option xO} {pc : Nat} {lv lv' : xL} {rest : List Value} {c : Option xO} {o : xO} (hi : ∀ pc st M o, ih pc lv st M = some o → ih' pc lv' st M = some o) (h : xe_cont ih pc lv rest c = some o) : xe_cont ih' pc lv' rest c = some o := by
  unfold xe_cont at h ⊢
  split at h
  · split at h
    · rename_i o2 h2
      rw [hi _ _ _ _ h2]
      exact h
    · cases h
  · cases h
theorem xx_made {a b : Option xO} {n : Nat} {o : xO} (hi : ∀ o, a = some o → b = some o) (h : xe_made a n = some o) : xe_made b n = some o := by
  unfold xe_made at h
  split at h
  · rename_i o1
    rw [hi _ rfl]
    exact h
  · cases h
set_option maxHeartbeats 4000000 in
theorem xx_step3 {ih ih' : Nat → xL → List Value → xM → Option xO} {i : Instr} {pc : Nat} {lv lv' : xL} {st : List Value} {M : xM} {o : xO} (hi : ∀ pc st M o, ih pc lv st M = some o → ih' pc lv' st M = some o) (h : xe_step3 call0 call oc rt i pc lv st M ih = some o) : xe_step3 call0 call oc rt i pc lv' st M ih' = some o ∧ xe_step1 iv a6 oc nL i pc lv' st = none ∧ xe_step2 sc oc ini i pc lv' st M = none := by
  unfold xe_step3 at h ⊢
  split at h
  · refine ⟨?_, rfl, rfl⟩
    unfold xd_new at h ⊢
    repeat' split at h
    all_goals first | (cases h; done) | (simp only [*, if_true]; exact xx_made (hi _ _ _) h)
  · refine ⟨?_, rfl, rfl⟩
    unfold xd_newarray at h ⊢
    repeat' split at h
    all_goals first | (cases h; done) | (rename_i h0; simp only [if_pos h0]; exact xx_made (hi _ _ _) h)
  · refine ⟨?_, rfl, rfl⟩
    unfold xd_anewarray at h ⊢
    repeat' split at h
    all_goals first | (cases h; done) | (rename_i h0; simp only [if_pos h0]; exact xx_made (hi _ _ _) h)
  · refine ⟨?_, rfl, rfl⟩
    unfold xd_invokestatic xe_callS at h ⊢
    split at h
    · repeat' split at h
      all_goals first | (cases h; done) | (rename_i h0; simp only [if_pos h0]; exact xx_cont hi h)
    · unfold xe_copy at h ⊢
      repeat' split at h
      all_goals first | (cases h; done) | (rename_i h0; simp only [if_pos h0]; exact hi _ _ _ _ h)
    · repeat' split at h
      all_goals first | (cases h; done) | (rename_i h0; simp only [if_pos h0]; exact xx_cont hi h)
    · repeat' split at h
      all_goals first | (cases h; done) | (rename_i h0; simp only [if_pos h0]; exact xx_cont hi h)
    · split at h
      · split at h
        · rename_i h0
          simp only [if_pos h0]
          exact hi _ _ _ _ h
        · cases h
      · cases h
    · split at h
      · split at h
        · rename_i h0
          simp only [if_pos h0]
          exact hi _ _ _ _ h
        · cases h
      · cases h
    · cases h
  · refine ⟨?_, rfl, rfl⟩
    unfold xd_invokespecial xe_callI at h ⊢
    split at h
    · repeat' split at h
      all_goals first | (cases h; done) | (simp only [*, if_true]; exact xx_cont hi h)
    · repeat' split at h
      all_goals first | (cases h; done) | (simp only [*, if_true]; exact xx_cont hi h)
    · repeat' split at h
      all_goals first | (cases h; done) | (simp only [*, if_true]; exact xx_cont hi h)
    · repeat' split at h
      all_goals first | (cases h; done) | (simp only [*, if_true]; exact hi _ _ _ _ h)
    · cases h
  · refine ⟨?_, rfl, rfl⟩
    unfold xd_invokevirtual xe_callV at h ⊢
    repeat' split at h
    all_goals first | (cases h; done) | (simp only [*, if_true]; exact xx_cont hi h)
  · exact ⟨h, rfl, rfl⟩
  · exact ⟨h, rfl, rfl⟩
  · exact ⟨h, rfl, rfl⟩
  · exact ⟨h, rfl, rfl⟩
  · cases h
theorem xx_run : ∀ (n pc : Nat) (lv lv' : xL) (st : List Value) (M : xM) (o : xO), xx lv lv' → xe_run iv a6 sc call0 call tb oc nL rt ini n pc lv st M = some o → xe_run iv a6 sc call0 call tb oc nL rt ini n pc lv' st M = some o := by
  intro n
  induction n with
  | zero => intro pc lv lv' st M o _ h; cases h
  | succ n ih =>
    intro pc lv lv' st M o he h
    have h : xe_body iv a6 sc call0 call tb oc nL rt ini (xe_run iv a6 sc call0 call tb oc nL rt ini n) pc lv st M = some o := h
    show xe_body iv a6 sc call0 call tb oc nL rt ini (xe_run iv a6 sc call0 call tb oc nL rt ini n) pc lv' st M = some o
    unfold xe_body at h ⊢
    split at h
    · cases h
    · rename_i q hq
      split at h
      · rename_i f hf
        obtain ⟨lv1, h1, h2⟩ := xx_step1 he hf
        rw [h1]
        exact ih _ _ _ _ _ _ h2 h
      · split at h
        · rename_i g hg
          obtain ⟨h1, h2, h3⟩ := xx_step2 (iv := iv) (a6 := a6) (nL := nL) lv' hg
          rw [h3]
          dsimp only
          rw [h1]
          rw [h2] at h
          exact ih _ _ _ _ _ _ he h
        · obtain ⟨h1, h2, h3⟩ := xx_step3 (iv := iv) (a6 := a6) (nL := nL) (sc := sc) (ini := ini) (fun pc st M o z => ih pc lv lv' st M o he z) h
          rw [h2]
          dsimp only
          rw [h3]
          exact h1
end
section
variable {q : xQ} {k pc : Nat} {lv lv' : xL} {st : List Value} {M M' : xM} {P : Option Value → xM → Prop}
theorem xS.ext (h : xS q k pc lv st M P) (he : xx lv lv') : xS q k pc lv' st M P := by
  obtain ⟨r, M', hP, n0, f0, h⟩ := h
  exact ⟨r, M', hP, n0, f0, fun n f d h0 h1 h2 => xx_run _ _ _ _ _ _ _ he (h n f d h0 h1 h2)⟩
def xpick (lv : xL) (ps : List Nat) : xL := ps.filterMap (fun i => lv[i]?)
def xnd (lv : xL) : Bool := match lv with
  | [] => true
  | q :: t => t.all (fun p => !(Nat.beq p.1 q.1)) && xnd t
theorem xnd_ok : ∀ {lv : xL}, xnd lv = true → (lv.map Prod.fst).Nodup
  | [], _ => List.nodup_nil
  | q :: t, h => by
    unfold xnd at h
    rw [Bool.and_eq_true] at h
    rw [List.map_cons, List.nodup_cons]
    refine ⟨fun hm => ?_, xnd_ok h.2⟩
    obtain ⟨p, hp, e⟩ := List.mem_map.mp hm
    have := List.all_eq_true.mp h.1 p hp
    rw [e] at this
    simp at this
theorem xS.pick (ps : List Nat) (hn : xnd lv = true) (h : xS q k pc (xpick lv ps) st M P) : xS q k pc lv st M P := by
  refine h.ext ⟨fun p hp => ?_, xnd_ok hn⟩
  obtain ⟨i, _, hi⟩ := List.mem_filterMap.mp hp
  exact List.mem_of_getElem? hi
theorem xS.cast (h : xS q k pc lv st M P) (e1 : lv' = lv) (e2 : M' = M) : xS q k pc lv' st M' P := by
  rw [e1, e2]
  exact h
end
/-- downwards -/
theorem xdn {N : Nat} {C : Nat → Prop} (h : ∀ j, j ≤ N → (∀ j', j < j' → j' ≤ N → C j') → C j) : ∀ j, j ≤ N → C j := by
  have key : ∀ t j, j ≤ N → N - j ≤ t → C j := by
    intro t
    induction t with
    | zero => intro j hj ht; exact h j hj (fun j' h1 h2 => absurd h2 (by omega))
    | succ t ih => intro j hj ht; exact h j hj (fun j' h1 h2 => ih j' h2 (by omega))
  exact fun j hj => key (N - j) j hj (Nat.le_refl _)
/-- a count of turns -/
def xfo {α : Type} (f : α → Nat → α) (a : α) (n : Nat) : α := Nat.rec (motive := fun _ => α) a (fun j b => f b j) n
theorem xfo_0 {α : Type} (f : α → Nat → α) (a : α) : xfo f a 0 = a := rfl
theorem xfo_s {α : Type} (f : α → Nat → α) (a : α) (n : Nat) : xfo f a (n + 1) = f (xfo f a n) n := rfl
theorem xfo_inv {α : Type} {f : α → Nat → α} {a : α} {Q : α → Prop} (h0 : Q a) (hs : ∀ b j, Q b → Q (f b j)) (n : Nat) : Q (xfo f a n) := by
  induction n with
  | zero => exact h0
  | succ n ih => exact hs _ _ ih
/-- the first turn with p, of those from j on (t of them), or behind them -/
def xfs (p : Nat → Bool) (t : Nat) : Nat → Nat := Nat.rec (motive := fun _ => Nat → Nat) (fun j => j) (fun _ ih j => bif p j then j else ih (j + 1)) t
section
variable {q : xQ} {k pc l a ci : Nat} {lv : xL} {st rest : List Value} {M : xM} {P : Option Value → xM → Prop} {vs : List Value} {v : Value} {x : Int32} {ns : List Int32}
theorem xS.ialdN {t : Nat} (hl : xe_lkF q.1 pc = some (.iaload, l)) (hM : M[a]? = some (12, xIs ns)) (ht : t < ns.length) (hn : t < 2 ^ 31) (h : xS q k (pc + 1) lv (.int (ns.getD t 0) :: rest) M P) : xS q k pc lv (.int (nI t) :: .ref a :: rest) M P := by
  refine xS.iald hl hM (nI_pos hn) ?_ h
  rw [nI_clamp hn, List.getD_eq_getElem?_getD, List.getElem?_eq_getElem ht]
  rfl
theorem xS.iastN {t : Nat} (hl : xe_lkF q.1 pc = some (.iastore, l)) (hM : M[a]? = some (12, xIs ns)) (ht : t < ns.length) (hn : t < 2 ^ 31) (h : xS q k (pc + 1) lv rest (M.set a (12, xIs (ns.set t x))) P) : xS q k pc lv (.int x :: .int (nI t) :: .ref a :: rest) M P := by
  refine xS.iast hl hM (nI_pos hn) (by rw [nI_clamp hn]; exact ht) ?_
  rw [nI_clamp hn]
  exact h
theorem xS.aaldN {t : Nat} (hl : xe_lkF q.1 pc = some (.aaload, l)) (hM : M[a]? = some (ci, vs)) (hci : 12 < ci ∧ ci < 16) (hn : t < 2 ^ 31) (hv : vs[t]? = some v) (hN : xe_isN v = true) (h : xS q k (pc + 1) lv (v :: rest) M P) : xS q k pc lv (.int (nI t) :: .ref a :: rest) M P := by
  refine xS.aald hl hM hci (nI_pos hn) ?_ hN h
  rw [nI_clamp hn]
  exact hv
theorem xS.beq {p : Prop} {dp : Decidable p} {off : Int} {t : Nat} (hl : xe_lkF q.1 pc = some (.ifCond .eq off, l)) (ht : xe_tg pc off = some t) (hy : ¬ p → xS q k t lv rest M P) (hn : p → xS q k (pc + 3) lv rest M P) : xS q k pc lv (.int (@ite _ p dp 1 0) :: rest) M P := by
  refine xS.br0 hl ht (fun h => hy (xif0 (of_decide_eq_true h))) (fun h => hn (xif1 (of_decide_eq_false h)))
theorem xS.bne {p : Prop} {dp : Decidable p} {off : Int} {t : Nat} (hl : xe_lkF q.1 pc = some (.ifCond .ne off, l)) (ht : xe_tg pc off = some t) (hy : p → xS q k t lv rest M P) (hn : ¬ p → xS q k (pc + 3) lv rest M P) : xS q k pc lv (.int (@ite _ p dp 1 0) :: rest) M P := by
  refine xS.br0 hl ht (fun h => hy (xif1 (of_decide_eq_true h))) (fun h => hn (xif0 (Classical.not_not.mp (of_decide_eq_false h))))
end
