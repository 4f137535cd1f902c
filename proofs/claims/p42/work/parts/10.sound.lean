/-! the run is sound -/
theorem xe_made_ok {o : Option xO} {n : Nat} {r : Option Value} {M : xM} {c1 s1 : Nat} (h : xe_made o n = some (r, M, c1, s1)) : ∃ c2 s2, o = some (r, M, c2, s2) ∧ c1 = 1 + c2 ∧ s1 = n + s2 := by
  unfold xe_made at h
  split at h
  · rename_i o1
    obtain ⟨a1, a2, a3, a4⟩ := o1
    cases h
    exact ⟨_, _, rfl, rfl, rfl⟩
  · cases h
theorem xe_cont_ok {ih : Nat → xL → List Value → xM → Option xO} {pc : Nat} {lv : xL} {rest : List Value} {o : Option xO} {r : Option Value} {M2 : xM} {c1 s1 : Nat} (h : xe_cont ih pc lv rest o = some (r, M2, c1, s1)) : ∃ o1 c2 s2, o = some o1 ∧ ih (pc + 3) lv (o1.1.toList ++ rest) o1.2.1 = some (r, M2, c2, s2) ∧ c1 = o1.2.2.1 + c2 ∧ s1 = o1.2.2.2 + s2 := by
  unfold xe_cont at h
  split at h
  · rename_i o1
    split at h
    · rename_i o2 ho2
      obtain ⟨a1, a2, a3, a4⟩ := o2
      cases h
      exact ⟨o1, _, _, rfl, ho2, rfl, rfl⟩
    · cases h
  · cases h
theorem xe_plain_cv {b : Nat → Nat} {B : Nat} {xs : Nat → Int32} {vs : List Value} (h : vs.all xe_plain = true) : vs.map (xe_cv b B xs) = vs := by
  induction vs with
  | nil => rfl
  | cons v t ih =>
    rw [List.all_cons, Bool.and_eq_true] at h
    rw [List.map_cons, ih h.2]
    have h1 := h.1
    cases v <;> first | rfl | cases h1
theorem xe_zeros (aC : Nat → ClassId) (b : Nat → Nat) (B : Nat) (xs : Nat → Int32) (n : Nat) : (.inl (aC 0, n, .inl (fun _ => (0 : Int32))) : va_E) = xe_el aC (xe_cv b B xs) (12, List.replicate n (.int 0)) := by
  rw [xe_el_int, List.length_replicate]
  congr 4
  funext j
  rw [List.getD_eq_getElem?_getD, List.getElem?_replicate]
  split <;> rfl
theorem xe_nulls (aC : Nat → ClassId) (b : Nat → Nat) (B : Nat) (xs : Nat → Int32) (t n : Nat) : (.inl (aC (t + 1), n, .inr (.inr (.inr (.inr (fun _ => (none : Option Nat)))))) : va_E) = xe_el aC (xe_cv b B xs) (13 + t, List.replicate n .null) := by
  rw [xe_el_ref (by omega), List.length_replicate, show 13 + t - 12 = t + 1 by omega]
  congr 7
  funext j
  rw [List.getD_eq_getElem?_getD, List.getElem?_replicate]
  split <;> rfl
theorem xcpy_len {vs ws : List Value} {sp dp n : Nat} (h1 : sp + n ≤ vs.length) (h2 : dp + n ≤ ws.length) : (xcpy vs ws sp dp n).length = ws.length := by
  unfold xcpy
  simp only [List.length_append, List.length_take, List.length_drop]
  omega
theorem xcpy_get {vs ws : List Value} {sp dp n : Nat} (h1 : sp + n ≤ vs.length) (h2 : dp + n ≤ ws.length) (j : Nat) : (xcpy vs ws sp dp n)[j]? = if dp ≤ j ∧ j < dp + n then vs[sp + (j - dp)]? else ws[j]? := by
  unfold xcpy
  have hd : (ws.take dp).length = dp := by rw [List.length_take]; omega
  by_cases a : j < dp
  · rw [List.getElem?_append_left (by omega), if_neg (by omega), List.getElem?_take_of_lt a]
  · rw [List.getElem?_append_right (by omega), hd]
    have hn : ((vs.drop sp).take n).length = n := by rw [List.length_take, List.length_drop]; omega
    by_cases c : j < dp + n
    · rw [List.getElem?_append_left (by omega), if_pos ⟨by omega, c⟩, List.getElem?_take_of_lt (by omega), List.getElem?_drop]
    · rw [List.getElem?_append_right (by omega), hn, if_neg (by omega), List.getElem?_drop]
      congr 1
      omega
theorem xe_cpy {cv : Value → Value} {vs ws : List Value} {sp dp n : Nat} (h1 : sp + n ≤ vs.length) (h2 : dp + n ≤ ws.length) : va_cpy (fun j => xe_iof (cv (vs.getD j .null))) (fun j => xe_iof (cv (ws.getD j .null))) sp dp n = fun j => xe_iof (cv ((xcpy vs ws sp dp n).getD j .null)) := by
  funext j
  unfold va_cpy
  rw [List.getD_eq_getElem?_getD, xcpy_get h1 h2]
  split
  · dsimp only
    rw [List.getD_eq_getElem?_getD]
  · dsimp only
    rw [List.getD_eq_getElem?_getD]
theorem xe_res (b : Nat → Nat) (B : Nat) (xs : Nat → Int32) (r : Option Value) (rest : List Value) : (r.map (xe_cv b B xs)).toList ++ rest.map (xe_cv b B xs) = (r.toList ++ rest).map (xe_cv b B xs) := by cases r <;> rfl
theorem xe_ci {ci : Nat} {x : vw_C} (h : vwCl[ci]? = some x) : ci < 12 := (List.getElem?_eq_some_iff.mp h).1
section
variable {p : Program} {l : Launch} {e : Env} {R : Room} {s : State} {m : MethodId} {args : Array Value} {below : List Frame} {meth : Method} {c : Code} {H : Heap} {locs : List Loc} {cells slots : Nat} {Q : State → Prop}
variable {cc : ByteArray} {pc : Nat} {ls : Array Slot} {b : Nat → Nat} {B : Nat} {xs : Nat → Int32} {oc : Nat} {D : va_G} {aC : Nat → ClassId}
variable {call0 call : Nat → List Value → xM → Option xO} {ihf : Nat → xL → List Value → xM → Option xO} {nL rt d : Nat} {rF : Option Value} {MF M : xM} {mc ms c1 s1 : Nat} {lv : xL} {st : List Value}
set_option maxHeartbeats 4000000 in
theorem xe_callS_ok (hx : p.tables.exec = Jvm.exec) (hb : c.code = cc) (hml : c.maxLocals = nL) (hown : s.vm.findClass (RO oc) = some m.cls) (hts : ∀ w ∈ xWS, w.before args s = true) (hK : xe_K D aC b B s) (hB : B ≤ s.heap.size) (hRf : d + 1 ≤ R.frames) (hRl : 64 * (d + 1) ≤ R.locals) (hmc : mc ≤ R.cells) (hms : ms ≤ R.slots)
    (hclen : ∀ mn as M o, call mn as M = some o → o.2.1.length = M.length + o.2.2.1)
    (hcall : ∀ mn as M o, call mn as M = some o → ∀ q, xm mn = some q → Met l q.2.1 (Cond.code q.2.1 q.2.2.1 q.1.2.2.1 q.2.2.2.1 :: xWS) (xe_rm d o.2.2.1 o.2.2.2) (xe_Pc D aC b B xs as M) (xe_Qc D aC b B xs o.1 o.2.1) o.2.2.1 o.2.2.2 (xe_A B))
    (ih : ∀ (pc : Nat) (lv : xL) (st : List Value) (M : xM) (c1 s1 : Nat), ihf pc lv st M = some (rF, MF, c1, s1) → ∀ (H : Heap) (locs : List Loc) (cells slots : Nat) (ls : Array Slot), lv_has ls nL (xe_lm b B xs lv) → va_S (xe_A B) s.heap H locs → va_P D vwCl (xe_ws aC (xe_cv b B xs) B M) H → s.heap.size + cells = B + M.length → cells + c1 = mc → slots + s1 = ms → W p l e R s m args below meth c H locs cells slots Q (F0 m pc ls (st.map (xe_cv b B xs))))
    (hl : lv_has ls nL (xe_lm b B xs lv)) (hS : va_S (xe_A B) s.heap H locs) (hP : va_P D vwCl (xe_ws aC (xe_cv b B xs) B M) H) (hsz : s.heap.size + cells = B + M.length) (hc : cells + c1 = mc) (hs : slots + s1 = ms)
    {k : Nat} (hd : decode cc pc = .ok (.invokestatic k, 3)) (h : xe_callS call oc k pc lv st M ihf = some (rF, MF, c1, s1)) : W p l e R s m args below meth c H locs cells slots Q (F0 m pc ls (st.map (xe_cv b B xs))) := by
  unfold xe_callS at h
  rw [xcF_eq] at h
  simp only [xmF_eq] at h
  split at h
  · rename_i idx mn cis hxc
    split at h
    · rename_i q hq
      split at h
      · rename_i hn
        obtain ⟨o1, c2, s2, ho, hi2, e1, e2⟩ := xe_cont_ok h
        have hlen := hclen _ _ _ _ ho
        obtain ⟨⟨q', hq', w1, w2⟩, hidx⟩ := xc_ok hxc
        cases hq.symm.trans hq'
        dsimp only at hidx w1
        subst hidx
        obtain ⟨g1, g2, g3, g4, g5, g6, g7, g8, g9⟩ := xm_ok hq
        refine xe_sized fun hz => ?_
        have hsz' := xe_size hsz hz hS.1 hB hP
        refine xe_call (va_runS (As := (st.take q.2.2.2.2).reverse.map (xe_cv b B xs)) (rest := (st.drop q.2.2.2.2).map (xe_cv b B xs)) ⟨hx, hb, hml, hown, hts⟩ (hcall _ _ _ _ ho q hq) ⟨callB_of q.2.2.2.2 hts (xWS_good g2) rfl rfl rfl (hts _ g3) (hts _ w1) ⟨g4.2.1, g4.2.2, g9⟩ ⟨hRf, by show 8 + (q.1.2.2.1 + 11) + 64 * d ≤ R.locals; omega⟩, hts _ w2⟩ ⟨xe_blind, fun U hU hW => ⟨rfl, by rw [hU]; exact hsz', by rw [hU]; exact hP, hK.warm hW (fun q z1 z2 => by rw [hU]; exact hS.2.1 q z1 z2)⟩⟩ rfl (by simp [hn.1]) hl.1 (by show st.map (xe_cv b B xs) = _; rw [← List.map_reverse, List.reverse_reverse, ← List.map_append, List.take_append_drop]) (lv_room (by rw [xe_ssum]; exact of_decide_eq_true hn.2)) hd ⟨by omega, by omega⟩) hS (fun H1 locs1 z1 z2 => ?_)
        rw [xe_res]
        exact ih _ _ _ _ _ _ hi2 H1 locs1 _ _ ls hl z1 z2 (by omega) (by omega) (by omega)
      · cases h
    · cases h
  · rename_i idx mn cis hxc
    obtain ⟨⟨w1, w2, w3, w4⟩, hidx⟩ := xc_ok hxc
    dsimp only at hidx w1
    subst hidx
    unfold xe_copy at h
    simp only [xg_eq, xse_eq, xln_eq, xlt_iff] at h
    split at h
    · rename_i n dp da sp sa r
      split at h
      · rename_i q0 hq0
        split at h
        · rename_i q1 hq1
          obtain ⟨t0, vs⟩ := q0
          obtain ⟨t1, ws⟩ := q1
          split at h
          · rename_i hn
            obtain ⟨⟨rfl, rfl⟩, ⟨n1, n2, n3⟩, ⟨n4, n5⟩, n6⟩ := hn
            have hw0 := xe_ws_get (aC := aC) (cv := xe_cv b B xs) (B := B) hq0
            have hw1 := xe_ws_get (aC := aC) (cv := xe_cv b B xs) (B := B) hq1
            rw [xe_el_int] at hw0 hw1
            have hr := of_decide_eq_true n6
            refine va_copyi (ty := .int) hx hb (hml.trans hl.1.symm) hown (hts _ w1) (hts _ w2) (hts _ w3) (hts _ w4) hK.1 hP xe_ws_D hS sa da 0 0 hw0 hw1 rfl rfl rfl n1 n2 n3 n4 n5 (fun _ _ => rfl) (by omega) (by rw [xe_ssum]; exact Nat.le_trans (Nat.add_le_add_right hr _) (Nat.le_trans (by decide) (Nat.le_trans (by omega : 64 ≤ 64 * (d + 1)) hRl))) hd (fun H1 locs1 z1 _ z3 => ?_)
            rw [xe_cpy (cv := xe_cv b B xs) n4 n5] at z1
            have e9 : (.inl (aC 0, ws.length, .inl (fun j => xe_iof (xe_cv b B xs ((xcpy vs ws sp.toNatClampNeg dp.toNatClampNeg n.toNatClampNeg).getD j .null)))) : va_E) = xe_el aC (xe_cv b B xs) (12, xcpy vs ws sp.toNatClampNeg dp.toNatClampNeg n.toNatClampNeg) := by
              rw [xe_el_int, xcpy_len n4 n5]
            rw [e9, xe_ws_set] at z1
            exact ih _ _ _ _ _ _ h H1 locs1 cells slots ls hl z3 z1 (by rw [List.length_set]; exact hsz) hc hs
          · cases h
        · cases h
      · cases h
    · cases h
  · rename_i idx mn cis hxc
    split at h
    · rename_i q hq
      split at h
      · rename_i hn
        obtain ⟨o1, c2, s2, ho, hi2, e1, e2⟩ := xe_cont_ok h
        have hlen := hclen _ _ _ _ ho
        obtain ⟨⟨q', hq', x, x1, x2, w1, w3, w2⟩, hidx⟩ := xc_ok hxc
        cases hq.symm.trans hq'
        dsimp only at hidx w1
        subst hidx
        obtain ⟨g1, g2, g3, g4, g5, g6, g7, g8, g9⟩ := xm_ok hq
        refine xe_sized fun hz => ?_
        have hsz' := xe_size hsz hz hS.1 hB hP
        refine xe_call (xs_runSO (As := (st.take q.2.2.2.2).reverse.map (xe_cv b B xs)) (rest := (st.drop q.2.2.2.2).map (xe_cv b B xs)) ⟨hx, hb, hml, hown, hts⟩ (hcall _ _ _ _ ho q hq) ⟨⟨rfl, rfl, hRf, by show 8 + (q.1.2.2.1 + 11) + 64 * d ≤ R.locals; omega, pay_in hts (xWS_good g2), List.mem_cons_self⟩, hts _ g2, hts _ g3, ⟨g4.2.1, g4.2.2⟩, fun sig z => by rw [z] at g9; exact (Option.some.inj g9).symm⟩ x1 x2 (hts _ w1) (hts _ w3) (hts _ w2) ⟨xe_blind, fun U hU hW => ⟨rfl, by rw [hU]; exact hsz', by rw [hU]; exact hP, hK.warm hW (fun q z1 z2 => by rw [hU]; exact hS.2.1 q z1 z2)⟩⟩ rfl (by simp [hn.1]) hl.1 (by show st.map (xe_cv b B xs) = _; rw [← List.map_reverse, List.reverse_reverse, ← List.map_append, List.take_append_drop]) (lv_room (by rw [xe_ssum]; exact of_decide_eq_true hn.2)) hd ⟨by omega, by omega⟩) hS (fun H1 locs1 z1 z2 => ?_)
        rw [xe_res]
        exact ih _ _ _ _ _ _ hi2 H1 locs1 _ _ ls hl z1 z2 (by omega) (by omega) (by omega)
      · cases h
    · cases h
  · rename_i idx mn cis hxc
    split at h
    · rename_i q hq
      split at h
      · rename_i hn
        obtain ⟨o1, c2, s2, ho, hi2, e1, e2⟩ := xe_cont_ok h
        have hlen := hclen _ _ _ _ ho
        obtain ⟨⟨q', hq', w1, w2⟩, hidx⟩ := xc_ok hxc
        cases hq.symm.trans hq'
        dsimp only at hidx w1
        subst hidx
        obtain ⟨g1, g2, g3, g4, g5, g6, g7, g8, g9⟩ := xm_ok hq
        refine xe_sized fun hz => ?_
        have hsz' := xe_size hsz hz hS.1 hB hP
        refine xe_call (va_runSN (As := (st.take q.2.2.2.2).reverse.map (xe_cv b B xs)) (rest := (st.drop q.2.2.2.2).map (xe_cv b B xs)) ⟨hx, hb, hml, hown, hts⟩ (hcall _ _ _ _ ho q hq) ⟨va_cnB q.2.2.2.2 hts (xWS_good g2) rfl rfl rfl (hK.2.2.1 _ w1) (hts _ g3) ⟨g4.2.1, g4.2.2, g9⟩ ⟨hRf, by show 8 + (q.1.2.2.1 + 11) + 64 * d ≤ R.locals; omega⟩, hts _ w2, trivial⟩ ⟨xe_blind, fun U hU hW => ⟨rfl, by rw [hU]; exact hsz', by rw [hU]; exact hP, hK.warm hW (fun q z1 z2 => by rw [hU]; exact hS.2.1 q z1 z2)⟩⟩ rfl (by simp [hn.1]) hl.1 (by show st.map (xe_cv b B xs) = _; rw [← List.map_reverse, List.reverse_reverse, ← List.map_append, List.take_append_drop]) (lv_room (by rw [xe_ssum]; exact of_decide_eq_true hn.2)) hd ⟨by omega, by omega⟩) hS (fun H1 locs1 z1 z2 => ?_)
        rw [xe_res]
        exact ih _ _ _ _ _ _ hi2 H1 locs1 _ _ ls hl z1 z2 (by omega) (by omega) (by omega)
      · cases h
    · cases h
  · rename_i idx mn cis hxc
    split at h
    · split at h
      · rename_i hn
        obtain ⟨⟨w1, w2, w3, w4⟩, hidx⟩ := xc_ok hxc
        dsimp only at hidx w1
        subst hidx
        have hr := of_decide_eq_true hn
        exact va_mmax hx hb (hml.trans hl.1.symm) hown (hts _ w1) (hts _ w2) (hts _ w3) (hts _ w4) (by omega) (by rw [xe_ssum]; omega) (by omega) (by omega) hd (ih _ _ _ _ _ _ h H locs cells slots ls hl hS hP hsz hc hs)
      · cases h
    · cases h
  · rename_i idx mn cis hxc
    split at h
    · split at h
      · rename_i hn
        obtain ⟨⟨w1, w2, w3, w4⟩, hidx⟩ := xc_ok hxc
        dsimp only at hidx w1
        subst hidx
        have hr := of_decide_eq_true hn
        exact va_mmin hx hb (hml.trans hl.1.symm) hown (hts _ w1) (hts _ w2) (hts _ w3) (hts _ w4) (by omega) (by rw [xe_ssum]; omega) (by omega) (by omega) hd (ih _ _ _ _ _ _ h H locs cells slots ls hl hS hP hsz hc hs)
      · cases h
    · cases h
  · cases h
set_option maxHeartbeats 4000000 in
theorem xe_callI_ok (hx : p.tables.exec = Jvm.exec) (hb : c.code = cc) (hml : c.maxLocals = nL) (hown : s.vm.findClass (RO oc) = some m.cls) (hts : ∀ w ∈ xWS, w.before args s = true) (hK : xe_K D aC b B s) (hB : B ≤ s.heap.size) (hRf : d + 1 ≤ R.frames) (hRl : 64 * (d + 1) ≤ R.locals) (hmc : mc ≤ R.cells) (hms : ms ≤ R.slots)
    (hclen : ∀ mn as M o, call mn as M = some o → o.2.1.length = M.length + o.2.2.1)
    (hcall : ∀ mn as M o, call mn as M = some o → ∀ q, xm mn = some q → Met l q.2.1 (Cond.code q.2.1 q.2.2.1 q.1.2.2.1 q.2.2.2.1 :: xWS) (xe_rm d o.2.2.1 o.2.2.2) (xe_Pc D aC b B xs as M) (xe_Qc D aC b B xs o.1 o.2.1) o.2.2.1 o.2.2.2 (xe_A B))
    (ih : ∀ (pc : Nat) (lv : xL) (st : List Value) (M : xM) (c1 s1 : Nat), ihf pc lv st M = some (rF, MF, c1, s1) → ∀ (H : Heap) (locs : List Loc) (cells slots : Nat) (ls : Array Slot), lv_has ls nL (xe_lm b B xs lv) → va_S (xe_A B) s.heap H locs → va_P D vwCl (xe_ws aC (xe_cv b B xs) B M) H → s.heap.size + cells = B + M.length → cells + c1 = mc → slots + s1 = ms → W p l e R s m args below meth c H locs cells slots Q (F0 m pc ls (st.map (xe_cv b B xs))))
    (hl : lv_has ls nL (xe_lm b B xs lv)) (hS : va_S (xe_A B) s.heap H locs) (hP : va_P D vwCl (xe_ws aC (xe_cv b B xs) B M) H) (hsz : s.heap.size + cells = B + M.length) (hc : cells + c1 = mc) (hs : slots + s1 = ms)
    {k : Nat} (hd : decode cc pc = .ok (.invokespecial k, 3)) (h : xe_callI call oc k pc lv st M ihf = some (rF, MF, c1, s1)) : W p l e R s m args below meth c H locs cells slots Q (F0 m pc ls (st.map (xe_cv b B xs))) := by
  unfold xe_callI at h
  rw [xcF_eq] at h
  simp only [xmF_eq, xg_eq] at h
  split at h
  · rename_i idx mn cis hxc
    split at h
    · rename_i q hq
      split at h
      · rename_i a r hst
        split at h
        · rename_i hn
          obtain ⟨o1, c2, s2, ho, hi2, e1, e2⟩ := xe_cont_ok h
          have hlen := hclen _ _ _ _ ho
          obtain ⟨⟨q', hq', w1, w2, w3, w4⟩, hidx⟩ := xc_ok hxc
          cases hq.symm.trans hq'
          dsimp only at hidx w1
          subst hidx
          obtain ⟨g1, g2, g3, g4, g5, g6, g7, g8, g9⟩ := xm_ok hq
          have hM := hcall _ _ _ _ ho q hq
          rw [w4] at hM g2
          have hlt : q.2.2.2.2 < st.length := Nat.lt_of_not_le fun z => by rw [List.drop_eq_nil_of_le z] at hst; cases hst
          refine xe_sized fun hz => ?_
          have hsz' := xe_size hsz hz hS.1 hB hP
          refine xe_call (va_runI (b := B + a) (As := (st.take q.2.2.2.2).reverse.map (xe_cv b B xs)) (rest := r.map (xe_cv b B xs)) ⟨hx, hb, hml, hown, hts⟩ hM ⟨callB_of q.2.2.2.2 hts (xWS_good g2) rfl rfl rfl (hts _ g3) (hts _ w1) ⟨g4.2.1, g4.2.2, g9⟩ ⟨hRf, by show 8 + (q.1.2.2.1 + 11) + 64 * d ≤ R.locals; omega⟩, w3, hts _ w2⟩ ⟨xe_blind, fun U hU hW => ⟨rfl, by rw [hU]; exact hsz', by rw [hU]; exact hP, hK.warm hW (fun q z1 z2 => by rw [hU]; exact hS.2.1 q z1 z2)⟩⟩ rfl (by simp; omega) hl.1 (by show st.map (xe_cv b B xs) = _; rw [← List.map_reverse, List.reverse_reverse, show (Value.ref (B + a) :: r.map (xe_cv b B xs)) = (Value.ref a :: r).map (xe_cv b B xs) from rfl, ← hst, ← List.map_append, List.take_append_drop]) (lv_room (by rw [xe_ssum]; exact of_decide_eq_true hn)) hd ⟨by omega, by omega⟩) hS (fun H1 locs1 z1 z2 => ?_)
          rw [xe_res]
          exact ih _ _ _ _ _ _ hi2 H1 locs1 _ _ ls hl z1 z2 (by omega) (by omega) (by omega)
        · cases h
      · cases h
    · cases h
  · rename_i idx mn cis hxc
    split at h
    · rename_i q hq
      split at h
      · rename_i a r hst
        split at h
        · rename_i hn
          obtain ⟨o1, c2, s2, ho, hi2, e1, e2⟩ := xe_cont_ok h
          have hlen := hclen _ _ _ _ ho
          obtain ⟨⟨q', hq', w1, w2, w3, w4⟩, hidx⟩ := xc_ok hxc
          cases hq.symm.trans hq'
          dsimp only at hidx w1
          subst hidx
          obtain ⟨g1, g2, g3, g4, g5, g6, g7, g8, g9⟩ := xm_ok hq
          have hM := hcall _ _ _ _ ho q hq
          rw [w4] at hM g2
          have hlt : q.2.2.2.2 < st.length := Nat.lt_of_not_le fun z => by rw [List.drop_eq_nil_of_le z] at hst; cases hst
          refine xe_sized fun hz => ?_
          have hsz' := xe_size hsz hz hS.1 hB hP
          refine xe_call (va_runIN (b := B + a) (As := (st.take q.2.2.2.2).reverse.map (xe_cv b B xs)) (rest := r.map (xe_cv b B xs)) ⟨hx, hb, hml, hown, hts⟩ hM ⟨va_cnB q.2.2.2.2 hts (xWS_good g2) rfl rfl rfl (hK.2.2.1 _ w1) (hts _ g3) ⟨g4.2.1, g4.2.2, g9⟩ ⟨hRf, by show 8 + (q.1.2.2.1 + 11) + 64 * d ≤ R.locals; omega⟩, w3, hts _ w2⟩ ⟨xe_blind, fun U hU hW => ⟨rfl, by rw [hU]; exact hsz', by rw [hU]; exact hP, hK.warm hW (fun q z1 z2 => by rw [hU]; exact hS.2.1 q z1 z2)⟩⟩ rfl (by simp; omega) hl.1 (by show st.map (xe_cv b B xs) = _; rw [← List.map_reverse, List.reverse_reverse, show (Value.ref (B + a) :: r.map (xe_cv b B xs)) = (Value.ref a :: r).map (xe_cv b B xs) from rfl, ← hst, ← List.map_append, List.take_append_drop]) (lv_room (by rw [xe_ssum]; exact of_decide_eq_true hn)) hd ⟨by omega, by omega⟩) hS (fun H1 locs1 z1 z2 => ?_)
          rw [xe_res]
          exact ih _ _ _ _ _ _ hi2 H1 locs1 _ _ ls hl z1 z2 (by omega) (by omega) (by omega)
        · cases h
      · cases h
    · cases h
  · rename_i idx mn cis hxc
    split at h
    · rename_i q hq
      split at h
      · rename_i a r hst
        split at h
        · rename_i q0 hq0
          obtain ⟨ci, fs⟩ := q0
          split at h
          · rename_i hn
            obtain ⟨o1, c2, s2, ho, hi2, e1, e2⟩ := xe_cont_ok h
            have hlen := hclen _ _ _ _ ho
            obtain ⟨⟨q', hq', w1, w2, w3, w4, w5⟩, hidx⟩ := xc_ok hxc
            cases hq.symm.trans hq'
            dsimp only at hidx w1 w3
            subst hidx
            obtain ⟨g1, g2, g3, g4, g5, g6, g7, g8, g9⟩ := xm_ok hq
            have hlt : q.2.2.2.2 < st.length := Nat.lt_of_not_le fun z => by rw [List.drop_eq_nil_of_le z] at hst; cases hst
            have hw := xe_ws_get (aC := aC) (cv := xe_cv b B xs) (B := B) hq0
            rw [xe_el_obj hn.1] at hw
            obtain ⟨C, T, N, hC⟩ : ∃ C T N, vwCl[ci]? = some (C, T, N) := ⟨_, _, _, List.getElem?_eq_getElem (show ci < vwCl.length from hn.1)⟩
            refine xe_sized fun hz => ?_
            have hsz' := xe_size hsz hz hS.1 hB hP
            refine xe_call (va_runSU (C := C) (b := B + a) (As := (st.take q.2.2.2.2).reverse.map (xe_cv b B xs)) (rest := r.map (xe_cv b B xs)) (hK.1.1 ci _ hC).2 ⟨hx, hb, hml, hown, hts⟩ (hcall _ _ _ _ ho q hq) ⟨⟨rfl, rfl, hRf, by show 8 + (q.1.2.2.1 + 11) + 64 * d ≤ R.locals; omega, pay_in hts (xWS_good g2), List.mem_cons_self⟩, hts _ w1, hts _ w2, hts _ w3, hts _ w4, hts _ g3, hts _ g2, w5, fun sig z => by rw [z] at g9; exact (Option.some.inj g9).symm⟩ ⟨xe_blind, va_recv hK.1 hP hC hw, fun U hU hW => ⟨rfl, by rw [hU]; exact hsz', by rw [hU]; exact hP, hK.warm hW (fun q z1 z2 => by rw [hU]; exact hS.2.1 q z1 z2)⟩⟩ rfl (by simp; omega) hl.1 (by show st.map (xe_cv b B xs) = _; rw [← List.map_reverse, List.reverse_reverse, show (Value.ref (B + a) :: r.map (xe_cv b B xs)) = (Value.ref a :: r).map (xe_cv b B xs) from rfl, ← hst, ← List.map_append, List.take_append_drop]) (lv_room (by rw [xe_ssum]; exact of_decide_eq_true hn.2)) hd ⟨by omega, by omega⟩) hS (fun H1 locs1 z1 z2 => ?_)
            rw [xe_res]
            exact ih _ _ _ _ _ _ hi2 H1 locs1 _ _ ls hl z1 z2 (by omega) (by omega) (by omega)
          · cases h
        · cases h
      · cases h
    · cases h
  · rename_i idx mn cis hxc
    split at h
    · rename_i a r
      split at h
      · rename_i hn
        obtain ⟨⟨w1, w2, w3⟩, hidx⟩ := xc_ok hxc
        dsimp only at hidx w1
        subst hidx
        have hsum : ((r.map (xe_cv b B xs)).map fun v => v.category).sum ≤ 8 := by rw [xe_ssum]; exact of_decide_eq_true hn
        have hroom : 2 * (F0 m pc ls (Value.ref (B + a) :: r.map (xe_cv b B xs))).monitorRoom + ((r.map (xe_cv b B xs)).map fun v => v.category).sum ≤ 8 := lv_room hsum
        exact W.objInit (a := B + a) (rest := r.map (xe_cv b B xs)) hx hb hown (hts _ w1) (hts _ w2) (hts _ w3) rfl (hl.1.trans hml.symm) rfl hd (by omega) (Nat.le_trans (Nat.add_le_add_right hroom 12) (by omega)) (ih _ _ _ _ _ _ h H locs cells slots ls hl hS hP hsz hc hs)
      · cases h
    · cases h
  · cases h
set_option maxHeartbeats 4000000 in
theorem xe_callV_ok (hx : p.tables.exec = Jvm.exec) (hb : c.code = cc) (hml : c.maxLocals = nL) (hown : s.vm.findClass (RO oc) = some m.cls) (hts : ∀ w ∈ xWS, w.before args s = true) (hK : xe_K D aC b B s) (hB : B ≤ s.heap.size) (hRf : d + 1 ≤ R.frames) (hRl : 64 * (d + 1) ≤ R.locals) (hmc : mc ≤ R.cells) (hms : ms ≤ R.slots)
    (hclen : ∀ mn as M o, call mn as M = some o → o.2.1.length = M.length + o.2.2.1)
    (hcall : ∀ mn as M o, call mn as M = some o → ∀ q, xm mn = some q → Met l q.2.1 (Cond.code q.2.1 q.2.2.1 q.1.2.2.1 q.2.2.2.1 :: xWS) (xe_rm d o.2.2.1 o.2.2.2) (xe_Pc D aC b B xs as M) (xe_Qc D aC b B xs o.1 o.2.1) o.2.2.1 o.2.2.2 (xe_A B))
    (ih : ∀ (pc : Nat) (lv : xL) (st : List Value) (M : xM) (c1 s1 : Nat), ihf pc lv st M = some (rF, MF, c1, s1) → ∀ (H : Heap) (locs : List Loc) (cells slots : Nat) (ls : Array Slot), lv_has ls nL (xe_lm b B xs lv) → va_S (xe_A B) s.heap H locs → va_P D vwCl (xe_ws aC (xe_cv b B xs) B M) H → s.heap.size + cells = B + M.length → cells + c1 = mc → slots + s1 = ms → W p l e R s m args below meth c H locs cells slots Q (F0 m pc ls (st.map (xe_cv b B xs))))
    (hl : lv_has ls nL (xe_lm b B xs lv)) (hS : va_S (xe_A B) s.heap H locs) (hP : va_P D vwCl (xe_ws aC (xe_cv b B xs) B M) H) (hsz : s.heap.size + cells = B + M.length) (hc : cells + c1 = mc) (hs : slots + s1 = ms)
    {k : Nat} (hd : decode cc pc = .ok (.invokevirtual k, 3)) (h : xe_callV call oc k pc lv st M ihf = some (rF, MF, c1, s1)) : W p l e R s m args below meth c H locs cells slots Q (F0 m pc ls (st.map (xe_cv b B xs))) := by
  unfold xe_callV at h
  rw [xcF_eq] at h
  simp only [xmF_eq, xg_eq, xfd_eq] at h
  split at h
  · rename_i idx n rs hxc
    split at h
    · rename_i a r hst
      split at h
      · rename_i q0 hq0
        obtain ⟨ci, fs⟩ := q0
        split at h
        · rename_i e0 he0
          split at h
          · rename_i q hq
            split at h
            · rename_i hn
              obtain ⟨hci, hnn, hsum⟩ := hn
              obtain ⟨o1, c2, s2, ho, hi2, e1, e2⟩ := xe_cont_ok h
              have hlen := hclen _ _ _ _ ho
              obtain ⟨hG, hidx⟩ := xc_ok hxc
              dsimp only at hidx
              subst hidx
              obtain ⟨C, T, N, q', v1, hq', w1, w2, hor⟩ := hG e0 (List.mem_of_find?_eq_some he0)
              cases hq.symm.trans hq'
              have hr0 : e0.1 = ci := by simpa using List.find?_some he0
              rw [hr0] at v1
              obtain ⟨g1, g2, g3, g4, g5, g6, g7, g8, g9⟩ := xm_ok hq
              have hlt : n < st.length := Nat.lt_of_not_le fun z => by rw [List.drop_eq_nil_of_le z] at hst; cases hst
              have hw := xe_ws_get (aC := aC) (cv := xe_cv b B xs) (B := B) hq0
              rw [xe_el_obj hci] at hw
              refine xe_sized fun hz => ?_
              have hsz' := xe_size hsz hz hS.1 hB hP
              have hpre : PreV s H C (B + a) (xe_Pc D aC b B xs (.ref a :: (st.take n).reverse) M) ((st.take n).reverse.map (xe_cv b B xs)) := ⟨xe_blind, va_recv hK.1 hP v1 hw, fun U hU hW => ⟨rfl, by rw [hU]; exact hsz', by rw [hU]; exact hP, hK.warm hW (fun q z1 z2 => by rw [hU]; exact hS.2.1 q z1 z2)⟩⟩
              have hroom : 8 + (q.1.2.2.1 + 11) + (xe_rm d o1.2.2.1 o1.2.2.2).locals ≤ R.locals := by show 8 + (q.1.2.2.1 + 11) + 64 * d ≤ R.locals; omega
              have hstk : st.map (xe_cv b B xs) = ((st.take n).reverse.map (xe_cv b B xs)).reverse ++ Value.ref (B + a) :: r.map (xe_cv b B xs) := by rw [← List.map_reverse, List.reverse_reverse, show (Value.ref (B + a) :: r.map (xe_cv b B xs)) = (Value.ref a :: r).map (xe_cv b B xs) from rfl, ← hst, ← List.map_append, List.take_append_drop]
              have hal : ((st.take n).reverse.map (xe_cv b B xs)).length = q.2.2.2.2 := by simp; omega
              have kk : ∀ (H1 : Heap) (locs1 : List Loc), va_S (xe_A B) s.heap H1 locs1 → va_P D vwCl (xe_ws aC (xe_cv b B xs) B o1.2.1) H1 → W p l e R s m args below meth c H1 locs1 (cells + o1.2.2.1) (slots + o1.2.2.2) Q (F0 m (pc + 3) ls ((o1.1.map (xe_cv b B xs)).toList ++ r.map (xe_cv b B xs))) := fun H1 locs1 z1 z2 => by
                rw [xe_res]
                exact ih _ _ _ _ _ _ hi2 H1 locs1 _ _ ls hl z1 z2 (by omega) (by omega) (by omega)
              rcases hor with ⟨x1, x2⟩ | ⟨x, owner, x1, x2, x3, x4, x5, x6⟩
              · dsimp only at x1
                exact xe_call (va_runV (C := C) (b := B + a) (As := (st.take n).reverse.map (xe_cv b B xs)) (rest := r.map (xe_cv b B xs)) ⟨hx, hb, hml, hown, hts⟩ (hcall _ _ _ _ ho q hq) ⟨callB_of q.2.2.2.2 hts (xWS_good g2) rfl rfl rfl (hts _ g3) (hts _ x1) ⟨g4.2.1, g4.2.2, g9⟩ ⟨hRf, hroom⟩, hts _ w1, hts _ x2⟩ hpre rfl hal hl.1 hstk (lv_room (by rw [xe_ssum]; exact of_decide_eq_true hsum)) hd ⟨by omega, by omega⟩) hS kk
              · dsimp only at x1
                have hdecl : va_Decl s ⟨owner, x.name, x.desc⟩ := by
                  rcases x5 with ⟨y1, bb, mm, rr, y2⟩ | y1
                  · exact va_Decl.of (hts _ y1) (hts _ y2)
                  · exact va_Decl.abs (hK.2.2.1 _ y1)
                exact xe_call (va_runU (C := C) (x := x) (owner := owner) (b := B + a) (As := (st.take n).reverse.map (xe_cv b B xs)) (rest := r.map (xe_cv b B xs)) ⟨hx, hb, hml, hown, hts⟩ (hcall _ _ _ _ ho q hq) ⟨⟨rfl, rfl, hRf, hroom, pay_in hts (xWS_good g2), List.mem_cons_self⟩, hts _ g2, hts _ g3, x3, fun sig z => by rw [z] at x4; exact (Option.some.inj x4).symm, hts _ x1, hts _ x2, hdecl, hts _ x6, hts _ w1⟩ hpre rfl hal hl.1 hstk (lv_room (by rw [xe_ssum]; exact of_decide_eq_true hsum)) hd ⟨by omega, by omega⟩) hS kk
            · cases h
          · cases h
        · cases h
      · cases h
    · cases h
  · cases h
set_option maxHeartbeats 4000000 in
theorem xe_step3_ok (hx : p.tables.exec = Jvm.exec) (hb : c.code = cc) (hml : c.maxLocals = nL) (hown : s.vm.findClass (RO oc) = some m.cls) (hts : ∀ w ∈ xWS, w.before args s = true) (hK : xe_K D aC b B s) (hB : B ≤ s.heap.size) (hRf : d + 1 ≤ R.frames) (hRl : 64 * (d + 1) ≤ R.locals) (hmc : mc ≤ R.cells) (hms : ms ≤ R.slots)
    (hclen0 : ∀ mn as M o, call0 mn as M = some o → o.2.1.length = M.length + o.2.2.1)
    (hclen : ∀ mn as M o, call mn as M = some o → o.2.1.length = M.length + o.2.2.1)
    (hcall0 : ∀ mn as M o, call0 mn as M = some o → ∀ q, xm mn = some q → Met l q.2.1 (Cond.code q.2.1 q.2.2.1 q.1.2.2.1 q.2.2.2.1 :: xWS) (xe_rm d o.2.2.1 o.2.2.2) (xe_Pc D aC b B xs as M) (xe_Qc D aC b B xs o.1 o.2.1) o.2.2.1 o.2.2.2 (xe_A B))
    (hcall : ∀ mn as M o, call mn as M = some o → ∀ q, xm mn = some q → Met l q.2.1 (Cond.code q.2.1 q.2.2.1 q.1.2.2.1 q.2.2.2.1 :: xWS) (xe_rm d o.2.2.1 o.2.2.2) (xe_Pc D aC b B xs as M) (xe_Qc D aC b B xs o.1 o.2.1) o.2.2.1 o.2.2.2 (xe_A B))
    (hend : ∀ (i : Instr) (pc : Nat) (ls : Array Slot) (H : Heap) (locs : List Loc), xe_isret rt i rF = true → decode cc pc = .ok (i, 1) → va_S (xe_A B) s.heap H locs → va_P D vwCl (xe_ws aC (xe_cv b B xs) B MF) H → W p l e R s m args below meth c H locs mc ms Q (F0 m pc ls (rF.map (xe_cv b B xs)).toList))
    (ih : ∀ (pc : Nat) (lv : xL) (st : List Value) (M : xM) (c1 s1 : Nat), ihf pc lv st M = some (rF, MF, c1, s1) → ∀ (H : Heap) (locs : List Loc) (cells slots : Nat) (ls : Array Slot), lv_has ls nL (xe_lm b B xs lv) → va_S (xe_A B) s.heap H locs → va_P D vwCl (xe_ws aC (xe_cv b B xs) B M) H → s.heap.size + cells = B + M.length → cells + c1 = mc → slots + s1 = ms → W p l e R s m args below meth c H locs cells slots Q (F0 m pc ls (st.map (xe_cv b B xs))))
    (hl : lv_has ls nL (xe_lm b B xs lv)) (hS : va_S (xe_A B) s.heap H locs) (hP : va_P D vwCl (xe_ws aC (xe_cv b B xs) B M) H) (hsz : s.heap.size + cells = B + M.length) (hc : cells + c1 = mc) (hs : slots + s1 = ms)
    {i : Instr} {len : Nat} (hd : decode cc pc = .ok (i, xe_len i len)) (h : xe_step3 call0 call oc rt i pc lv st M ihf = some (rF, MF, c1, s1)) : W p l e R s m args below meth c H locs cells slots Q (F0 m pc ls (st.map (xe_cv b B xs))) := by
  have hA : ∀ q : Nat, s.heap.size ≤ q → xe_A B q := fun q z => Nat.le_trans hB z
  have fin : ∀ i, xe_len i len = 1 → decode cc pc = .ok (i, xe_len i len) → xe_end rt i st M = some (rF, MF, c1, s1) → W p l e R s m args below meth c H locs cells slots Q (F0 m pc ls (st.map (xe_cv b B xs))) := by
    intro i h1 hd h
    rw [h1] at hd
    unfold xe_end at h
    split at h
    · split at h
      · rename_i hr
        cases h
        have e1 : cells = mc := by omega
        have e2 : slots = ms := by omega
        subst e1; subst e2
        exact hend i pc ls H locs hr hd hS hP
      · cases h
    · split at h
      · rename_i hr
        cases h
        have e1 : cells = mc := by omega
        have e2 : slots = ms := by omega
        subst e1; subst e2
        exact hend i pc ls H locs hr hd hS hP
      · cases h
    · cases h
  unfold xe_step3 at h
  split at h
  · unfold xd_new at h
    simp only [xln_eq] at h
    split at h
    · rename_i e0 he0
      split at h
      · rename_i hpl
        obtain ⟨c2, s2, hi2, e1, e2⟩ := xe_made_ok h
        obtain ⟨⟨C, T, N, ty, h1, h2, h3, h4, h5, h6, h7⟩, hidx⟩ := xn_ok he0
        subst hidx
        refine va_new (ci := e0.2.1) (fs := e0.2.2) hx hb hts (xcl_ok _ _ _ _ h1).1 ty h5 hown (hts _ h2) (hts _ h3) (hts _ h4) hK.1 hP xe_ws_D hS hA h1 h6 (by omega) (by omega) hd (fun q H1 z1 z2 z3 => xe_sized fun hz => ?_)
        have hq := xe_newad hsz hz z1 z2
        subst hq
        have e9 : (.inr (e0.2.1, e0.2.2) : va_E) = xe_el aC (xe_cv b B xs) (e0.2.1, e0.2.2) := by rw [xe_el_obj (xe_ci h1), xe_plain_cv hpl]
        rw [e9, xe_ws_app] at z1
        exact ih _ _ _ _ _ _ hi2 H1 locs _ _ ls hl z3 z1 (by rw [List.length_append]; simp; omega) (by omega) (by omega)
      · cases h
    · cases h
  · unfold xd_newarray at h
    simp only [xln_eq] at h
    split at h
    · rename_i n r
      split at h
      · rename_i hn
        obtain ⟨c2, s2, hi2, e1, e2⟩ := xe_made_ok h
        refine va_newa (atype := .int) (ty := .int) (a0 := (n.toNatClampNeg, .inl (fun _ => 0))) hx hb (hts _ xai) rfl hK.1 hP xe_ws_D hS hA (fun _ => rfl) hn.1 rfl (by show n.toNatClampNeg * 4 ≤ 536870912; omega) (by omega) (by omega) hd (fun q cA H1 z0 z1 z2 z3 => xe_sized fun hz => ?_)
        have hq := xe_newad hsz hz z1 z2
        subst hq
        have ec : cA = aC 0 := Option.some.inj ((z0.2 4 _ rfl).2.symm.trans (hK.1.2 0 _ rfl).2)
        subst ec
        rw [xe_zeros aC b B xs, xe_ws_app] at z1
        exact ih _ _ _ _ _ _ hi2 H1 locs _ _ ls hl z3 z1 (by rw [List.length_append]; simp; omega) (by omega) (by omega)
      · cases h
    · cases h
  · unfold xd_anewarray at h
    simp only [xln_eq] at h
    split at h
    · rename_i e0 he0
      split at h
      · rename_i n r
        split at h
        · rename_i hn
          obtain ⟨c2, s2, hi2, e1, e2⟩ := xe_made_ok h
          obtain ⟨⟨C, h1, h2⟩, hidx⟩ := xa_ok he0
          subst hidx
          have hao : va_AO C s ∧ ∀ cA, va_K D vwCl (xe_ty aC ++ [(cA, .object C)]) s → cA = aC (e0.2 + 1) := by
            obtain ⟨i0, t0⟩ := e0
            match t0, h1 with
            | 0, h1 => cases h1; exact ⟨hK.2.1.1, fun cA z0 => by
                obtain ⟨_, _, _, _, _, f1⟩ := (z0.2 4 _ rfl).2
                obtain ⟨_, _, _, _, _, f2⟩ := (hK.1.2 1 _ rfl).2
                exact Option.some.inj (f1.symm.trans f2)⟩
            | 1, h1 => cases h1; exact ⟨hK.2.1.2.1, fun cA z0 => by
                obtain ⟨_, _, _, _, _, f1⟩ := (z0.2 4 _ rfl).2
                obtain ⟨_, _, _, _, _, f2⟩ := (hK.1.2 2 _ rfl).2
                exact Option.some.inj (f1.symm.trans f2)⟩
            | 2, h1 => cases h1; exact ⟨hK.2.1.2.2, fun cA z0 => by
                obtain ⟨_, _, _, _, _, f1⟩ := (z0.2 4 _ rfl).2
                obtain ⟨_, _, _, _, _, f2⟩ := (hK.1.2 3 _ rfl).2
                exact Option.some.inj (f1.symm.trans f2)⟩
            | _ + 3, h1 => cases h1
          refine va_newq hx hb hown (hts _ h2) hao.1 hK.1 hP xe_ws_D hS hA hn.1 rfl (by omega) (by omega) (by omega) hd (fun q cA H1 z0 z1 z2 z3 => xe_sized fun hz => ?_)
          have hq := xe_newad hsz hz z1 z2
          subst hq
          have ec := hao.2 cA z0
          subst ec
          rw [xe_nulls aC b B xs, xe_ws_app] at z1
          exact ih _ _ _ _ _ _ hi2 H1 locs _ _ ls hl z3 z1 (by rw [List.length_append]; simp; omega) (by omega) (by omega)
        · cases h
      · cases h
    · cases h
  · unfold xd_invokestatic at h
    exact xe_callS_ok hx hb hml hown hts hK hB hRf hRl hmc hms hclen hcall ih hl hS hP hsz hc hs hd h
  · unfold xd_invokespecial at h
    exact xe_callI_ok hx hb hml hown hts hK hB hRf hRl hmc hms hclen0 hcall0 ih hl hS hP hsz hc hs hd h
  · unfold xd_invokevirtual at h
    exact xe_callV_ok hx hb hml hown hts hK hB hRf hRl hmc hms hclen hcall ih hl hS hP hsz hc hs hd h
  · unfold xd_ireturn at h
    exact fin _ rfl hd h
  · unfold xd_lreturn at h
    exact fin _ rfl hd h
  · unfold xd_areturn at h
    exact fin _ rfl hd h
  · unfold xd_return_ at h
    exact fin _ rfl hd h
  · cases h
set_option maxHeartbeats 4000000 in
theorem xe_run_ok {iv : List (Int32 × Int32)} {a6 : Option Int32} {tb : xI} {ini : Bool} {sc : Option (List Value)} (hx : p.tables.exec = Jvm.exec) (hb : c.code = cc) (hml : c.maxLocals = nL) (hown : s.vm.findClass (RO oc) = some m.cls) (hts : ∀ w ∈ xWS, w.before args s = true) (hK : xe_K D aC b B s) (hB : B ≤ s.heap.size) (hRf : d + 1 ≤ R.frames) (hRl : 64 * (d + 1) ≤ R.locals) (hmc : mc ≤ R.cells) (hms : ms ≤ R.slots)
    (hi : xe_in iv xs) (h6 : ∀ v, a6 = some v → xs 0 &&& 63 = v) (htb : xe_ok cc tb = true) (hin : ini = true → meth.name = "<init>") (hsc : ∀ vs, sc = some vs → va_X (b 0) vs.length (fun j => xe_iof (xe_cv b B xs (vs.getD j .null))) s s.heap ∧ b 0 < s.heap.size ∧ b 0 < B)
    (hclen0 : ∀ mn as M o, call0 mn as M = some o → o.2.1.length = M.length + o.2.2.1)
    (hclen : ∀ mn as M o, call mn as M = some o → o.2.1.length = M.length + o.2.2.1)
    (hcall0 : ∀ mn as M o, call0 mn as M = some o → ∀ q, xm mn = some q → Met l q.2.1 (Cond.code q.2.1 q.2.2.1 q.1.2.2.1 q.2.2.2.1 :: xWS) (xe_rm d o.2.2.1 o.2.2.2) (xe_Pc D aC b B xs as M) (xe_Qc D aC b B xs o.1 o.2.1) o.2.2.1 o.2.2.2 (xe_A B))
    (hcall : ∀ mn as M o, call mn as M = some o → ∀ q, xm mn = some q → Met l q.2.1 (Cond.code q.2.1 q.2.2.1 q.1.2.2.1 q.2.2.2.1 :: xWS) (xe_rm d o.2.2.1 o.2.2.2) (xe_Pc D aC b B xs as M) (xe_Qc D aC b B xs o.1 o.2.1) o.2.2.1 o.2.2.2 (xe_A B))
    (hend : ∀ (i : Instr) (pc : Nat) (ls : Array Slot) (H : Heap) (locs : List Loc), xe_isret rt i rF = true → decode cc pc = .ok (i, 1) → va_S (xe_A B) s.heap H locs → va_P D vwCl (xe_ws aC (xe_cv b B xs) B MF) H → W p l e R s m args below meth c H locs mc ms Q (F0 m pc ls (rF.map (xe_cv b B xs)).toList)) :
    ∀ (n pc : Nat) (lv : xL) (st : List Value) (M : xM) (c1 s1 : Nat), xe_run iv a6 sc call0 call tb oc nL rt ini n pc lv st M = some (rF, MF, c1, s1) → ∀ (H : Heap) (locs : List Loc) (cells slots : Nat) (ls : Array Slot), lv_has ls nL (xe_lm b B xs lv) → va_S (xe_A B) s.heap H locs → va_P D vwCl (xe_ws aC (xe_cv b B xs) B M) H → s.heap.size + cells = B + M.length → cells + c1 = mc → slots + s1 = ms → W p l e R s m args below meth c H locs cells slots Q (F0 m pc ls (st.map (xe_cv b B xs))) := by
  intro n
  induction n with
  | zero =>
    intro pc lv st M c1 s1 h
    cases h
  | succ n ih =>
    intro pc lv st M c1 s1 h H locs cells slots ls hl hS hP hsz hc hs
    have h : xe_body iv a6 sc call0 call tb oc nL rt ini (xe_run iv a6 sc call0 call tb oc nL rt ini n) pc lv st M = some (rF, MF, c1, s1) := h
    unfold xe_body at h
    rw [xe_lkF_eq] at h
    split at h
    · cases h
    · rename_i q hq
      obtain ⟨i, len⟩ := q
      have hd := xe_ok_lk htb hq
      split at h
      · rename_i f hf
        exact xe_step1_ok hx hb hown hts hi h6 hd hl hf (fun ls' hl' => ih _ _ _ _ _ _ h H locs cells slots ls' hl' hS hP hsz hc hs)
      · split at h
        · rename_i g hg
          exact xe_step2_ok hx hb hown hts hK hin hsc hS hP hd hg (fun H' locs' e1 e2 hS' hP' => ih _ _ _ _ _ _ h H' locs' cells slots ls (by rw [e1]; exact hl) hS' hP' (by rw [e2]; exact hsz) hc hs)
        · exact xe_step3_ok hx hb hml hown hts hK hB hRf hRl hmc hms hclen0 hclen hcall0 hcall hend ih hl hS hP hsz hc hs hd h
end
