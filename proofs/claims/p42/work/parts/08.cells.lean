/-! cells: what the pure machine's memory means, and the instructions that read and write it -/
def xe_iof (v : Value) : Int32 := match v with
  | .int x => x
  | _ => 0
def xe_rof (v : Value) : Option Nat := match v with
  | .ref a => some a
  | _ => none
def xe_el (aC : Nat → ClassId) (cv : Value → Value) (q : xC) : va_E :=
  if q.1 < 12 then .inr (q.1, q.2.map cv)
  else if q.1 = 12 then .inl (aC 0, q.2.length, .inl (fun j => xe_iof (cv (q.2.getD j .null))))
  else .inl (aC (q.1 - 12), q.2.length, .inr (.inr (.inr (.inr (fun j => xe_rof (cv (q.2.getD j .null)))))))
def xe_ws (aC : Nat → ClassId) (cv : Value → Value) (B : Nat) (M : xM) : va_W := M.mapIdx (fun k q => (B + k, xe_el aC cv q))
def xe_ty (aC : Nat → ClassId) : List (ClassId × FieldType) := [(aC 0, .int), (aC 1, .object RX0), (aC 2, .object RX2), (aC 3, .object RX7)]
abbrev xe_A (B : Nat) : Nat → Prop := fun q => B ≤ q
/-- the static row of letters -/
def xLet : List Value := [.int 103, .int 108, .int 116, .int 111, .int 105, .int 102]
def xe_K (D : va_G) (aC : Nat → ClassId) (b : Nat → Nat) (B : Nat) (U : State) : Prop := va_K D vwCl (xe_ty aC) U ∧ (va_AO RX0 U ∧ va_AO RX2 U ∧ va_AO RX7 U) ∧ (∀ w ∈ xnw, va_Nw w U) ∧ va_Z RX11 "KIND_LETTERS" "[I" (.ref (b 1)) (xe_A B) U U.heap ∧ va_T .int (b 1) 6 (fun j => xLet.getD j .null) (xe_A B) U U.heap
section
variable {aC : Nat → ClassId} {cv : Value → Value} {B : Nat} {M : xM}
theorem xe_ws_get {k : Nat} {q : xC} (h : M[k]? = some q) : (xe_ws aC cv B M)[k]? = some (B + k, xe_el aC cv q) := by
  rw [xe_ws, List.getElem?_mapIdx, h]
  rfl
theorem xe_ws_inv {k : Nat} {x : Nat × va_E} (h : (xe_ws aC cv B M)[k]? = some x) : k < M.length ∧ x.1 = B + k := by
  rw [xe_ws, List.getElem?_mapIdx] at h
  cases hk : M[k]? with
  | none => rw [hk] at h; cases h
  | some q =>
    rw [hk] at h
    cases h
    exact ⟨(List.getElem?_eq_some_iff.mp hk).1, rfl⟩
theorem xe_ws_set (k : Nat) (q : xC) : (xe_ws aC cv B M).set k (B + k, xe_el aC cv q) = xe_ws aC cv B (M.set k q) := by
  apply List.ext_getElem?
  intro j
  rw [List.getElem?_set, xe_ws, xe_ws, List.getElem?_mapIdx, List.getElem?_mapIdx, List.getElem?_set, List.length_mapIdx]
  by_cases h : k = j
  · subst h
    simp only [if_true]
    by_cases h2 : k < M.length
    · simp [h2]
    · simp [h2]
  · simp [h]
theorem xe_ws_app (q : xC) : xe_ws aC cv B M ++ [(B + M.length, xe_el aC cv q)] = xe_ws aC cv B (M ++ [q]) := by
  simp [xe_ws, List.mapIdx_append]
theorem xe_ws_D : va_D (xe_A B) (xe_ws aC cv B M) := by
  refine ⟨fun i j p q hi hj e => ?_, fun k q hk => ?_⟩
  · have h1 := (xe_ws_inv hi).2
    have h2 := (xe_ws_inv hj).2
    omega
  · have h1 := (xe_ws_inv hk).2
    show B ≤ q.1
    omega
theorem xe_el_obj {ci : Nat} {fs : List Value} (h : ci < 12) : xe_el aC cv (ci, fs) = .inr (ci, fs.map cv) := by
  unfold xe_el
  rw [if_pos h]
theorem xe_el_int {vs : List Value} : xe_el aC cv (12, vs) = .inl (aC 0, vs.length, .inl (fun j => xe_iof (cv (vs.getD j .null)))) := rfl
theorem xe_el_ref {t : Nat} {vs : List Value} (h : 12 < t) : xe_el aC cv (t, vs) = .inl (aC (t - 12), vs.length, .inr (.inr (.inr (.inr (fun j => xe_rof (cv (vs.getD j .null))))))) := by
  unfold xe_el
  rw [if_neg (by show ¬ t < 12; omega), if_neg (by show ¬ t = 12; omega)]
theorem xe_upd {vs : List Value} {i : Nat} (v : Value) (h : i < vs.length) : upd (fun j => xe_iof (cv (vs.getD j .null))) i (xe_iof (cv v)) = fun j => xe_iof (cv ((vs.set i v).getD j .null)) := by
  funext j
  unfold upd
  by_cases e : j = i
  · subst e
    simp [List.getD_eq_getElem?_getD, List.getElem?_set, h]
  · simp [List.getD_eq_getElem?_getD, List.getElem?_set, e, Ne.symm e]
theorem xe_updR {vs : List Value} {i : Nat} (v : Value) (h : i < vs.length) : va_up (fun j => xe_rof (cv (vs.getD j .null))) i (xe_rof (cv v)) = fun j => xe_rof (cv ((vs.set i v).getD j .null)) := by
  funext j
  unfold va_up
  by_cases e : j = i
  · subst e
    simp [List.getD_eq_getElem?_getD, List.getElem?_set, h]
  · simp [List.getD_eq_getElem?_getD, List.getElem?_set, e, Ne.symm e]
end
def xe_vtag (v : Value) : Nat := match v with
  | .int _ => 0
  | .float _ => 0
  | .long _ => 1
  | .double _ => 1
  | .ref _ => 2
  | .null => 2
  | .retAddr _ => 3
def xe_okst (t ci : Nat) : Bool := match t with
  | 13 => ci == 0
  | 14 => ci == 2
  | 15 => ci == 3 || (ci == 4 || (ci == 5 || (ci == 6 || (ci == 8 || ci == 9))))
  | _ => false
theorem xe_okst_ok {t ci : Nat} (h : xe_okst t ci = true) : (t = 13 ∧ ci = 0) ∨ (t = 14 ∧ ci = 2) ∨ (t = 15 ∧ (ci = 3 ∨ ci = 4 ∨ ci = 5 ∨ ci = 6 ∨ ci = 8 ∨ ci = 9)) := by
  unfold xe_okst at h
  split at h
  · exact Or.inl ⟨rfl, by simpa using h⟩
  · exact Or.inr (Or.inl ⟨rfl, by simpa using h⟩)
  · exact Or.inr (Or.inr ⟨rfl, by simpa using h⟩)
  · cases h
def xe_isN (v : Value) : Bool := match v with
  | .ref _ => true
  | .null => true
  | _ => false
noncomputable def xb_getfield (k : Nat) (oc : Nat) (pc : Nat) (lv : xL) (st : List Value) (M : xM) : Option (xF × xM) := match st with
  | .ref a :: r => match xg M a with
    | some q => match xfF oc k with
      | some e => if q.1 < 12 ∧ e.2.2.2.2.contains q.1 = true then match xg q.2 e.2.1 with
          | some v => some ((pc + 3, lv, v :: r), M)
          | none => none
        else none
      | none => none
    | none => none
  | _ => none
noncomputable def xb_putfield (k : Nat) (oc : Nat) (ini : Bool) (pc : Nat) (lv : xL) (st : List Value) (M : xM) : Option (xF × xM) := match st with
  | v :: .ref a :: r => match xg M a with
    | some q => match xfF oc k with
      | some e => if (q.1 < 12 ∧ e.2.2.2.2.contains q.1 = true) ∧ (xe_vtag v = e.2.2.1 ∧ (e.2.2.2.1 = true → ini = true) ∧ e.2.2.1 < 3) ∧ e.2.1 < xln q.2 then some ((pc + 3, lv, r), xse M a (q.1, xse q.2 e.2.1 v)) else none
      | none => none
    | none => none
  | _ => none
noncomputable def xb_iaload  (sc : Option (List Value)) (pc : Nat) (lv : xL) (st : List Value) (M : xM) : Option (xF × xM) := match st with
  | .int j :: .ref a :: r => match xg M a with
    | some q => if q.1 = 12 ∧ ¬ xlt j 0 = true then match xg q.2 j.toNatClampNeg with
        | some v => if xe_isI v = true then some ((pc + 1, lv, v :: r), M) else none
        | none => none
      else none
    | none => none
  | .int j :: .retAddr 0 :: r => match sc with
    | some vs => if ¬ xlt j 0 = true then match xg vs j.toNatClampNeg with
        | some v => if xe_isI v = true then some ((pc + 1, lv, v :: r), M) else none
        | none => none
      else none
    | none => none
  | .int j :: .retAddr 1 :: r => if ¬ xlt j 0 = true then match xg xLet j.toNatClampNeg with
      | some v => some ((pc + 1, lv, v :: r), M)
      | none => none
    else none
  | _ => none
noncomputable def xb_iastore  (pc : Nat) (lv : xL) (st : List Value) (M : xM) : Option (xF × xM) := match st with
  | v :: .int j :: .ref a :: r => match xg M a with
    | some q => if q.1 = 12 ∧ xe_isI v = true ∧ ¬ xlt j 0 = true ∧ j.toNatClampNeg < xln q.2 then some ((pc + 1, lv, r), xse M a (12, xse q.2 j.toNatClampNeg v)) else none
    | none => none
  | _ => none
noncomputable def xb_aaload  (pc : Nat) (lv : xL) (st : List Value) (M : xM) : Option (xF × xM) := match st with
  | .int j :: .ref a :: r => match xg M a with
    | some q => if (12 < q.1 ∧ q.1 < 16) ∧ ¬ xlt j 0 = true then match xg q.2 j.toNatClampNeg with
        | some v => if xe_isN v = true then some ((pc + 1, lv, v :: r), M) else none
        | none => none
      else none
    | none => none
  | _ => none
noncomputable def xb_aastore  (pc : Nat) (lv : xL) (st : List Value) (M : xM) : Option (xF × xM) := match st with
  | .ref o :: .int j :: .ref a :: r => match xg M a with
    | some q => match xg M o with
      | some q' => if xe_okst q.1 q'.1 = true ∧ ¬ xlt j 0 = true ∧ j.toNatClampNeg < xln q.2 then some ((pc + 1, lv, r), xse M a (q.1, xse q.2 j.toNatClampNeg (.ref o))) else none
      | none => none
    | none => none
  | _ => none
noncomputable def xb_arraylength  (sc : Option (List Value)) (pc : Nat) (lv : xL) (st : List Value) (M : xM) : Option (xF × xM) := match st with
  | .ref a :: r => match xg M a with
    | some q => if 12 ≤ q.1 ∧ q.1 < 16 then some ((pc + 1, lv, .int (Int32.ofNat (xln q.2)) :: r), M) else none
    | none => none
  | .retAddr 0 :: r => match sc with
    | some vs => some ((pc + 1, lv, .int (Int32.ofNat (xln vs)) :: r), M)
    | none => none
  | _ => none
noncomputable def xb_getstatic (k : Nat) (oc : Nat) (pc : Nat) (lv : xL) (st : List Value) (M : xM) : Option (xF × xM) := if oc = 8 ∧ k = 86 then some ((pc + 3, lv, .retAddr 1 :: st), M) else none
noncomputable def xe_step2 (sc : Option (List Value)) (oc : Nat) (ini : Bool) (i : Instr) (pc : Nat) (lv : xL) (st : List Value) (M : xM) : Option (xF × xM) := match i with
  | .getfield k => xb_getfield k oc pc lv st M
  | .putfield k => xb_putfield k oc ini pc lv st M
  | .iaload => xb_iaload sc pc lv st M
  | .iastore => xb_iastore pc lv st M
  | .aaload => xb_aaload pc lv st M
  | .aastore => xb_aastore pc lv st M
  | .arraylength => xb_arraylength sc pc lv st M
  | .getstatic k => xb_getstatic k oc pc lv st M
  | _ => none
section
variable {p : Program} {l : Launch} {e : Env} {R : Room} {s : State} {m : MethodId} {args : Array Value} {below : List Frame} {meth : Method} {c : Code} {H : Heap} {locs : List Loc} {cells slots : Nat} {Q : State → Prop}
variable {cc : ByteArray} {pc : Nat} {ls : Array Slot} {b : Nat → Nat} {B : Nat} {xs : Nat → Int32} {oc : Nat} {D : va_G} {aC : Nat → ClassId}
theorem xe_fits {ty : FieldType} {v : Value} {n : Nat} (h : xe_tag ty = n) (hv : xe_vtag v = n) (hn : n < 3) : narrow ty (xe_cv b B xs v) = xe_cv b B xs v ∧ fits ty (xe_cv b B xs v) = true := by
  cases ty <;> cases v <;> simp_all [xe_tag, xe_vtag, xe_cv, narrow, fits] <;> omega
theorem xe_asg (hK : xe_K D aC b B s) {C : String} (hc : Cond.castable C RX7 ∈ xnw) : ∀ comp c0 : ClassId, s.vm.findClass RX7 = some comp → s.vm.findClass C = some c0 → s.vm.assignable c0 comp = true := by
  intro comp c0 h1 h2
  obtain ⟨x, y, e1, e2, e3⟩ := Cond.castable_spec (hK.2.2.1 _ hc)
  rw [h2] at e1
  rw [h1] at e2
  cases e1
  cases e2
  exact e3
set_option maxHeartbeats 4000000 in
theorem xe_step2_ok (hx : p.tables.exec = Jvm.exec) (hb : c.code = cc) (hown : s.vm.findClass (RO oc) = some m.cls) (hts : ∀ w ∈ xWS, w.before args s = true) (hK : xe_K D aC b B s) {ini : Bool} (hin : ini = true → meth.name = "<init>") {sc : Option (List Value)}
    (hsc : ∀ vs, sc = some vs → va_X (b 0) vs.length (fun j => xe_iof (xe_cv b B xs (vs.getD j .null))) s s.heap ∧ b 0 < s.heap.size ∧ b 0 < B) (hS : va_S (xe_A B) s.heap H locs) {M : xM} (hP : va_P D vwCl (xe_ws aC (xe_cv b B xs) B M) H)
    {i : Instr} {len : Nat} {lv : xL} {st : List Value} {f : xF × xM} (hd : decode cc pc = .ok (i, xe_len i len)) (h : xe_step2 sc oc ini i pc lv st M = some f)
    (k : ∀ (H' : Heap) (locs' : List Loc), f.1.2.1 = lv → f.2.length = M.length → va_S (xe_A B) s.heap H' locs' → va_P D vwCl (xe_ws aC (xe_cv b B xs) B f.2) H' → W p l e R s m args below meth c H' locs' cells slots Q (F0 m f.1.1 ls (f.1.2.2.map (xe_cv b B xs)))) : W p l e R s m args below meth c H locs cells slots Q (F0 m pc ls (st.map (xe_cv b B xs))) := by
  have hinA : ∀ {j : Int32} {n : Nat}, ¬ j < 0 → j.toNatClampNeg < n → vp_in j n := fun h1 h2 h3 => h3.elim h1 (fun h4 => absurd h2 (Nat.not_lt.mpr h4))
  unfold xe_step2 at h
  split at h
  · unfold xb_getfield at h
    simp only [xg_eq, xse_eq, xln_eq, xlt_iff, xfF_eq] at h
    split at h
    · rename_i a r
      split at h
      · rename_i q hq
        obtain ⟨ci, fs⟩ := q
        split at h
        · rename_i e0 he0
          split at h
          · rename_i hc
            split at h
            · rename_i v hv
              cases h
              obtain ⟨hG, hidx⟩ := xf_ok he0
              obtain ⟨C, T, N, h1, h2, h3, h4, h5, h6⟩ := hG ci (by simpa using hc.2)
              have hw := xe_ws_get (aC := aC) (cv := xe_cv b B xs) (B := B) hq
              rw [xe_el_obj hc.1] at hw
              rw [← hidx] at hd
              exact va_get hx hb hts (xcl_ok _ _ _ _ h1).1 hown hK.1 hP a hw h1 e0.2.1 h2 (hts _ h3) (fun _ z => z) (by rw [List.getElem?_map, hv]; rfl) hd (k H locs rfl rfl hS hP)
            · cases h
          · cases h
        · cases h
      · cases h
    · cases h
  · unfold xb_putfield at h
    simp only [xg_eq, xse_eq, xln_eq, xlt_iff, xfF_eq] at h
    split at h
    · rename_i v a r
      split at h
      · rename_i q hq
        obtain ⟨ci, fs⟩ := q
        split at h
        · rename_i e0 he0
          split at h
          · rename_i hc
            cases h
            obtain ⟨hG, hidx⟩ := xf_ok he0
            obtain ⟨C, T, N, h1, h2, h3, h4, h5, h6⟩ := hG ci (by simpa using hc.1.2)
            have hw := xe_ws_get (aC := aC) (cv := xe_cv b B xs) (B := B) hq
            rw [xe_el_obj hc.1.1] at hw
            rw [← hidx] at hd
            obtain ⟨hcw, ⟨ty0, hty⟩, hnm⟩ := xcl_ok _ _ _ _ h1
            have htk := hty _ h2
            rw [htk] at h5
            have h5 : xe_tag (ty0 e0.2.1) = e0.2.2.1 := Option.some.inj h5
            have hfit := xe_fits (b := b) (B := B) (xs := xs) h5 hc.2.1.1 hc.2.1.2.2
            have hkk : ∀ (H1 : Heap) (locs1 : List Loc), va_P D vwCl ((xe_ws aC (xe_cv b B xs) B M).set a (B + a, .inr (ci, (fs.map (xe_cv b B xs)).set e0.2.1 (xe_cv b B xs v)))) H1 → va_D (xe_A B) ((xe_ws aC (xe_cv b B xs) B M).set a (B + a, .inr (ci, (fs.map (xe_cv b B xs)).set e0.2.1 (xe_cv b B xs v)))) → va_S (xe_A B) s.heap H1 locs1 → W p l e R s m args below meth c H1 locs1 cells slots Q (F0 m (pc + 3) ls (r.map (xe_cv b B xs))) := by
              intro H1 locs1 z1 _ z3
              rw [← List.map_set, ← xe_el_obj (aC := aC) (cv := xe_cv b B xs) hc.1.1, xe_ws_set] at z1
              exact k H1 locs1 rfl (List.length_set ..) z3 z1
            by_cases hf : e0.2.2.2.1 = true
            · exact va_putF hx hb hts hcw ty0 hty hnm hown hK.1 hP xe_ws_D hS a hw h1 e0.2.1 h2 (hts _ h3) (fun _ z => z) (h4.trans hf) (hin (hc.2.1.2.1 hf)) h6 htk hfit.1 hfit.2 (by rw [List.length_map]; exact hc.2.2) hd hkk
            · exact va_put hx hb hts hcw ty0 hty hnm hown hK.1 hP xe_ws_D hS a hw h1 e0.2.1 h2 (hts _ h3) (fun _ z => z) (by rw [h4]; cases hff : e0.2.2.2.1 with
                | true => exact absurd hff hf
                | false => rfl) htk hfit.1 hfit.2 (by rw [List.length_map]; exact hc.2.2) hd hkk
          · cases h
        · cases h
      · cases h
    · cases h
  · unfold xb_iaload at h
    simp only [xg_eq, xse_eq, xln_eq, xlt_iff, xfF_eq] at h
    split at h
    · rename_i j a r
      split at h
      · rename_i q hq
        obtain ⟨t, vs⟩ := q
        split at h
        · rename_i hc
          obtain ⟨rfl, hj⟩ := hc
          split at h
          · rename_i v hv
            split at h
            · rename_i hI
              cases h
              have hw := xe_ws_get (aC := aC) (cv := xe_cv b B xs) (B := B) hq
              rw [xe_el_int] at hw
              have hlt : j.toNatClampNeg < vs.length := (List.getElem?_eq_some_iff.mp hv).1
              have h3 := k H locs rfl rfl hS hP
              have h4 : Value.int (xe_iof (xe_cv b B xs (vs.getD j.toNatClampNeg .null))) = xe_cv b B xs v := by
                obtain ⟨x, ex⟩ := xe_isI_ok (b := b) (B := B) (xs := xs) hI
                have : vs.getD j.toNatClampNeg .null = v := by rw [List.getD_eq_getElem?_getD, hv]; rfl
                rw [this, ex]
                rfl
              rw [List.map_cons, ← h4] at h3
              exact va_iald hx hb hK.1 hP a 0 hw rfl (hinA hj hlt) hd h3
            · cases h
          · cases h
        · cases h
      · cases h
    · rename_i j r
      split at h
      · rename_i vs
        split at h
        · rename_i hj
          split at h
          · rename_i v hv
            split at h
            · rename_i hI
              cases h
              obtain ⟨hX, hb1, hb2⟩ := hsc vs rfl
              have hlt : j.toNatClampNeg < vs.length := (List.getElem?_eq_some_iff.mp hv).1
              have h3 := k H locs rfl rfl hS hP
              have h4 : Value.int (xe_iof (xe_cv b B xs (vs.getD j.toNatClampNeg .null))) = xe_cv b B xs v := by
                obtain ⟨x, ex⟩ := xe_isI_ok (b := b) (B := B) (xs := xs) hI
                have : vs.getD j.toNatClampNeg .null = v := by rw [List.getD_eq_getElem?_getD, hv]; rfl
                rw [this, ex]
                rfl
              rw [List.map_cons, ← h4] at h3
              exact va_sld hx hb hX hb1 (fun z => absurd z (Nat.not_le.mpr hb2)) hS (hinA hj hlt) hd h3
            · cases h
          · cases h
        · cases h
      · cases h
    · rename_i j r
      split at h
      · rename_i hj
        split at h
        · rename_i v hv
          cases h
          have hlt : j.toNatClampNeg < 6 := (List.getElem?_eq_some_iff.mp hv).1
          have hv2 : xLet.getD j.toNatClampNeg .null = v := by rw [List.getD_eq_getElem?_getD, hv]; rfl
          have hv3 : xe_cv b B xs v = v := by
            have hm := List.mem_of_getElem? hv
            unfold xLet at hm
            simp only [List.mem_cons, List.not_mem_nil, or_false] at hm
            rcases hm with rfl | rfl | rfl | rfl | rfl | rfl <;> rfl
          have h3 := k H locs rfl rfl hS hP
          rw [List.map_cons, hv3] at h3
          exact va_ti hx hb hK.2.2.2.2 hS (hinA hj hlt) hv2 hd h3
        · cases h
      · cases h
    · cases h
  · unfold xb_iastore at h
    simp only [xg_eq, xse_eq, xln_eq, xlt_iff, xfF_eq] at h
    split at h
    · rename_i v j a r
      split at h
      · rename_i q hq
        obtain ⟨t, vs⟩ := q
        split at h
        · rename_i hc
          obtain ⟨rfl, hI, hj, hlt⟩ := hc
          cases h
          have hw := xe_ws_get (aC := aC) (cv := xe_cv b B xs) (B := B) hq
          rw [xe_el_int] at hw
          obtain ⟨x, ex⟩ := xe_isI_ok (b := b) (B := B) (xs := xs) hI
          have ex2 : x = xe_iof (xe_cv b B xs v) := by rw [ex]; rfl
          rw [List.map_cons, ex]
          refine va_iast hx hb hK.1 hP xe_ws_D hS a 0 hw rfl (hinA hj hlt) hd fun H1 locs1 z1 _ z3 => ?_
          rw [ex2, xe_upd v hlt] at z1
          have e9 : (.inl (aC 0, vs.length, .inl (fun j_1 => xe_iof (xe_cv b B xs ((vs.set j.toNatClampNeg v).getD j_1 .null)))) : va_E) = xe_el aC (xe_cv b B xs) (12, vs.set j.toNatClampNeg v) := by
            rw [xe_el_int, List.length_set]
          rw [e9, xe_ws_set] at z1
          exact k H1 locs1 rfl (List.length_set ..) z3 z1
        · cases h
      · cases h
    · cases h
  · unfold xb_aaload at h
    simp only [xg_eq, xse_eq, xln_eq, xlt_iff, xfF_eq] at h
    split at h
    · rename_i j a r
      split at h
      · rename_i q hq
        obtain ⟨t, vs⟩ := q
        split at h
        · rename_i hc
          obtain ⟨⟨ht1, ht2⟩, hj⟩ := hc
          split at h
          · rename_i v hv
            split at h
            · rename_i hI
              cases h
              have hw := xe_ws_get (aC := aC) (cv := xe_cv b B xs) (B := B) hq
              rw [xe_el_ref ht1] at hw
              have hlt : j.toNatClampNeg < vs.length := (List.getElem?_eq_some_iff.mp hv).1
              have h3 := k H locs rfl rfl hS hP
              have h4 : va_rf (xe_rof (xe_cv b B xs (vs.getD j.toNatClampNeg .null))) = xe_cv b B xs v := by
                have : vs.getD j.toNatClampNeg .null = v := by rw [List.getD_eq_getElem?_getD, hv]; rfl
                rw [this]
                cases v <;> first | rfl | cases hI
              rw [List.map_cons, ← h4] at h3
              have ht3 : t = 13 ∨ t = 14 ∨ t = 15 := by
                have h1 : 12 < t := ht1
                have h2 : t < 16 := ht2
                omega
              rcases ht3 with rfl | rfl | rfl
              · exact va_aldq hx hb hK.1 hP a 1 hw rfl (hinA hj hlt) hd h3
              · exact va_aldq hx hb hK.1 hP a 2 hw rfl (hinA hj hlt) hd h3
              · exact va_aldq hx hb hK.1 hP a 3 hw rfl (hinA hj hlt) hd h3
            · cases h
          · cases h
        · cases h
      · cases h
    · cases h
  · unfold xb_aastore at h
    simp only [xg_eq, xse_eq, xln_eq, xlt_iff, xfF_eq] at h
    split at h
    · rename_i o j a r
      split at h
      · rename_i q hq
        obtain ⟨t, vs⟩ := q
        split at h
        · rename_i q' hq'
          obtain ⟨ci, fs⟩ := q'
          split at h
          · rename_i hc
            obtain ⟨hok, hj, hlt⟩ := hc
            cases h
            have hw := xe_ws_get (aC := aC) (cv := xe_cv b B xs) (B := B) hq
            have hv := xe_ws_get (aC := aC) (cv := xe_cv b B xs) (B := B) hq'
            have hkk : 12 < t → ∀ (H1 : Heap) (locs1 : List Loc), va_P D vwCl ((xe_ws aC (xe_cv b B xs) B M).set a (B + a, .inl (aC (t - 12), vs.length, .inr (.inr (.inr (.inr (va_up (fun j => xe_rof (xe_cv b B xs (vs.getD j .null))) j.toNatClampNeg (some (B + o))))))))) H1 → va_S (xe_A B) s.heap H1 locs1 → W p l e R s m args below meth c H1 locs1 cells slots Q (F0 m (pc + 1) ls (r.map (xe_cv b B xs))) := by
              intro ht H1 locs1 z1 z3
              have e8 := xe_updR (cv := xe_cv b B xs) (.ref o) hlt
              have e9 : (.inl (aC (t - 12), vs.length, .inr (.inr (.inr (.inr (va_up (fun j => xe_rof (xe_cv b B xs (vs.getD j .null))) j.toNatClampNeg (some (B + o))))))) : va_E) = xe_el aC (xe_cv b B xs) (t, vs.set j.toNatClampNeg (.ref o)) := by
                rw [xe_el_ref ht, List.length_set, ← e8]
                rfl
              rw [e9, xe_ws_set] at z1
              exact k H1 locs1 rfl (List.length_set ..) z3 z1
            have hsub : ∀ {C : String} {T : u_T}, vwCl[ci]? = some (C, T, 2) → ci < 12 → Cond.castable C RX7 ∈ xnw → va_Any RX7 s H (B + o) := fun h1 h2 h3 => by
              rw [xe_el_obj h2] at hv
              exact va_rAny hK.1 hP hv h1 (xe_asg hK h3)
            rcases xe_okst_ok hok with ⟨ht, hci⟩ | ⟨ht, hci⟩ | ⟨ht, hci⟩
            · dsimp only at ht hci
              subst ht; subst hci
              rw [xe_el_ref (by decide)] at hw
              rw [xe_el_obj (by decide)] at hv
              exact va_astq hx hb hK.1 hP xe_ws_D hS a 1 o 0 hw rfl hv rfl (hinA hj hlt) hd (fun H1 locs1 z1 _ z3 => hkk (by decide) H1 locs1 z1 z3)
            · dsimp only at ht hci
              subst ht; subst hci
              rw [xe_el_ref (by decide)] at hw
              rw [xe_el_obj (by decide)] at hv
              exact va_astq hx hb hK.1 hP xe_ws_D hS a 2 o 2 hw rfl hv rfl (hinA hj hlt) hd (fun H1 locs1 z1 _ z3 => hkk (by decide) H1 locs1 z1 z3)
            · dsimp only at ht hci
              subst ht
              rw [xe_el_ref (by decide)] at hw
              rcases hci with rfl | rfl | rfl | rfl | rfl | rfl
              · exact va_astqM hx hb hK.1 hP xe_ws_D hS a 3 hw rfl (hsub rfl (by decide) xnw_cRX4) (hinA hj hlt) hd (fun H1 locs1 z1 _ z3 => hkk (by decide) H1 locs1 z1 z3)
              · exact va_astqM hx hb hK.1 hP xe_ws_D hS a 3 hw rfl (hsub rfl (by decide) xnw_cRX5) (hinA hj hlt) hd (fun H1 locs1 z1 _ z3 => hkk (by decide) H1 locs1 z1 z3)
              · exact va_astqM hx hb hK.1 hP xe_ws_D hS a 3 hw rfl (hsub rfl (by decide) xnw_cRX6) (hinA hj hlt) hd (fun H1 locs1 z1 _ z3 => hkk (by decide) H1 locs1 z1 z3)
              · rw [xe_el_obj (by decide)] at hv
                exact va_astq hx hb hK.1 hP xe_ws_D hS a 3 o 6 hw rfl hv rfl (hinA hj hlt) hd (fun H1 locs1 z1 _ z3 => hkk (by decide) H1 locs1 z1 z3)
              · exact va_astqM hx hb hK.1 hP xe_ws_D hS a 3 hw rfl (hsub rfl (by decide) xnw_cRX9) (hinA hj hlt) hd (fun H1 locs1 z1 _ z3 => hkk (by decide) H1 locs1 z1 z3)
              · exact va_astqM hx hb hK.1 hP xe_ws_D hS a 3 hw rfl (hsub rfl (by decide) xnw_cRX10) (hinA hj hlt) hd (fun H1 locs1 z1 _ z3 => hkk (by decide) H1 locs1 z1 z3)
          · cases h
        · cases h
      · cases h
    · cases h
  · unfold xb_arraylength at h
    simp only [xg_eq, xse_eq, xln_eq, xlt_iff, xfF_eq] at h
    split at h
    · rename_i a r
      split at h
      · rename_i q hq
        obtain ⟨t, vs⟩ := q
        split at h
        · rename_i hc
          cases h
          have hw := xe_ws_get (aC := aC) (cv := xe_cv b B xs) (B := B) hq
          have ht3 : t = 12 ∨ t = 13 ∨ t = 14 ∨ t = 15 := by
            have h1 : 12 ≤ t := hc.1
            have h2 : t < 16 := hc.2
            omega
          rcases ht3 with rfl | rfl | rfl | rfl
          · exact va_alen hx hb hK.1 hP a 0 hw rfl rfl hd (k H locs rfl rfl hS hP)
          · rw [xe_el_ref (by decide)] at hw
            exact va_alen hx hb hK.1 hP a 1 hw rfl rfl hd (k H locs rfl rfl hS hP)
          · rw [xe_el_ref (by decide)] at hw
            exact va_alen hx hb hK.1 hP a 2 hw rfl rfl hd (k H locs rfl rfl hS hP)
          · rw [xe_el_ref (by decide)] at hw
            exact va_alen hx hb hK.1 hP a 3 hw rfl rfl hd (k H locs rfl rfl hS hP)
        · cases h
      · cases h
    · split at h
      · rename_i vs
        cases h
        obtain ⟨hX, hb1, hb2⟩ := hsc vs rfl
        exact va_slen hx hb hX hb1 (fun z => absurd z (Nat.not_le.mpr hb2)) hS hd (k H locs rfl rfl hS hP)
      · cases h
    · cases h
  · unfold xb_getstatic at h
    split at h
    · rename_i hc
      obtain ⟨rfl, rfl⟩ := hc
      cases h
      exact va_getsN hx hb hK.2.2.2.1 hS hown (va_Nw.use rfl (hK.2.2.1 _ xnw_K)) (fun _ z => z) hd (k H locs rfl rfl hS hP)
    · cases h
  · cases h
end
