/-! calls, new cells, ends; the run of a method, and its soundness -/
def xe_isret (rt : Nat) (i : Instr) (r : Option Value) : Bool := match i, r with
  | .ireturn, some v => xe_isI v && (rt == 1 || (rt == 2 && (decide (v = .int 0) || decide (v = .int 1))))
  | .lreturn, some v => xe_isL v && rt == 3
  | .areturn, some (.ref _) => rt == 4
  | .return_, none => rt == 0
  | _, _ => false
def xe_cont (ih : Nat → xL → List Value → xM → Option xO) (pc : Nat) (lv : xL) (rest : List Value) (o : Option xO) : Option xO := match o with
  | some o1 => match ih (pc + 3) lv (o1.1.toList ++ rest) o1.2.1 with
    | some o2 => some (o2.1, o2.2.1, o1.2.2.1 + o2.2.2.1, o1.2.2.2 + o2.2.2.2)
    | none => none
  | none => none
def xe_made (o : Option xO) (n : Nat) : Option xO := match o with
  | some o => some (o.1, o.2.1, 1 + o.2.2.1, n + o.2.2.2)
  | none => none
def xe_end (rt : Nat) (i : Instr) (st : List Value) (M : xM) : Option xO := match st with
  | [] => if xe_isret rt i none = true then some (none, M, 0, 0) else none
  | [v] => if xe_isret rt i (some v) = true then some (some v, M, 0, 0) else none
  | _ => none
def xe_sum (r : List Value) : Bool := decide ((r.map fun v => v.category).sum ≤ 8)
/-- n places of one list into another -/
def xcpy (vs ws : List Value) (sp dp n : Nat) : List Value := ws.take dp ++ ((vs.drop sp).take n ++ ws.drop (dp + n))
noncomputable def xe_copy (pc : Nat) (lv : xL) (st : List Value) (M : xM) (ih : Nat → xL → List Value → xM → Option xO) : Option xO := match st with
  | .int n :: .int dp :: .ref da :: .int sp :: .ref sa :: r => match xg M sa with
    | some q0 => match xg M da with
      | some q1 => if (q0.1 = 12 ∧ q1.1 = 12) ∧ (¬ xlt sp 0 = true ∧ ¬ xlt dp 0 = true ∧ ¬ xlt n 0 = true) ∧ (sp.toNatClampNeg + n.toNatClampNeg ≤ xln q0.2 ∧ dp.toNatClampNeg + n.toNatClampNeg ≤ xln q1.2) ∧ xe_sum r = true then ih (pc + 3) lv r (xse M da (12, xcpy q0.2 q1.2 sp.toNatClampNeg dp.toNatClampNeg n.toNatClampNeg)) else none
      | none => none
    | none => none
  | _ => none
noncomputable def xe_callS (call : Nat → List Value → xM → Option xO) (oc k pc : Nat) (lv : xL) (st : List Value) (M : xM) (ih : Nat → xL → List Value → xM → Option xO) : Option xO := match xcF oc k with
  | some (_, 0, mn, _) => match xmF mn with
    | some q => if q.2.2.2.2 ≤ st.length ∧ xe_sum (st.drop q.2.2.2.2) = true then xe_cont ih pc lv (st.drop q.2.2.2.2) (call mn (st.take q.2.2.2.2).reverse M) else none
    | none => none
  | some (_, 8, _, _) => xe_copy pc lv st M ih
  | some (_, 10, mn, _) => match xmF mn with
    | some q => if q.2.2.2.2 ≤ st.length ∧ xe_sum (st.drop q.2.2.2.2) = true then xe_cont ih pc lv (st.drop q.2.2.2.2) (call mn (st.take q.2.2.2.2).reverse M) else none
    | none => none
  | some (_, 7, mn, _) => match xmF mn with
    | some q => if q.2.2.2.2 ≤ st.length ∧ xe_sum (st.drop q.2.2.2.2) = true then xe_cont ih pc lv (st.drop q.2.2.2.2) (call mn (st.take q.2.2.2.2).reverse M) else none
    | none => none
  | some (_, 5, _, _) => match st with
    | .int y :: .int x :: r => if xe_sum r = true then ih (pc + 3) lv (.int (if x < y then y else x) :: r) M else none
    | _ => none
  | some (_, 6, _, _) => match st with
    | .int y :: .int x :: r => if xe_sum r = true then ih (pc + 3) lv (.int (if y < x then y else x) :: r) M else none
    | _ => none
  | _ => none
noncomputable def xe_callI (call : Nat → List Value → xM → Option xO) (oc k pc : Nat) (lv : xL) (st : List Value) (M : xM) (ih : Nat → xL → List Value → xM → Option xO) : Option xO := match xcF oc k with
  | some (_, 1, mn, _) => match xmF mn with
    | some q => match st.drop q.2.2.2.2 with
      | .ref a :: r => if xe_sum r = true then xe_cont ih pc lv r (call mn (.ref a :: (st.take q.2.2.2.2).reverse) M) else none
      | _ => none
    | none => none
  | some (_, 2, mn, _) => match xmF mn with
    | some q => match st.drop q.2.2.2.2 with
      | .ref a :: r => if xe_sum r = true then xe_cont ih pc lv r (call mn (.ref a :: (st.take q.2.2.2.2).reverse) M) else none
      | _ => none
    | none => none
  | some (_, 9, mn, _) => match xmF mn with
    | some q => match st.drop q.2.2.2.2 with
      | .ref a :: r => match xg M a with
        | some q0 => if q0.1 < 12 ∧ xe_sum r = true then xe_cont ih pc lv r (call mn (.ref a :: (st.take q.2.2.2.2).reverse) M) else none
        | none => none
      | _ => none
    | none => none
  | some (_, 4, _, _) => match st with
    | .ref a :: r => if xe_sum r = true then ih (pc + 3) lv r M else none
    | _ => none
  | _ => none
noncomputable def xe_callV (call : Nat → List Value → xM → Option xO) (oc k pc : Nat) (lv : xL) (st : List Value) (M : xM) (ih : Nat → xL → List Value → xM → Option xO) : Option xO := match xcF oc k with
  | some (_, 3, n, rs) => match st.drop n with
    | .ref a :: r => match xg M a with
      | some q0 => match xfd rs q0.1 with
        | some e => match xmF e.2 with
          | some q => if q0.1 < 12 ∧ q.2.2.2.2 = n ∧ xe_sum r = true then xe_cont ih pc lv r (call e.2 (.ref a :: (st.take n).reverse) M) else none
          | none => none
        | none => none
      | none => none
    | _ => none
  | _ => none
def xe_plain (v : Value) : Bool := match v with
  | .int _ => true
  | .long _ => true
  | .null => true
  | _ => false
noncomputable def xd_new (k : Nat) (oc : Nat) (pc : Nat) (lv : xL) (st : List Value) (M : xM) (ih : Nat → xL → List Value → xM → Option xO) : Option xO := match xn oc k with
  | some e => if e.2.2.all xe_plain = true then xe_made (ih (pc + 3) lv (.ref (xln M) :: st) (M ++ [(e.2.1, e.2.2)])) e.2.2.length else none
  | none => none
noncomputable def xd_newarray  (pc : Nat) (lv : xL) (st : List Value) (M : xM) (ih : Nat → xL → List Value → xM → Option xO) : Option xO := match st with
  | .int n :: r => if ¬ n < 0 ∧ n.toNatClampNeg ≤ 1000 then xe_made (ih (pc + 2) lv (.ref (xln M) :: r) (M ++ [(12, List.replicate n.toNatClampNeg (.int 0))])) n.toNatClampNeg else none
  | _ => none
noncomputable def xd_anewarray (k : Nat) (oc : Nat) (pc : Nat) (lv : xL) (st : List Value) (M : xM) (ih : Nat → xL → List Value → xM → Option xO) : Option xO := match xa oc k with
  | some e => match st with
    | .int n :: r => if ¬ n < 0 ∧ n.toNatClampNeg ≤ 1000 then xe_made (ih (pc + 3) lv (.ref (xln M) :: r) (M ++ [(13 + e.2, List.replicate n.toNatClampNeg .null)])) n.toNatClampNeg else none
    | _ => none
  | none => none
noncomputable def xd_invokestatic (k : Nat) (call : Nat → List Value → xM → Option xO) (oc : Nat) (pc : Nat) (lv : xL) (st : List Value) (M : xM) (ih : Nat → xL → List Value → xM → Option xO) : Option xO := xe_callS call oc k pc lv st M ih
noncomputable def xd_invokespecial (k : Nat) (call0 : Nat → List Value → xM → Option xO) (oc : Nat) (pc : Nat) (lv : xL) (st : List Value) (M : xM) (ih : Nat → xL → List Value → xM → Option xO) : Option xO := xe_callI call0 oc k pc lv st M ih
noncomputable def xd_invokevirtual (k : Nat) (call : Nat → List Value → xM → Option xO) (oc : Nat) (pc : Nat) (lv : xL) (st : List Value) (M : xM) (ih : Nat → xL → List Value → xM → Option xO) : Option xO := xe_callV call oc k pc lv st M ih
noncomputable def xd_ireturn  (rt : Nat) (st : List Value) (M : xM) : Option xO := xe_end rt .ireturn st M
noncomputable def xd_lreturn  (rt : Nat) (st : List Value) (M : xM) : Option xO := xe_end rt .lreturn st M
noncomputable def xd_areturn  (rt : Nat) (st : List Value) (M : xM) : Option xO := xe_end rt .areturn st M
noncomputable def xd_return_  (rt : Nat) (st : List Value) (M : xM) : Option xO := xe_end rt .return_ st M
noncomputable def xe_step3 (call0 call : Nat → List Value → xM → Option xO) (oc rt : Nat) (i : Instr) (pc : Nat) (lv : xL) (st : List Value) (M : xM) (ih : Nat → xL → List Value → xM → Option xO) : Option xO := match i with
  | .new k => xd_new k oc pc lv st M ih
  | .newarray .int => xd_newarray pc lv st M ih
  | .anewarray k => xd_anewarray k oc pc lv st M ih
  | .invokestatic k => xd_invokestatic k call oc pc lv st M ih
  | .invokespecial k => xd_invokespecial k call0 oc pc lv st M ih
  | .invokevirtual k => xd_invokevirtual k call oc pc lv st M ih
  | .ireturn => xd_ireturn rt st M
  | .lreturn => xd_lreturn rt st M
  | .areturn => xd_areturn rt st M
  | .return_ => xd_return_ rt st M
  | _ => none
noncomputable def xe_body (iv : List (Int32 × Int32)) (a6 : Option Int32) (sc : Option (List Value)) (call0 call : Nat → List Value → xM → Option xO) (tb : xI) (oc nL rt : Nat) (ini : Bool) (ih : Nat → xL → List Value → xM → Option xO) (pc : Nat) (lv : xL) (st : List Value) (M : xM) : Option xO := match xe_lkF tb pc with
  | none => none
  | some q => match xe_step1 iv a6 oc nL q.1 pc lv st with
    | some f => ih f.1 f.2.1 f.2.2 M
    | none => match xe_step2 sc oc ini q.1 pc lv st M with
      | some g => ih g.1.1 g.1.2.1 g.1.2.2 g.2
      | none => xe_step3 call0 call oc rt q.1 pc lv st M ih
noncomputable def xe_run (iv : List (Int32 × Int32)) (a6 : Option Int32) (sc : Option (List Value)) (call0 call : Nat → List Value → xM → Option xO) (tb : xI) (oc nL rt : Nat) (ini : Bool) (n : Nat) : Nat → xL → List Value → xM → Option xO :=
  Nat.rec (motive := fun _ => Nat → xL → List Value → xM → Option xO) (fun _ _ _ _ => none) (fun _ ih => xe_body iv a6 sc call0 call tb oc nL rt ini ih) n
/-- methods, with fuel f for each and depth d -/
noncomputable def xe_ex (f d : Nat) : Nat → List Value → xM → Option xO :=
  Nat.rec (motive := fun _ => Nat → List Value → xM → Option xO) (fun _ _ _ => none) (fun _ ih mn as M => match xmF mn with
    | none => none
    | some q => if xe_cats as ≤ q.1.2.2.1 then xe_run [] none none ih ih q.1.1 q.1.2.1 q.1.2.2.1 q.1.2.2.2.1 q.1.2.2.2.2 f 0 (lv_args 0 as) [] M else none) d
theorem xe_args (b : Nat → Nat) (B : Nat) (xs : Nat → Int32) : ∀ (i : Nat) (as : List Value), lv_args i (as.map (xe_cv b B xs)) = xe_lm b B xs (lv_args i as)
  | _, [] => rfl
  | i, v :: vs => by
    show (i, xe_cv b B xs v) :: lv_args (if (xe_cv b B xs v).category = 2 then i + 2 else i + 1) (vs.map (xe_cv b B xs)) = (i, xe_cv b B xs v) :: xe_lm b B xs (lv_args (if v.category = 2 then i + 2 else i + 1) vs)
    rw [xe_cat, xe_args b B xs]
theorem xe_slen (b : Nat → Nat) (B : Nat) (xs : Nat → Int32) (as : List Value) : (lg_sl (as.map (xe_cv b B xs))).length = (lg_sl as).length := by
  induction as with
  | nil => rfl
  | cons v vs ih =>
    unfold lg_sl at ih ⊢
    rw [List.map_cons, List.flatMap_cons, List.flatMap_cons, List.length_append, List.length_append, ih, xe_cat]
    by_cases h : v.category = 2 <;> simp [h]
theorem xe_ssum (b : Nat → Nat) (B : Nat) (xs : Nat → Int32) (r : List Value) : ((r.map (xe_cv b B xs)).map fun v => v.category) = r.map fun v => v.category := by
  rw [List.map_map]
  exact List.map_congr_left (fun v _ => xe_cat b B xs v)
def xe_rm (d mc ms : Nat) : Room := { frames := d, cells := mc, slots := ms, locals := 64 * d }
def xe_Pc (D : va_G) (aC : Nat → ClassId) (b : Nat → Nat) (B : Nat) (xs : Nat → Int32) (as : List Value) (M : xM) : Array Value → State → Prop := fun v U => v = (as.map (xe_cv b B xs)).toArray ∧ U.heap.size = B + M.length ∧ va_P D vwCl (xe_ws aC (xe_cv b B xs) B M) U.heap ∧ xe_K D aC b B U
def xe_Qc (D : va_G) (aC : Nat → ClassId) (b : Nat → Nat) (B : Nat) (xs : Nat → Int32) (r : Option Value) (M : xM) : Array Value → State → Outcome → State → Prop := fun _ st o t => (o = .returned (r.map (xe_cv b B xs)) ∧ va_P D vwCl (xe_ws aC (xe_cv b B xs) B M) t.heap) ∧ va_F (xe_A B) st t
theorem xe_K.warm {D : va_G} {aC : Nat → ClassId} {b : Nat → Nat} {B : Nat} {s U : State} (hW : s.WarmedH U.vm) (hH : ∀ q : Nat, q < s.heap.size → ¬ xe_A B q → U.heap[q]? = s.heap[q]?) (h : xe_K D aC b B s) : xe_K D aC b B U := by
  refine ⟨va_K.moved hW.alike h.1, ⟨h.2.1.1.moved hW.alike, h.2.1.2.1.moved hW.alike, h.2.1.2.2.moved hW.alike⟩, ?_, (va_Z.moved hW.alike h.2.2.2.1).kept hH, (va_T.moved hW.alike h.2.2.2.2).kept hH⟩
  have h3 := h.2.2.1
  intro w hw
  have h4 := h3 w hw
  unfold xnw at hw
  simp only [List.mem_cons, List.not_mem_nil, or_false] at hw
  rcases hw with rfl | rfl | rfl | rfl | rfl | rfl | rfl | rfl | rfl | rfl | rfl | rfl | rfl
  all_goals first | exact va_Nw.warmM hW h4 | exact va_Nw.warmC hW h4 | exact va_Nw.warmD hW h4 | exact va_Nw.warmF hW h4
theorem xe_blind {D : va_G} {aC : Nat → ClassId} {b : Nat → Nat} {B : Nat} {xs : Nat → Int32} {as : List Value} {M : xM} : FrameBlind (xe_Pc D aC b B xs as M) := fun a U g mk h => ⟨h.1, h.2.1, h.2.2.1, xe_K.warm (s := U) (U := U.calling g mk a) (State.WarmedH.refl U) (fun _ _ _ => rfl) h.2.2.2⟩
section
variable {p : Program} {l : Launch} {e : Env} {R : Room} {s : State} {m : MethodId} {args : Array Value} {below : List Frame} {meth : Method} {c : Code} {H : Heap} {locs : List Loc} {cells slots : Nat} {Q : State → Prop}
variable {cc : ByteArray} {pc : Nat} {ls : Array Slot} {b : Nat → Nat} {B : Nat} {xs : Nat → Int32} {oc : Nat} {D : va_G} {aC : Nat → ClassId}
theorem xe_sized {g : JFrame} (h : H.size ≤ s.heap.size + cells → W p l e R s m args below meth c H locs cells slots Q g) : W p l e R s m args below meth c H locs cells slots Q g := fun T hT X => h (by rw [← hT]; exact X.heapSize) T hT X
theorem xe_size {M : xM} (hc : s.heap.size + cells = B + M.length) (h1 : H.size ≤ s.heap.size + cells) (h2 : s.heap.size ≤ H.size) (h3 : B ≤ s.heap.size) (hP : va_P D vwCl (xe_ws aC (xe_cv b B xs) B M) H) : H.size = B + M.length := by
  cases hM : M with
  | nil => rw [hM] at hc; simp at hc ⊢; omega
  | cons q t =>
    have hlt : M.length - 1 < M.length := by rw [hM]; simp
    obtain ⟨q', hq'⟩ : ∃ q', M[M.length - 1]? = some q' := ⟨_, List.getElem?_eq_getElem hlt⟩
    have h4 := (hP _ _ (xe_ws_get hq')).lt
    dsimp only at h4
    rw [← hM]
    omega
theorem xe_newad {M : xM} {q : Nat} {x : va_E} {H1 : Heap} (hc : s.heap.size + cells = B + M.length) (h1 : H1.size ≤ s.heap.size + (cells + 1)) (hP : va_P D vwCl (xe_ws aC (xe_cv b B xs) B M ++ [(q, x)]) H1) (hD : va_D (xe_A B) (xe_ws aC (xe_cv b B xs) B M ++ [(q, x)])) : q = B + M.length := by
  have hlen : (xe_ws aC (xe_cv b B xs) B M).length = M.length := by simp [xe_ws]
  have hlast : (xe_ws aC (xe_cv b B xs) B M ++ [(q, x)])[M.length]? = some (q, x) := by rw [List.getElem?_append_right (by omega), hlen]; simp
  have h2 := (hP _ _ hlast).lt
  have h3 : B ≤ q := hD.2 _ _ hlast
  dsimp only at h2
  rcases Nat.lt_or_ge q (B + M.length) with h4 | h4
  · exfalso
    have hk : q - B < M.length := by omega
    have hg := xe_ws_get (aC := aC) (cv := xe_cv b B xs) (B := B) (List.getElem?_eq_getElem hk)
    have hg2 : (xe_ws aC (xe_cv b B xs) B M ++ [(q, x)])[q - B]? = some (B + (q - B), xe_el aC (xe_cv b B xs) M[q - B]) := by rw [List.getElem?_append_left (by omega)]; exact hg
    have := hD.1 _ _ _ _ hg2 hlast (by show B + (q - B) = q; omega)
    omega
  · omega
/-- behind a call -/
theorem xe_call {st0 rest : List Value} {a : Array Value} {mc ms : Nat} {r : Option Value} {M : xM} (hr : va_Run p l e R s m args below meth c H locs cells slots mc ms (F0 m pc ls st0) rest (xe_Qc D aC b B xs r M a) (xe_A B)) (hS : va_S (xe_A B) s.heap H locs)
    (kk : ∀ (H1 : Heap) (locs1 : List Loc), va_S (xe_A B) s.heap H1 locs1 → va_P D vwCl (xe_ws aC (xe_cv b B xs) B M) H1 → W p l e R s m args below meth c H1 locs1 (cells + mc) (slots + ms) Q (F0 m (pc + 3) ls ((r.map (xe_cv b B xs)).toList ++ rest))) : W p l e R s m args below meth c H locs cells slots Q (F0 m pc ls st0) := by
  intro T hT X
  obtain ⟨v, st₀, t, T', L, h0, X', hL, e1, e2, ⟨⟨hv, hp⟩, hz, hk⟩, st⟩ := hr T hT X
  have hv : v = r.map (xe_cv b B xs) := by cases hv; rfl
  subst hv
  rw [h0] at hz hk
  obtain ⟨t2, a1, b1⟩ := kk T'.heap (locs ++ L)
    ⟨Nat.le_trans hS.1 (by rw [e1]; exact hz), fun q h1 h2 => by rw [e1, hk q (Nat.lt_of_lt_of_le h1 hS.1) h2]; exact hS.2.1 q h1 h2, fun q hq => by
      rcases List.mem_append.mp hq with h | h
      · exact hS.2.2 q h
      · exact hL q h⟩ (by rw [e1]; exact hp) T' rfl X'
  exact ⟨t2, st t2 a1, b1⟩
end
