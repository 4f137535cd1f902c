/-! cells in big steps: an object (a, (kind, fields)), a row of ints (a, (12, numbers)), a row of references -/
abbrev xIs (vs : List Int32) : List Value := vs.map Value.int
theorem xIs_get (vs : List Int32) (n : Nat) : (xIs vs)[n]? = (vs[n]?).map Value.int := List.getElem?_map ..
theorem xIs_set (vs : List Int32) (n : Nat) (x : Int32) : (xIs vs).set n (.int x) = xIs (vs.set n x) := (List.map_set ..).symm
section
variable {q : xQ} {k pc l idx a ci : Nat} {lv : xL} {st rest : List Value} {M M1 : xM} {P : Option Value → xM → Prop} {fs vs : List Value} {e : xFE} {v : Value} {j x : Int32} {ns : List Int32}
theorem xS.get (hl : xe_lkF q.1 pc = some (.getfield idx, l)) (hM : M[a]? = some (ci, fs)) (he : xfF q.2.1 idx = some e) (hc : ci < 12 ∧ e.2.2.2.2.contains ci = true) (hv : fs[e.2.1]? = some v) (h : xS q k (pc + 3) lv (v :: rest) M P) : xS q k pc lv (.ref a :: rest) M P := by
  refine xS.s2 hl rfl (g := ((pc + 3, lv, v :: rest), M)) ?_ h
  show xb_getfield idx q.2.1 pc lv (.ref a :: rest) M = _
  unfold xb_getfield
  simp only [xg_eq, hM, he, if_pos hc, hv]
theorem xS.put (hl : xe_lkF q.1 pc = some (.putfield idx, l)) (hM : M[a]? = some (ci, fs)) (he : xfF q.2.1 idx = some e) (hc : (ci < 12 ∧ e.2.2.2.2.contains ci = true) ∧ (xe_vtag v = e.2.2.1 ∧ (e.2.2.2.1 = true → q.2.2.2.2 = true) ∧ e.2.2.1 < 3) ∧ e.2.1 < fs.length) (h : xS q k (pc + 3) lv rest (M.set a (ci, fs.set e.2.1 v)) P) : xS q k pc lv (v :: .ref a :: rest) M P := by
  refine xS.s2 hl rfl (g := ((pc + 3, lv, rest), M.set a (ci, fs.set e.2.1 v))) ?_ h
  show xb_putfield idx q.2.1 q.2.2.2.2 pc lv (v :: .ref a :: rest) M = _
  unfold xb_putfield
  simp only [xg_eq, xse_eq, xln_eq, hM, he, if_pos hc]
theorem xS.iald (hl : xe_lkF q.1 pc = some (.iaload, l)) (hM : M[a]? = some (12, xIs ns)) (hj : ¬ j < 0) (hv : ns[j.toNatClampNeg]? = some x) (h : xS q k (pc + 1) lv (.int x :: rest) M P) : xS q k pc lv (.int j :: .ref a :: rest) M P := by
  refine xS.s2 hl rfl (g := ((pc + 1, lv, .int x :: rest), M)) ?_ h
  show xb_iaload none pc lv (.int j :: .ref a :: rest) M = _
  unfold xb_iaload
  have h2 : ¬ xlt j 0 = true := by rw [xlt_iff]; exact hj
  have h3 : (xIs ns)[j.toNatClampNeg]? = some (.int x) := by rw [xIs_get, hv]; rfl
  simp only [xg_eq, hM, h2, h3, true_and, not_false_eq_true, if_true]
  rfl
theorem xS.iast (hl : xe_lkF q.1 pc = some (.iastore, l)) (hM : M[a]? = some (12, xIs ns)) (hj : ¬ j < 0) (hv : j.toNatClampNeg < ns.length) (h : xS q k (pc + 1) lv rest (M.set a (12, xIs (ns.set j.toNatClampNeg x))) P) : xS q k pc lv (.int x :: .int j :: .ref a :: rest) M P := by
  rw [← xIs_set] at h
  refine xS.s2 hl rfl (g := ((pc + 1, lv, rest), M.set a (12, (xIs ns).set j.toNatClampNeg (.int x)))) ?_ h
  show xb_iastore pc lv (.int x :: .int j :: .ref a :: rest) M = _
  unfold xb_iastore
  have h2 : ¬ xlt j 0 = true := by rw [xlt_iff]; exact hj
  have h3 : j.toNatClampNeg < (xIs ns).length := by rw [List.length_map]; exact hv
  simp only [xg_eq, xse_eq, xln_eq, hM, h2, h3, true_and, and_true, not_false_eq_true]
  rfl
theorem xS.aald (hl : xe_lkF q.1 pc = some (.aaload, l)) (hM : M[a]? = some (ci, vs)) (hci : 12 < ci ∧ ci < 16) (hj : ¬ j < 0) (hv : vs[j.toNatClampNeg]? = some v) (hN : xe_isN v = true) (h : xS q k (pc + 1) lv (v :: rest) M P) : xS q k pc lv (.int j :: .ref a :: rest) M P := by
  refine xS.s2 hl rfl (g := ((pc + 1, lv, v :: rest), M)) ?_ h
  show xb_aaload pc lv (.int j :: .ref a :: rest) M = _
  unfold xb_aaload
  have h2 : ¬ xlt j 0 = true := by rw [xlt_iff]; exact hj
  simp only [xg_eq, hM, h2, hci, hv, hN, true_and, and_self, not_false_eq_true, if_true]
  rfl
theorem xS.alen (hl : xe_lkF q.1 pc = some (.arraylength, l)) (hM : M[a]? = some (ci, vs)) (hci : 12 ≤ ci ∧ ci < 16) (h : xS q k (pc + 1) lv (.int (Int32.ofNat vs.length) :: rest) M P) : xS q k pc lv (.ref a :: rest) M P := by
  refine xS.s2 hl rfl (g := ((pc + 1, lv, .int (Int32.ofNat vs.length) :: rest), M)) ?_ h
  show xb_arraylength none pc lv (.ref a :: rest) M = _
  unfold xb_arraylength
  simp only [xg_eq, xln_eq, hM, if_pos hci]
/-- a virtual call -/
theorem xS.callV {n : Nat} {rs : List (Nat × Nat)} {idx' : Nat} {e : Nat × Nat} {Q : xME} {P1 : Option Value → xM → Prop} (hl : xe_lkF q.1 pc = some (.invokevirtual idx, l)) (hx : xcF q.2.1 idx = some (idx', 3, n, rs)) (hd : st.drop n = .ref a :: rest) (hM : M[a]? = some (ci, fs)) (hr : xfd rs ci = some e) (hm : xmF e.2 = some Q) (hn : ci < 12 ∧ Q.2.2.2.2 = n ∧ xe_sum rest = true) (hT : xT k e.2 (.ref a :: (st.take n).reverse) M P1) (h : ∀ v M1, P1 v M1 → xS q k (pc + 3) lv (v.toList ++ rest) M1 P) : xS q k pc lv st M P := by
  refine xS.call hl rfl rfl (fun c ih => ?_) hT h
  show xe_callV c q.2.1 idx pc lv st M ih = _
  unfold xe_callV
  simp only [hx, hd, xg_eq, hM, hr, hm, if_pos hn]
/-- a static call -/
theorem xS.callS {mn : Nat} {rs : List (Nat × Nat)} {idx' : Nat} {Q : xME} {P1 : Option Value → xM → Prop} (hl : xe_lkF q.1 pc = some (.invokestatic idx, l)) (hx : xcF q.2.1 idx = some (idx', 0, mn, rs)) (hm : xmF mn = some Q) (hn : Q.2.2.2.2 ≤ st.length ∧ xe_sum (st.drop Q.2.2.2.2) = true) (hT : xT k mn (st.take Q.2.2.2.2).reverse M P1) (h : ∀ v M1, P1 v M1 → xS q k (pc + 3) lv (v.toList ++ st.drop Q.2.2.2.2) M1 P) : xS q k pc lv st M P := by
  refine xS.call hl rfl rfl (fun c ih => ?_) hT h
  show xe_callS c q.2.1 idx pc lv st M ih = _
  unfold xe_callS
  simp only [hx, hm, if_pos hn]
end
