/-! more calls: of the superclass, of a nest mate's static, of an inherited static -/
section
variable {q : xQ} {k pc l idx a ci : Nat} {lv : xL} {st rest : List Value} {M : xM} {P P1 : Option Value → xM → Prop} {fs : List Value}
theorem xS.callSup {mn : Nat} {rs : List (Nat × Nat)} {idx' : Nat} {Q : xME} (hl : xe_lkF q.1 pc = some (.invokespecial idx, l)) (hx : xcF q.2.1 idx = some (idx', 9, mn, rs)) (hm : xmF mn = some Q) (hd : st.drop Q.2.2.2.2 = .ref a :: rest) (hM : M[a]? = some (ci, fs)) (hn : ci < 12 ∧ xe_sum rest = true) (hT : xT k mn (.ref a :: (st.take Q.2.2.2.2).reverse) M P1) (h : ∀ v M1, P1 v M1 → xS q k (pc + 3) lv (v.toList ++ rest) M1 P) : xS q k pc lv st M P := by
  refine xS.call hl rfl rfl (fun c ih => ?_) hT h
  show xe_callI c q.2.1 idx pc lv st M ih = _
  unfold xe_callI
  simp only [hx, hm, hd, xg_eq, hM, if_pos hn]
theorem xS.callN {mn : Nat} {rs : List (Nat × Nat)} {idx' : Nat} {Q : xME} (hl : xe_lkF q.1 pc = some (.invokestatic idx, l)) (hx : xcF q.2.1 idx = some (idx', 7, mn, rs)) (hm : xmF mn = some Q) (hn : Q.2.2.2.2 ≤ st.length ∧ xe_sum (st.drop Q.2.2.2.2) = true) (hT : xT k mn (st.take Q.2.2.2.2).reverse M P1) (h : ∀ v M1, P1 v M1 → xS q k (pc + 3) lv (v.toList ++ st.drop Q.2.2.2.2) M1 P) : xS q k pc lv st M P := by
  refine xS.call hl rfl rfl (fun c ih => ?_) hT h
  show xe_callS c q.2.1 idx pc lv st M ih = _
  unfold xe_callS
  simp only [hx, hm, if_pos hn]
theorem xS.callO {mn : Nat} {rs : List (Nat × Nat)} {idx' : Nat} {Q : xME} (hl : xe_lkF q.1 pc = some (.invokestatic idx, l)) (hx : xcF q.2.1 idx = some (idx', 10, mn, rs)) (hm : xmF mn = some Q) (hn : Q.2.2.2.2 ≤ st.length ∧ xe_sum (st.drop Q.2.2.2.2) = true) (hT : xT k mn (st.take Q.2.2.2.2).reverse M P1) (h : ∀ v M1, P1 v M1 → xS q k (pc + 3) lv (v.toList ++ st.drop Q.2.2.2.2) M1 P) : xS q k pc lv st M P := by
  refine xS.call hl rfl rfl (fun c ih => ?_) hT h
  show xe_callS c q.2.1 idx pc lv st M ih = _
  unfold xe_callS
  simp only [hx, hm, if_pos hn]
end
