/-! instructions that touch neither cells nor methods -/
def xe_tg (pc : Nat) (off : Int) : Option Nat := if (0 : Int) ≤ (pc : Int) + off then some ((pc : Int) + off).toNat else none
theorem xe_tg_ok {pc : Nat} {off : Int} {t : Nat} (h : xe_tg pc off = some t) : (pc : Int) + off = (t : Int) := by
  unfold xe_tg at h
  split at h
  · rename_i h0
    cases h
    exact (Int.toNat_of_nonneg h0).symm
  · cases h
noncomputable def xe_ld (lv : xL) (i : Nat) : Option Value := match xfd lv i with
  | some q => some q.2
  | none => none
noncomputable def xe_s1 (lv : xL) (i : Nat) (v : Value) : xL := (i, v) :: List.rec (motive := fun _ => xL) [] (fun h _ ih => bif Nat.beq h.1 i || (Nat.beq (h.1 + 1) i && Nat.beq h.2.category 2) then ih else h :: ih) lv
theorem xe_s1_eq (lv : xL) (i : Nat) (v : Value) : xe_s1 lv i v = (i, v) :: lv.filter (fun q => !(q.1 == i) && !(q.1 + 1 == i && q.2.category == 2)) := by
  unfold xe_s1
  congr 1
  induction lv with
  | nil => rfl
  | cons h t ih =>
    rw [List.filter_cons, ← ih]
    rw [xnb, xnb, xnb]
    dsimp only
    cases Nat.beq h.1 i <;> cases Nat.beq (h.1 + 1) i <;> cases Nat.beq h.2.category 2 <;> rfl
def xe_s2 (lv : xL) (i : Nat) (v : Value) : xL := (i, v) :: lv.filter (fun q => !(q.1 == i) && (!(q.1 == i + 1) && !(q.1 + 1 == i && q.2.category == 2)))
def xe_isI (v : Value) : Bool := match v with
  | .int _ => true
  | .float _ => true
  | _ => false
def xe_isL (v : Value) : Bool := match v with
  | .long _ => true
  | .double _ => true
  | _ => false
def xe_isR (v : Value) : Bool := match v with
  | .ref _ => true
  | .retAddr _ => true
  | _ => false
abbrev xF : Type := Nat × xL × List Value
def xe_jmp (t : Option Nat) (lv : xL) (st : List Value) : Option xF := match t with
  | some t => some (t, lv, st)
  | none => none
def xe_br (iv : List (Int32 × Int32)) (k : ClassFile.Cond) (off : Int) (pc : Nat) (lv : xL) (x y : Value) (r : List Value) : Option xF := match xe_tg pc off with
  | some t => match xe_cmpF iv k x y with
    | some r' => some (bif r' then t else pc + 3, lv, r)
    | none => none
  | none => none
noncomputable def xa_iconst (n : Int) (pc : Nat) (lv : xL) (st : List Value) : Option xF := some (pc + 1, lv, .int (Int32.ofInt n) :: st)
noncomputable def xa_bipush (n : Int) (pc : Nat) (lv : xL) (st : List Value) : Option xF := some (pc + 2, lv, .int (Int8.ofInt n).toInt32 :: st)
noncomputable def xa_sipush (n : Int) (pc : Nat) (lv : xL) (st : List Value) : Option xF := some (pc + 3, lv, .int (Int16.ofInt n).toInt32 :: st)
noncomputable def xa_lconst (n : Fin 2) (pc : Nat) (lv : xL) (st : List Value) : Option xF := some (pc + 1, lv, .long (Int64.ofNat (n : Nat)) :: st)
noncomputable def xa_iload_n (k : Fin 4) (pc : Nat) (lv : xL) (st : List Value) : Option xF := match xe_ld lv k with
  | some v => if xe_isI v then some (pc + 1, lv, v :: st) else none
  | none => none
noncomputable def xa_iload (k : Nat) (pc : Nat) (lv : xL) (st : List Value) : Option xF := match xe_ld lv k with
  | some v => if xe_isI v then some (pc + 2, lv, v :: st) else none
  | none => none
noncomputable def xa_lload_n (k : Fin 4) (pc : Nat) (lv : xL) (st : List Value) : Option xF := match xe_ld lv k with
  | some v => if xe_isL v then some (pc + 1, lv, v :: st) else none
  | none => none
noncomputable def xa_lload (k : Nat) (pc : Nat) (lv : xL) (st : List Value) : Option xF := match xe_ld lv k with
  | some v => if xe_isL v then some (pc + 2, lv, v :: st) else none
  | none => none
noncomputable def xa_aload_n (k : Fin 4) (pc : Nat) (lv : xL) (st : List Value) : Option xF := match xe_ld lv k with
  | some v => if xe_isR v then some (pc + 1, lv, v :: st) else none
  | none => none
noncomputable def xa_aload (k : Nat) (pc : Nat) (lv : xL) (st : List Value) : Option xF := match xe_ld lv k with
  | some v => if xe_isR v then some (pc + 2, lv, v :: st) else none
  | none => none
noncomputable def xa_istore_n (k : Fin 4) (nL : Nat) (pc : Nat) (lv : xL) (st : List Value) : Option xF := match st with
  | v :: r => if xe_isI v && decide ((k : Nat) < nL) then some (pc + 1, xe_s1 lv k v, r) else none
  | [] => none
noncomputable def xa_istore (k : Nat) (nL : Nat) (pc : Nat) (lv : xL) (st : List Value) : Option xF := match st with
  | v :: r => if xe_isI v && decide (k < nL) then some (pc + 2, xe_s1 lv k v, r) else none
  | [] => none
noncomputable def xa_lstore_n (k : Fin 4) (nL : Nat) (pc : Nat) (lv : xL) (st : List Value) : Option xF := match st with
  | v :: r => if xe_isL v && decide ((k : Nat) + 1 < nL) then some (pc + 1, xe_s2 lv k v, r) else none
  | [] => none
noncomputable def xa_lstore (k : Nat) (nL : Nat) (pc : Nat) (lv : xL) (st : List Value) : Option xF := match st with
  | v :: r => if xe_isL v && decide (k + 1 < nL) then some (pc + 2, xe_s2 lv k v, r) else none
  | [] => none
noncomputable def xa_astore_n (k : Fin 4) (nL : Nat) (pc : Nat) (lv : xL) (st : List Value) : Option xF := match st with
  | v :: r => if xe_isR v && decide ((k : Nat) < nL) then some (pc + 1, xe_s1 lv k v, r) else none
  | [] => none
noncomputable def xa_astore (k : Nat) (nL : Nat) (pc : Nat) (lv : xL) (st : List Value) : Option xF := match st with
  | v :: r => if xe_isR v && decide (k < nL) then some (pc + 2, xe_s1 lv k v, r) else none
  | [] => none
noncomputable def xa_iinc (k : Nat) (n : Int) (nL : Nat) (pc : Nat) (lv : xL) (st : List Value) : Option xF := match xe_ld lv k with
  | some (.int x) => if k < nL then some (pc + 3, xe_s1 lv k (.int (x + Int32.ofInt n)), st) else none
  | _ => none
noncomputable def xa_iadd  (pc : Nat) (lv : xL) (st : List Value) : Option xF := match st with
  | .int y :: .int x :: r => some (pc + 1, lv, .int (x + y) :: r)
  | _ => none
noncomputable def xa_isub  (pc : Nat) (lv : xL) (st : List Value) : Option xF := match st with
  | .int y :: .int x :: r => some (pc + 1, lv, .int (x - y) :: r)
  | _ => none
noncomputable def xa_imul  (pc : Nat) (lv : xL) (st : List Value) : Option xF := match st with
  | .int y :: .int x :: r => some (pc + 1, lv, .int (x * y) :: r)
  | _ => none
noncomputable def xa_iand  (a6 : Option Int32) (pc : Nat) (lv : xL) (st : List Value) : Option xF := match st with
  | .int y :: .int x :: r => some (pc + 1, lv, .int (x &&& y) :: r)
  | .int y :: .float j :: r => match a6 with
    | some v => if y = 63 ∧ j = 0 then some (pc + 1, lv, .int v :: r) else none
    | none => none
  | _ => none
noncomputable def xa_ior  (pc : Nat) (lv : xL) (st : List Value) : Option xF := match st with
  | .int y :: .int x :: r => some (pc + 1, lv, .int (x ||| y) :: r)
  | _ => none
noncomputable def xa_ishl  (pc : Nat) (lv : xL) (st : List Value) : Option xF := match st with
  | .int y :: .int x :: r => some (pc + 1, lv, .int (x <<< (y &&& 31)) :: r)
  | _ => none
noncomputable def xa_ishr  (pc : Nat) (lv : xL) (st : List Value) : Option xF := match st with
  | .int y :: .int x :: r => some (pc + 1, lv, .int (x >>> (y &&& 31)) :: r)
  | _ => none
noncomputable def xa_idiv  (pc : Nat) (lv : xL) (st : List Value) : Option xF := match st with
  | .int y :: .int x :: r => if y = 0 then none else some (pc + 1, lv, .int (x / y) :: r)
  | _ => none
noncomputable def xa_irem  (pc : Nat) (lv : xL) (st : List Value) : Option xF := match st with
  | .int y :: .int x :: r => if y = 0 then none else some (pc + 1, lv, .int (x - x / y * y) :: r)
  | _ => none
noncomputable def xa_ladd  (pc : Nat) (lv : xL) (st : List Value) : Option xF := match st with
  | .long y :: .long x :: r => some (pc + 1, lv, .long (x + y) :: r)
  | _ => none
noncomputable def xa_lmul  (pc : Nat) (lv : xL) (st : List Value) : Option xF := match st with
  | .long y :: .long x :: r => some (pc + 1, lv, .long (x * y) :: r)
  | _ => none
noncomputable def xa_ldiv  (pc : Nat) (lv : xL) (st : List Value) : Option xF := match st with
  | .long y :: .long x :: r => if y = 0 then none else some (pc + 1, lv, .long (x / y) :: r)
  | _ => none
noncomputable def xa_lrem  (pc : Nat) (lv : xL) (st : List Value) : Option xF := match st with
  | .long y :: .long x :: r => if y = 0 then none else some (pc + 1, lv, .long (x - x / y * y) :: r)
  | _ => none
noncomputable def xa_lcmp  (iv : List (Int32 × Int32)) (pc : Nat) (lv : xL) (st : List Value) : Option xF := match st with
  | .long y :: .long x :: r => some (pc + 1, lv, .int (lg_cmp x y) :: r)
  | .long y :: .double j :: r => match iv[j.toNat]? with
    | some q => if q.2.toInt64 < y then some (pc + 1, lv, .int (-1) :: r) else if y < q.1.toInt64 then some (pc + 1, lv, .int 1 :: r) else none
    | none => none
  | _ => none
noncomputable def xa_i2l  (pc : Nat) (lv : xL) (st : List Value) : Option xF := match st with
  | .int x :: r => some (pc + 1, lv, .long x.toInt64 :: r)
  | .float j :: r => some (pc + 1, lv, .double j.toUInt64 :: r)
  | _ => none
noncomputable def xa_l2i  (pc : Nat) (lv : xL) (st : List Value) : Option xF := match st with
  | .long x :: r => some (pc + 1, lv, .int x.toInt32 :: r)
  | _ => none
noncomputable def xa_i2b  (pc : Nat) (lv : xL) (st : List Value) : Option xF := match st with
  | .int x :: r => some (pc + 1, lv, .int x.toInt8.toInt32 :: r)
  | _ => none
noncomputable def xa_ldc (k : Nat) (oc : Nat) (pc : Nat) (lv : xL) (st : List Value) : Option xF := match xk oc k with
  | some (_, .int v) => some (pc + 2, lv, .int v :: st)
  | _ => none
noncomputable def xa_ldc_w (k : Nat) (oc : Nat) (pc : Nat) (lv : xL) (st : List Value) : Option xF := match xk oc k with
  | some (_, .int v) => some (pc + 3, lv, .int v :: st)
  | _ => none
noncomputable def xa_iushr  (pc : Nat) (lv : xL) (st : List Value) : Option xF := match st with
  | .int y :: .int x :: r => some (pc + 1, lv, .int (x.toUInt32 >>> (y.toUInt32 &&& Int32.toUInt32 31)).toInt32 :: r)
  | _ => none
noncomputable def xa_ldc2_w (k : Nat) (oc : Nat) (pc : Nat) (lv : xL) (st : List Value) : Option xF := match xk oc k with
  | some (_, .long v) => some (pc + 3, lv, .long v :: st)
  | _ => none
noncomputable def xa_dup  (pc : Nat) (lv : xL) (st : List Value) : Option xF := match st with
  | v :: r => if v.category = 1 then some (pc + 1, lv, v :: v :: r) else none
  | [] => none
noncomputable def xa_dup2  (pc : Nat) (lv : xL) (st : List Value) : Option xF := match st with
  | v :: w :: r => if v.category = 1 ∧ w.category = 1 then some (pc + 1, lv, v :: w :: v :: w :: r) else none
  | _ => none
noncomputable def xa_pop  (pc : Nat) (lv : xL) (st : List Value) : Option xF := match st with
  | v :: r => if v.category = 1 then some (pc + 1, lv, r) else none
  | [] => none
noncomputable def xa_pop2  (pc : Nat) (lv : xL) (st : List Value) : Option xF := match st with
  | v :: r => if v.category = 2 then some (pc + 1, lv, r) else none
  | [] => none
noncomputable def xa_goto (off : Int) (pc : Nat) (lv : xL) (st : List Value) : Option xF := xe_jmp (xe_tg pc off) lv st
noncomputable def xa_if_icmp (k : ClassFile.Cond) (off : Int) (iv : List (Int32 × Int32)) (pc : Nat) (lv : xL) (st : List Value) : Option xF := match st with
  | y :: x :: r => xe_br iv k off pc lv x y r
  | _ => none
noncomputable def xa_ifCond (k : ClassFile.Cond) (off : Int) (iv : List (Int32 × Int32)) (pc : Nat) (lv : xL) (st : List Value) : Option xF := match st with
  | x :: r => xe_br iv k off pc lv x (.int 0) r
  | _ => none
noncomputable def xa_tableswitch (d : Int) (lo : Int) (hi : Int) (offs : Array Int) (iv : List (Int32 × Int32)) (pc : Nat) (lv : xL) (st : List Value) : Option xF := match st with
  | .int x :: r => if x.toInt < lo ∨ hi < x.toInt then xe_jmp (xe_tg pc d) lv r else match offs[(x.toInt - lo).toNat]? with
    | some off => xe_jmp (xe_tg pc off) lv r
    | none => none
  | .float j :: r => match iv[j.toNat]? with
    | some q => if q.2.toInt < lo ∨ hi < q.1.toInt then xe_jmp (xe_tg pc d) lv r else none
    | none => none
  | _ => none
noncomputable def xe_step1 (iv : List (Int32 × Int32)) (a6 : Option Int32) (oc nL : Nat) (i : Instr) (pc : Nat) (lv : xL) (st : List Value) : Option xF := match i with
  | .iconst n => xa_iconst n pc lv st
  | .bipush n => xa_bipush n pc lv st
  | .sipush n => xa_sipush n pc lv st
  | .lconst n => xa_lconst n pc lv st
  | .iload_n k => xa_iload_n k pc lv st
  | .iload k => xa_iload k pc lv st
  | .lload_n k => xa_lload_n k pc lv st
  | .lload k => xa_lload k pc lv st
  | .aload_n k => xa_aload_n k pc lv st
  | .aload k => xa_aload k pc lv st
  | .istore_n k => xa_istore_n k nL pc lv st
  | .istore k => xa_istore k nL pc lv st
  | .lstore_n k => xa_lstore_n k nL pc lv st
  | .lstore k => xa_lstore k nL pc lv st
  | .astore_n k => xa_astore_n k nL pc lv st
  | .astore k => xa_astore k nL pc lv st
  | .iinc k n => xa_iinc k n nL pc lv st
  | .iadd => xa_iadd pc lv st
  | .isub => xa_isub pc lv st
  | .imul => xa_imul pc lv st
  | .iand => xa_iand a6 pc lv st
  | .ior => xa_ior pc lv st
  | .ishl => xa_ishl pc lv st
  | .ishr => xa_ishr pc lv st
  | .idiv => xa_idiv pc lv st
  | .irem => xa_irem pc lv st
  | .ladd => xa_ladd pc lv st
  | .lmul => xa_lmul pc lv st
  | .ldiv => xa_ldiv pc lv st
  | .lrem => xa_lrem pc lv st
  | .lcmp => xa_lcmp iv pc lv st
  | .i2l => xa_i2l pc lv st
  | .l2i => xa_l2i pc lv st
  | .i2b => xa_i2b pc lv st
  | .ldc k => xa_ldc k oc pc lv st
  | .ldc_w k => xa_ldc_w k oc pc lv st
  | .iushr => xa_iushr pc lv st
  | .ldc2_w k => xa_ldc2_w k oc pc lv st
  | .dup => xa_dup pc lv st
  | .dup2 => xa_dup2 pc lv st
  | .pop => xa_pop pc lv st
  | .pop2 => xa_pop2 pc lv st
  | .goto off => xa_goto off pc lv st
  | .if_icmp k off => xa_if_icmp k off iv pc lv st
  | .ifCond k off => xa_ifCond k off iv pc lv st
  | .tableswitch d lo hi offs => xa_tableswitch d lo hi offs iv pc lv st
  | _ => none
abbrev xe_lm (b : Nat → Nat) (B : Nat) (xs : Nat → Int32) (lv : xL) : xL := lv.map (fun q => (q.1, xe_cv b B xs q.2))
theorem xe_filter {b : Nat → Nat} {B : Nat} {xs : Nat → Int32} (P : Nat → Nat → Bool) (lv : xL) : (xe_lm b B xs lv).filter (fun q => P q.1 q.2.category) = xe_lm b B xs (lv.filter (fun q => P q.1 q.2.category)) := by
  induction lv with
  | nil => rfl
  | cons q t ih =>
    have h : P (q.1) (xe_cv b B xs q.2).category = P q.1 q.2.category := by rw [xe_cat]
    simp only [xe_lm, List.map_cons, List.filter_cons] at ih ⊢
    rw [h]
    split
    · rw [List.map_cons, ih]
    · exact ih
theorem xe_s1_map {b : Nat → Nat} {B : Nat} {xs : Nat → Int32} (lv : xL) (i : Nat) (v : Value) : (i, xe_cv b B xs v) :: (xe_lm b B xs lv).filter (fun q => !(q.1 == i) && !(q.1 + 1 == i && q.2.category == 2)) = xe_lm b B xs (xe_s1 lv i v) := by
  rw [xe_filter (fun a c => !(a == i) && !(a + 1 == i && c == 2)), xe_s1_eq]
  rfl
theorem xe_s2_map {b : Nat → Nat} {B : Nat} {xs : Nat → Int32} (lv : xL) (i : Nat) (v : Value) : (i, xe_cv b B xs v) :: (xe_lm b B xs lv).filter (fun q => !(q.1 == i) && (!(q.1 == i + 1) && !(q.1 + 1 == i && q.2.category == 2))) = xe_lm b B xs (xe_s2 lv i v) := by
  rw [xe_filter (fun a c => !(a == i) && (!(a == i + 1) && !(a + 1 == i && c == 2)))]
  rfl
theorem xe_ld_mem {lv : xL} {i : Nat} {v : Value} (h : xe_ld lv i = some v) : (i, v) ∈ lv := by
  unfold xe_ld at h
  rw [xfd_eq] at h
  split at h
  · rename_i q hq
    cases h
    have h1 : q.1 = i := by simpa using List.find?_some hq
    rw [← h1]
    exact List.mem_of_find?_eq_some hq
  · cases h
theorem xe_ld_ok {b : Nat → Nat} {B : Nat} {xs : Nat → Int32} {lv : xL} {ls : Array Slot} {nL i : Nat} {v : Value} (h : xe_ld lv i = some v) (hl : lv_has ls nL (xe_lm b B xs lv)) : ls[i]? = some (.val (xe_cv b B xs v)) :=
  hl.2.2 (i, xe_cv b B xs v) (List.mem_map.mpr ⟨(i, v), xe_ld_mem h, rfl⟩)
theorem xe_isI_ok {b : Nat → Nat} {B : Nat} {xs : Nat → Int32} {v : Value} (h : xe_isI v = true) : ∃ x, xe_cv b B xs v = .int x := by
  cases v <;> first | exact ⟨_, rfl⟩ | cases h
theorem xe_isL_ok {b : Nat → Nat} {B : Nat} {xs : Nat → Int32} {v : Value} (h : xe_isL v = true) : ∃ x, xe_cv b B xs v = .long x := by
  cases v <;> first | exact ⟨_, rfl⟩ | cases h
theorem xe_isR_ok {b : Nat → Nat} {B : Nat} {xs : Nat → Int32} {v : Value} (h : xe_isR v = true) : ∃ x, xe_cv b B xs v = .ref x := by
  cases v <;> first | exact ⟨_, rfl⟩ | cases h
section
variable {p : Program} {l : Launch} {e : Env} {R : Room} {s : State} {m : MethodId} {args : Array Value} {below : List Frame} {meth : Method} {c : Code} {H : Heap} {locs : List Loc} {cells slots : Nat} {Q : State → Prop}
variable {cc : ByteArray} {pc : Nat} {ls : Array Slot} {rest : List Value}
theorem xe_icmp (hx : p.tables.exec = Jvm.exec) (hb : c.code = cc) {k : ClassFile.Cond} {x y : Int32} {off : Int} {tgt : Nat} {r : Bool} (hd : decode cc pc = .ok (.if_icmp k off, 3)) (ht : (pc : Int) + off = (tgt : Int)) (hr : xe_holds k x y = r)
    (kk : W p l e R s m args below meth c H locs cells slots Q (F0 m (bif r then tgt else pc + 3) ls rest)) : W p l e R s m args below meth c H locs cells slots Q (F0 m pc ls (.int y :: .int x :: rest)) := by
  cases r with
  | true =>
    cases k with
    | eq => exact lv_icmp_eq hx hb hd ht (fun _ => kk) (fun q => absurd (of_decide_eq_true hr) q)
    | ne => exact lv_icmp_ne hx hb hd ht (fun _ => kk) (fun q => absurd q (of_decide_eq_true hr))
    | lt => exact lv_icmp_lt hx hb hd ht (fun _ => kk) (fun q => absurd (of_decide_eq_true hr) q)
    | ge => exact lv_icmp_ge hx hb hd ht (fun _ => kk) (fun q => absurd (of_decide_eq_true hr) q)
    | gt => exact lv_icmp_gt hx hb hd ht (fun _ => kk) (fun q => absurd (of_decide_eq_true hr) q)
    | le => exact lv_icmp_le hx hb hd ht (fun _ => kk) (fun q => absurd (of_decide_eq_true hr) q)
  | false =>
    cases k with
    | eq => exact lv_icmp_eq hx hb hd ht (fun q => absurd q (of_decide_eq_false hr)) (fun _ => kk)
    | ne => exact lv_icmp_ne hx hb hd ht (fun q => absurd q (of_decide_eq_false hr)) (fun _ => kk)
    | lt => exact lv_icmp_lt hx hb hd ht (fun q => absurd q (of_decide_eq_false hr)) (fun _ => kk)
    | ge => exact lv_icmp_ge hx hb hd ht (fun q => absurd q (of_decide_eq_false hr)) (fun _ => kk)
    | gt => exact lv_icmp_gt hx hb hd ht (fun q => absurd q (of_decide_eq_false hr)) (fun _ => kk)
    | le => exact lv_icmp_le hx hb hd ht (fun q => absurd q (of_decide_eq_false hr)) (fun _ => kk)
theorem xe_icmp0 (hx : p.tables.exec = Jvm.exec) (hb : c.code = cc) {k : ClassFile.Cond} {x : Int32} {off : Int} {tgt : Nat} {r : Bool} (hd : decode cc pc = .ok (.ifCond k off, 3)) (ht : (pc : Int) + off = (tgt : Int)) (hr : xe_holds k x 0 = r)
    (kk : W p l e R s m args below meth c H locs cells slots Q (F0 m (bif r then tgt else pc + 3) ls rest)) : W p l e R s m args below meth c H locs cells slots Q (F0 m pc ls (.int x :: rest)) := by
  cases r with
  | true =>
    cases k with
    | eq => exact lv_if_eq hx hb hd ht (fun _ => kk) (fun q => absurd (of_decide_eq_true hr) q)
    | ne => exact lv_if_ne hx hb hd ht (fun _ => kk) (fun q => absurd q (of_decide_eq_true hr))
    | lt => exact lv_if_lt hx hb hd ht (fun _ => kk) (fun q => absurd (of_decide_eq_true hr) q)
    | ge => exact lv_if_ge hx hb hd ht (fun _ => kk) (fun q => absurd (of_decide_eq_true hr) q)
    | gt => exact lv_if_gt hx hb hd ht (fun _ => kk) (fun q => absurd (of_decide_eq_true hr) q)
    | le => exact lv_if_le hx hb hd ht (fun _ => kk) (fun q => absurd (of_decide_eq_true hr) q)
  | false =>
    cases k with
    | eq => exact lv_if_eq hx hb hd ht (fun q => absurd q (of_decide_eq_false hr)) (fun _ => kk)
    | ne => exact lv_if_ne hx hb hd ht (fun q => absurd q (of_decide_eq_false hr)) (fun _ => kk)
    | lt => exact lv_if_lt hx hb hd ht (fun q => absurd q (of_decide_eq_false hr)) (fun _ => kk)
    | ge => exact lv_if_ge hx hb hd ht (fun q => absurd q (of_decide_eq_false hr)) (fun _ => kk)
    | gt => exact lv_if_gt hx hb hd ht (fun q => absurd q (of_decide_eq_false hr)) (fun _ => kk)
    | le => exact lv_if_le hx hb hd ht (fun q => absurd q (of_decide_eq_false hr)) (fun _ => kk)
variable {b : Nat → Nat} {B : Nat} {xs : Nat → Int32} {iv : List (Int32 × Int32)} {a6 : Option Int32} {oc nL : Nat}
theorem xe_jmp_ok {t : Option Nat} {lv : xL} {st : List Value} {f : xF} (h : xe_jmp t lv st = some f) : ∃ t', t = some t' ∧ f = (t', lv, st) := by
  unfold xe_jmp at h
  split at h
  · cases h
    exact ⟨_, rfl, rfl⟩
  · cases h
theorem xe_br_ok {k : ClassFile.Cond} {off : Int} {lv : xL} {x y : Value} {r : List Value} {f : xF} (hi : xe_in iv xs) (h : xe_br iv k off pc lv x y r = some f) : ∃ (t : Nat) (r' : Bool) (a d : Int32), (pc : Int) + off = (t : Int) ∧ xe_cv b B xs x = .int a ∧ xe_cv b B xs y = .int d ∧ xe_holds k a d = r' ∧ f = (bif r' then t else pc + 3, lv, r) := by
  unfold xe_br at h
  rw [xe_cmpF_eq] at h
  split at h
  · rename_i t ht
    split at h
    · rename_i r' hr
      cases h
      obtain ⟨a, d, h1, h2, h3⟩ := xe_cmp_ok (b := b) (B := B) hi hr
      exact ⟨t, r', a, d, xe_tg_ok ht, h1, h2, h3, rfl⟩
    · cases h
  · cases h
set_option maxHeartbeats 4000000 in
theorem xe_step1_ok (hx : p.tables.exec = Jvm.exec) (hb : c.code = cc) (hown : s.vm.findClass (RO oc) = some m.cls) (hts : ∀ w ∈ xWS, w.before args s = true) (hi : xe_in iv xs) (h6 : ∀ v, a6 = some v → xs 0 &&& 63 = v) {i : Instr} {len : Nat} {lv : xL} {st : List Value} {f : xF} (hd : decode cc pc = .ok (i, xe_len i len)) (hl : lv_has ls nL (xe_lm b B xs lv)) (h : xe_step1 iv a6 oc nL i pc lv st = some f)
    (k : ∀ ls' : Array Slot, lv_has ls' nL (xe_lm b B xs f.2.1) → W p l e R s m args below meth c H locs cells slots Q (F0 m f.1 ls' (f.2.2.map (xe_cv b B xs)))) : W p l e R s m args below meth c H locs cells slots Q (F0 m pc ls (st.map (xe_cv b B xs))) := by
  have ld : ∀ {n : Nat} {v : Value}, xe_ld lv n = some v → ls[n]? = some (.val (xe_cv b B xs v)) := fun q => xe_ld_ok q hl
  unfold xe_step1 at h
  split at h
  · unfold xa_iconst at h
    cases h
    exact lv_iconst hx hb hd rfl (k ls hl)
  · unfold xa_bipush at h
    cases h
    exact lv_bipush hx hb hd rfl (k ls hl)
  · unfold xa_sipush at h
    cases h
    exact lv_sipush hx hb hd rfl (k ls hl)
  · unfold xa_lconst at h
    cases h
    exact lv_lconst hx hb hd rfl (k ls hl)
  · unfold xa_iload_n at h
    split at h
    · rename_i v hv
      split at h
      · rename_i hI
        cases h
        have h2 := ld hv
        have h3 := k ls hl
        obtain ⟨x, ex⟩ := xe_isI_ok (b := b) (B := B) (xs := xs) hI
        rw [List.map_cons, ex] at h3
        rw [ex] at h2
        exact lv_iload_n hx hb hd rfl h2 h3
      · cases h
    · cases h
  · unfold xa_iload at h
    split at h
    · rename_i v hv
      split at h
      · rename_i hI
        cases h
        have h2 := ld hv
        have h3 := k ls hl
        obtain ⟨x, ex⟩ := xe_isI_ok (b := b) (B := B) (xs := xs) hI
        rw [List.map_cons, ex] at h3
        rw [ex] at h2
        exact lv_iload hx hb hd h2 h3
      · cases h
    · cases h
  · unfold xa_lload_n at h
    split at h
    · rename_i v hv
      split at h
      · rename_i hI
        cases h
        have h2 := ld hv
        have h3 := k ls hl
        obtain ⟨x, ex⟩ := xe_isL_ok (b := b) (B := B) (xs := xs) hI
        rw [List.map_cons, ex] at h3
        rw [ex] at h2
        exact lv_lload_n hx hb hd rfl h2 h3
      · cases h
    · cases h
  · unfold xa_lload at h
    split at h
    · rename_i v hv
      split at h
      · rename_i hI
        cases h
        have h2 := ld hv
        have h3 := k ls hl
        obtain ⟨x, ex⟩ := xe_isL_ok (b := b) (B := B) (xs := xs) hI
        rw [List.map_cons, ex] at h3
        rw [ex] at h2
        exact lv_lload hx hb hd h2 h3
      · cases h
    · cases h
  · unfold xa_aload_n at h
    split at h
    · rename_i v hv
      split at h
      · rename_i hI
        cases h
        have h2 := ld hv
        have h3 := k ls hl
        obtain ⟨x, ex⟩ := xe_isR_ok (b := b) (B := B) (xs := xs) hI
        rw [List.map_cons, ex] at h3
        rw [ex] at h2
        exact lv_aload_n hx hb hd rfl h2 h3
      · cases h
    · cases h
  · unfold xa_aload at h
    split at h
    · rename_i v hv
      split at h
      · rename_i hI
        cases h
        have h2 := ld hv
        have h3 := k ls hl
        obtain ⟨x, ex⟩ := xe_isR_ok (b := b) (B := B) (xs := xs) hI
        rw [List.map_cons, ex] at h3
        rw [ex] at h2
        exact lv_aload hx hb hd h2 h3
      · cases h
    · cases h
  · unfold xa_istore_n at h
    split at h
    · rename_i v r
      split at h
      · rename_i hI
        cases h
        rw [Bool.and_eq_true] at hI
        obtain ⟨x, ex⟩ := xe_isI_ok (b := b) (B := B) (xs := xs) hI.1
        rw [List.map_cons, ex]
        exact lv_istore_n hx hb hd rfl hl (of_decide_eq_true hI.2) (by rw [← ex]; exact xe_s1_map lv _ v) k
      · cases h
    · cases h
  · unfold xa_istore at h
    split at h
    · rename_i v r
      split at h
      · rename_i hI
        cases h
        rw [Bool.and_eq_true] at hI
        obtain ⟨x, ex⟩ := xe_isI_ok (b := b) (B := B) (xs := xs) hI.1
        rw [List.map_cons, ex]
        exact lv_istore hx hb hd hl (of_decide_eq_true hI.2) (by rw [← ex]; exact xe_s1_map lv _ v) k
      · cases h
    · cases h
  · unfold xa_lstore_n at h
    split at h
    · rename_i v r
      split at h
      · rename_i hI
        cases h
        rw [Bool.and_eq_true] at hI
        obtain ⟨x, ex⟩ := xe_isL_ok (b := b) (B := B) (xs := xs) hI.1
        rw [List.map_cons, ex]
        exact lv_lstore_n hx hb hd rfl hl (of_decide_eq_true hI.2) (by rw [← ex]; exact xe_s2_map lv _ v) k
      · cases h
    · cases h
  · unfold xa_lstore at h
    split at h
    · rename_i v r
      split at h
      · rename_i hI
        cases h
        rw [Bool.and_eq_true] at hI
        obtain ⟨x, ex⟩ := xe_isL_ok (b := b) (B := B) (xs := xs) hI.1
        rw [List.map_cons, ex]
        exact lv_lstore hx hb hd hl (of_decide_eq_true hI.2) (by rw [← ex]; exact xe_s2_map lv _ v) k
      · cases h
    · cases h
  · unfold xa_astore_n at h
    split at h
    · rename_i v r
      split at h
      · rename_i hI
        cases h
        rw [Bool.and_eq_true] at hI
        obtain ⟨x, ex⟩ := xe_isR_ok (b := b) (B := B) (xs := xs) hI.1
        rw [List.map_cons, ex]
        exact lv_astore_n hx hb hd rfl hl (of_decide_eq_true hI.2) (by rw [← ex]; exact xe_s1_map lv _ v) k
      · cases h
    · cases h
  · unfold xa_astore at h
    split at h
    · rename_i v r
      split at h
      · rename_i hI
        cases h
        rw [Bool.and_eq_true] at hI
        obtain ⟨x, ex⟩ := xe_isR_ok (b := b) (B := B) (xs := xs) hI.1
        rw [List.map_cons, ex]
        exact lv_astore hx hb hd hl (of_decide_eq_true hI.2) (by rw [← ex]; exact xe_s1_map lv _ v) k
      · cases h
    · cases h
  · unfold xa_iinc at h
    split at h
    · rename_i x hv
      split at h
      · rename_i hI
        cases h
        have hm : (_, Value.int x) ∈ xe_lm b B xs lv := List.mem_map.mpr ⟨(_, .int x), xe_ld_mem hv, rfl⟩
        obtain ⟨n, hn⟩ := List.getElem?_of_mem hm
        exact lv_iinc hx hb hd hl hn rfl hI (xe_s1_map lv _ (.int _)) k
      · cases h
    · cases h
  · unfold xa_iadd at h
    split at h
    · cases h
      exact lv_iadd hx hb hd (k ls hl)
    · cases h
  · unfold xa_isub at h
    split at h
    · cases h
      exact lv_isub hx hb hd (k ls hl)
    · cases h
  · unfold xa_imul at h
    split at h
    · cases h
      exact lv_imul hx hb hd (k ls hl)
    · cases h
  · unfold xa_iand at h
    split at h
    · cases h
      exact lv_iand hx hb hd (k ls hl)
    · split at h
      · rename_i v
        split at h
        · rename_i h0
          cases h
          obtain ⟨rfl, rfl⟩ := h0
          have h3 := k ls hl
          rw [List.map_cons, show xe_cv b B xs (.int v) = .int v from rfl, ← h6 v rfl] at h3
          exact lv_iand hx hb hd h3
        · cases h
      · cases h
    · cases h
  · unfold xa_ior at h
    split at h
    · cases h
      exact lv_ior hx hb hd (k ls hl)
    · cases h
  · unfold xa_ishl at h
    split at h
    · cases h
      exact lv_ishl hx hb hd (k ls hl)
    · cases h
  · unfold xa_ishr at h
    split at h
    · cases h
      exact lv_ishr hx hb hd (k ls hl)
    · cases h
  · unfold xa_idiv at h
    split at h
    · split at h
      · cases h
      · rename_i h0
        cases h
        exact lv_idiv hx hb hd h0 (k ls hl)
    · cases h
  · unfold xa_irem at h
    split at h
    · split at h
      · cases h
      · rename_i h0
        cases h
        exact lv_irem hx hb hd h0 (k ls hl)
    · cases h
  · unfold xa_ladd at h
    split at h
    · cases h
      exact lv_ladd hx hb hd (k ls hl)
    · cases h
  · unfold xa_lmul at h
    split at h
    · cases h
      exact lv_lmul hx hb hd (k ls hl)
    · cases h
  · unfold xa_ldiv at h
    split at h
    · split at h
      · cases h
      · rename_i h0
        cases h
        exact lv_ldiv hx hb hd h0 (k ls hl)
    · cases h
  · unfold xa_lrem at h
    split at h
    · split at h
      · cases h
      · rename_i h0
        cases h
        exact lv_lrem hx hb hd h0 (k ls hl)
    · cases h
  · unfold xa_lcmp at h
    split at h
    · cases h
      exact W.lcmp hx hb hd (k ls hl)
    · rename_i y j r
      split at h
      · rename_i q hq
        have h1 := hi _ q hq
        rw [Int32.le_iff_toInt_le, Int32.le_iff_toInt_le] at h1
        split at h
        · rename_i h2
          cases h
          rw [Int64.lt_iff_toInt_lt, Int32.toInt_toInt64] at h2
          have h3 := k ls hl
          have h4 : lg_cmp (xs j.toNat).toInt64 y = -1 := by
            unfold lg_cmp
            rw [if_neg, if_neg]
            · intro q
              rw [← q, Int32.toInt_toInt64] at h2
              omega
            · rw [gt_iff_lt, Int64.lt_iff_toInt_lt, Int32.toInt_toInt64]
              omega
          rw [← h4] at h3
          exact W.lcmp hx hb hd h3
        · split at h
          · rename_i h2
            cases h
            rw [Int64.lt_iff_toInt_lt, Int32.toInt_toInt64] at h2
            have h3 := k ls hl
            have h4 : lg_cmp (xs j.toNat).toInt64 y = 1 := by
              unfold lg_cmp
              rw [if_pos]
              rw [gt_iff_lt, Int64.lt_iff_toInt_lt, Int32.toInt_toInt64]
              omega
            rw [← h4] at h3
            exact W.lcmp hx hb hd h3
          · cases h
      · cases h
    · cases h
  · unfold xa_i2l at h
    split at h
    · cases h
      exact lv_i2l hx hb hd rfl (k ls hl)
    · rename_i j r
      cases h
      exact lv_i2l (x := xs j.toNat) (v := (xs j.toUInt64.toNat).toInt64) hx hb hd (by rw [UInt32.toNat_toUInt64]) (k ls hl)
    · cases h
  · unfold xa_l2i at h
    split at h
    · cases h
      exact lv_l2i hx hb hd rfl (k ls hl)
    · cases h
  · unfold xa_i2b at h
    split at h
    · cases h
      exact lv_i2b hx hb hd rfl (k ls hl)
    · cases h
  · unfold xa_ldc at h
    split at h
    · rename_i v hv
      cases h
      obtain ⟨h1, h2⟩ := xk_ok hv
      dsimp only at h2
      subst h2
      exact lv_ldc hx hb hown (hts _ h1) hd (k ls hl)
    · cases h
  · unfold xa_ldc_w at h
    split at h
    · rename_i v hv
      cases h
      obtain ⟨h1, h2⟩ := xk_ok hv
      dsimp only at h2
      subst h2
      exact lv_ldcw hx hb hown (hts _ h1) hd (k ls hl)
    · cases h
  · unfold xa_iushr at h
    split at h
    · cases h
      exact lv_iushr hx hb hd rfl (k ls hl)
    · cases h
  · unfold xa_ldc2_w at h
    split at h
    · rename_i v hv
      cases h
      obtain ⟨h1, h2⟩ := xk_ok hv
      dsimp only at h2
      subst h2
      exact lv_ldc2 hx hb hown (hts _ h1) hd (k ls hl)
    · cases h
  · unfold xa_dup at h
    split at h
    · split at h
      · rename_i h0
        cases h
        exact lv_dup hx hb hd (by rw [xe_cat]; exact h0) (k ls hl)
      · cases h
    · cases h
  · unfold xa_dup2 at h
    split at h
    · split at h
      · rename_i h0
        cases h
        exact lv_dup2_11 hx hb hd (by rw [xe_cat]; exact h0.1) (by rw [xe_cat]; exact h0.2) (k ls hl)
      · cases h
    · cases h
  · unfold xa_pop at h
    split at h
    · split at h
      · rename_i h0
        cases h
        exact lv_pop hx hb hd (by rw [xe_cat]; exact h0) (k ls hl)
      · cases h
    · cases h
  · unfold xa_pop2 at h
    split at h
    · split at h
      · rename_i h0
        cases h
        exact lv_pop2_2 hx hb hd (by rw [xe_cat]; exact h0) (k ls hl)
      · cases h
    · cases h
  · unfold xa_goto at h
    obtain ⟨t, ht, rfl⟩ := xe_jmp_ok h
    exact lv_goto hx hb hd (xe_tg_ok ht) (k ls hl)
  · unfold xa_if_icmp at h
    split at h
    · obtain ⟨t, r', a, d, ht, h1, h2, h3, rfl⟩ := xe_br_ok (b := b) (B := B) hi h
      rw [List.map_cons, List.map_cons, h1, h2]
      exact xe_icmp hx hb hd ht h3 (k ls hl)
    · cases h
  · unfold xa_ifCond at h
    split at h
    · obtain ⟨t, r', a, d, ht, h1, h2, h3, rfl⟩ := xe_br_ok (b := b) (B := B) hi h
      have h2 : (0 : Int32) = d := Value.int.inj h2
      subst h2
      rw [List.map_cons, h1]
      exact xe_icmp0 hx hb hd ht h3 (k ls hl)
    · cases h
  · unfold xa_tableswitch at h
    split at h
    · split at h
      · rename_i h0
        obtain ⟨t, ht, rfl⟩ := xe_jmp_ok h
        exact lv_tableOut hx hb hd h0 (xe_tg_ok ht) (k ls hl)
      · rename_i h0
        split at h
        · rename_i off ho
          obtain ⟨t, ht, rfl⟩ := xe_jmp_ok h
          exact lv_tableIn hx hb hd (fun q => h0 (Or.inl q)) (fun q => h0 (Or.inr q)) ho (xe_tg_ok ht) (k ls hl)
        · cases h
    · split at h
      · rename_i q hq
        have h1 := hi _ q hq
        rw [Int32.le_iff_toInt_le, Int32.le_iff_toInt_le] at h1
        split at h
        · rename_i h0
          obtain ⟨t, ht, rfl⟩ := xe_jmp_ok h
          exact lv_tableOut hx hb hd (by omega) (xe_tg_ok ht) (k ls hl)
        · cases h
      · cases h
    · cases h
  · cases h
end
