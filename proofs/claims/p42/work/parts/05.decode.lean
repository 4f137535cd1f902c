/-! the printed code, read quickly: the bytes against the instructions -/
def xby (cc : ByteArray) : List Nat := cc.data.toList.map UInt8.toNat
def xb (cc : ByteArray) (p b : Nat) : Prop := (xby cc)[p]? = some b
theorem xzdr : ∀ (l : List Nat) (p b : Nat) (r : List Nat), l.drop p = b :: r → l[p]? = some b ∧ l.drop (p + 1) = r
  | [], 0, _, _, h => by cases h
  | [], _ + 1, _, _, h => by cases h
  | _ :: _, 0, _, _, h => by cases h; exact ⟨rfl, rfl⟩
  | _ :: l, p + 1, b, r, h => xzdr l p b r h
theorem xb_u1 {cc : ByteArray} {p b : Nat} (h : xb cc p b) : (Jvm.ClassFile.Reader.u1 : Jvm.ClassFile.Decoder Nat) cc p = .ok (b, p + 1) := by
  obtain ⟨⟨l⟩⟩ := cc
  have h0 : (l.map UInt8.toNat)[p]? = some b := h
  rw [List.getElem?_map] at h0
  cases hc : l[p]? with
  | none => rw [hc] at h0; cases h0
  | some c =>
    rw [hc] at h0
    have hb : c.toNat = b := Option.some.inj h0
    obtain ⟨hp, he⟩ := List.getElem?_eq_some_iff.mp hc
    have hp2 : p < (ByteArray.mk (Array.mk l)).size := hp
    show ((if h : p < (ByteArray.mk (Array.mk l)).size then (do set (p + 1); Pure.pure (ByteArray.mk (Array.mk l))[p].toNat) else throw (Jvm.ClassFile.HasTruncated.truncated p) : Jvm.ClassFile.Decoder Nat) (ByteArray.mk (Array.mk l)) p) = _
    rw [dif_pos hp2]
    show Except.ok (l[p].toNat, p + 1) = _
    rw [he, hb]
theorem xb_s1 {cc : ByteArray} {p b : Nat} (h : xb cc p b) : (Jvm.ClassFile.Reader.s1 : Jvm.ClassFile.Decoder Int) cc p = .ok (Jvm.ClassFile.Reader.signed 8 b, p + 1) := by
  show Except.bind ((Jvm.ClassFile.Reader.u1 : Jvm.ClassFile.Decoder Nat) cc p) (fun q => .ok (Jvm.ClassFile.Reader.signed 8 q.1, q.2)) = _
  rw [xb_u1 h]
  rfl
theorem xb_u2 {cc : ByteArray} {p b c : Nat} (h : xb cc p b) (h1 : xb cc (p + 1) c) : (Jvm.ClassFile.Reader.u2 : Jvm.ClassFile.Decoder Nat) cc p = .ok (b * 256 + c, p + 2) := by
  show Except.bind ((Jvm.ClassFile.Reader.u1 : Jvm.ClassFile.Decoder Nat) cc p) (fun q => Except.bind ((Jvm.ClassFile.Reader.u1 : Jvm.ClassFile.Decoder Nat) cc q.2) (fun r => .ok (q.1 * 256 + r.1, r.2))) = _
  rw [xb_u1 h]
  show Except.bind ((Jvm.ClassFile.Reader.u1 : Jvm.ClassFile.Decoder Nat) cc (p + 1)) (fun r => .ok (b * 256 + r.1, r.2)) = _
  rw [xb_u1 h1]
  rfl
theorem xb_s2 {cc : ByteArray} {p b c : Nat} (h : xb cc p b) (h1 : xb cc (p + 1) c) : (Jvm.ClassFile.Reader.s2 : Jvm.ClassFile.Decoder Int) cc p = .ok (Jvm.ClassFile.Reader.signed 16 (b * 256 + c), p + 2) := by
  show Except.bind ((Jvm.ClassFile.Reader.u2 : Jvm.ClassFile.Decoder Nat) cc p) (fun q => .ok (Jvm.ClassFile.Reader.signed 16 q.1, q.2)) = _
  rw [xb_u2 h h1]
  rfl
theorem xd_run {cc : ByteArray} {pc b n : Nat} {i : Instr} {k : Nat → Jvm.ClassFile.Decoder Instr} (hk : Jvm.ClassFile.Decoder.instr pc = Jvm.ClassFile.Reader.u1 >>= k) (h : xb cc pc b) (hr : k b cc (pc + 1) = .ok (i, pc + n)) : decode cc pc = .ok (i, n) := by
  have h1 : Jvm.ClassFile.Decoder.instr pc cc pc = .ok (i, pc + n) := by
    rw [hk]
    show Except.bind ((Jvm.ClassFile.Reader.u1 : Jvm.ClassFile.Decoder Nat) cc pc) (fun q => k q.1 cc q.2) = _
    rw [xb_u1 h]
    exact hr
  show Except.bind (Jvm.ClassFile.Decoder.instr pc cc pc) (fun q => .ok (q.1, q.2 - pc)) = _
  rw [h1]
  show Except.ok (i, pc + n - pc) = _
  rw [Nat.add_sub_cancel_left]
theorem xzcd {c : Bool} {r s : List Nat} (h : (bif c then some r else none) = some s) : c = true ∧ r = s := by
  cases c
  · cases h
  · exact ⟨rfl, Option.some.inj h⟩
theorem xan {a b : Bool} (h : (a && b) = true) : a = true ∧ b = true := by
  cases a
  · cases h
  · exact ⟨rfl, h⟩
def xf0 (o : Nat) : List Nat → Option (List Nat)
  | b :: L => bif b == o then some L else none
  | _ => none
def xf1 (o n : Nat) : List Nat → Option (List Nat)
  | b :: c :: L => bif b == o && c == n then some L else none
  | _ => none
def xg1 (o : Nat) (v : Int) : List Nat → Option (List Nat)
  | b :: c :: L => bif b == o && Jvm.ClassFile.Reader.signed 8 c == v then some L else none
  | _ => none
def xf2 (o n : Nat) : List Nat → Option (List Nat)
  | b :: c :: d :: L => bif b == o && c * 256 + d == n then some L else none
  | _ => none
def xg2 (o : Nat) (v : Int) : List Nat → Option (List Nat)
  | b :: c :: d :: L => bif b == o && Jvm.ClassFile.Reader.signed 16 (c * 256 + d) == v then some L else none
  | _ => none
def xzfi (n : Nat) (v : Int) : List Nat → Option (List Nat)
  | b :: c :: d :: L => bif b == 132 && (c == n && Jvm.ClassFile.Reader.signed 8 d == v) then some L else none
  | _ => none
section
variable {cc : ByteArray} {pc : Nat} {i : Instr} {k : Nat → Jvm.ClassFile.Decoder Instr} {L s : List Nat} {o n : Nat} {v : Int}
theorem xf0_ok (hk : Jvm.ClassFile.Decoder.instr pc = Jvm.ClassFile.Reader.u1 >>= k) (hL : (xby cc).drop pc = L) (h : xf0 o L = some s) (hi : k o = Pure.pure i) : decode cc pc = .ok (i, 1) ∧ (xby cc).drop (pc + 1) = s := by
  match L, hL, h with
  | [], _, h => cases h
  | b :: r, hL, h =>
    obtain ⟨hb, hd⟩ := xzdr _ _ _ _ hL
    obtain ⟨e, hr⟩ := xzcd h
    have e1 : b = o := eq_of_beq e
    subst e1
    exact ⟨xd_run hk hb (by rw [hi]; rfl), hd.trans hr⟩
theorem xf1_ok {f : Nat → Jvm.ClassFile.Decoder Instr} (hk : Jvm.ClassFile.Decoder.instr pc = Jvm.ClassFile.Reader.u1 >>= k) (hL : (xby cc).drop pc = L) (h : xf1 o n L = some s) (hi : k o = Jvm.ClassFile.Reader.u1 >>= f) (hf : f n = Pure.pure i) : decode cc pc = .ok (i, 2) ∧ (xby cc).drop (pc + 2) = s := by
  match L, hL, h with
  | [], _, h => cases h
  | [_], _, h => cases h
  | b :: c :: r, hL, h =>
    obtain ⟨hb, hd⟩ := xzdr _ _ _ _ hL
    obtain ⟨hb2, hd2⟩ := xzdr _ _ _ _ hd
    obtain ⟨e, hr⟩ := xzcd h
    obtain ⟨e1, e2⟩ := xan e
    have e1 : b = o := eq_of_beq e1
    have e2 : c = n := eq_of_beq e2
    subst e1 e2
    refine ⟨xd_run hk hb ?_, hd2.trans hr⟩
    rw [hi]
    show Except.bind ((Jvm.ClassFile.Reader.u1 : Jvm.ClassFile.Decoder Nat) cc (pc + 1)) (fun q => f q.1 cc q.2) = _
    rw [xb_u1 hb2]
    show f c cc (pc + 1 + 1) = _
    rw [hf]
    rfl
theorem xg1_ok {f : Int → Jvm.ClassFile.Decoder Instr} (hk : Jvm.ClassFile.Decoder.instr pc = Jvm.ClassFile.Reader.u1 >>= k) (hL : (xby cc).drop pc = L) (h : xg1 o v L = some s) (hi : k o = Jvm.ClassFile.Reader.s1 >>= f) (hf : f v = Pure.pure i) : decode cc pc = .ok (i, 2) ∧ (xby cc).drop (pc + 2) = s := by
  match L, hL, h with
  | [], _, h => cases h
  | [_], _, h => cases h
  | b :: c :: r, hL, h =>
    obtain ⟨hb, hd⟩ := xzdr _ _ _ _ hL
    obtain ⟨hb2, hd2⟩ := xzdr _ _ _ _ hd
    obtain ⟨e, hr⟩ := xzcd h
    obtain ⟨e1, e2⟩ := xan e
    have e1 : b = o := eq_of_beq e1
    have e2 : Jvm.ClassFile.Reader.signed 8 c = v := eq_of_beq e2
    subst e1 e2
    refine ⟨xd_run hk hb ?_, hd2.trans hr⟩
    rw [hi]
    show Except.bind ((Jvm.ClassFile.Reader.s1 : Jvm.ClassFile.Decoder Int) cc (pc + 1)) (fun q => f q.1 cc q.2) = _
    rw [xb_s1 hb2]
    show f (Jvm.ClassFile.Reader.signed 8 c) cc (pc + 1 + 1) = _
    rw [hf]
    rfl
theorem xf2_ok {f : Nat → Jvm.ClassFile.Decoder Instr} (hk : Jvm.ClassFile.Decoder.instr pc = Jvm.ClassFile.Reader.u1 >>= k) (hL : (xby cc).drop pc = L) (h : xf2 o n L = some s) (hi : k o = Jvm.ClassFile.Reader.u2 >>= f) (hf : f n = Pure.pure i) : decode cc pc = .ok (i, 3) ∧ (xby cc).drop (pc + 3) = s := by
  match L, hL, h with
  | [], _, h => cases h
  | [_], _, h => cases h
  | [_, _], _, h => cases h
  | b :: c :: d :: r, hL, h =>
    obtain ⟨hb, hd⟩ := xzdr _ _ _ _ hL
    obtain ⟨hb2, hd2⟩ := xzdr _ _ _ _ hd
    obtain ⟨hb3, hd3⟩ := xzdr _ _ _ _ hd2
    obtain ⟨e, hr⟩ := xzcd h
    obtain ⟨e1, e2⟩ := xan e
    have e1 : b = o := eq_of_beq e1
    have e2 : c * 256 + d = n := eq_of_beq e2
    subst e1 e2
    refine ⟨xd_run hk hb ?_, hd3.trans hr⟩
    rw [hi]
    show Except.bind ((Jvm.ClassFile.Reader.u2 : Jvm.ClassFile.Decoder Nat) cc (pc + 1)) (fun q => f q.1 cc q.2) = _
    rw [xb_u2 hb2 hb3]
    show f (c * 256 + d) cc (pc + 1 + 2) = _
    rw [hf]
    rfl
theorem xg2_ok {f : Int → Jvm.ClassFile.Decoder Instr} (hk : Jvm.ClassFile.Decoder.instr pc = Jvm.ClassFile.Reader.u1 >>= k) (hL : (xby cc).drop pc = L) (h : xg2 o v L = some s) (hi : k o = Jvm.ClassFile.Reader.s2 >>= f) (hf : f v = Pure.pure i) : decode cc pc = .ok (i, 3) ∧ (xby cc).drop (pc + 3) = s := by
  match L, hL, h with
  | [], _, h => cases h
  | [_], _, h => cases h
  | [_, _], _, h => cases h
  | b :: c :: d :: r, hL, h =>
    obtain ⟨hb, hd⟩ := xzdr _ _ _ _ hL
    obtain ⟨hb2, hd2⟩ := xzdr _ _ _ _ hd
    obtain ⟨hb3, hd3⟩ := xzdr _ _ _ _ hd2
    obtain ⟨e, hr⟩ := xzcd h
    obtain ⟨e1, e2⟩ := xan e
    have e1 : b = o := eq_of_beq e1
    have e2 : Jvm.ClassFile.Reader.signed 16 (c * 256 + d) = v := eq_of_beq e2
    subst e1 e2
    refine ⟨xd_run hk hb ?_, hd3.trans hr⟩
    rw [hi]
    show Except.bind ((Jvm.ClassFile.Reader.s2 : Jvm.ClassFile.Decoder Int) cc (pc + 1)) (fun q => f q.1 cc q.2) = _
    rw [xb_s2 hb2 hb3]
    show f (Jvm.ClassFile.Reader.signed 16 (c * 256 + d)) cc (pc + 1 + 2) = _
    rw [hf]
    rfl
theorem xzfi_ok {f : Nat → Int → Jvm.ClassFile.Decoder Instr} (hk : Jvm.ClassFile.Decoder.instr pc = Jvm.ClassFile.Reader.u1 >>= k) (hL : (xby cc).drop pc = L) (h : xzfi n v L = some s) (hi : k 132 = Jvm.ClassFile.Reader.u1 >>= fun x => Jvm.ClassFile.Reader.s1 >>= f x) (hf : f n v = Pure.pure i) : decode cc pc = .ok (i, 3) ∧ (xby cc).drop (pc + 3) = s := by
  match L, hL, h with
  | [], _, h => cases h
  | [_], _, h => cases h
  | [_, _], _, h => cases h
  | b :: c :: d :: r, hL, h =>
    obtain ⟨hb, hd⟩ := xzdr _ _ _ _ hL
    obtain ⟨hb2, hd2⟩ := xzdr _ _ _ _ hd
    obtain ⟨hb3, hd3⟩ := xzdr _ _ _ _ hd2
    obtain ⟨e, hr⟩ := xzcd h
    obtain ⟨e1, e2⟩ := xan e
    obtain ⟨e2, e3⟩ := xan e2
    have e1 : b = 132 := eq_of_beq e1
    have e2 : c = n := eq_of_beq e2
    have e3 : Jvm.ClassFile.Reader.signed 8 d = v := eq_of_beq e3
    subst e1 e2 e3
    refine ⟨xd_run hk hb ?_, hd3.trans hr⟩
    rw [hi]
    show Except.bind ((Jvm.ClassFile.Reader.u1 : Jvm.ClassFile.Decoder Nat) cc (pc + 1)) (fun q => Except.bind ((Jvm.ClassFile.Reader.s1 : Jvm.ClassFile.Decoder Int) cc q.2) (fun w => f q.1 w.1 cc w.2)) = _
    rw [xb_u1 hb2]
    show Except.bind ((Jvm.ClassFile.Reader.s1 : Jvm.ClassFile.Decoder Int) cc (pc + 1 + 1)) (fun w => f c w.1 cc w.2) = _
    rw [xb_s1 hb3]
    show f c (Jvm.ClassFile.Reader.signed 8 d) cc (pc + 1 + 1 + 1) = _
    rw [hf]
    rfl
end
def xci : Jvm.ClassFile.Cond → Nat
  | .eq => 0
  | .ne => 1
  | .lt => 2
  | .ge => 3
  | .gt => 4
  | .le => 5
theorem xd_k (pc : Nat) : ∃ k : Nat → Jvm.ClassFile.Decoder Instr, Jvm.ClassFile.Decoder.instr pc = Jvm.ClassFile.Reader.u1 >>= k ∧ k 172 = Pure.pure Instr.ireturn ∧ k 173 = Pure.pure Instr.lreturn ∧ k 176 = Pure.pure Instr.areturn ∧ k 177 = Pure.pure Instr.return_ ∧ k 46 = Pure.pure Instr.iaload ∧ k 47 = Pure.pure Instr.laload ∧ k 50 = Pure.pure Instr.aaload ∧ k 79 = Pure.pure Instr.iastore ∧ k 80 = Pure.pure Instr.lastore ∧ k 83 = Pure.pure Instr.aastore ∧ k 96 = Pure.pure Instr.iadd ∧ k 97 = Pure.pure Instr.ladd ∧ k 100 = Pure.pure Instr.isub ∧ k 101 = Pure.pure Instr.lsub ∧ k 104 = Pure.pure Instr.imul ∧ k 105 = Pure.pure Instr.lmul ∧ k 108 = Pure.pure Instr.idiv ∧ k 109 = Pure.pure Instr.ldiv ∧ k 112 = Pure.pure Instr.irem ∧ k 113 = Pure.pure Instr.lrem ∧ k 116 = Pure.pure Instr.ineg ∧ k 120 = Pure.pure Instr.ishl ∧ k 122 = Pure.pure Instr.ishr ∧ k 124 = Pure.pure Instr.iushr ∧ k 126 = Pure.pure Instr.iand ∧ k 127 = Pure.pure Instr.land ∧ k 128 = Pure.pure Instr.ior ∧ k 130 = Pure.pure Instr.ixor ∧ k 133 = Pure.pure Instr.i2l ∧ k 136 = Pure.pure Instr.l2i ∧ k 145 = Pure.pure Instr.i2b ∧ k 148 = Pure.pure Instr.lcmp ∧ k 87 = Pure.pure Instr.pop ∧ k 88 = Pure.pure Instr.pop2 ∧ k 89 = Pure.pure Instr.dup ∧ k 92 = Pure.pure Instr.dup2 ∧ k 190 = Pure.pure Instr.arraylength ∧ (∀ n : Fin 4, k (42 + n.val) = Pure.pure (Instr.aload_n n)) ∧ (∀ n : Fin 4, k (26 + n.val) = Pure.pure (Instr.iload_n n)) ∧ (∀ n : Fin 4, k (30 + n.val) = Pure.pure (Instr.lload_n n)) ∧ (∀ n : Fin 4, k (59 + n.val) = Pure.pure (Instr.istore_n n)) ∧ (∀ n : Fin 4, k (63 + n.val) = Pure.pure (Instr.lstore_n n)) ∧ (∀ n : Fin 4, k (75 + n.val) = Pure.pure (Instr.astore_n n)) ∧ (∀ n : Fin 2, k (9 + n.val) = Pure.pure (Instr.lconst n)) ∧ k 2 = Pure.pure (Instr.iconst (-1)) ∧ k 3 = Pure.pure (Instr.iconst (0)) ∧ k 4 = Pure.pure (Instr.iconst (1)) ∧ k 5 = Pure.pure (Instr.iconst (2)) ∧ k 6 = Pure.pure (Instr.iconst (3)) ∧ k 7 = Pure.pure (Instr.iconst (4)) ∧ k 8 = Pure.pure (Instr.iconst (5)) ∧ k 18 = (Jvm.ClassFile.Reader.u1 >>= fun x => Pure.pure (Instr.ldc x)) ∧ k 21 = (Jvm.ClassFile.Reader.u1 >>= fun x => Pure.pure (Instr.iload x)) ∧ k 22 = (Jvm.ClassFile.Reader.u1 >>= fun x => Pure.pure (Instr.lload x)) ∧ k 25 = (Jvm.ClassFile.Reader.u1 >>= fun x => Pure.pure (Instr.aload x)) ∧ k 54 = (Jvm.ClassFile.Reader.u1 >>= fun x => Pure.pure (Instr.istore x)) ∧ k 55 = (Jvm.ClassFile.Reader.u1 >>= fun x => Pure.pure (Instr.lstore x)) ∧ k 58 = (Jvm.ClassFile.Reader.u1 >>= fun x => Pure.pure (Instr.astore x)) ∧ k 16 = (Jvm.ClassFile.Reader.s1 >>= fun x => Pure.pure (Instr.bipush x)) ∧ k 19 = (Jvm.ClassFile.Reader.u2 >>= fun x => Pure.pure (Instr.ldc_w x)) ∧ k 20 = (Jvm.ClassFile.Reader.u2 >>= fun x => Pure.pure (Instr.ldc2_w x)) ∧ k 178 = (Jvm.ClassFile.Reader.u2 >>= fun x => Pure.pure (Instr.getstatic x)) ∧ k 180 = (Jvm.ClassFile.Reader.u2 >>= fun x => Pure.pure (Instr.getfield x)) ∧ k 181 = (Jvm.ClassFile.Reader.u2 >>= fun x => Pure.pure (Instr.putfield x)) ∧ k 182 = (Jvm.ClassFile.Reader.u2 >>= fun x => Pure.pure (Instr.invokevirtual x)) ∧ k 183 = (Jvm.ClassFile.Reader.u2 >>= fun x => Pure.pure (Instr.invokespecial x)) ∧ k 184 = (Jvm.ClassFile.Reader.u2 >>= fun x => Pure.pure (Instr.invokestatic x)) ∧ k 187 = (Jvm.ClassFile.Reader.u2 >>= fun x => Pure.pure (Instr.new x)) ∧ k 189 = (Jvm.ClassFile.Reader.u2 >>= fun x => Pure.pure (Instr.anewarray x)) ∧ k 17 = (Jvm.ClassFile.Reader.s2 >>= fun x => Pure.pure (Instr.sipush x)) ∧ k 167 = (Jvm.ClassFile.Reader.s2 >>= fun x => Pure.pure (Instr.goto x)) ∧ k 153 = (Jvm.ClassFile.Reader.s2 >>= fun x => Pure.pure (Instr.ifCond .eq x)) ∧ k 159 = (Jvm.ClassFile.Reader.s2 >>= fun x => Pure.pure (Instr.if_icmp .eq x)) ∧ k 154 = (Jvm.ClassFile.Reader.s2 >>= fun x => Pure.pure (Instr.ifCond .ne x)) ∧ k 160 = (Jvm.ClassFile.Reader.s2 >>= fun x => Pure.pure (Instr.if_icmp .ne x)) ∧ k 155 = (Jvm.ClassFile.Reader.s2 >>= fun x => Pure.pure (Instr.ifCond .lt x)) ∧ k 161 = (Jvm.ClassFile.Reader.s2 >>= fun x => Pure.pure (Instr.if_icmp .lt x)) ∧ k 156 = (Jvm.ClassFile.Reader.s2 >>= fun x => Pure.pure (Instr.ifCond .ge x)) ∧ k 162 = (Jvm.ClassFile.Reader.s2 >>= fun x => Pure.pure (Instr.if_icmp .ge x)) ∧ k 157 = (Jvm.ClassFile.Reader.s2 >>= fun x => Pure.pure (Instr.ifCond .gt x)) ∧ k 163 = (Jvm.ClassFile.Reader.s2 >>= fun x => Pure.pure (Instr.if_icmp .gt x)) ∧ k 158 = (Jvm.ClassFile.Reader.s2 >>= fun x => Pure.pure (Instr.ifCond .le x)) ∧ k 164 = (Jvm.ClassFile.Reader.s2 >>= fun x => Pure.pure (Instr.if_icmp .le x)) ∧ k 132 = (Jvm.ClassFile.Reader.u1 >>= fun x => Jvm.ClassFile.Reader.s1 >>= fun y => Pure.pure (Instr.iinc x y)) ∧ k 188 = Jvm.ClassFile.Decoder.newarray pc :=
  ⟨_, rfl, rfl, rfl, rfl, rfl, rfl, rfl, rfl, rfl, rfl, rfl, rfl, rfl, rfl, rfl, rfl, rfl, rfl, rfl, rfl, rfl, rfl, rfl, rfl, rfl, rfl, rfl, rfl, rfl, rfl, rfl, rfl, rfl, rfl, rfl, rfl, rfl, rfl, (fun n => by obtain ⟨n, hn⟩ := n; match n, hn with | 0, _ => rfl | 1, _ => rfl | 2, _ => rfl | 3, _ => rfl), (fun n => by obtain ⟨n, hn⟩ := n; match n, hn with | 0, _ => rfl | 1, _ => rfl | 2, _ => rfl | 3, _ => rfl), (fun n => by obtain ⟨n, hn⟩ := n; match n, hn with | 0, _ => rfl | 1, _ => rfl | 2, _ => rfl | 3, _ => rfl), (fun n => by obtain ⟨n, hn⟩ := n; match n, hn with | 0, _ => rfl | 1, _ => rfl | 2, _ => rfl | 3, _ => rfl), (fun n => by obtain ⟨n, hn⟩ := n; match n, hn with | 0, _ => rfl | 1, _ => rfl | 2, _ => rfl | 3, _ => rfl), (fun n => by obtain ⟨n, hn⟩ := n; match n, hn with | 0, _ => rfl | 1, _ => rfl | 2, _ => rfl | 3, _ => rfl), (fun n => by obtain ⟨n, hn⟩ := n; match n, hn with | 0, _ => rfl | 1, _ => rfl), rfl, rfl, rfl, rfl, rfl, rfl, rfl, rfl, rfl, rfl, rfl, rfl, rfl, rfl, rfl, rfl, rfl, rfl, rfl, rfl, rfl, rfl, rfl, rfl, rfl, rfl, rfl, rfl, rfl, rfl, rfl, rfl, rfl, rfl, rfl, rfl, rfl, rfl, rfl, rfl, rfl⟩
theorem xd_na (pc : Nat) : ∃ f : Nat → Jvm.ClassFile.Decoder Instr, Jvm.ClassFile.Decoder.newarray pc = Jvm.ClassFile.Reader.u1 >>= f ∧ f 10 = Pure.pure (Instr.newarray .int) ∧ f 11 = Pure.pure (Instr.newarray .long) := ⟨_, rfl, rfl, rfl⟩
def xfl (i : Instr) (L : List Nat) : Option (List Nat) := match i with
  | .aload_n n => xf0 (42 + n.val) L
  | .iload_n n => xf0 (26 + n.val) L
  | .lload_n n => xf0 (30 + n.val) L
  | .istore_n n => xf0 (59 + n.val) L
  | .lstore_n n => xf0 (63 + n.val) L
  | .astore_n n => xf0 (75 + n.val) L
  | .lconst n => xf0 (9 + n.val) L
  | .iconst v => bif decide (-1 ≤ v) && decide (v ≤ 5) then xf0 (3 + v).toNat L else none
  | .ireturn => xf0 172 L
  | .lreturn => xf0 173 L
  | .areturn => xf0 176 L
  | .return_ => xf0 177 L
  | .iaload => xf0 46 L
  | .laload => xf0 47 L
  | .aaload => xf0 50 L
  | .iastore => xf0 79 L
  | .lastore => xf0 80 L
  | .aastore => xf0 83 L
  | .iadd => xf0 96 L
  | .ladd => xf0 97 L
  | .isub => xf0 100 L
  | .lsub => xf0 101 L
  | .imul => xf0 104 L
  | .lmul => xf0 105 L
  | .idiv => xf0 108 L
  | .ldiv => xf0 109 L
  | .irem => xf0 112 L
  | .lrem => xf0 113 L
  | .ineg => xf0 116 L
  | .ishl => xf0 120 L
  | .ishr => xf0 122 L
  | .iushr => xf0 124 L
  | .iand => xf0 126 L
  | .land => xf0 127 L
  | .ior => xf0 128 L
  | .ixor => xf0 130 L
  | .i2l => xf0 133 L
  | .l2i => xf0 136 L
  | .i2b => xf0 145 L
  | .lcmp => xf0 148 L
  | .pop => xf0 87 L
  | .pop2 => xf0 88 L
  | .dup => xf0 89 L
  | .dup2 => xf0 92 L
  | .arraylength => xf0 190 L
  | .ldc n => xf1 18 n L
  | .iload n => xf1 21 n L
  | .lload n => xf1 22 n L
  | .aload n => xf1 25 n L
  | .istore n => xf1 54 n L
  | .lstore n => xf1 55 n L
  | .astore n => xf1 58 n L
  | .bipush v => xg1 16 v L
  | .ldc_w n => xf2 19 n L
  | .ldc2_w n => xf2 20 n L
  | .getstatic n => xf2 178 n L
  | .getfield n => xf2 180 n L
  | .putfield n => xf2 181 n L
  | .invokevirtual n => xf2 182 n L
  | .invokespecial n => xf2 183 n L
  | .invokestatic n => xf2 184 n L
  | .new n => xf2 187 n L
  | .anewarray n => xf2 189 n L
  | .sipush v => xg2 17 v L
  | .goto v => xg2 167 v L
  | .ifCond c v => xg2 (153 + xci c) v L
  | .if_icmp c v => xg2 (159 + xci c) v L
  | .iinc n v => xzfi n v L
  | .newarray .int => xf1 188 10 L
  | .newarray .long => xf1 188 11 L
  | _ => none
theorem xfl_ok {cc : ByteArray} {pc : Nat} {i : Instr} {L s : List Nat} (l : Nat) (hL : (xby cc).drop pc = L) (h : xfl i L = some s) : decode cc pc = .ok (i, xe_len i l) ∧ (xby cc).drop (pc + xe_len i l) = s := by
  obtain ⟨k, hk, H0, H1, H2, H3, H4, H5, H6, H7, H8, H9, H10, H11, H12, H13, H14, H15, H16, H17, H18, H19, H20, H21, H22, H23, H24, H25, H26, H27, H28, H29, H30, H31, H32, H33, H34, H35, H36, H37, H38, H39, H40, H41, H42, H43, H44, H45, H46, H47, H48, H49, H50, H51, H52, H53, H54, H55, H56, H57, H58, H59, H60, H61, H62, H63, H64, H65, H66, H67, H68, H69, H70, H71, H72, H73, H74, H75, H76, H77, H78, H79, H80, H81, H82, H83, H84⟩ := xd_k pc
  obtain ⟨f, hf, hf1, hf2⟩ := xd_na pc
  cases i with
  | aload_n n => exact xf0_ok hk hL h (H37 n)
  | iload_n n => exact xf0_ok hk hL h (H38 n)
  | lload_n n => exact xf0_ok hk hL h (H39 n)
  | istore_n n => exact xf0_ok hk hL h (H40 n)
  | lstore_n n => exact xf0_ok hk hL h (H41 n)
  | astore_n n => exact xf0_ok hk hL h (H42 n)
  | lconst n => exact xf0_ok hk hL h (H43 n)
  | iconst v =>
    have h0 : (bif decide (-1 ≤ v) && decide (v ≤ 5) then xf0 (3 + v).toNat L else none) = some s := h
    by_cases h1 : -1 ≤ v
    · by_cases h2 : v ≤ 5
      · rw [decide_eq_true h1, decide_eq_true h2] at h0
        have h3 : v = -1 ∨ v = 0 ∨ v = 1 ∨ v = 2 ∨ v = 3 ∨ v = 4 ∨ v = 5 := by omega
        rcases h3 with rfl | rfl | rfl | rfl | rfl | rfl | rfl
        · exact xf0_ok (o := 2) hk hL h0 H44
        · exact xf0_ok (o := 3) hk hL h0 H45
        · exact xf0_ok (o := 4) hk hL h0 H46
        · exact xf0_ok (o := 5) hk hL h0 H47
        · exact xf0_ok (o := 6) hk hL h0 H48
        · exact xf0_ok (o := 7) hk hL h0 H49
        · exact xf0_ok (o := 8) hk hL h0 H50
      · rw [decide_eq_true h1, decide_eq_false h2] at h0; cases h0
    · rw [decide_eq_false h1] at h0; cases h0
  | ireturn => exact xf0_ok hk hL h H0
  | lreturn => exact xf0_ok hk hL h H1
  | areturn => exact xf0_ok hk hL h H2
  | return_ => exact xf0_ok hk hL h H3
  | iaload => exact xf0_ok hk hL h H4
  | laload => exact xf0_ok hk hL h H5
  | aaload => exact xf0_ok hk hL h H6
  | iastore => exact xf0_ok hk hL h H7
  | lastore => exact xf0_ok hk hL h H8
  | aastore => exact xf0_ok hk hL h H9
  | iadd => exact xf0_ok hk hL h H10
  | ladd => exact xf0_ok hk hL h H11
  | isub => exact xf0_ok hk hL h H12
  | lsub => exact xf0_ok hk hL h H13
  | imul => exact xf0_ok hk hL h H14
  | lmul => exact xf0_ok hk hL h H15
  | idiv => exact xf0_ok hk hL h H16
  | ldiv => exact xf0_ok hk hL h H17
  | irem => exact xf0_ok hk hL h H18
  | lrem => exact xf0_ok hk hL h H19
  | ineg => exact xf0_ok hk hL h H20
  | ishl => exact xf0_ok hk hL h H21
  | ishr => exact xf0_ok hk hL h H22
  | iushr => exact xf0_ok hk hL h H23
  | iand => exact xf0_ok hk hL h H24
  | land => exact xf0_ok hk hL h H25
  | ior => exact xf0_ok hk hL h H26
  | ixor => exact xf0_ok hk hL h H27
  | i2l => exact xf0_ok hk hL h H28
  | l2i => exact xf0_ok hk hL h H29
  | i2b => exact xf0_ok hk hL h H30
  | lcmp => exact xf0_ok hk hL h H31
  | pop => exact xf0_ok hk hL h H32
  | pop2 => exact xf0_ok hk hL h H33
  | dup => exact xf0_ok hk hL h H34
  | dup2 => exact xf0_ok hk hL h H35
  | arraylength => exact xf0_ok hk hL h H36
  | ldc n => exact xf1_ok hk hL h H51 rfl
  | iload n => exact xf1_ok hk hL h H52 rfl
  | lload n => exact xf1_ok hk hL h H53 rfl
  | aload n => exact xf1_ok hk hL h H54 rfl
  | istore n => exact xf1_ok hk hL h H55 rfl
  | lstore n => exact xf1_ok hk hL h H56 rfl
  | astore n => exact xf1_ok hk hL h H57 rfl
  | bipush v => exact xg1_ok hk hL h H58 rfl
  | ldc_w n => exact xf2_ok hk hL h H59 rfl
  | ldc2_w n => exact xf2_ok hk hL h H60 rfl
  | getstatic n => exact xf2_ok hk hL h H61 rfl
  | getfield n => exact xf2_ok hk hL h H62 rfl
  | putfield n => exact xf2_ok hk hL h H63 rfl
  | invokevirtual n => exact xf2_ok hk hL h H64 rfl
  | invokespecial n => exact xf2_ok hk hL h H65 rfl
  | invokestatic n => exact xf2_ok hk hL h H66 rfl
  | new n => exact xf2_ok hk hL h H67 rfl
  | anewarray n => exact xf2_ok hk hL h H68 rfl
  | sipush v => exact xg2_ok hk hL h H69 rfl
  | goto v => exact xg2_ok hk hL h H70 rfl
  | ifCond c v =>
    cases c with
    | eq => exact xg2_ok hk hL h H71 rfl
    | ne => exact xg2_ok hk hL h H73 rfl
    | lt => exact xg2_ok hk hL h H75 rfl
    | ge => exact xg2_ok hk hL h H77 rfl
    | gt => exact xg2_ok hk hL h H79 rfl
    | le => exact xg2_ok hk hL h H81 rfl
  | if_icmp c v =>
    cases c with
    | eq => exact xg2_ok hk hL h H72 rfl
    | ne => exact xg2_ok hk hL h H74 rfl
    | lt => exact xg2_ok hk hL h H76 rfl
    | ge => exact xg2_ok hk hL h H78 rfl
    | gt => exact xg2_ok hk hL h H80 rfl
    | le => exact xg2_ok hk hL h H82 rfl
  | iinc n v => exact xzfi_ok (f := fun x y => Pure.pure (Instr.iinc x y)) hk hL h H83 rfl
  | newarray t =>
    cases t with
    | int => exact xf1_ok hk hL h (H84.trans hf) hf1
    | long => exact xf1_ok hk hL h (H84.trans hf) hf2
    | _ =>
      have h0 : (none : Option (List Nat)) = some s := h
      cases h0
  | _ =>
    have h0 : (none : Option (List Nat)) = some s := h
    cases h0
def xfn (p : Nat) : List (Nat × Instr × Nat) → Bool
  | [] => true
  | q :: _ => q.1 == p
def xfk (cc : ByteArray) : List (Nat × Instr × Nat) → List Nat → Bool
  | [], _ => true
  | q :: r, L => match xfl q.2.1 L with
    | some s => xfn (q.1 + xe_len q.2.1 q.2.2) r && xfk cc r s
    | none => decide (decode cc q.1 = .ok (q.2.1, xe_len q.2.1 q.2.2)) && (xfn (q.1 + xe_len q.2.1 q.2.2) r && xfk cc r (L.drop (xe_len q.2.1 q.2.2)))
def xfh (cc : ByteArray) (L : List Nat) : List (Nat × Instr × Nat) → Prop
  | [] => True
  | q :: _ => (xby cc).drop q.1 = L
theorem xfn_h {cc : ByteArray} {p : Nat} {r : List (Nat × Instr × Nat)} {s : List Nat} (h : xfn p r = true) (hs : (xby cc).drop p = s) : xfh cc s r := by
  cases r with
  | nil => trivial
  | cons q r =>
    have e : q.1 = p := eq_of_beq h
    show (xby cc).drop q.1 = s
    rw [e, hs]
theorem xdd (l : List Nat) : ∀ (p n : Nat), (l.drop p).drop n = l.drop (p + n) := by
  intro p n
  rw [List.drop_drop]
theorem xfk_ok {cc : ByteArray} : ∀ (r : List (Nat × Instr × Nat)) (L : List Nat), xfh cc L r → xfk cc r L = true → ∀ q ∈ r, decode cc q.1 = .ok (q.2.1, xe_len q.2.1 q.2.2)
  | [], _, _, _, _, hm => by cases hm
  | q :: r, L, hL, h, q', hm => by
    have hL : (xby cc).drop q.1 = L := hL
    unfold xfk at h
    cases e : xfl q.2.1 L with
    | some s =>
      rw [e] at h
      obtain ⟨h1, h2⟩ := xan h
      obtain ⟨d1, d2⟩ := xfl_ok q.2.2 hL e
      rcases List.mem_cons.mp hm with rfl | hm
      · exact d1
      · exact xfk_ok r s (xfn_h h1 d2) h2 q' hm
    | none =>
      rw [e] at h
      obtain ⟨h0, h⟩ := xan h
      obtain ⟨h1, h2⟩ := xan h
      rcases List.mem_cons.mp hm with rfl | hm
      · exact of_decide_eq_true h0
      · refine xfk_ok r _ (xfn_h h1 ?_) h2 q' hm
        rw [← hL, xdd]
def xfast (cc : ByteArray) (r : List (Nat × Instr × Nat)) : Bool := match r with
  | [] => true
  | q :: _ => xfk cc r ((xby cc).drop q.1)
theorem xfast_ok {cc : ByteArray} {tb : xI} (h : xfast cc tb.flatten = true) : xe_ok cc tb = true := by
  have h1 : ∀ q ∈ tb.flatten, decode cc q.1 = .ok (q.2.1, xe_len q.2.1 q.2.2) := by
    cases e : tb.flatten with
    | nil => intro q hq; cases hq
    | cons q r =>
      rw [e] at h
      exact xfk_ok (q :: r) _ rfl h
  refine List.all_eq_true.mpr fun b hb => List.all_eq_true.mpr fun q hq => decide_eq_true (h1 q ?_)
  exact List.mem_flatten.mpr ⟨b, hb, hq⟩
set_option maxRecDepth 100000 in
theorem xt_ok_0 : xe_ok cX0_init xt_0 = true := xfast_ok (by decide +kernel)
set_option maxRecDepth 100000 in
theorem xt_ok_1 : xe_ok cX0_isMissing xt_1 = true := xfast_ok (by decide +kernel)
set_option maxRecDepth 100000 in
theorem xt_ok_2 : xe_ok cX0_size xt_2 = true := xfast_ok (by decide +kernel)
set_option maxRecDepth 100000 in
theorem xt_ok_3 : xe_ok cX0_has xt_3 = true := xfast_ok (by decide +kernel)
set_option maxRecDepth 100000 in
theorem xt_ok_4 : xe_ok cX0_hasPlaces xt_4 = true := xfast_ok (by decide +kernel)
set_option maxRecDepth 100000 in
theorem xt_ok_5 : xe_ok cX0_get xt_5 = true := xfast_ok (by decide +kernel)
set_option maxRecDepth 100000 in
theorem xt_ok_6 : xe_ok cX0_set xt_6 = true := xfast_ok (by decide +kernel)
set_option maxRecDepth 100000 in
theorem xt_ok_7 : xe_ok cX0_open xt_7 = true := xfast_ok (by decide +kernel)
set_option maxRecDepth 100000 in
theorem xt_ok_8 : xe_ok cX0_drop xt_8 = true := xfast_ok (by decide +kernel)
set_option maxRecDepth 100000 in
theorem xt_ok_9 : xe_ok cX0_take xt_9 = true := xfast_ok (by decide +kernel)
set_option maxRecDepth 100000 in
theorem xt_ok_10 : xe_ok cX0_takeAll xt_10 = true := xfast_ok (by decide +kernel)
set_option maxRecDepth 100000 in
theorem xt_ok_11 : xe_ok cX0_stepAt xt_11 = true := xfast_ok (by decide +kernel)
set_option maxRecDepth 100000 in
theorem xt_ok_12 : xe_ok cX1_init xt_12 = true := xfast_ok (by decide +kernel)
set_option maxRecDepth 100000 in
theorem xt_ok_13 : xe_ok cX1_rows xt_13 = true := xfast_ok (by decide +kernel)
set_option maxRecDepth 100000 in
theorem xt_ok_14 : xe_ok cX1_fewestStill xt_14 = true := xfast_ok (by decide +kernel)
set_option maxRecDepth 100000 in
theorem xt_ok_15 : xe_ok cX1_firstSteps xt_15 = true := xfast_ok (by decide +kernel)
set_option maxRecDepth 100000 in
theorem xt_ok_16 : xe_ok cX1_weigh xt_16 = true := xfast_ok (by decide +kernel)
set_option maxRecDepth 100000 in
theorem xt_ok_17 : xe_ok cX1_isHead xt_17 = true := xfast_ok (by decide +kernel)
set_option maxRecDepth 100000 in
theorem xt_ok_18 : xe_ok cX1_heirOf xt_18 = true := xfast_ok (by decide +kernel)
set_option maxRecDepth 100000 in
theorem xt_ok_19 : xe_ok cX1_weighStep xt_19 = true := xfast_ok (by decide +kernel)
set_option maxRecDepth 100000 in
theorem xt_ok_20 : xe_ok cX1_shownAtHead xt_20 = true := xfast_ok (by decide +kernel)
set_option maxRecDepth 100000 in
theorem xt_ok_21 : xe_ok cX1_addChain xt_21 = true := xfast_ok (by decide +kernel)
set_option maxRecDepth 100000 in
theorem xt_ok_22 : xe_ok cX2_init xt_22 = true := xfast_ok (by decide +kernel)
set_option maxRecDepth 100000 in
theorem xt_ok_23 : xe_ok cX2_size xt_23 = true := xfast_ok (by decide +kernel)
set_option maxRecDepth 100000 in
theorem xt_ok_24 : xe_ok cX2_isMissing xt_24 = true := xfast_ok (by decide +kernel)
set_option maxRecDepth 100000 in
theorem xt_ok_25 : xe_ok cX2_drop xt_25 = true := xfast_ok (by decide +kernel)
set_option maxRecDepth 100000 in
theorem xt_ok_26 : xe_ok cX2_fact xt_26 = true := xfast_ok (by decide +kernel)
set_option maxRecDepth 100000 in
theorem xt_ok_27 : xe_ok cX2_write xt_27 = true := xfast_ok (by decide +kernel)
set_option maxRecDepth 100000 in
theorem xt_ok_28 : xe_ok cX2_add xt_28 = true := xfast_ok (by decide +kernel)
set_option maxRecDepth 100000 in
theorem xt_ok_29 : xe_ok cX2_see xt_29 = true := xfast_ok (by decide +kernel)
set_option maxRecDepth 100000 in
theorem xt_ok_30 : xe_ok cX2_cutTo xt_30 = true := xfast_ok (by decide +kernel)
set_option maxRecDepth 100000 in
theorem xt_ok_31 : xe_ok cX2_takeAll xt_31 = true := xfast_ok (by decide +kernel)
set_option maxRecDepth 100000 in
theorem xt_ok_32 : xe_ok cX2_howManyBefore xt_32 = true := xfast_ok (by decide +kernel)
set_option maxRecDepth 100000 in
theorem xt_ok_33 : xe_ok cX2_howManyBrokeBefore xt_33 = true := xfast_ok (by decide +kernel)
set_option maxRecDepth 100000 in
theorem xt_ok_34 : xe_ok cX2_howManyBroke xt_34 = true := xfast_ok (by decide +kernel)
set_option maxRecDepth 100000 in
theorem xt_ok_35 : xe_ok cX2_firstThatBroke xt_35 = true := xfast_ok (by decide +kernel)
set_option maxRecDepth 100000 in
theorem xt_ok_36 : xe_ok cX2_stepAt xt_36 = true := xfast_ok (by decide +kernel)
set_option maxRecDepth 100000 in
theorem xt_ok_37 : xe_ok cX3_init xt_37 = true := xfast_ok (by decide +kernel)
set_option maxRecDepth 100000 in
theorem xt_ok_38 : xe_ok cX4_init xt_38 = true := xfast_ok (by decide +kernel)
set_option maxRecDepth 100000 in
theorem xt_ok_39 : xe_ok cX4_source xt_39 = true := xfast_ok (by decide +kernel)
set_option maxRecDepth 100000 in
theorem xt_ok_40 : xe_ok cX4_thinks xt_40 = true := xfast_ok (by decide +kernel)
set_option maxRecDepth 100000 in
theorem xt_ok_41 : xe_ok cX5_init xt_41 = true := xfast_ok (by decide +kernel)
set_option maxRecDepth 100000 in
theorem xt_ok_42 : xe_ok cX5_source xt_42 = true := xfast_ok (by decide +kernel)
set_option maxRecDepth 100000 in
theorem xt_ok_43 : xe_ok cX5_isOf xt_43 = true := xfast_ok (by decide +kernel)
set_option maxRecDepth 100000 in
theorem xt_ok_44 : xe_ok cX6_init xt_44 = true := xfast_ok (by decide +kernel)
set_option maxRecDepth 100000 in
theorem xt_ok_45 : xe_ok cX6_source xt_45 = true := xfast_ok (by decide +kernel)
set_option maxRecDepth 100000 in
theorem xt_ok_46 : xe_ok cX6_placesToLimp xt_46 = true := xfast_ok (by decide +kernel)
set_option maxRecDepth 100000 in
theorem xt_ok_47 : xe_ok cX7_init xt_47 = true := xfast_ok (by decide +kernel)
set_option maxRecDepth 100000 in
theorem xt_ok_48 : xe_ok cX7_kind xt_48 = true := xfast_ok (by decide +kernel)
set_option maxRecDepth 100000 in
theorem xt_ok_49 : xe_ok cX7_delay xt_49 = true := xfast_ok (by decide +kernel)
set_option maxRecDepth 100000 in
theorem xt_ok_50 : xe_ok cX7_isOf xt_50 = true := xfast_ok (by decide +kernel)
set_option maxRecDepth 100000 in
theorem xt_ok_51 : xe_ok cX7_source xt_51 = true := xfast_ok (by decide +kernel)
set_option maxRecDepth 100000 in
theorem xt_ok_52 : xe_ok cX7_thinks xt_52 = true := xfast_ok (by decide +kernel)
set_option maxRecDepth 100000 in
theorem xt_ok_53 : xe_ok cX7_isOdd xt_53 = true := xfast_ok (by decide +kernel)
set_option maxRecDepth 100000 in
theorem xt_ok_54 : xe_ok cX8_init xt_54 = true := xfast_ok (by decide +kernel)
set_option maxRecDepth 100000 in
theorem xt_ok_55 : xe_ok cX8_glasses xt_55 = true := xfast_ok (by decide +kernel)
set_option maxRecDepth 100000 in
theorem xt_ok_56 : xe_ok cX8_terms xt_56 = true := xfast_ok (by decide +kernel)
set_option maxRecDepth 100000 in
theorem xt_ok_57 : xe_ok cX8_lawOf xt_57 = true := xfast_ok (by decide +kernel)
set_option maxRecDepth 100000 in
theorem xt_ok_58 : xe_ok cX8_termStep xt_58 = true := xfast_ok (by decide +kernel)
set_option maxRecDepth 100000 in
theorem xt_ok_59 : xe_ok cX8_thought xt_59 = true := xfast_ok (by decide +kernel)
set_option maxRecDepth 100000 in
theorem xt_ok_60 : xe_ok cX8_seen xt_60 = true := xfast_ok (by decide +kernel)
set_option maxRecDepth 100000 in
theorem xt_ok_61 : xe_ok cX8_shown xt_61 = true := xfast_ok (by decide +kernel)
set_option maxRecDepth 100000 in
theorem xt_ok_62 : xe_ok cX8_stepsSeenAs xt_62 = true := xfast_ok (by decide +kernel)
set_option maxRecDepth 100000 in
theorem xt_ok_63 : xe_ok cX8_firstBroken xt_63 = true := xfast_ok (by decide +kernel)
set_option maxRecDepth 100000 in
theorem xt_ok_64 : xe_ok cX8_isBroken xt_64 = true := xfast_ok (by decide +kernel)
set_option maxRecDepth 100000 in
theorem xt_ok_65 : xe_ok cX8_read xt_65 = true := xfast_ok (by decide +kernel)
set_option maxRecDepth 100000 in
theorem xt_ok_66 : xe_ok cX8_readItems xt_66 = true := xfast_ok (by decide +kernel)
set_option maxRecDepth 100000 in
theorem xt_ok_67 : xe_ok cX8_readGlass xt_67 = true := xfast_ok (by decide +kernel)
set_option maxRecDepth 100000 in
theorem xt_ok_68 : xe_ok cX8_readTerm xt_68 = true := xfast_ok (by decide +kernel)
set_option maxRecDepth 100000 in
theorem xt_ok_69 : xe_ok cX8_kindOf xt_69 = true := xfast_ok (by decide +kernel)
set_option maxRecDepth 100000 in
theorem xt_ok_70 : xe_ok cX8_afterBlanks xt_70 = true := xfast_ok (by decide +kernel)
set_option maxRecDepth 100000 in
theorem xt_ok_71 : xe_ok cX8_isFigure xt_71 = true := xfast_ok (by decide +kernel)
set_option maxRecDepth 100000 in
theorem xt_ok_72 : xe_ok cX9_init xt_72 = true := xfast_ok (by decide +kernel)
set_option maxRecDepth 100000 in
theorem xt_ok_73 : xe_ok cX9_source xt_73 = true := xfast_ok (by decide +kernel)
set_option maxRecDepth 100000 in
theorem xt_ok_74 : xe_ok cX9_isOf xt_74 = true := xfast_ok (by decide +kernel)
set_option maxRecDepth 100000 in
theorem xt_ok_75 : xe_ok cX10_init xt_75 = true := xfast_ok (by decide +kernel)
set_option maxRecDepth 100000 in
theorem xt_ok_76 : xe_ok cX10_thinks xt_76 = true := xfast_ok (by decide +kernel)
set_option maxRecDepth 100000 in
theorem xt_ok_77 : xe_ok cX11_init xt_77 = true := xfast_ok (by decide +kernel)
set_option maxRecDepth 100000 in
theorem xt_ok_78 : xe_ok cX11_row xt_78 = true := xfast_ok (by decide +kernel)
set_option maxRecDepth 100000 in
theorem xt_ok_79 : xe_ok cX11_lay xt_79 = true := xfast_ok (by decide +kernel)
set_option maxRecDepth 100000 in
theorem xt_ok_80 : xe_ok cX11_at xt_80 = true := xfast_ok (by decide +kernel)
set_option maxRecDepth 100000 in
theorem xt_ok_81 : xe_ok cX11_tear xt_81 = true := xfast_ok (by decide +kernel)
set_option maxRecDepth 100000 in
theorem xt_ok_82 : xe_ok cX11_copy xt_82 = true := xfast_ok (by decide +kernel)
set_option maxRecDepth 100000 in
theorem xt_ok_83 : xe_ok cX11_mean xt_83 = true := xfast_ok (by decide +kernel)
set_option maxRecDepth 100000 in
theorem xt_ok_84 : xe_ok cX11_text xt_84 = true := xfast_ok (by decide +kernel)
set_option maxRecDepth 100000 in
theorem xt_ok_85 : xe_ok cX11_put xt_85 = true := xfast_ok (by decide +kernel)
set_option maxRecDepth 100000 in
theorem xt_ok_86 : xe_ok cX11_fault xt_86 = true := xfast_ok (by decide +kernel)
set_option maxRecDepth 100000 in
theorem xt_ok_87 : xe_ok cX11_room xt_87 = true := xfast_ok (by decide +kernel)
set_option maxRecDepth 100000 in
theorem xt_ok_88 : xe_ok cX11_glass xt_88 = true := xfast_ok (by decide +kernel)
set_option maxRecDepth 100000 in
theorem xt_ok_89 : xe_ok cX11_mark xt_89 = true := xfast_ok (by decide +kernel)
set_option maxRecDepth 100000 in
theorem xt_ok_90 : xe_ok cX11_habit xt_90 = true := xfast_ok (by decide +kernel)
set_option maxRecDepth 100000 in
theorem xt_ok_91 : xe_ok cX11_term xt_91 = true := xfast_ok (by decide +kernel)
set_option maxRecDepth 100000 in
theorem xt_ok_92 : xe_ok cX11_step xt_92 = true := xfast_ok (by decide +kernel)
set_option maxRecDepth 100000 in
theorem xt_ok_93 : xe_ok cX11_deed xt_93 = true := xfast_ok (by decide +kernel)
set_option maxRecDepth 100000 in
theorem xt_ok_94 : xe_ok cX11_broken xt_94 = true := xfast_ok (by decide +kernel)
set_option maxRecDepth 100000 in
theorem xt_ok_95 : xe_ok cX11_undo xt_95 = true := xfast_ok (by decide +kernel)
set_option maxRecDepth 100000 in
theorem xt_ok_96 : xe_ok cX11_keep xt_96 = true := xfast_ok (by decide +kernel)
set_option maxRecDepth 100000 in
theorem xt_ok_97 : xe_ok cX11_on xt_97 = true := xfast_ok (by decide +kernel)
set_option maxRecDepth 100000 in
theorem xt_ok_98 : xe_ok cX11_show xt_98 = true := xfast_ok (by decide +kernel)
set_option maxRecDepth 100000 in
theorem xt_ok_99 : xe_ok cX11_breaks xt_99 = true := xfast_ok (by decide +kernel)
set_option maxRecDepth 100000 in
theorem xt_ok_100 : xe_ok cX11_alike xt_100 = true := xfast_ok (by decide +kernel)
set_option maxRecDepth 100000 in
theorem xt_ok_101 : xe_ok cX11_fit xt_101 = true := xfast_ok (by decide +kernel)
set_option maxRecDepth 100000 in
theorem xt_ok_102 : xe_ok cX11_ways xt_102 = true := xfast_ok (by decide +kernel)
set_option maxRecDepth 100000 in
theorem xt_ok_103 : xe_ok cX11_first xt_103 = true := xfast_ok (by decide +kernel)
set_option maxRecDepth 100000 in
theorem xt_ok_104 : xe_ok cX11_can xt_104 = true := xfast_ok (by decide +kernel)
set_option maxRecDepth 100000 in
theorem xt_ok_105 : xe_ok cX11_laws xt_105 = true := xfast_ok (by decide +kernel)
set_option maxRecDepth 100000 in
theorem xt_ok_106 : xe_ok cX11_next xt_106 = true := xfast_ok (by decide +kernel)
set_option maxRecDepth 100000 in
theorem xt_ok_107 : xe_ok cX11_he xt_107 = true := xfast_ok (by decide +kernel)
set_option maxRecDepth 100000 in
theorem xt_ok_108 : xe_ok cX11_keeps xt_108 = true := xfast_ok (by decide +kernel)
set_option maxRecDepth 100000 in
theorem xt_ok_109 : xe_ok cX11_still xt_109 = true := xfast_ok (by decide +kernel)
set_option maxRecDepth 100000 in
theorem xt_ok_110 : xe_ok cX11_game xt_110 = true := xfast_ok (by decide +kernel)
set_option maxRecDepth 100000 in
theorem xt_ok_111 : xe_ok cX11_picks xt_111 = true := xfast_ok (by decide +kernel)
set_option maxRecDepth 100000 in
theorem xt_ok_112 : xe_ok cX11_odds xt_112 = true := xfast_ok (by decide +kernel)
set_option maxRecDepth 100000 in
theorem xt_ok_113 : xe_ok cX11_mid xt_113 = true := xfast_ok (by decide +kernel)
set_option maxRecDepth 100000 in
theorem xt_ok_114 : xe_ok cX11_lots xt_114 = true := xfast_ok (by decide +kernel)
set_option maxRecDepth 100000 in
theorem xt_ok_115 : xe_ok cX11_asked xt_115 = true := xfast_ok (by decide +kernel)
set_option maxRecDepth 100000 in
theorem xt_ok_116 : xe_ok cX11_upper xt_116 = true := xfast_ok (by decide +kernel)
set_option maxRecDepth 100000 in
theorem xt_ok_117 : xe_ok cX11_lower xt_117 = true := xfast_ok (by decide +kernel)
set_option maxRecDepth 100000 in
theorem xt_ok_118 : xe_ok cX11_count xt_118 = true := xfast_ok (by decide +kernel)
set_option maxRecDepth 100000 in
theorem xt_ok_119 : xe_ok cX11_finding xt_119 = true := xfast_ok (by decide +kernel)
set_option maxRecDepth 100000 in
theorem xt_ok_120 : xe_ok cX11_findings xt_120 = true := xfast_ok (by decide +kernel)
set_option maxRecDepth 100000 in
theorem xt_ok_121 : xe_ok cX11_digest xt_121 = true := xfast_ok (by decide +kernel)
set_option maxRecDepth 100000 in
theorem xt_ok_122 : xe_ok cX11_refuse xt_122 = true := xfast_ok (by decide +kernel)
set_option maxRecDepth 100000 in
theorem xt_ok_123 : xe_ok cX11_isRow xt_123 = true := xfast_ok (by decide +kernel)
set_option maxRecDepth 100000 in
theorem xt_ok_124 : xe_ok cX11_isText xt_124 = true := xfast_ok (by decide +kernel)
set_option maxRecDepth 100000 in
theorem xt_ok_125 : xe_ok cX11_isKept xt_125 = true := xfast_ok (by decide +kernel)
set_option maxRecDepth 100000 in
theorem xt_ok_126 : xe_ok cX11_isStep xt_126 = true := xfast_ok (by decide +kernel)
set_option maxRecDepth 100000 in
theorem xt_ok_127 : xe_ok cX11_isGlass xt_127 = true := xfast_ok (by decide +kernel)
set_option maxRecDepth 100000 in
theorem xt_ok_128 : xe_ok cX11_findingOfPlace xt_128 = true := xfast_ok (by decide +kernel)
set_option maxRecDepth 100000 in
theorem xt_ok_129 : xe_ok cX11_findingOfSteps xt_129 = true := xfast_ok (by decide +kernel)
set_option maxRecDepth 100000 in
theorem xt_ok_130 : xe_ok cX11_findingOfPair xt_130 = true := xfast_ok (by decide +kernel)
set_option maxRecDepth 100000 in
theorem xt_ok_131 : xe_ok cX11_newPane xt_131 = true := xfast_ok (by decide +kernel)
set_option maxRecDepth 100000 in
theorem xt_ok_132 : xe_ok cX11_paneOf xt_132 = true := xfast_ok (by decide +kernel)
set_option maxRecDepth 100000 in
theorem xt_ok_133 : xe_ok cX11_glassFact xt_133 = true := xfast_ok (by decide +kernel)
set_option maxRecDepth 100000 in
theorem xt_ok_134 : xe_ok cX11_noughtsAtDeeds xt_134 = true := xfast_ok (by decide +kernel)
set_option maxRecDepth 100000 in
theorem xt_ok_135 : xe_ok cX11_doStep xt_135 = true := xfast_ok (by decide +kernel)
set_option maxRecDepth 100000 in
theorem xt_ok_136 : xe_ok cX11_glassesOf xt_136 = true := xfast_ok (by decide +kernel)
set_option maxRecDepth 100000 in
theorem xt_ok_137 : xe_ok cX11_keptOnes xt_137 = true := xfast_ok (by decide +kernel)
set_option maxRecDepth 100000 in
theorem xt_ok_138 : xe_ok cX11_howManyThere xt_138 = true := xfast_ok (by decide +kernel)
set_option maxRecDepth 100000 in
theorem xt_ok_139 : xe_ok cX11_digestOf xt_139 = true := xfast_ok (by decide +kernel)
set_option maxRecDepth 100000 in
theorem xt_ok_140 : xe_ok cX11_findSets xt_140 = true := xfast_ok (by decide +kernel)
set_option maxRecDepth 100000 in
theorem xt_ok_141 : xe_ok cX11_leastOf xt_141 = true := xfast_ok (by decide +kernel)
set_option maxRecDepth 100000 in
theorem xt_ok_142 : xe_ok cX11_firstNotShown xt_142 = true := xfast_ok (by decide +kernel)
set_option maxRecDepth 100000 in
theorem xt_ok_143 : xe_ok cX11_lawsOf xt_143 = true := xfast_ok (by decide +kernel)
set_option maxRecDepth 100000 in
theorem xt_ok_144 : xe_ok cX11_mostThatShowOneThing xt_144 = true := xfast_ok (by decide +kernel)
set_option maxRecDepth 100000 in
theorem xt_ok_145 : xe_ok cX11_leastPick xt_145 = true := xfast_ok (by decide +kernel)
set_option maxRecDepth 100000 in
theorem xt_ok_146 : xe_ok cX11_isSafeBeforeAll xt_146 = true := xfast_ok (by decide +kernel)
set_option maxRecDepth 100000 in
theorem xt_ok_147 : xe_ok cX11_breakingOfTwelve xt_147 = true := xfast_ok (by decide +kernel)
set_option maxRecDepth 100000 in
theorem xt_ok_148 : xe_ok cX11_tell xt_148 = true := xfast_ok (by decide +kernel)
set_option maxRecDepth 100000 in
theorem xt_ok_149 : xe_ok cX11_commonDivisor xt_149 = true := xfast_ok (by decide +kernel)
set_option maxRecDepth 100000 in
theorem xt_ok_150 : xe_ok cX12_init xt_150 = true := xfast_ok (by decide +kernel)
set_option maxRecDepth 100000 in
theorem xt_ok_151 : xe_ok cX12_in xt_151 = true := xfast_ok (by decide +kernel)
set_option maxRecDepth 100000 in
theorem xt_ok_152 : xe_ok cX12_has xt_152 = true := xfast_ok (by decide +kernel)
set_option maxRecDepth 100000 in
theorem xt_ok_153 : xe_ok cX12_finds xt_153 = true := xfast_ok (by decide +kernel)
set_option maxRecDepth 100000 in
theorem xt_ok_154 : xe_ok cX12_tells xt_154 = true := xfast_ok (by decide +kernel)
set_option maxRecDepth 100000 in
theorem xt_ok_155 : xe_ok cX12_tellParts xt_155 = true := xfast_ok (by decide +kernel)
set_option maxRecDepth 100000 in
theorem xt_ok_156 : xe_ok cX12_isRow xt_156 = true := xfast_ok (by decide +kernel)
set_option maxRecDepth 100000 in
theorem xt_ok_157 : xe_ok cX12_isText xt_157 = true := xfast_ok (by decide +kernel)
set_option maxRecDepth 100000 in
theorem xt_ok_158 : xe_ok cX12_row xt_158 = true := xfast_ok (by decide +kernel)
set_option maxRecDepth 100000 in
theorem xt_ok_159 : xe_ok cX12_wrongAt xt_159 = true := xfast_ok (by decide +kernel)
set_option maxRecDepth 100000 in
theorem xt_ok_160 : xe_ok cX12_lay xt_160 = true := xfast_ok (by decide +kernel)
set_option maxRecDepth 100000 in
theorem xt_ok_161 : xe_ok cX12_at xt_161 = true := xfast_ok (by decide +kernel)
set_option maxRecDepth 100000 in
theorem xt_ok_162 : xe_ok cX12_tear xt_162 = true := xfast_ok (by decide +kernel)
set_option maxRecDepth 100000 in
theorem xt_ok_163 : xe_ok cX12_isPart xt_163 = true := xfast_ok (by decide +kernel)
set_option maxRecDepth 100000 in
theorem xt_ok_164 : xe_ok cX12_copy xt_164 = true := xfast_ok (by decide +kernel)
set_option maxRecDepth 100000 in
theorem xt_ok_165 : xe_ok cX12_mean xt_165 = true := xfast_ok (by decide +kernel)
set_option maxRecDepth 100000 in
theorem xt_ok_166 : xe_ok cX12_text xt_166 = true := xfast_ok (by decide +kernel)
set_option maxRecDepth 100000 in
theorem xt_ok_167 : xe_ok cX12_put xt_167 = true := xfast_ok (by decide +kernel)
set_option maxRecDepth 100000 in
theorem xt_ok_168 : xe_ok cX12_letter xt_168 = true := xfast_ok (by decide +kernel)
set_option maxRecDepth 100000 in
theorem xt_ok_169 : xe_ok cX12_skip xt_169 = true := xfast_ok (by decide +kernel)
set_option maxRecDepth 100000 in
theorem xt_ok_170 : xe_ok cX12_figure xt_170 = true := xfast_ok (by decide +kernel)
set_option maxRecDepth 100000 in
theorem xt_ok_171 : xe_ok cX12_kindBy xt_171 = true := xfast_ok (by decide +kernel)
set_option maxRecDepth 100000 in
theorem xt_ok_172 : xe_ok cX12_areHabits xt_172 = true := xfast_ok (by decide +kernel)
set_option maxRecDepth 100000 in
theorem xt_ok_173 : xe_ok cX12_isGlassItem xt_173 = true := xfast_ok (by decide +kernel)
set_option maxRecDepth 100000 in
theorem xt_ok_174 : xe_ok cX12_isTermItem xt_174 = true := xfast_ok (by decide +kernel)
set_option maxRecDepth 100000 in
theorem xt_ok_175 : xe_ok cX12_isRoom xt_175 = true := xfast_ok (by decide +kernel)
set_option maxRecDepth 100000 in
theorem xt_ok_176 : xe_ok cX12_fault xt_176 = true := xfast_ok (by decide +kernel)
set_option maxRecDepth 100000 in
theorem xt_ok_177 : xe_ok cX12_room xt_177 = true := xfast_ok (by decide +kernel)
set_option maxRecDepth 100000 in
theorem xt_ok_178 : xe_ok cX12_isGlass xt_178 = true := xfast_ok (by decide +kernel)
set_option maxRecDepth 100000 in
theorem xt_ok_179 : xe_ok cX12_isStep xt_179 = true := xfast_ok (by decide +kernel)
set_option maxRecDepth 100000 in
theorem xt_ok_180 : xe_ok cX12_mirrored xt_180 = true := xfast_ok (by decide +kernel)
set_option maxRecDepth 100000 in
theorem xt_ok_181 : xe_ok cX12_showsBy xt_181 = true := xfast_ok (by decide +kernel)
set_option maxRecDepth 100000 in
theorem xt_ok_182 : xe_ok cX12_showsOf xt_182 = true := xfast_ok (by decide +kernel)
set_option maxRecDepth 100000 in
theorem xt_ok_183 : xe_ok cX12_termBy xt_183 = true := xfast_ok (by decide +kernel)
set_option maxRecDepth 100000 in
theorem xt_ok_184 : xe_ok cX12_shownOf xt_184 = true := xfast_ok (by decide +kernel)
set_option maxRecDepth 100000 in
theorem xt_ok_185 : xe_ok cX12_brokenBy xt_185 = true := xfast_ok (by decide +kernel)
set_option maxRecDepth 100000 in
theorem xt_ok_186 : xe_ok cX12_isOf xt_186 = true := xfast_ok (by decide +kernel)
set_option maxRecDepth 100000 in
theorem xt_ok_187 : xe_ok cX12_glass xt_187 = true := xfast_ok (by decide +kernel)
set_option maxRecDepth 100000 in
theorem xt_ok_188 : xe_ok cX12_mark xt_188 = true := xfast_ok (by decide +kernel)
set_option maxRecDepth 100000 in
theorem xt_ok_189 : xe_ok cX12_habit xt_189 = true := xfast_ok (by decide +kernel)
set_option maxRecDepth 100000 in
theorem xt_ok_190 : xe_ok cX12_term xt_190 = true := xfast_ok (by decide +kernel)
set_option maxRecDepth 100000 in
theorem xt_ok_191 : xe_ok cX12_doStep xt_191 = true := xfast_ok (by decide +kernel)
set_option maxRecDepth 100000 in
theorem xt_ok_192 : xe_ok cX12_step xt_192 = true := xfast_ok (by decide +kernel)
set_option maxRecDepth 100000 in
theorem xt_ok_193 : xe_ok cX12_deed xt_193 = true := xfast_ok (by decide +kernel)
set_option maxRecDepth 100000 in
theorem xt_ok_194 : xe_ok cX12_brokenMany xt_194 = true := xfast_ok (by decide +kernel)
set_option maxRecDepth 100000 in
theorem xt_ok_195 : xe_ok cX12_broken xt_195 = true := xfast_ok (by decide +kernel)
set_option maxRecDepth 100000 in
theorem xt_ok_196 : xe_ok cX12_undo xt_196 = true := xfast_ok (by decide +kernel)
set_option maxRecDepth 100000 in
theorem xt_ok_197 : xe_ok cX12_keep xt_197 = true := xfast_ok (by decide +kernel)
set_option maxRecDepth 100000 in
theorem xt_ok_198 : xe_ok cX12_on xt_198 = true := xfast_ok (by decide +kernel)
set_option maxRecDepth 100000 in
theorem xt_ok_199 : xe_ok cX12_takeOut xt_199 = true := xfast_ok (by decide +kernel)
set_option maxRecDepth 100000 in
theorem xt_ok_200 : xe_ok cX12_takeTwo xt_200 = true := xfast_ok (by decide +kernel)
set_option maxRecDepth 100000 in
theorem xt_ok_201 : xe_ok cX12_layRow xt_201 = true := xfast_ok (by decide +kernel)
set_option maxRecDepth 100000 in
theorem xt_ok_202 : xe_ok cX12_show xt_202 = true := xfast_ok (by decide +kernel)
set_option maxRecDepth 100000 in
theorem xt_ok_203 : xe_ok cX12_breaksAt xt_203 = true := xfast_ok (by decide +kernel)
set_option maxRecDepth 100000 in
theorem xt_ok_204 : xe_ok cX12_breaks xt_204 = true := xfast_ok (by decide +kernel)
set_option maxRecDepth 100000 in
theorem xt_ok_205 : xe_ok cX12_alike xt_205 = true := xfast_ok (by decide +kernel)
set_option maxRecDepth 100000 in
theorem xt_ok_206 : xe_ok cX12_fit xt_206 = true := xfast_ok (by decide +kernel)
set_option maxRecDepth 100000 in
theorem xt_ok_207 : xe_ok cX12_rowsOf xt_207 = true := xfast_ok (by decide +kernel)
set_option maxRecDepth 100000 in
theorem xt_ok_208 : xe_ok cX12_layDoings xt_208 = true := xfast_ok (by decide +kernel)
set_option maxRecDepth 100000 in
theorem xt_ok_209 : xe_ok cX12_shows xt_209 = true := xfast_ok (by decide +kernel)
set_option maxRecDepth 100000 in
theorem xt_ok_210 : xe_ok cX12_ways xt_210 = true := xfast_ok (by decide +kernel)
set_option maxRecDepth 100000 in
theorem xt_ok_211 : xe_ok cX12_first xt_211 = true := xfast_ok (by decide +kernel)
set_option maxRecDepth 100000 in
theorem xt_ok_212 : xe_ok cX12_can xt_212 = true := xfast_ok (by decide +kernel)
set_option maxRecDepth 100000 in
theorem xt_ok_213 : xe_ok cX12_lawsOf xt_213 = true := xfast_ok (by decide +kernel)
set_option maxRecDepth 100000 in
theorem xt_ok_214 : xe_ok cX12_laws xt_214 = true := xfast_ok (by decide +kernel)
set_option maxRecDepth 100000 in
theorem xt_ok_215 : xe_ok cX12_bits xt_215 = true := xfast_ok (by decide +kernel)
set_option maxRecDepth 100000 in
theorem xt_ok_216 : xe_ok cX12_next xt_216 = true := xfast_ok (by decide +kernel)
set_option maxRecDepth 100000 in
theorem xt_ok_217 : xe_ok cX12_he xt_217 = true := xfast_ok (by decide +kernel)
set_option maxRecDepth 100000 in
theorem xt_ok_218 : xe_ok cX12_breaksNone xt_218 = true := xfast_ok (by decide +kernel)
set_option maxRecDepth 100000 in
theorem xt_ok_219 : xe_ok cX12_keeps xt_219 = true := xfast_ok (by decide +kernel)
set_option maxRecDepth 100000 in
theorem xt_ok_220 : xe_ok cX12_still xt_220 = true := xfast_ok (by decide +kernel)
set_option maxRecDepth 100000 in
theorem xt_ok_221 : xe_ok cX12_isSafe xt_221 = true := xfast_ok (by decide +kernel)
set_option maxRecDepth 100000 in
theorem xt_ok_222 : xe_ok cX12_gameBy xt_222 = true := xfast_ok (by decide +kernel)
set_option maxRecDepth 100000 in
theorem xt_ok_223 : xe_ok cX12_game xt_223 = true := xfast_ok (by decide +kernel)
set_option maxRecDepth 100000 in
theorem xt_ok_224 : xe_ok cX12_picks xt_224 = true := xfast_ok (by decide +kernel)
set_option maxRecDepth 100000 in
theorem xt_ok_225 : xe_ok cX12_odds xt_225 = true := xfast_ok (by decide +kernel)
set_option maxRecDepth 100000 in
theorem xt_ok_226 : xe_ok cX12_mid xt_226 = true := xfast_ok (by decide +kernel)
set_option maxRecDepth 100000 in
theorem xt_ok_227 : xe_ok cX12_lots xt_227 = true := xfast_ok (by decide +kernel)
set_option maxRecDepth 100000 in
theorem xt_ok_228 : xe_ok cX12_asked xt_228 = true := xfast_ok (by decide +kernel)
set_option maxRecDepth 100000 in
theorem xt_ok_229 : xe_ok cX12_upper xt_229 = true := xfast_ok (by decide +kernel)
set_option maxRecDepth 100000 in
theorem xt_ok_230 : xe_ok cX12_lower xt_230 = true := xfast_ok (by decide +kernel)
set_option maxRecDepth 100000 in
theorem xt_ok_231 : xe_ok cX12_kindsOf xt_231 = true := xfast_ok (by decide +kernel)
set_option maxRecDepth 100000 in
theorem xt_ok_232 : xe_ok cX12_thereOf xt_232 = true := xfast_ok (by decide +kernel)
set_option maxRecDepth 100000 in
theorem xt_ok_233 : xe_ok cX12_countOf xt_233 = true := xfast_ok (by decide +kernel)
set_option maxRecDepth 100000 in
theorem xt_ok_234 : xe_ok cX12_count xt_234 = true := xfast_ok (by decide +kernel)
set_option maxRecDepth 100000 in
theorem xt_ok_235 : xe_ok cX12_finding xt_235 = true := xfast_ok (by decide +kernel)
set_option maxRecDepth 100000 in
theorem xt_ok_236 : xe_ok cX12_findings xt_236 = true := xfast_ok (by decide +kernel)
set_option maxRecDepth 100000 in
theorem xt_ok_237 : xe_ok cX12_add xt_237 = true := xfast_ok (by decide +kernel)
set_option maxRecDepth 100000 in
theorem xt_ok_238 : xe_ok cX12_digest xt_238 = true := xfast_ok (by decide +kernel)
set_option maxRecDepth 100000 in
theorem xt_ok_239 : xe_ok cJ6_bitCount_0f7a4 xt_239 = true := xfast_ok (by decide +kernel)
set_option maxRecDepth 100000 in
theorem xt_ok_L_0 : xe_ok cL_law xt_L_0 = true := xfast_ok (by decide +kernel)
set_option maxRecDepth 100000 in
theorem xt_ok_L_1 : xe_ok cL_law xt_L_1 = true := xfast_ok (by decide +kernel)
set_option maxRecDepth 100000 in
theorem xt_ok_L_2 : xe_ok cL_law xt_L_2 = true := xfast_ok (by decide +kernel)
set_option maxRecDepth 100000 in
theorem xt_ok_L_3 : xe_ok cL_law xt_L_3 = true := xfast_ok (by decide +kernel)
set_option maxRecDepth 100000 in
theorem xt_ok_L_4 : xe_ok cL_law xt_L_4 = true := xfast_ok (by decide +kernel)
set_option maxRecDepth 100000 in
theorem xt_ok_L_5 : xe_ok cL_law xt_L_5 = true := xfast_ok (by decide +kernel)
set_option maxRecDepth 100000 in
theorem xt_ok_L_6 : xe_ok cL_law xt_L_6 = true := xfast_ok (by decide +kernel)
set_option maxRecDepth 100000 in
theorem xt_ok_L_7 : xe_ok cL_law xt_L_7 = true := xfast_ok (by decide +kernel)
set_option maxRecDepth 100000 in
theorem xt_ok_L_8 : xe_ok cL_law xt_L_8 = true := xfast_ok (by decide +kernel)
set_option maxRecDepth 100000 in
theorem xt_ok_L_9 : xe_ok cL_law xt_L_9 = true := xfast_ok (by decide +kernel)
set_option maxRecDepth 100000 in
theorem xt_ok_L_10 : xe_ok cL_law xt_L_10 = true := xfast_ok (by decide +kernel)
set_option maxRecDepth 100000 in
theorem xt_ok_L_11 : xe_ok cL_law xt_L_11 = true := xfast_ok (by decide +kernel)
set_option maxRecDepth 100000 in
theorem xt_ok_L_12 : xe_ok cL_law xt_L_12 = true := xfast_ok (by decide +kernel)
set_option maxRecDepth 100000 in
theorem xt_ok_L_13 : xe_ok cL_law xt_L_13 = true := xfast_ok (by decide +kernel)
set_option maxRecDepth 100000 in
theorem xt_ok_L_14 : xe_ok cL_law xt_L_14 = true := xfast_ok (by decide +kernel)
set_option maxRecDepth 100000 in
theorem xt_ok_L_15 : xe_ok cL_law xt_L_15 = true := xfast_ok (by decide +kernel)
set_option maxRecDepth 100000 in
theorem xt_ok_L_16 : xe_ok cL_law xt_L_16 = true := xfast_ok (by decide +kernel)
theorem xe_ok_app {cc : ByteArray} {a b : xI} (ha : xe_ok cc a = true) (hb : xe_ok cc b = true) : xe_ok cc (a ++ b) = true := by
  unfold xe_ok at *
  rw [List.all_append, ha, hb]
  rfl
set_option maxRecDepth 100000 in
theorem xt_ok_L : xe_ok cL_law xt_L = true := xe_ok_app xt_ok_L_0 (xe_ok_app xt_ok_L_1 (xe_ok_app xt_ok_L_2 (xe_ok_app xt_ok_L_3 (xe_ok_app xt_ok_L_4 (xe_ok_app xt_ok_L_5 (xe_ok_app xt_ok_L_6 (xe_ok_app xt_ok_L_7 (xe_ok_app xt_ok_L_8 (xe_ok_app xt_ok_L_9 (xe_ok_app xt_ok_L_10 (xe_ok_app xt_ok_L_11 (xe_ok_app xt_ok_L_12 (xe_ok_app xt_ok_L_13 (xe_ok_app xt_ok_L_14 (xe_ok_app xt_ok_L_15 (xt_ok_L_16))))))))))))))))
