
theorem dq_u1 {c : ByteArray} {p : Nat} {b : UInt8} (h : c.data.toList[p]? = some b) : (Reader.u1 : Reader DecodeError Nat) c p = .ok (b.toNat, p + 1) := by
  obtain ⟨h1, h2⟩ := List.getElem?_eq_some_iff.mp h
  have hp : p < c.size := by simpa using h1
  have hb : c[p] = b := h2
  show (do if h : p < c.size then do set (p + 1); Pure.pure c[p].toNat else MonadExcept.throw (HasTruncated.truncated p) : Reader DecodeError Nat) c p = _
  rw [dif_pos hp, hb]; rfl
theorem dq_u1n {c : ByteArray} {p n : Nat} {b : UInt8} (h : c.data.toList[p]? = some b) (hn : b.toNat = n) : (Reader.u1 : Reader DecodeError Nat) c p = .ok (n, p + 1) := by
  subst hn; exact dq_u1 h
theorem dq_bind {α β : Type} {r : Reader DecodeError α} {f : α → Reader DecodeError β} {c : ByteArray} {p q : Nat} {a : α} (h : r c p = .ok (a, q)) : (r >>= f) c p = f a c q := by
  show (do let (a, s) ← r c p; f a c s : Except DecodeError (β × Nat)) = _
  rw [h]; rfl
theorem dq_u2 {c : ByteArray} {p : Nat} {x y : UInt8} (h : c.data.toList[p]? = some x) (g : c.data.toList[p + 1]? = some y) : (Reader.u2 : Reader DecodeError Nat) c p = .ok (x.toNat * 256 + y.toNat, p + 2) := by
  delta Reader.u2
  refine (dq_bind (dq_u1 h)).trans ?_
  refine (dq_bind (dq_u1 g)).trans ?_
  rfl
theorem dq_map {c : ByteArray} {p q n : Nat} {r : Reader DecodeError Nat} (g : Nat → Int) (h : r c p = .ok (n, q)) : (g <$> r : Reader DecodeError Int) c p = .ok (g n, q) := by
  show (do let (a, s) ← r c p; .ok (g a, s) : Except DecodeError (Int × Nat)) = _
  rw [h]; rfl
theorem dq_s1 {c : ByteArray} {p : Nat} {x : UInt8} (h : c.data.toList[p]? = some x) : (Reader.s1 : Reader DecodeError Int) c p = .ok (Reader.signed 8 x.toNat, p + 1) := dq_map _ (dq_u1 h)
theorem dq_s2 {c : ByteArray} {p : Nat} {x y : UInt8} (h : c.data.toList[p]? = some x) (g : c.data.toList[p + 1]? = some y) : (Reader.s2 : Reader DecodeError Int) c p = .ok (Reader.signed 16 (x.toNat * 256 + y.toNat), p + 2) := dq_map _ (dq_u2 h g)
theorem dq_dec {c : ByteArray} {pc k : Nat} {i : Instr} (h : Decoder.instr pc c pc = .ok (i, pc + k)) : decode c pc = .ok (i, k) := by
  have : decode c pc = (match Decoder.instr pc c pc with | .error x => .error x | .ok (j, s) => .ok (j, s - pc)) := by
    show (do let (j, s) ← Decoder.instr pc c pc; Pure.pure (j, s - pc) : Except DecodeError (Instr × Nat)) = _
    cases Decoder.instr pc c pc <;> rfl
  rw [this, h]
  show Except.ok (i, pc + k - pc) = _
  rw [Nat.add_sub_cancel_left]
theorem dq_at {l t : List UInt8} {a n j p : Nat} {b : UInt8} (h : (l.drop a).take n = t) (e : t[j]? = some b) (hp : p = a + j) : l[p]? = some b := by
  subst hp; subst h
  rw [List.getElem?_take] at e
  split at e
  · rw [List.getElem?_drop] at e; exact e
  · cases e

theorem dq_op187 {c : ByteArray} {pc : Nat} {x y : UInt8} {v : Nat} (h0 : c.data.toList[pc]? = some 187) (h1 : c.data.toList[pc + 1]? = some x) (h2 : c.data.toList[pc + 1 + 1]? = some y) (hv : x.toNat * 256 + y.toNat = v) : decode c pc = .ok (.new v, 3) := by
  subst hv
  refine dq_dec (k := 3) ?_
  delta Decoder.instr
  refine (dq_bind (dq_u1n (n := 187) h0 rfl)).trans ?_
  refine (dq_bind (dq_u2 h1 h2)).trans ?_
  rfl
theorem dq_op89 {c : ByteArray} {pc : Nat} (h0 : c.data.toList[pc]? = some 89) : decode c pc = .ok (.dup, 1) := by
  refine dq_dec (k := 1) ?_
  delta Decoder.instr
  refine (dq_bind (dq_u1n (n := 89) h0 rfl)).trans ?_
  rfl
theorem dq_op183 {c : ByteArray} {pc : Nat} {x y : UInt8} {v : Nat} (h0 : c.data.toList[pc]? = some 183) (h1 : c.data.toList[pc + 1]? = some x) (h2 : c.data.toList[pc + 1 + 1]? = some y) (hv : x.toNat * 256 + y.toNat = v) : decode c pc = .ok (.invokespecial v, 3) := by
  subst hv
  refine dq_dec (k := 3) ?_
  delta Decoder.instr
  refine (dq_bind (dq_u1n (n := 183) h0 rfl)).trans ?_
  refine (dq_bind (dq_u2 h1 h2)).trans ?_
  rfl
theorem dq_op76 {c : ByteArray} {pc : Nat} (h0 : c.data.toList[pc]? = some 76) : decode c pc = .ok (.astore_n 1, 1) := by
  refine dq_dec (k := 1) ?_
  delta Decoder.instr
  refine (dq_bind (dq_u1n (n := 76) h0 rfl)).trans ?_
  rfl
theorem dq_op77 {c : ByteArray} {pc : Nat} (h0 : c.data.toList[pc]? = some 77) : decode c pc = .ok (.astore_n 2, 1) := by
  refine dq_dec (k := 1) ?_
  delta Decoder.instr
  refine (dq_bind (dq_u1n (n := 77) h0 rfl)).trans ?_
  rfl
theorem dq_op78 {c : ByteArray} {pc : Nat} (h0 : c.data.toList[pc]? = some 78) : decode c pc = .ok (.astore_n 3, 1) := by
  refine dq_dec (k := 1) ?_
  delta Decoder.instr
  refine (dq_bind (dq_u1n (n := 78) h0 rfl)).trans ?_
  rfl
theorem dq_op3 {c : ByteArray} {pc : Nat} (h0 : c.data.toList[pc]? = some 3) : decode c pc = .ok (.iconst 0, 1) := by
  refine dq_dec (k := 1) ?_
  delta Decoder.instr
  refine (dq_bind (dq_u1n (n := 3) h0 rfl)).trans ?_
  rfl
theorem dq_op54 {c : ByteArray} {pc : Nat} {x : UInt8} {v : Nat} (h0 : c.data.toList[pc]? = some 54) (h1 : c.data.toList[pc + 1]? = some x) (hv : x.toNat = v) : decode c pc = .ok (.istore v, 2) := by
  subst hv
  refine dq_dec (k := 2) ?_
  delta Decoder.instr
  refine (dq_bind (dq_u1n (n := 54) h0 rfl)).trans ?_
  refine (dq_bind (dq_u1 h1)).trans ?_
  rfl
theorem dq_op21 {c : ByteArray} {pc : Nat} {x : UInt8} {v : Nat} (h0 : c.data.toList[pc]? = some 21) (h1 : c.data.toList[pc + 1]? = some x) (hv : x.toNat = v) : decode c pc = .ok (.iload v, 2) := by
  subst hv
  refine dq_dec (k := 2) ?_
  delta Decoder.instr
  refine (dq_bind (dq_u1n (n := 21) h0 rfl)).trans ?_
  refine (dq_bind (dq_u1 h1)).trans ?_
  rfl
theorem dq_op42 {c : ByteArray} {pc : Nat} (h0 : c.data.toList[pc]? = some 42) : decode c pc = .ok (.aload_n 0, 1) := by
  refine dq_dec (k := 1) ?_
  delta Decoder.instr
  refine (dq_bind (dq_u1n (n := 42) h0 rfl)).trans ?_
  rfl
theorem dq_op190 {c : ByteArray} {pc : Nat} (h0 : c.data.toList[pc]? = some 190) : decode c pc = .ok (.arraylength, 1) := by
  refine dq_dec (k := 1) ?_
  delta Decoder.instr
  refine (dq_bind (dq_u1n (n := 190) h0 rfl)).trans ?_
  rfl
theorem dq_op7 {c : ByteArray} {pc : Nat} (h0 : c.data.toList[pc]? = some 7) : decode c pc = .ok (.iconst 4, 1) := by
  refine dq_dec (k := 1) ?_
  delta Decoder.instr
  refine (dq_bind (dq_u1n (n := 7) h0 rfl)).trans ?_
  rfl
theorem dq_op100 {c : ByteArray} {pc : Nat} (h0 : c.data.toList[pc]? = some 100) : decode c pc = .ok (.isub, 1) := by
  refine dq_dec (k := 1) ?_
  delta Decoder.instr
  refine (dq_bind (dq_u1n (n := 100) h0 rfl)).trans ?_
  rfl
theorem dq_op163 {c : ByteArray} {pc : Nat} {x y : UInt8} {v : Int} (h0 : c.data.toList[pc]? = some 163) (h1 : c.data.toList[pc + 1]? = some x) (h2 : c.data.toList[pc + 1 + 1]? = some y) (hv : Reader.signed 16 (x.toNat * 256 + y.toNat) = v) : decode c pc = .ok (.if_icmp .gt v, 3) := by
  subst hv
  refine dq_dec (k := 3) ?_
  delta Decoder.instr
  refine (dq_bind (dq_u1n (n := 163) h0 rfl)).trans ?_
  refine (dq_bind (dq_s2 h1 h2)).trans ?_
  rfl
theorem dq_op46 {c : ByteArray} {pc : Nat} (h0 : c.data.toList[pc]? = some 46) : decode c pc = .ok (.iaload, 1) := by
  refine dq_dec (k := 1) ?_
  delta Decoder.instr
  refine (dq_bind (dq_u1n (n := 46) h0 rfl)).trans ?_
  rfl
theorem dq_op16 {c : ByteArray} {pc : Nat} {x : UInt8} {v : Int} (h0 : c.data.toList[pc]? = some 16) (h1 : c.data.toList[pc + 1]? = some x) (hv : (Reader.signed 8 x.toNat) = v) : decode c pc = .ok (.bipush v, 2) := by
  subst hv
  refine dq_dec (k := 2) ?_
  delta Decoder.instr
  refine (dq_bind (dq_u1n (n := 16) h0 rfl)).trans ?_
  refine (dq_bind (dq_s1 h1)).trans ?_
  rfl
theorem dq_op126 {c : ByteArray} {pc : Nat} (h0 : c.data.toList[pc]? = some 126) : decode c pc = .ok (.iand, 1) := by
  refine dq_dec (k := 1) ?_
  delta Decoder.instr
  refine (dq_bind (dq_u1n (n := 126) h0 rfl)).trans ?_
  rfl
theorem dq_op43 {c : ByteArray} {pc : Nat} (h0 : c.data.toList[pc]? = some 43) : decode c pc = .ok (.aload_n 1, 1) := by
  refine dq_dec (k := 1) ?_
  delta Decoder.instr
  refine (dq_bind (dq_u1n (n := 43) h0 rfl)).trans ?_
  rfl
theorem dq_op4 {c : ByteArray} {pc : Nat} (h0 : c.data.toList[pc]? = some 4) : decode c pc = .ok (.iconst 1, 1) := by
  refine dq_dec (k := 1) ?_
  delta Decoder.instr
  refine (dq_bind (dq_u1n (n := 4) h0 rfl)).trans ?_
  rfl
theorem dq_op96 {c : ByteArray} {pc : Nat} (h0 : c.data.toList[pc]? = some 96) : decode c pc = .ok (.iadd, 1) := by
  refine dq_dec (k := 1) ?_
  delta Decoder.instr
  refine (dq_bind (dq_u1n (n := 96) h0 rfl)).trans ?_
  rfl
theorem dq_op5 {c : ByteArray} {pc : Nat} (h0 : c.data.toList[pc]? = some 5) : decode c pc = .ok (.iconst 2, 1) := by
  refine dq_dec (k := 1) ?_
  delta Decoder.instr
  refine (dq_bind (dq_u1n (n := 5) h0 rfl)).trans ?_
  rfl
theorem dq_op6 {c : ByteArray} {pc : Nat} (h0 : c.data.toList[pc]? = some 6) : decode c pc = .ok (.iconst 3, 1) := by
  refine dq_dec (k := 1) ?_
  delta Decoder.instr
  refine (dq_bind (dq_u1n (n := 6) h0 rfl)).trans ?_
  rfl
theorem dq_op45 {c : ByteArray} {pc : Nat} (h0 : c.data.toList[pc]? = some 45) : decode c pc = .ok (.aload_n 3, 1) := by
  refine dq_dec (k := 1) ?_
  delta Decoder.instr
  refine (dq_bind (dq_u1n (n := 45) h0 rfl)).trans ?_
  rfl
theorem dq_op184 {c : ByteArray} {pc : Nat} {x y : UInt8} {v : Nat} (h0 : c.data.toList[pc]? = some 184) (h1 : c.data.toList[pc + 1]? = some x) (h2 : c.data.toList[pc + 1 + 1]? = some y) (hv : x.toNat * 256 + y.toNat = v) : decode c pc = .ok (.invokestatic v, 3) := by
  subst hv
  refine dq_dec (k := 3) ?_
  delta Decoder.instr
  refine (dq_bind (dq_u1n (n := 184) h0 rfl)).trans ?_
  refine (dq_bind (dq_u2 h1 h2)).trans ?_
  rfl
theorem dq_op44 {c : ByteArray} {pc : Nat} (h0 : c.data.toList[pc]? = some 44) : decode c pc = .ok (.aload_n 2, 1) := by
  refine dq_dec (k := 1) ?_
  delta Decoder.instr
  refine (dq_bind (dq_u1n (n := 44) h0 rfl)).trans ?_
  rfl
theorem dq_op182 {c : ByteArray} {pc : Nat} {x y : UInt8} {v : Nat} (h0 : c.data.toList[pc]? = some 182) (h1 : c.data.toList[pc + 1]? = some x) (h2 : c.data.toList[pc + 1 + 1]? = some y) (hv : x.toNat * 256 + y.toNat = v) : decode c pc = .ok (.invokevirtual v, 3) := by
  subst hv
  refine dq_dec (k := 3) ?_
  delta Decoder.instr
  refine (dq_bind (dq_u1n (n := 182) h0 rfl)).trans ?_
  refine (dq_bind (dq_u2 h1 h2)).trans ?_
  rfl
theorem dq_op167 {c : ByteArray} {pc : Nat} {x y : UInt8} {v : Int} (h0 : c.data.toList[pc]? = some 167) (h1 : c.data.toList[pc + 1]? = some x) (h2 : c.data.toList[pc + 1 + 1]? = some y) (hv : Reader.signed 16 (x.toNat * 256 + y.toNat) = v) : decode c pc = .ok (.goto v, 3) := by
  subst hv
  refine dq_dec (k := 3) ?_
  delta Decoder.instr
  refine (dq_bind (dq_u1n (n := 167) h0 rfl)).trans ?_
  refine (dq_bind (dq_s2 h1 h2)).trans ?_
  rfl
theorem dq_op153 {c : ByteArray} {pc : Nat} {x y : UInt8} {v : Int} (h0 : c.data.toList[pc]? = some 153) (h1 : c.data.toList[pc + 1]? = some x) (h2 : c.data.toList[pc + 1 + 1]? = some y) (hv : Reader.signed 16 (x.toNat * 256 + y.toNat) = v) : decode c pc = .ok (.ifCond .eq v, 3) := by
  subst hv
  refine dq_dec (k := 3) ?_
  delta Decoder.instr
  refine (dq_bind (dq_u1n (n := 153) h0 rfl)).trans ?_
  refine (dq_bind (dq_s2 h1 h2)).trans ?_
  rfl
theorem dq_op159 {c : ByteArray} {pc : Nat} {x y : UInt8} {v : Int} (h0 : c.data.toList[pc]? = some 159) (h1 : c.data.toList[pc + 1]? = some x) (h2 : c.data.toList[pc + 1 + 1]? = some y) (hv : Reader.signed 16 (x.toNat * 256 + y.toNat) = v) : decode c pc = .ok (.if_icmp .eq v, 3) := by
  subst hv
  refine dq_dec (k := 3) ?_
  delta Decoder.instr
  refine (dq_bind (dq_u1n (n := 159) h0 rfl)).trans ?_
  refine (dq_bind (dq_s2 h1 h2)).trans ?_
  rfl
theorem dq_op172 {c : ByteArray} {pc : Nat} (h0 : c.data.toList[pc]? = some 172) : decode c pc = .ok (.ireturn, 1) := by
  refine dq_dec (k := 1) ?_
  delta Decoder.instr
  refine (dq_bind (dq_u1n (n := 172) h0 rfl)).trans ?_
  rfl
theorem dq_op154 {c : ByteArray} {pc : Nat} {x y : UInt8} {v : Int} (h0 : c.data.toList[pc]? = some 154) (h1 : c.data.toList[pc + 1]? = some x) (h2 : c.data.toList[pc + 1 + 1]? = some y) (hv : Reader.signed 16 (x.toNat * 256 + y.toNat) = v) : decode c pc = .ok (.ifCond .ne v, 3) := by
  subst hv
  refine dq_dec (k := 3) ?_
  delta Decoder.instr
  refine (dq_bind (dq_u1n (n := 154) h0 rfl)).trans ?_
  refine (dq_bind (dq_s2 h1 h2)).trans ?_
  rfl
theorem dq_op180 {c : ByteArray} {pc : Nat} {x y : UInt8} {v : Nat} (h0 : c.data.toList[pc]? = some 180) (h1 : c.data.toList[pc + 1]? = some x) (h2 : c.data.toList[pc + 1 + 1]? = some y) (hv : x.toNat * 256 + y.toNat = v) : decode c pc = .ok (.getfield v, 3) := by
  subst hv
  refine dq_dec (k := 3) ?_
  delta Decoder.instr
  refine (dq_bind (dq_u1n (n := 180) h0 rfl)).trans ?_
  refine (dq_bind (dq_u2 h1 h2)).trans ?_
  rfl
theorem dq_op133 {c : ByteArray} {pc : Nat} (h0 : c.data.toList[pc]? = some 133) : decode c pc = .ok (.i2l, 1) := by
  refine dq_dec (k := 1) ?_
  delta Decoder.instr
  refine (dq_bind (dq_u1n (n := 133) h0 rfl)).trans ?_
  rfl
theorem dq_op148 {c : ByteArray} {pc : Nat} (h0 : c.data.toList[pc]? = some 148) : decode c pc = .ok (.lcmp, 1) := by
  refine dq_dec (k := 1) ?_
  delta Decoder.instr
  refine (dq_bind (dq_u1n (n := 148) h0 rfl)).trans ?_
  rfl
theorem dq_op58 {c : ByteArray} {pc : Nat} {x : UInt8} {v : Nat} (h0 : c.data.toList[pc]? = some 58) (h1 : c.data.toList[pc + 1]? = some x) (hv : x.toNat = v) : decode c pc = .ok (.astore v, 2) := by
  subst hv
  refine dq_dec (k := 2) ?_
  delta Decoder.instr
  refine (dq_bind (dq_u1n (n := 58) h0 rfl)).trans ?_
  refine (dq_bind (dq_u1 h1)).trans ?_
  rfl
theorem dq_op87 {c : ByteArray} {pc : Nat} (h0 : c.data.toList[pc]? = some 87) : decode c pc = .ok (.pop, 1) := by
  refine dq_dec (k := 1) ?_
  delta Decoder.instr
  refine (dq_bind (dq_u1n (n := 87) h0 rfl)).trans ?_
  rfl
theorem dq_op88 {c : ByteArray} {pc : Nat} (h0 : c.data.toList[pc]? = some 88) : decode c pc = .ok (.pop2, 1) := by
  refine dq_dec (k := 1) ?_
  delta Decoder.instr
  refine (dq_bind (dq_u1n (n := 88) h0 rfl)).trans ?_
  rfl
theorem dq_op132 {c : ByteArray} {pc : Nat} {x y : UInt8} {v : Nat} {w : Int} (h0 : c.data.toList[pc]? = some 132) (h1 : c.data.toList[pc + 1]? = some x) (h2 : c.data.toList[pc + 1 + 1]? = some y) (hv : x.toNat = v) (hw : Reader.signed 8 y.toNat = w) : decode c pc = .ok (.iinc v w, 3) := by
  subst hv hw
  refine dq_dec (k := 3) ?_
  delta Decoder.instr
  refine (dq_bind (dq_u1n (n := 132) h0 rfl)).trans ?_
  refine (dq_bind (dq_u1 h1)).trans ?_
  refine (dq_bind (dq_s1 h2)).trans ?_
  rfl
noncomputable def dq_end : Nat := 0
