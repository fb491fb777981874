
theorem dq_u1 {c : ByteArray} {p : Nat} {b : UInt8} (h : c.data.toList[p]? = some b) : (Reader.u1 : Reader DecodeError Nat) c p = .ok (b.toNat, p + 1) := by
  obtain ⟨h1, h2⟩ := List.getElem?_eq_some_iff.mp h
  have hp : p < c.size := by simpa using h1
  have hb : c[p] = b := h2
  show (do if h : p < c.size then do set (p + 1); Pure.pure c[p].toNat else MonadExcept.throw (HasTruncated.truncated p) : Reader DecodeError Nat) c p = _
  rw [dif_pos hp, hb]; rfl
theorem dq_u1n {c : ByteArray} {p n : Nat} {b : UInt8} (h : c.data.toList[p]? = some b) (hn : b.toNat = n) : (Reader.u1 : Reader DecodeError Nat) c p = .ok (n, p + 1) := by
  subst hn; exact dq_u1 h
theorem dq_bind {α β : Type} {r : Reader DecodeError α} {f : α → Reader DecodeError β} {c : ByteArray} {p q : Nat} {a : α} (h : r c p = .ok (a, q)) : (r >>= f) c p = f a c q := by
  show (do let (a, s) ← r c p; f a c s : Except DecodeError (β × Nat)) = _
  rw [h]; rfl
theorem dq_u2 {c : ByteArray} {p : Nat} {x y : UInt8} (h : c.data.toList[p]? = some x) (g : c.data.toList[p + 1]? = some y) : (Reader.u2 : Reader DecodeError Nat) c p = .ok (x.toNat * 256 + y.toNat, p + 2) := by
  delta Reader.u2
  refine (dq_bind (dq_u1 h)).trans ?_
  refine (dq_bind (dq_u1 g)).trans ?_
  rfl
theorem dq_map {c : ByteArray} {p q n : Nat} {r : Reader DecodeError Nat} (g : Nat → Int) (h : r c p = .ok (n, q)) : (g <$> r : Reader DecodeError Int) c p = .ok (g n, q) := by
  show (do let (a, s) ← r c p; .ok (g a, s) : Except DecodeError (Int × Nat)) = _
  rw [h]; rfl
theorem dq_s1 {c : ByteArray} {p : Nat} {x : UInt8} (h : c.data.toList[p]? = some x) : (Reader.s1 : Reader DecodeError Int) c p = .ok (Reader.signed 8 x.toNat, p + 1) := dq_map _ (dq_u1 h)
theorem dq_s2 {c : ByteArray} {p : Nat} {x y : UInt8} (h : c.data.toList[p]? = some x) (g : c.data.toList[p + 1]? = some y) : (Reader.s2 : Reader DecodeError Int) c p = .ok (Reader.signed 16 (x.toNat * 256 + y.toNat), p + 2) := dq_map _ (dq_u2 h g)
theorem dq_dec {c : ByteArray} {pc k : Nat} {i : Instr} (h : Decoder.instr pc c pc = .ok (i, pc + k)) : decode c pc = .ok (i, k) := by
  have : decode c pc = (match Decoder.instr pc c pc with | .error x => .error x | .ok (j, s) => .ok (j, s - pc)) := by
    show (do let (j, s) ← Decoder.instr pc c pc; Pure.pure (j, s - pc) : Except DecodeError (Instr × Nat)) = _
    cases Decoder.instr pc c pc <;> rfl
  rw [this, h]
  show Except.ok (i, pc + k - pc) = _
  rw [Nat.add_sub_cancel_left]
theorem dq_at {l t : List UInt8} {a n j p : Nat} {b : UInt8} (h : (l.drop a).take n = t) (e : t[j]? = some b) (hp : p = a + j) : l[p]? = some b := by
  subst hp; subst h
  rw [List.getElem?_take] at e
  split at e
  · rw [List.getElem?_drop] at e; exact e
  · cases e

theorem dq_op187 {c : ByteArray} {pc : Nat} {x y : UInt8} {v : Nat} (h0 : c.data.toList[pc]? = some 187) (h1 : c.data.toList[pc + 1]? = some x) (h2 : c.data.toList[pc + 1 + 1]? = some y) (hv : x.toNat * 256 + y.toNat = v) : decode c pc = .ok (.new v, 3) := by
  subst hv
  refine dq_dec (k := 3) ?_
  delta Decoder.instr
  refine (dq_bind (dq_u1n (n := 187) h0 rfl)).trans ?_
  refine (dq_bind (dq_u2 h1 h2)).trans ?_
  rfl
theorem dq_op89 {c : ByteArray} {pc : Nat} (h0 : c.data.toList[pc]? = some 89) : decode c pc = .ok (.dup, 1) := by
  refine dq_dec (k := 1) ?_
  delta Decoder.instr
  refine (dq_bind (dq_u1n (n := 89) h0 rfl)).trans ?_
  rfl
theorem dq_op183 {c : ByteArray} {pc : Nat} {x y : UInt8} {v : Nat} (h0 : c.data.toList[pc]? = some 183) (h1 : c.data.toList[pc + 1]? = some x) (h2 : c.data.toList[pc + 1 + 1]? = some y) (hv : x.toNat * 256 + y.toNat = v) : decode c pc = .ok (.invokespecial v, 3) := by
  subst hv
  refine dq_dec (k := 3) ?_
  delta Decoder.instr
  refine (dq_bind (dq_u1n (n := 183) h0 rfl)).trans ?_
  refine (dq_bind (dq_u2 h1 h2)).trans ?_
  rfl
theorem dq_op76 {c : ByteArray} {pc : Nat} (h0 : c.data.toList[pc]? = some 76) : decode c pc = .ok (.astore_n 1, 1) := by
  refine dq_dec (k := 1) ?_
  delta Decoder.instr
  refine (dq_bind (dq_u1n (n := 76) h0 rfl)).trans ?_
  rfl
theorem dq_op77 {c : ByteArray} {pc : Nat} (h0 : c.data.toList[pc]? = some 77) : decode c pc = .ok (.astore_n 2, 1) := by
  refine dq_dec (k := 1) ?_
  delta Decoder.instr
  refine (dq_bind (dq_u1n (n := 77) h0 rfl)).trans ?_
  rfl
theorem dq_op78 {c : ByteArray} {pc : Nat} (h0 : c.data.toList[pc]? = some 78) : decode c pc = .ok (.astore_n 3, 1) := by
  refine dq_dec (k := 1) ?_
  delta Decoder.instr
  refine (dq_bind (dq_u1n (n := 78) h0 rfl)).trans ?_
  rfl
theorem dq_op3 {c : ByteArray} {pc : Nat} (h0 : c.data.toList[pc]? = some 3) : decode c pc = .ok (.iconst 0, 1) := by
  refine dq_dec (k := 1) ?_
  delta Decoder.instr
  refine (dq_bind (dq_u1n (n := 3) h0 rfl)).trans ?_
  rfl
theorem dq_op54 {c : ByteArray} {pc : Nat} {x : UInt8} {v : Nat} (h0 : c.data.toList[pc]? = some 54) (h1 : c.data.toList[pc + 1]? = some x) (hv : x.toNat = v) : decode c pc = .ok (.istore v, 2) := by
  subst hv
  refine dq_dec (k := 2) ?_
  delta Decoder.instr
  refine (dq_bind (dq_u1n (n := 54) h0 rfl)).trans ?_
  refine (dq_bind (dq_u1 h1)).trans ?_
  rfl
theorem dq_op21 {c : ByteArray} {pc : Nat} {x : UInt8} {v : Nat} (h0 : c.data.toList[pc]? = some 21) (h1 : c.data.toList[pc + 1]? = some x) (hv : x.toNat = v) : decode c pc = .ok (.iload v, 2) := by
  subst hv
  refine dq_dec (k := 2) ?_
  delta Decoder.instr
  refine (dq_bind (dq_u1n (n := 21) h0 rfl)).trans ?_
  refine (dq_bind (dq_u1 h1)).trans ?_
  rfl
theorem dq_op42 {c : ByteArray} {pc : Nat} (h0 : c.data.toList[pc]? = some 42) : decode c pc = .ok (.aload_n 0, 1) := by
  refine dq_dec (k := 1) ?_
  delta Decoder.instr
  refine (dq_bind (dq_u1n (n := 42) h0 rfl)).trans ?_
  rfl
theorem dq_op190 {c : ByteArray} {pc : Nat} (h0 : c.data.toList[pc]? = some 190) : decode c pc = .ok (.arraylength, 1) := by
  refine dq_dec (k := 1) ?_
  delta Decoder.instr
  refine (dq_bind (dq_u1n (n := 190) h0 rfl)).trans ?_
  rfl
theorem dq_op7 {c : ByteArray} {pc : Nat} (h0 : c.data.toList[pc]? = some 7) : decode c pc = .ok (.iconst 4, 1) := by
  refine dq_dec (k := 1) ?_
  delta Decoder.instr
  refine (dq_bind (dq_u1n (n := 7) h0 rfl)).trans ?_
  rfl
theorem dq_op100 {c : ByteArray} {pc : Nat} (h0 : c.data.toList[pc]? = some 100) : decode c pc = .ok (.isub, 1) := by
  refine dq_dec (k := 1) ?_
  delta Decoder.instr
  refine (dq_bind (dq_u1n (n := 100) h0 rfl)).trans ?_
  rfl
theorem dq_op163 {c : ByteArray} {pc : Nat} {x y : UInt8} {v : Int} (h0 : c.data.toList[pc]? = some 163) (h1 : c.data.toList[pc + 1]? = some x) (h2 : c.data.toList[pc + 1 + 1]? = some y) (hv : Reader.signed 16 (x.toNat * 256 + y.toNat) = v) : decode c pc = .ok (.if_icmp .gt v, 3) := by
  subst hv
  refine dq_dec (k := 3) ?_
  delta Decoder.instr
  refine (dq_bind (dq_u1n (n := 163) h0 rfl)).trans ?_
  refine (dq_bind (dq_s2 h1 h2)).trans ?_
  rfl
theorem dq_op46 {c : ByteArray} {pc : Nat} (h0 : c.data.toList[pc]? = some 46) : decode c pc = .ok (.iaload, 1) := by
  refine dq_dec (k := 1) ?_
  delta Decoder.instr
  refine (dq_bind (dq_u1n (n := 46) h0 rfl)).trans ?_
  rfl
theorem dq_op16 {c : ByteArray} {pc : Nat} {x : UInt8} {v : Int} (h0 : c.data.toList[pc]? = some 16) (h1 : c.data.toList[pc + 1]? = some x) (hv : (Reader.signed 8 x.toNat) = v) : decode c pc = .ok (.bipush v, 2) := by
  subst hv
  refine dq_dec (k := 2) ?_
  delta Decoder.instr
  refine (dq_bind (dq_u1n (n := 16) h0 rfl)).trans ?_
  refine (dq_bind (dq_s1 h1)).trans ?_
  rfl
theorem dq_op126 {c : ByteArray} {pc : Nat} (h0 : c.data.toList[pc]? = some 126) : decode c pc = .ok (.iand, 1) := by
  refine dq_dec (k := 1) ?_
  delta Decoder.instr
  refine (dq_bind (dq_u1n (n := 126) h0 rfl)).trans ?_
  rfl
theorem dq_op43 {c : ByteArray} {pc : Nat} (h0 : c.data.toList[pc]? = some 43) : decode c pc = .ok (.aload_n 1, 1) := by
  refine dq_dec (k := 1) ?_
  delta Decoder.instr
  refine (dq_bind (dq_u1n (n := 43) h0 rfl)).trans ?_
  rfl
theorem dq_op4 {c : ByteArray} {pc : Nat} (h0 : c.data.toList[pc]? = some 4) : decode c pc = .ok (.iconst 1, 1) := by
  refine dq_dec (k := 1) ?_
  delta Decoder.instr
  refine (dq_bind (dq_u1n (n := 4) h0 rfl)).trans ?_
  rfl
theorem dq_op96 {c : ByteArray} {pc : Nat} (h0 : c.data.toList[pc]? = some 96) : decode c pc = .ok (.iadd, 1) := by
  refine dq_dec (k := 1) ?_
  delta Decoder.instr
  refine (dq_bind (dq_u1n (n := 96) h0 rfl)).trans ?_
  rfl
theorem dq_op5 {c : ByteArray} {pc : Nat} (h0 : c.data.toList[pc]? = some 5) : decode c pc = .ok (.iconst 2, 1) := by
  refine dq_dec (k := 1) ?_
  delta Decoder.instr
  refine (dq_bind (dq_u1n (n := 5) h0 rfl)).trans ?_
  rfl
theorem dq_op6 {c : ByteArray} {pc : Nat} (h0 : c.data.toList[pc]? = some 6) : decode c pc = .ok (.iconst 3, 1) := by
  refine dq_dec (k := 1) ?_
  delta Decoder.instr
  refine (dq_bind (dq_u1n (n := 6) h0 rfl)).trans ?_
  rfl
theorem dq_op45 {c : ByteArray} {pc : Nat} (h0 : c.data.toList[pc]? = some 45) : decode c pc = .ok (.aload_n 3, 1) := by
  refine dq_dec (k := 1) ?_
  delta Decoder.instr
  refine (dq_bind (dq_u1n (n := 45) h0 rfl)).trans ?_
  rfl
theorem dq_op184 {c : ByteArray} {pc : Nat} {x y : UInt8} {v : Nat} (h0 : c.data.toList[pc]? = some 184) (h1 : c.data.toList[pc + 1]? = some x) (h2 : c.data.toList[pc + 1 + 1]? = some y) (hv : x.toNat * 256 + y.toNat = v) : decode c pc = .ok (.invokestatic v, 3) := by
  subst hv
  refine dq_dec (k := 3) ?_
  delta Decoder.instr
  refine (dq_bind (dq_u1n (n := 184) h0 rfl)).trans ?_
  refine (dq_bind (dq_u2 h1 h2)).trans ?_
  rfl
theorem dq_op44 {c : ByteArray} {pc : Nat} (h0 : c.data.toList[pc]? = some 44) : decode c pc = .ok (.aload_n 2, 1) := by
  refine dq_dec (k := 1) ?_
  delta Decoder.instr
  refine (dq_bind (dq_u1n (n := 44) h0 rfl)).trans ?_
  rfl
theorem dq_op182 {c : ByteArray} {pc : Nat} {x y : UInt8} {v : Nat} (h0 : c.data.toList[pc]? = some 182) (h1 : c.data.toList[pc + 1]? = some x) (h2 : c.data.toList[pc + 1 + 1]? = some y) (hv : x.toNat * 256 + y.toNat = v) : decode c pc = .ok (.invokevirtual v, 3) := by
  subst hv
  refine dq_dec (k := 3) ?_
  delta Decoder.instr
  refine (dq_bind (dq_u1n (n := 182) h0 rfl)).trans ?_
  refine (dq_bind (dq_u2 h1 h2)).trans ?_
  rfl
theorem dq_op159 {c : ByteArray} {pc : Nat} {x y : UInt8} {v : Int} (h0 : c.data.toList[pc]? = some 159) (h1 : c.data.toList[pc + 1]? = some x) (h2 : c.data.toList[pc + 1 + 1]? = some y) (hv : Reader.signed 16 (x.toNat * 256 + y.toNat) = v) : decode c pc = .ok (.if_icmp .eq v, 3) := by
  subst hv
  refine dq_dec (k := 3) ?_
  delta Decoder.instr
  refine (dq_bind (dq_u1n (n := 159) h0 rfl)).trans ?_
  refine (dq_bind (dq_s2 h1 h2)).trans ?_
  rfl
theorem dq_op172 {c : ByteArray} {pc : Nat} (h0 : c.data.toList[pc]? = some 172) : decode c pc = .ok (.ireturn, 1) := by
  refine dq_dec (k := 1) ?_
  delta Decoder.instr
  refine (dq_bind (dq_u1n (n := 172) h0 rfl)).trans ?_
  rfl
theorem dq_op154 {c : ByteArray} {pc : Nat} {x y : UInt8} {v : Int} (h0 : c.data.toList[pc]? = some 154) (h1 : c.data.toList[pc + 1]? = some x) (h2 : c.data.toList[pc + 1 + 1]? = some y) (hv : Reader.signed 16 (x.toNat * 256 + y.toNat) = v) : decode c pc = .ok (.ifCond .ne v, 3) := by
  subst hv
  refine dq_dec (k := 3) ?_
  delta Decoder.instr
  refine (dq_bind (dq_u1n (n := 154) h0 rfl)).trans ?_
  refine (dq_bind (dq_s2 h1 h2)).trans ?_
  rfl
theorem dq_op180 {c : ByteArray} {pc : Nat} {x y : UInt8} {v : Nat} (h0 : c.data.toList[pc]? = some 180) (h1 : c.data.toList[pc + 1]? = some x) (h2 : c.data.toList[pc + 1 + 1]? = some y) (hv : x.toNat * 256 + y.toNat = v) : decode c pc = .ok (.getfield v, 3) := by
  subst hv
  refine dq_dec (k := 3) ?_
  delta Decoder.instr
  refine (dq_bind (dq_u1n (n := 180) h0 rfl)).trans ?_
  refine (dq_bind (dq_u2 h1 h2)).trans ?_
  rfl
theorem dq_op133 {c : ByteArray} {pc : Nat} (h0 : c.data.toList[pc]? = some 133) : decode c pc = .ok (.i2l, 1) := by
  refine dq_dec (k := 1) ?_
  delta Decoder.instr
  refine (dq_bind (dq_u1n (n := 133) h0 rfl)).trans ?_
  rfl
theorem dq_op148 {c : ByteArray} {pc : Nat} (h0 : c.data.toList[pc]? = some 148) : decode c pc = .ok (.lcmp, 1) := by
  refine dq_dec (k := 1) ?_
  delta Decoder.instr
  refine (dq_bind (dq_u1n (n := 148) h0 rfl)).trans ?_
  rfl
theorem dq_op153 {c : ByteArray} {pc : Nat} {x y : UInt8} {v : Int} (h0 : c.data.toList[pc]? = some 153) (h1 : c.data.toList[pc + 1]? = some x) (h2 : c.data.toList[pc + 1 + 1]? = some y) (hv : Reader.signed 16 (x.toNat * 256 + y.toNat) = v) : decode c pc = .ok (.ifCond .eq v, 3) := by
  subst hv
  refine dq_dec (k := 3) ?_
  delta Decoder.instr
  refine (dq_bind (dq_u1n (n := 153) h0 rfl)).trans ?_
  refine (dq_bind (dq_s2 h1 h2)).trans ?_
  rfl
theorem dq_op167 {c : ByteArray} {pc : Nat} {x y : UInt8} {v : Int} (h0 : c.data.toList[pc]? = some 167) (h1 : c.data.toList[pc + 1]? = some x) (h2 : c.data.toList[pc + 1 + 1]? = some y) (hv : Reader.signed 16 (x.toNat * 256 + y.toNat) = v) : decode c pc = .ok (.goto v, 3) := by
  subst hv
  refine dq_dec (k := 3) ?_
  delta Decoder.instr
  refine (dq_bind (dq_u1n (n := 167) h0 rfl)).trans ?_
  refine (dq_bind (dq_s2 h1 h2)).trans ?_
  rfl
theorem dq_op58 {c : ByteArray} {pc : Nat} {x : UInt8} {v : Nat} (h0 : c.data.toList[pc]? = some 58) (h1 : c.data.toList[pc + 1]? = some x) (hv : x.toNat = v) : decode c pc = .ok (.astore v, 2) := by
  subst hv
  refine dq_dec (k := 2) ?_
  delta Decoder.instr
  refine (dq_bind (dq_u1n (n := 58) h0 rfl)).trans ?_
  refine (dq_bind (dq_u1 h1)).trans ?_
  rfl
theorem dq_op25 {c : ByteArray} {pc : Nat} {x : UInt8} {v : Nat} (h0 : c.data.toList[pc]? = some 25) (h1 : c.data.toList[pc + 1]? = some x) (hv : x.toNat = v) : decode c pc = .ok (.aload v, 2) := by
  subst hv
  refine dq_dec (k := 2) ?_
  delta Decoder.instr
  refine (dq_bind (dq_u1n (n := 25) h0 rfl)).trans ?_
  refine (dq_bind (dq_u1 h1)).trans ?_
  rfl
theorem dq_op10 {c : ByteArray} {pc : Nat} (h0 : c.data.toList[pc]? = some 10) : decode c pc = .ok (.lconst 1, 1) := by
  refine dq_dec (k := 1) ?_
  delta Decoder.instr
  refine (dq_bind (dq_u1n (n := 10) h0 rfl)).trans ?_
  rfl
theorem dq_op9 {c : ByteArray} {pc : Nat} (h0 : c.data.toList[pc]? = some 9) : decode c pc = .ok (.lconst 0, 1) := by
  refine dq_dec (k := 1) ?_
  delta Decoder.instr
  refine (dq_bind (dq_u1n (n := 9) h0 rfl)).trans ?_
  rfl
theorem dq_op132 {c : ByteArray} {pc : Nat} {x y : UInt8} {v : Nat} {w : Int} (h0 : c.data.toList[pc]? = some 132) (h1 : c.data.toList[pc + 1]? = some x) (h2 : c.data.toList[pc + 1 + 1]? = some y) (hv : x.toNat = v) (hw : Reader.signed 8 y.toNat = w) : decode c pc = .ok (.iinc v w, 3) := by
  subst hv hw
  refine dq_dec (k := 3) ?_
  delta Decoder.instr
  refine (dq_bind (dq_u1n (n := 132) h0 rfl)).trans ?_
  refine (dq_bind (dq_u1 h1)).trans ?_
  refine (dq_bind (dq_s1 h2)).trans ?_
  rfl
noncomputable def dq_end : Nat := 0
theorem dk_29a_1 : (cL_law.data.toList.drop 0).take 361 = [187, 0, 8, 89, 183, 0, 171, 76, 187, 0, 172, 89, 183, 0, 174, 77, 187, 0, 14, 89, 183, 0, 175, 78, 3, 54, 4, 21, 4, 42, 190, 7, 100, 163, 14, 49, 42, 21, 4, 46, 16, 63, 126, 170, 0, 0, 14, 33, 0, 0, 0, 0, 0, 0, 0, 48, 0, 0, 0, 209, 0, 0, 1, 34, 0, 0, 1, 103, 0, 0, 1, 172, 0, 0, 1, 241, 0, 0, 2, 54, 0, 0, 2, 135, 0, 0, 2, 216, 0, 0, 3, 41, 0, 0, 3, 98, 0, 0, 3, 183, 0, 0, 3, 240, 0, 0, 4, 41, 0, 0, 4, 99, 0, 0, 4, 180, 0, 0, 5, 12, 0, 0, 5, 88, 0, 0, 5, 164, 0, 0, 6, 12, 0, 0, 6, 81, 0, 0, 6, 157, 0, 0, 6, 214, 0, 0, 7, 43, 0, 0, 7, 107, 0, 0, 7, 176, 0, 0, 7, 245, 0, 0, 8, 58, 0, 0, 8, 127, 0, 0, 8, 196, 0, 0, 9, 21, 0, 0, 9, 102, 0, 0, 9, 183, 0, 0, 9, 240, 0, 0, 10, 69, 0, 0, 10, 126, 0, 0, 10, 184, 0, 0, 11, 9, 0, 0, 11, 97, 0, 0, 11, 173, 0, 0, 11, 249, 0, 0, 12, 97, 0, 0, 12, 166, 0, 0, 12, 242, 0, 0, 13, 43, 0, 0, 13, 128, 0, 0, 13, 192, 0, 0, 13, 249, 0, 0, 14, 6, 0, 0, 14, 19, 43, 42, 21, 4, 4, 96, 46, 42, 21, 4, 5, 96, 46, 42, 21, 4, 6, 96, 46, 45, 184, 0, 176, 54, 5, 44, 42, 21, 4, 4, 96, 46, 42, 21, 4, 5, 96, 46, 42, 21, 4, 6, 96, 46, 182, 0, 181, 54, 6, 44, 182, 0, 182, 21, 5, 159, 0, 5, 3, 172, 21, 5, 154, 0, 16, 45, 180, 0, 13, 21, 6, 133, 148, 153, 0, 5, 3, 172, 167, 13, 2, 43, 42, 21, 4, 4, 96, 46, 42, 21, 4, 5, 96, 46, 45, 184, 0, 186, 54, 5, 44, 42, 21, 4, 4, 96, 46, 42, 21] := by decide +kernel
theorem dL_law_0 : decode cL_law 0 = .ok (.new 8, 3) := dq_op187 (dq_at (j := 0) dk_29a_1 rfl rfl) (dq_at (j := 1) dk_29a_1 rfl rfl) (dq_at (j := 2) dk_29a_1 rfl rfl) rfl
theorem dL_law_3 : decode cL_law 3 = .ok (.dup, 1) := dq_op89 (dq_at (j := 3) dk_29a_1 rfl rfl)
theorem dL_law_4 : decode cL_law 4 = .ok (.invokespecial 171, 3) := dq_op183 (dq_at (j := 4) dk_29a_1 rfl rfl) (dq_at (j := 5) dk_29a_1 rfl rfl) (dq_at (j := 6) dk_29a_1 rfl rfl) rfl
theorem dL_law_7 : decode cL_law 7 = .ok (.astore_n 1, 1) := dq_op76 (dq_at (j := 7) dk_29a_1 rfl rfl)
theorem dL_law_8 : decode cL_law 8 = .ok (.new 172, 3) := dq_op187 (dq_at (j := 8) dk_29a_1 rfl rfl) (dq_at (j := 9) dk_29a_1 rfl rfl) (dq_at (j := 10) dk_29a_1 rfl rfl) rfl
theorem dL_law_11 : decode cL_law 11 = .ok (.dup, 1) := dq_op89 (dq_at (j := 11) dk_29a_1 rfl rfl)
theorem dL_law_12 : decode cL_law 12 = .ok (.invokespecial 174, 3) := dq_op183 (dq_at (j := 12) dk_29a_1 rfl rfl) (dq_at (j := 13) dk_29a_1 rfl rfl) (dq_at (j := 14) dk_29a_1 rfl rfl) rfl
theorem dL_law_15 : decode cL_law 15 = .ok (.astore_n 2, 1) := dq_op77 (dq_at (j := 15) dk_29a_1 rfl rfl)
theorem dL_law_16 : decode cL_law 16 = .ok (.new 14, 3) := dq_op187 (dq_at (j := 16) dk_29a_1 rfl rfl) (dq_at (j := 17) dk_29a_1 rfl rfl) (dq_at (j := 18) dk_29a_1 rfl rfl) rfl
theorem dL_law_19 : decode cL_law 19 = .ok (.dup, 1) := dq_op89 (dq_at (j := 19) dk_29a_1 rfl rfl)
theorem dL_law_20 : decode cL_law 20 = .ok (.invokespecial 175, 3) := dq_op183 (dq_at (j := 20) dk_29a_1 rfl rfl) (dq_at (j := 21) dk_29a_1 rfl rfl) (dq_at (j := 22) dk_29a_1 rfl rfl) rfl
theorem dL_law_23 : decode cL_law 23 = .ok (.astore_n 3, 1) := dq_op78 (dq_at (j := 23) dk_29a_1 rfl rfl)
theorem dL_law_24 : decode cL_law 24 = .ok (.iconst 0, 1) := dq_op3 (dq_at (j := 24) dk_29a_1 rfl rfl)
theorem dL_law_25 : decode cL_law 25 = .ok (.istore 4, 2) := dq_op54 (dq_at (j := 25) dk_29a_1 rfl rfl) (dq_at (j := 26) dk_29a_1 rfl rfl) rfl
theorem dL_law_27 : decode cL_law 27 = .ok (.iload 4, 2) := dq_op21 (dq_at (j := 27) dk_29a_1 rfl rfl) (dq_at (j := 28) dk_29a_1 rfl rfl) rfl
theorem dL_law_29 : decode cL_law 29 = .ok (.aload_n 0, 1) := dq_op42 (dq_at (j := 29) dk_29a_1 rfl rfl)
theorem dL_law_30 : decode cL_law 30 = .ok (.arraylength, 1) := dq_op190 (dq_at (j := 30) dk_29a_1 rfl rfl)
theorem dL_law_31 : decode cL_law 31 = .ok (.iconst 4, 1) := dq_op7 (dq_at (j := 31) dk_29a_1 rfl rfl)
theorem dL_law_32 : decode cL_law 32 = .ok (.isub, 1) := dq_op100 (dq_at (j := 32) dk_29a_1 rfl rfl)
theorem dL_law_33 : decode cL_law 33 = .ok (.if_icmp .gt 3633, 3) := dq_op163 (dq_at (j := 33) dk_29a_1 rfl rfl) (dq_at (j := 34) dk_29a_1 rfl rfl) (dq_at (j := 35) dk_29a_1 rfl rfl) (by decide +kernel)
theorem dL_law_36 : decode cL_law 36 = .ok (.aload_n 0, 1) := dq_op42 (dq_at (j := 36) dk_29a_1 rfl rfl)
theorem dL_law_37 : decode cL_law 37 = .ok (.iload 4, 2) := dq_op21 (dq_at (j := 37) dk_29a_1 rfl rfl) (dq_at (j := 38) dk_29a_1 rfl rfl) rfl
theorem dL_law_39 : decode cL_law 39 = .ok (.iaload, 1) := dq_op46 (dq_at (j := 39) dk_29a_1 rfl rfl)
theorem dL_law_40 : decode cL_law 40 = .ok (.bipush 63, 2) := dq_op16 (dq_at (j := 40) dk_29a_1 rfl rfl) (dq_at (j := 41) dk_29a_1 rfl rfl) (by decide +kernel)
theorem dL_law_42 : decode cL_law 42 = .ok (.iand, 1) := dq_op126 (dq_at (j := 42) dk_29a_1 rfl rfl)
theorem dL_law_43 : decode cL_law 43 = .ok (.tableswitch 3617 0 48 #[209, 290, 359, 428, 497, 566, 647, 728, 809, 866, 951, 1008, 1065, 1123, 1204, 1292, 1368, 1444, 1548, 1617, 1693, 1750, 1835, 1899, 1968, 2037, 2106, 2175, 2244, 2325, 2406, 2487, 2544, 2629, 2686, 2744, 2825, 2913, 2989, 3065, 3169, 3238, 3314, 3371, 3456, 3520, 3577, 3590, 3603], 209) := by decide +kernel
theorem dL_law_252 : decode cL_law 252 = .ok (.aload_n 1, 1) := dq_op43 (dq_at (j := 252) dk_29a_1 rfl rfl)
theorem dL_law_253 : decode cL_law 253 = .ok (.aload_n 0, 1) := dq_op42 (dq_at (j := 253) dk_29a_1 rfl rfl)
theorem dL_law_254 : decode cL_law 254 = .ok (.iload 4, 2) := dq_op21 (dq_at (j := 254) dk_29a_1 rfl rfl) (dq_at (j := 255) dk_29a_1 rfl rfl) rfl
theorem dL_law_256 : decode cL_law 256 = .ok (.iconst 1, 1) := dq_op4 (dq_at (j := 256) dk_29a_1 rfl rfl)
theorem dL_law_257 : decode cL_law 257 = .ok (.iadd, 1) := dq_op96 (dq_at (j := 257) dk_29a_1 rfl rfl)
theorem dL_law_258 : decode cL_law 258 = .ok (.iaload, 1) := dq_op46 (dq_at (j := 258) dk_29a_1 rfl rfl)
theorem dL_law_259 : decode cL_law 259 = .ok (.aload_n 0, 1) := dq_op42 (dq_at (j := 259) dk_29a_1 rfl rfl)
theorem dL_law_260 : decode cL_law 260 = .ok (.iload 4, 2) := dq_op21 (dq_at (j := 260) dk_29a_1 rfl rfl) (dq_at (j := 261) dk_29a_1 rfl rfl) rfl
theorem dL_law_262 : decode cL_law 262 = .ok (.iconst 2, 1) := dq_op5 (dq_at (j := 262) dk_29a_1 rfl rfl)
theorem dL_law_263 : decode cL_law 263 = .ok (.iadd, 1) := dq_op96 (dq_at (j := 263) dk_29a_1 rfl rfl)
theorem dL_law_264 : decode cL_law 264 = .ok (.iaload, 1) := dq_op46 (dq_at (j := 264) dk_29a_1 rfl rfl)
theorem dL_law_265 : decode cL_law 265 = .ok (.aload_n 0, 1) := dq_op42 (dq_at (j := 265) dk_29a_1 rfl rfl)
theorem dL_law_266 : decode cL_law 266 = .ok (.iload 4, 2) := dq_op21 (dq_at (j := 266) dk_29a_1 rfl rfl) (dq_at (j := 267) dk_29a_1 rfl rfl) rfl
theorem dL_law_268 : decode cL_law 268 = .ok (.iconst 3, 1) := dq_op6 (dq_at (j := 268) dk_29a_1 rfl rfl)
theorem dL_law_269 : decode cL_law 269 = .ok (.iadd, 1) := dq_op96 (dq_at (j := 269) dk_29a_1 rfl rfl)
theorem dL_law_270 : decode cL_law 270 = .ok (.iaload, 1) := dq_op46 (dq_at (j := 270) dk_29a_1 rfl rfl)
theorem dL_law_271 : decode cL_law 271 = .ok (.aload_n 3, 1) := dq_op45 (dq_at (j := 271) dk_29a_1 rfl rfl)
theorem dL_law_272 : decode cL_law 272 = .ok (.invokestatic 176, 3) := dq_op184 (dq_at (j := 272) dk_29a_1 rfl rfl) (dq_at (j := 273) dk_29a_1 rfl rfl) (dq_at (j := 274) dk_29a_1 rfl rfl) rfl
theorem dL_law_275 : decode cL_law 275 = .ok (.istore 5, 2) := dq_op54 (dq_at (j := 275) dk_29a_1 rfl rfl) (dq_at (j := 276) dk_29a_1 rfl rfl) rfl
theorem dL_law_277 : decode cL_law 277 = .ok (.aload_n 2, 1) := dq_op44 (dq_at (j := 277) dk_29a_1 rfl rfl)
theorem dL_law_278 : decode cL_law 278 = .ok (.aload_n 0, 1) := dq_op42 (dq_at (j := 278) dk_29a_1 rfl rfl)
theorem dL_law_279 : decode cL_law 279 = .ok (.iload 4, 2) := dq_op21 (dq_at (j := 279) dk_29a_1 rfl rfl) (dq_at (j := 280) dk_29a_1 rfl rfl) rfl
theorem dL_law_281 : decode cL_law 281 = .ok (.iconst 1, 1) := dq_op4 (dq_at (j := 281) dk_29a_1 rfl rfl)
theorem dL_law_282 : decode cL_law 282 = .ok (.iadd, 1) := dq_op96 (dq_at (j := 282) dk_29a_1 rfl rfl)
theorem dL_law_283 : decode cL_law 283 = .ok (.iaload, 1) := dq_op46 (dq_at (j := 283) dk_29a_1 rfl rfl)
theorem dL_law_284 : decode cL_law 284 = .ok (.aload_n 0, 1) := dq_op42 (dq_at (j := 284) dk_29a_1 rfl rfl)
theorem dL_law_285 : decode cL_law 285 = .ok (.iload 4, 2) := dq_op21 (dq_at (j := 285) dk_29a_1 rfl rfl) (dq_at (j := 286) dk_29a_1 rfl rfl) rfl
theorem dL_law_287 : decode cL_law 287 = .ok (.iconst 2, 1) := dq_op5 (dq_at (j := 287) dk_29a_1 rfl rfl)
theorem dL_law_288 : decode cL_law 288 = .ok (.iadd, 1) := dq_op96 (dq_at (j := 288) dk_29a_1 rfl rfl)
theorem dL_law_289 : decode cL_law 289 = .ok (.iaload, 1) := dq_op46 (dq_at (j := 289) dk_29a_1 rfl rfl)
theorem dL_law_290 : decode cL_law 290 = .ok (.aload_n 0, 1) := dq_op42 (dq_at (j := 290) dk_29a_1 rfl rfl)
theorem dL_law_291 : decode cL_law 291 = .ok (.iload 4, 2) := dq_op21 (dq_at (j := 291) dk_29a_1 rfl rfl) (dq_at (j := 292) dk_29a_1 rfl rfl) rfl
theorem dL_law_293 : decode cL_law 293 = .ok (.iconst 3, 1) := dq_op6 (dq_at (j := 293) dk_29a_1 rfl rfl)
theorem dL_law_294 : decode cL_law 294 = .ok (.iadd, 1) := dq_op96 (dq_at (j := 294) dk_29a_1 rfl rfl)
theorem dL_law_295 : decode cL_law 295 = .ok (.iaload, 1) := dq_op46 (dq_at (j := 295) dk_29a_1 rfl rfl)
theorem dL_law_296 : decode cL_law 296 = .ok (.invokevirtual 181, 3) := dq_op182 (dq_at (j := 296) dk_29a_1 rfl rfl) (dq_at (j := 297) dk_29a_1 rfl rfl) (dq_at (j := 298) dk_29a_1 rfl rfl) rfl
theorem dL_law_299 : decode cL_law 299 = .ok (.istore 6, 2) := dq_op54 (dq_at (j := 299) dk_29a_1 rfl rfl) (dq_at (j := 300) dk_29a_1 rfl rfl) rfl
theorem dL_law_301 : decode cL_law 301 = .ok (.aload_n 2, 1) := dq_op44 (dq_at (j := 301) dk_29a_1 rfl rfl)
theorem dL_law_302 : decode cL_law 302 = .ok (.invokevirtual 182, 3) := dq_op182 (dq_at (j := 302) dk_29a_1 rfl rfl) (dq_at (j := 303) dk_29a_1 rfl rfl) (dq_at (j := 304) dk_29a_1 rfl rfl) rfl
theorem dL_law_305 : decode cL_law 305 = .ok (.iload 5, 2) := dq_op21 (dq_at (j := 305) dk_29a_1 rfl rfl) (dq_at (j := 306) dk_29a_1 rfl rfl) rfl
theorem dL_law_307 : decode cL_law 307 = .ok (.if_icmp .eq 5, 3) := dq_op159 (dq_at (j := 307) dk_29a_1 rfl rfl) (dq_at (j := 308) dk_29a_1 rfl rfl) (dq_at (j := 309) dk_29a_1 rfl rfl) (by decide +kernel)
theorem dL_law_310 : decode cL_law 310 = .ok (.iconst 0, 1) := dq_op3 (dq_at (j := 310) dk_29a_1 rfl rfl)
theorem dL_law_311 : decode cL_law 311 = .ok (.ireturn, 1) := dq_op172 (dq_at (j := 311) dk_29a_1 rfl rfl)
theorem dL_law_312 : decode cL_law 312 = .ok (.iload 5, 2) := dq_op21 (dq_at (j := 312) dk_29a_1 rfl rfl) (dq_at (j := 313) dk_29a_1 rfl rfl) rfl
theorem dL_law_314 : decode cL_law 314 = .ok (.ifCond .ne 16, 3) := dq_op154 (dq_at (j := 314) dk_29a_1 rfl rfl) (dq_at (j := 315) dk_29a_1 rfl rfl) (dq_at (j := 316) dk_29a_1 rfl rfl) (by decide +kernel)
theorem dL_law_317 : decode cL_law 317 = .ok (.aload_n 3, 1) := dq_op45 (dq_at (j := 317) dk_29a_1 rfl rfl)
theorem dL_law_318 : decode cL_law 318 = .ok (.getfield 13, 3) := dq_op180 (dq_at (j := 318) dk_29a_1 rfl rfl) (dq_at (j := 319) dk_29a_1 rfl rfl) (dq_at (j := 320) dk_29a_1 rfl rfl) rfl
theorem dL_law_321 : decode cL_law 321 = .ok (.iload 6, 2) := dq_op21 (dq_at (j := 321) dk_29a_1 rfl rfl) (dq_at (j := 322) dk_29a_1 rfl rfl) rfl
theorem dL_law_323 : decode cL_law 323 = .ok (.i2l, 1) := dq_op133 (dq_at (j := 323) dk_29a_1 rfl rfl)
theorem dL_law_324 : decode cL_law 324 = .ok (.lcmp, 1) := dq_op148 (dq_at (j := 324) dk_29a_1 rfl rfl)
theorem dL_law_325 : decode cL_law 325 = .ok (.ifCond .eq 5, 3) := dq_op153 (dq_at (j := 325) dk_29a_1 rfl rfl) (dq_at (j := 326) dk_29a_1 rfl rfl) (dq_at (j := 327) dk_29a_1 rfl rfl) (by decide +kernel)
theorem dL_law_328 : decode cL_law 328 = .ok (.iconst 0, 1) := dq_op3 (dq_at (j := 328) dk_29a_1 rfl rfl)
theorem dL_law_329 : decode cL_law 329 = .ok (.ireturn, 1) := dq_op172 (dq_at (j := 329) dk_29a_1 rfl rfl)
theorem dL_law_330 : decode cL_law 330 = .ok (.goto 3330, 3) := dq_op167 (dq_at (j := 330) dk_29a_1 rfl rfl) (dq_at (j := 331) dk_29a_1 rfl rfl) (dq_at (j := 332) dk_29a_1 rfl rfl) (by decide +kernel)
theorem dL_law_333 : decode cL_law 333 = .ok (.aload_n 1, 1) := dq_op43 (dq_at (j := 333) dk_29a_1 rfl rfl)
theorem dL_law_334 : decode cL_law 334 = .ok (.aload_n 0, 1) := dq_op42 (dq_at (j := 334) dk_29a_1 rfl rfl)
theorem dL_law_335 : decode cL_law 335 = .ok (.iload 4, 2) := dq_op21 (dq_at (j := 335) dk_29a_1 rfl rfl) (dq_at (j := 336) dk_29a_1 rfl rfl) rfl
theorem dL_law_337 : decode cL_law 337 = .ok (.iconst 1, 1) := dq_op4 (dq_at (j := 337) dk_29a_1 rfl rfl)
theorem dL_law_338 : decode cL_law 338 = .ok (.iadd, 1) := dq_op96 (dq_at (j := 338) dk_29a_1 rfl rfl)
theorem dL_law_339 : decode cL_law 339 = .ok (.iaload, 1) := dq_op46 (dq_at (j := 339) dk_29a_1 rfl rfl)
theorem dL_law_340 : decode cL_law 340 = .ok (.aload_n 0, 1) := dq_op42 (dq_at (j := 340) dk_29a_1 rfl rfl)
theorem dL_law_341 : decode cL_law 341 = .ok (.iload 4, 2) := dq_op21 (dq_at (j := 341) dk_29a_1 rfl rfl) (dq_at (j := 342) dk_29a_1 rfl rfl) rfl
theorem dL_law_343 : decode cL_law 343 = .ok (.iconst 2, 1) := dq_op5 (dq_at (j := 343) dk_29a_1 rfl rfl)
theorem dL_law_344 : decode cL_law 344 = .ok (.iadd, 1) := dq_op96 (dq_at (j := 344) dk_29a_1 rfl rfl)
theorem dL_law_345 : decode cL_law 345 = .ok (.iaload, 1) := dq_op46 (dq_at (j := 345) dk_29a_1 rfl rfl)
theorem dL_law_346 : decode cL_law 346 = .ok (.aload_n 3, 1) := dq_op45 (dq_at (j := 346) dk_29a_1 rfl rfl)
theorem dL_law_347 : decode cL_law 347 = .ok (.invokestatic 186, 3) := dq_op184 (dq_at (j := 347) dk_29a_1 rfl rfl) (dq_at (j := 348) dk_29a_1 rfl rfl) (dq_at (j := 349) dk_29a_1 rfl rfl) rfl
theorem dL_law_350 : decode cL_law 350 = .ok (.istore 5, 2) := dq_op54 (dq_at (j := 350) dk_29a_1 rfl rfl) (dq_at (j := 351) dk_29a_1 rfl rfl) rfl
theorem dL_law_352 : decode cL_law 352 = .ok (.aload_n 2, 1) := dq_op44 (dq_at (j := 352) dk_29a_1 rfl rfl)
theorem dL_law_353 : decode cL_law 353 = .ok (.aload_n 0, 1) := dq_op42 (dq_at (j := 353) dk_29a_1 rfl rfl)
theorem dL_law_354 : decode cL_law 354 = .ok (.iload 4, 2) := dq_op21 (dq_at (j := 354) dk_29a_1 rfl rfl) (dq_at (j := 355) dk_29a_1 rfl rfl) rfl
theorem dL_law_356 : decode cL_law 356 = .ok (.iconst 1, 1) := dq_op4 (dq_at (j := 356) dk_29a_1 rfl rfl)
theorem dL_law_357 : decode cL_law 357 = .ok (.iadd, 1) := dq_op96 (dq_at (j := 357) dk_29a_1 rfl rfl)
theorem dL_law_358 : decode cL_law 358 = .ok (.iaload, 1) := dq_op46 (dq_at (j := 358) dk_29a_1 rfl rfl)
theorem dk_29a_2 : (cL_law.data.toList.drop 359).take 128 = [42, 21, 4, 5, 96, 46, 182, 0, 189, 54, 6, 44, 182, 0, 182, 21, 5, 159, 0, 5, 3, 172, 21, 5, 154, 0, 16, 45, 180, 0, 13, 21, 6, 133, 148, 153, 0, 5, 3, 172, 167, 12, 189, 43, 42, 21, 4, 4, 96, 46, 42, 21, 4, 5, 96, 46, 45, 184, 0, 190, 54, 5, 44, 42, 21, 4, 4, 96, 46, 42, 21, 4, 5, 96, 46, 182, 0, 192, 54, 6, 44, 182, 0, 182, 21, 5, 159, 0, 5, 3, 172, 21, 5, 154, 0, 16, 45, 180, 0, 13, 21, 6, 133, 148, 153, 0, 5, 3, 172, 167, 12, 120, 43, 42, 21, 4, 4, 96, 46, 42, 21, 4, 5, 96, 46, 45, 184, 0] := by decide +kernel
theorem dL_law_359 : decode cL_law 359 = .ok (.aload_n 0, 1) := dq_op42 (dq_at (j := 0) dk_29a_2 rfl rfl)
theorem dL_law_360 : decode cL_law 360 = .ok (.iload 4, 2) := dq_op21 (dq_at (j := 1) dk_29a_2 rfl rfl) (dq_at (j := 2) dk_29a_2 rfl rfl) rfl
theorem dL_law_362 : decode cL_law 362 = .ok (.iconst 2, 1) := dq_op5 (dq_at (j := 3) dk_29a_2 rfl rfl)
theorem dL_law_363 : decode cL_law 363 = .ok (.iadd, 1) := dq_op96 (dq_at (j := 4) dk_29a_2 rfl rfl)
theorem dL_law_364 : decode cL_law 364 = .ok (.iaload, 1) := dq_op46 (dq_at (j := 5) dk_29a_2 rfl rfl)
theorem dL_law_365 : decode cL_law 365 = .ok (.invokevirtual 189, 3) := dq_op182 (dq_at (j := 6) dk_29a_2 rfl rfl) (dq_at (j := 7) dk_29a_2 rfl rfl) (dq_at (j := 8) dk_29a_2 rfl rfl) rfl
theorem dL_law_368 : decode cL_law 368 = .ok (.istore 6, 2) := dq_op54 (dq_at (j := 9) dk_29a_2 rfl rfl) (dq_at (j := 10) dk_29a_2 rfl rfl) rfl
theorem dL_law_370 : decode cL_law 370 = .ok (.aload_n 2, 1) := dq_op44 (dq_at (j := 11) dk_29a_2 rfl rfl)
theorem dL_law_371 : decode cL_law 371 = .ok (.invokevirtual 182, 3) := dq_op182 (dq_at (j := 12) dk_29a_2 rfl rfl) (dq_at (j := 13) dk_29a_2 rfl rfl) (dq_at (j := 14) dk_29a_2 rfl rfl) rfl
theorem dL_law_374 : decode cL_law 374 = .ok (.iload 5, 2) := dq_op21 (dq_at (j := 15) dk_29a_2 rfl rfl) (dq_at (j := 16) dk_29a_2 rfl rfl) rfl
theorem dL_law_376 : decode cL_law 376 = .ok (.if_icmp .eq 5, 3) := dq_op159 (dq_at (j := 17) dk_29a_2 rfl rfl) (dq_at (j := 18) dk_29a_2 rfl rfl) (dq_at (j := 19) dk_29a_2 rfl rfl) (by decide +kernel)
theorem dL_law_379 : decode cL_law 379 = .ok (.iconst 0, 1) := dq_op3 (dq_at (j := 20) dk_29a_2 rfl rfl)
theorem dL_law_380 : decode cL_law 380 = .ok (.ireturn, 1) := dq_op172 (dq_at (j := 21) dk_29a_2 rfl rfl)
theorem dL_law_381 : decode cL_law 381 = .ok (.iload 5, 2) := dq_op21 (dq_at (j := 22) dk_29a_2 rfl rfl) (dq_at (j := 23) dk_29a_2 rfl rfl) rfl
theorem dL_law_383 : decode cL_law 383 = .ok (.ifCond .ne 16, 3) := dq_op154 (dq_at (j := 24) dk_29a_2 rfl rfl) (dq_at (j := 25) dk_29a_2 rfl rfl) (dq_at (j := 26) dk_29a_2 rfl rfl) (by decide +kernel)
theorem dL_law_386 : decode cL_law 386 = .ok (.aload_n 3, 1) := dq_op45 (dq_at (j := 27) dk_29a_2 rfl rfl)
theorem dL_law_387 : decode cL_law 387 = .ok (.getfield 13, 3) := dq_op180 (dq_at (j := 28) dk_29a_2 rfl rfl) (dq_at (j := 29) dk_29a_2 rfl rfl) (dq_at (j := 30) dk_29a_2 rfl rfl) rfl
theorem dL_law_390 : decode cL_law 390 = .ok (.iload 6, 2) := dq_op21 (dq_at (j := 31) dk_29a_2 rfl rfl) (dq_at (j := 32) dk_29a_2 rfl rfl) rfl
theorem dL_law_392 : decode cL_law 392 = .ok (.i2l, 1) := dq_op133 (dq_at (j := 33) dk_29a_2 rfl rfl)
theorem dL_law_393 : decode cL_law 393 = .ok (.lcmp, 1) := dq_op148 (dq_at (j := 34) dk_29a_2 rfl rfl)
theorem dL_law_394 : decode cL_law 394 = .ok (.ifCond .eq 5, 3) := dq_op153 (dq_at (j := 35) dk_29a_2 rfl rfl) (dq_at (j := 36) dk_29a_2 rfl rfl) (dq_at (j := 37) dk_29a_2 rfl rfl) (by decide +kernel)
theorem dL_law_397 : decode cL_law 397 = .ok (.iconst 0, 1) := dq_op3 (dq_at (j := 38) dk_29a_2 rfl rfl)
theorem dL_law_398 : decode cL_law 398 = .ok (.ireturn, 1) := dq_op172 (dq_at (j := 39) dk_29a_2 rfl rfl)
theorem dL_law_399 : decode cL_law 399 = .ok (.goto 3261, 3) := dq_op167 (dq_at (j := 40) dk_29a_2 rfl rfl) (dq_at (j := 41) dk_29a_2 rfl rfl) (dq_at (j := 42) dk_29a_2 rfl rfl) (by decide +kernel)
theorem dL_law_402 : decode cL_law 402 = .ok (.aload_n 1, 1) := dq_op43 (dq_at (j := 43) dk_29a_2 rfl rfl)
theorem dL_law_403 : decode cL_law 403 = .ok (.aload_n 0, 1) := dq_op42 (dq_at (j := 44) dk_29a_2 rfl rfl)
theorem dL_law_404 : decode cL_law 404 = .ok (.iload 4, 2) := dq_op21 (dq_at (j := 45) dk_29a_2 rfl rfl) (dq_at (j := 46) dk_29a_2 rfl rfl) rfl
theorem dL_law_406 : decode cL_law 406 = .ok (.iconst 1, 1) := dq_op4 (dq_at (j := 47) dk_29a_2 rfl rfl)
theorem dL_law_407 : decode cL_law 407 = .ok (.iadd, 1) := dq_op96 (dq_at (j := 48) dk_29a_2 rfl rfl)
theorem dL_law_408 : decode cL_law 408 = .ok (.iaload, 1) := dq_op46 (dq_at (j := 49) dk_29a_2 rfl rfl)
theorem dL_law_409 : decode cL_law 409 = .ok (.aload_n 0, 1) := dq_op42 (dq_at (j := 50) dk_29a_2 rfl rfl)
theorem dL_law_410 : decode cL_law 410 = .ok (.iload 4, 2) := dq_op21 (dq_at (j := 51) dk_29a_2 rfl rfl) (dq_at (j := 52) dk_29a_2 rfl rfl) rfl
theorem dL_law_412 : decode cL_law 412 = .ok (.iconst 2, 1) := dq_op5 (dq_at (j := 53) dk_29a_2 rfl rfl)
theorem dL_law_413 : decode cL_law 413 = .ok (.iadd, 1) := dq_op96 (dq_at (j := 54) dk_29a_2 rfl rfl)
theorem dL_law_414 : decode cL_law 414 = .ok (.iaload, 1) := dq_op46 (dq_at (j := 55) dk_29a_2 rfl rfl)
theorem dL_law_415 : decode cL_law 415 = .ok (.aload_n 3, 1) := dq_op45 (dq_at (j := 56) dk_29a_2 rfl rfl)
theorem dL_law_416 : decode cL_law 416 = .ok (.invokestatic 190, 3) := dq_op184 (dq_at (j := 57) dk_29a_2 rfl rfl) (dq_at (j := 58) dk_29a_2 rfl rfl) (dq_at (j := 59) dk_29a_2 rfl rfl) rfl
theorem dL_law_419 : decode cL_law 419 = .ok (.istore 5, 2) := dq_op54 (dq_at (j := 60) dk_29a_2 rfl rfl) (dq_at (j := 61) dk_29a_2 rfl rfl) rfl
theorem dL_law_421 : decode cL_law 421 = .ok (.aload_n 2, 1) := dq_op44 (dq_at (j := 62) dk_29a_2 rfl rfl)
theorem dL_law_422 : decode cL_law 422 = .ok (.aload_n 0, 1) := dq_op42 (dq_at (j := 63) dk_29a_2 rfl rfl)
theorem dL_law_423 : decode cL_law 423 = .ok (.iload 4, 2) := dq_op21 (dq_at (j := 64) dk_29a_2 rfl rfl) (dq_at (j := 65) dk_29a_2 rfl rfl) rfl
theorem dL_law_425 : decode cL_law 425 = .ok (.iconst 1, 1) := dq_op4 (dq_at (j := 66) dk_29a_2 rfl rfl)
theorem dL_law_426 : decode cL_law 426 = .ok (.iadd, 1) := dq_op96 (dq_at (j := 67) dk_29a_2 rfl rfl)
theorem dL_law_427 : decode cL_law 427 = .ok (.iaload, 1) := dq_op46 (dq_at (j := 68) dk_29a_2 rfl rfl)
theorem dL_law_428 : decode cL_law 428 = .ok (.aload_n 0, 1) := dq_op42 (dq_at (j := 69) dk_29a_2 rfl rfl)
theorem dL_law_429 : decode cL_law 429 = .ok (.iload 4, 2) := dq_op21 (dq_at (j := 70) dk_29a_2 rfl rfl) (dq_at (j := 71) dk_29a_2 rfl rfl) rfl
theorem dL_law_431 : decode cL_law 431 = .ok (.iconst 2, 1) := dq_op5 (dq_at (j := 72) dk_29a_2 rfl rfl)
theorem dL_law_432 : decode cL_law 432 = .ok (.iadd, 1) := dq_op96 (dq_at (j := 73) dk_29a_2 rfl rfl)
theorem dL_law_433 : decode cL_law 433 = .ok (.iaload, 1) := dq_op46 (dq_at (j := 74) dk_29a_2 rfl rfl)
theorem dL_law_434 : decode cL_law 434 = .ok (.invokevirtual 192, 3) := dq_op182 (dq_at (j := 75) dk_29a_2 rfl rfl) (dq_at (j := 76) dk_29a_2 rfl rfl) (dq_at (j := 77) dk_29a_2 rfl rfl) rfl
theorem dL_law_437 : decode cL_law 437 = .ok (.istore 6, 2) := dq_op54 (dq_at (j := 78) dk_29a_2 rfl rfl) (dq_at (j := 79) dk_29a_2 rfl rfl) rfl
theorem dL_law_439 : decode cL_law 439 = .ok (.aload_n 2, 1) := dq_op44 (dq_at (j := 80) dk_29a_2 rfl rfl)
theorem dL_law_440 : decode cL_law 440 = .ok (.invokevirtual 182, 3) := dq_op182 (dq_at (j := 81) dk_29a_2 rfl rfl) (dq_at (j := 82) dk_29a_2 rfl rfl) (dq_at (j := 83) dk_29a_2 rfl rfl) rfl
theorem dL_law_443 : decode cL_law 443 = .ok (.iload 5, 2) := dq_op21 (dq_at (j := 84) dk_29a_2 rfl rfl) (dq_at (j := 85) dk_29a_2 rfl rfl) rfl
theorem dL_law_445 : decode cL_law 445 = .ok (.if_icmp .eq 5, 3) := dq_op159 (dq_at (j := 86) dk_29a_2 rfl rfl) (dq_at (j := 87) dk_29a_2 rfl rfl) (dq_at (j := 88) dk_29a_2 rfl rfl) (by decide +kernel)
theorem dL_law_448 : decode cL_law 448 = .ok (.iconst 0, 1) := dq_op3 (dq_at (j := 89) dk_29a_2 rfl rfl)
theorem dL_law_449 : decode cL_law 449 = .ok (.ireturn, 1) := dq_op172 (dq_at (j := 90) dk_29a_2 rfl rfl)
theorem dL_law_450 : decode cL_law 450 = .ok (.iload 5, 2) := dq_op21 (dq_at (j := 91) dk_29a_2 rfl rfl) (dq_at (j := 92) dk_29a_2 rfl rfl) rfl
theorem dL_law_452 : decode cL_law 452 = .ok (.ifCond .ne 16, 3) := dq_op154 (dq_at (j := 93) dk_29a_2 rfl rfl) (dq_at (j := 94) dk_29a_2 rfl rfl) (dq_at (j := 95) dk_29a_2 rfl rfl) (by decide +kernel)
theorem dL_law_455 : decode cL_law 455 = .ok (.aload_n 3, 1) := dq_op45 (dq_at (j := 96) dk_29a_2 rfl rfl)
theorem dL_law_456 : decode cL_law 456 = .ok (.getfield 13, 3) := dq_op180 (dq_at (j := 97) dk_29a_2 rfl rfl) (dq_at (j := 98) dk_29a_2 rfl rfl) (dq_at (j := 99) dk_29a_2 rfl rfl) rfl
theorem dL_law_459 : decode cL_law 459 = .ok (.iload 6, 2) := dq_op21 (dq_at (j := 100) dk_29a_2 rfl rfl) (dq_at (j := 101) dk_29a_2 rfl rfl) rfl
theorem dL_law_461 : decode cL_law 461 = .ok (.i2l, 1) := dq_op133 (dq_at (j := 102) dk_29a_2 rfl rfl)
theorem dL_law_462 : decode cL_law 462 = .ok (.lcmp, 1) := dq_op148 (dq_at (j := 103) dk_29a_2 rfl rfl)
theorem dL_law_463 : decode cL_law 463 = .ok (.ifCond .eq 5, 3) := dq_op153 (dq_at (j := 104) dk_29a_2 rfl rfl) (dq_at (j := 105) dk_29a_2 rfl rfl) (dq_at (j := 106) dk_29a_2 rfl rfl) (by decide +kernel)
theorem dL_law_466 : decode cL_law 466 = .ok (.iconst 0, 1) := dq_op3 (dq_at (j := 107) dk_29a_2 rfl rfl)
theorem dL_law_467 : decode cL_law 467 = .ok (.ireturn, 1) := dq_op172 (dq_at (j := 108) dk_29a_2 rfl rfl)
theorem dL_law_468 : decode cL_law 468 = .ok (.goto 3192, 3) := dq_op167 (dq_at (j := 109) dk_29a_2 rfl rfl) (dq_at (j := 110) dk_29a_2 rfl rfl) (dq_at (j := 111) dk_29a_2 rfl rfl) (by decide +kernel)
theorem dL_law_471 : decode cL_law 471 = .ok (.aload_n 1, 1) := dq_op43 (dq_at (j := 112) dk_29a_2 rfl rfl)
theorem dL_law_472 : decode cL_law 472 = .ok (.aload_n 0, 1) := dq_op42 (dq_at (j := 113) dk_29a_2 rfl rfl)
theorem dL_law_473 : decode cL_law 473 = .ok (.iload 4, 2) := dq_op21 (dq_at (j := 114) dk_29a_2 rfl rfl) (dq_at (j := 115) dk_29a_2 rfl rfl) rfl
theorem dL_law_475 : decode cL_law 475 = .ok (.iconst 1, 1) := dq_op4 (dq_at (j := 116) dk_29a_2 rfl rfl)
theorem dL_law_476 : decode cL_law 476 = .ok (.iadd, 1) := dq_op96 (dq_at (j := 117) dk_29a_2 rfl rfl)
theorem dL_law_477 : decode cL_law 477 = .ok (.iaload, 1) := dq_op46 (dq_at (j := 118) dk_29a_2 rfl rfl)
theorem dL_law_478 : decode cL_law 478 = .ok (.aload_n 0, 1) := dq_op42 (dq_at (j := 119) dk_29a_2 rfl rfl)
theorem dL_law_479 : decode cL_law 479 = .ok (.iload 4, 2) := dq_op21 (dq_at (j := 120) dk_29a_2 rfl rfl) (dq_at (j := 121) dk_29a_2 rfl rfl) rfl
theorem dL_law_481 : decode cL_law 481 = .ok (.iconst 2, 1) := dq_op5 (dq_at (j := 122) dk_29a_2 rfl rfl)
theorem dL_law_482 : decode cL_law 482 = .ok (.iadd, 1) := dq_op96 (dq_at (j := 123) dk_29a_2 rfl rfl)
theorem dL_law_483 : decode cL_law 483 = .ok (.iaload, 1) := dq_op46 (dq_at (j := 124) dk_29a_2 rfl rfl)
theorem dL_law_484 : decode cL_law 484 = .ok (.aload_n 3, 1) := dq_op45 (dq_at (j := 125) dk_29a_2 rfl rfl)
noncomputable def dq_end_29a : Nat := 0
theorem dk_29b_1 : (cL_law.data.toList.drop 485).take 157 = [184, 0, 193, 54, 5, 44, 42, 21, 4, 4, 96, 46, 42, 21, 4, 5, 96, 46, 182, 0, 195, 54, 6, 44, 182, 0, 182, 21, 5, 159, 0, 5, 3, 172, 21, 5, 154, 0, 16, 45, 180, 0, 13, 21, 6, 133, 148, 153, 0, 5, 3, 172, 167, 12, 51, 43, 42, 21, 4, 4, 96, 46, 42, 21, 4, 5, 96, 46, 45, 184, 0, 196, 54, 5, 44, 42, 21, 4, 4, 96, 46, 42, 21, 4, 5, 96, 46, 182, 0, 198, 54, 6, 44, 182, 0, 182, 21, 5, 159, 0, 5, 3, 172, 21, 5, 154, 0, 16, 45, 180, 0, 13, 21, 6, 133, 148, 153, 0, 5, 3, 172, 167, 11, 238, 43, 42, 21, 4, 4, 96, 46, 42, 21, 4, 5, 96, 46, 42, 21, 4, 6, 96, 46, 45, 184, 0, 199, 54, 5, 44, 42, 21, 4, 4, 96, 46, 42] := by decide +kernel
theorem dL_law_485 : decode cL_law 485 = .ok (.invokestatic 193, 3) := dq_op184 (dq_at (j := 0) dk_29b_1 rfl rfl) (dq_at (j := 1) dk_29b_1 rfl rfl) (dq_at (j := 2) dk_29b_1 rfl rfl) rfl
theorem dL_law_488 : decode cL_law 488 = .ok (.istore 5, 2) := dq_op54 (dq_at (j := 3) dk_29b_1 rfl rfl) (dq_at (j := 4) dk_29b_1 rfl rfl) rfl
theorem dL_law_490 : decode cL_law 490 = .ok (.aload_n 2, 1) := dq_op44 (dq_at (j := 5) dk_29b_1 rfl rfl)
theorem dL_law_491 : decode cL_law 491 = .ok (.aload_n 0, 1) := dq_op42 (dq_at (j := 6) dk_29b_1 rfl rfl)
theorem dL_law_492 : decode cL_law 492 = .ok (.iload 4, 2) := dq_op21 (dq_at (j := 7) dk_29b_1 rfl rfl) (dq_at (j := 8) dk_29b_1 rfl rfl) rfl
theorem dL_law_494 : decode cL_law 494 = .ok (.iconst 1, 1) := dq_op4 (dq_at (j := 9) dk_29b_1 rfl rfl)
theorem dL_law_495 : decode cL_law 495 = .ok (.iadd, 1) := dq_op96 (dq_at (j := 10) dk_29b_1 rfl rfl)
theorem dL_law_496 : decode cL_law 496 = .ok (.iaload, 1) := dq_op46 (dq_at (j := 11) dk_29b_1 rfl rfl)
theorem dL_law_497 : decode cL_law 497 = .ok (.aload_n 0, 1) := dq_op42 (dq_at (j := 12) dk_29b_1 rfl rfl)
theorem dL_law_498 : decode cL_law 498 = .ok (.iload 4, 2) := dq_op21 (dq_at (j := 13) dk_29b_1 rfl rfl) (dq_at (j := 14) dk_29b_1 rfl rfl) rfl
theorem dL_law_500 : decode cL_law 500 = .ok (.iconst 2, 1) := dq_op5 (dq_at (j := 15) dk_29b_1 rfl rfl)
theorem dL_law_501 : decode cL_law 501 = .ok (.iadd, 1) := dq_op96 (dq_at (j := 16) dk_29b_1 rfl rfl)
theorem dL_law_502 : decode cL_law 502 = .ok (.iaload, 1) := dq_op46 (dq_at (j := 17) dk_29b_1 rfl rfl)
theorem dL_law_503 : decode cL_law 503 = .ok (.invokevirtual 195, 3) := dq_op182 (dq_at (j := 18) dk_29b_1 rfl rfl) (dq_at (j := 19) dk_29b_1 rfl rfl) (dq_at (j := 20) dk_29b_1 rfl rfl) rfl
theorem dL_law_506 : decode cL_law 506 = .ok (.istore 6, 2) := dq_op54 (dq_at (j := 21) dk_29b_1 rfl rfl) (dq_at (j := 22) dk_29b_1 rfl rfl) rfl
theorem dL_law_508 : decode cL_law 508 = .ok (.aload_n 2, 1) := dq_op44 (dq_at (j := 23) dk_29b_1 rfl rfl)
theorem dL_law_509 : decode cL_law 509 = .ok (.invokevirtual 182, 3) := dq_op182 (dq_at (j := 24) dk_29b_1 rfl rfl) (dq_at (j := 25) dk_29b_1 rfl rfl) (dq_at (j := 26) dk_29b_1 rfl rfl) rfl
theorem dL_law_512 : decode cL_law 512 = .ok (.iload 5, 2) := dq_op21 (dq_at (j := 27) dk_29b_1 rfl rfl) (dq_at (j := 28) dk_29b_1 rfl rfl) rfl
theorem dL_law_514 : decode cL_law 514 = .ok (.if_icmp .eq 5, 3) := dq_op159 (dq_at (j := 29) dk_29b_1 rfl rfl) (dq_at (j := 30) dk_29b_1 rfl rfl) (dq_at (j := 31) dk_29b_1 rfl rfl) (by decide +kernel)
theorem dL_law_517 : decode cL_law 517 = .ok (.iconst 0, 1) := dq_op3 (dq_at (j := 32) dk_29b_1 rfl rfl)
theorem dL_law_518 : decode cL_law 518 = .ok (.ireturn, 1) := dq_op172 (dq_at (j := 33) dk_29b_1 rfl rfl)
theorem dL_law_519 : decode cL_law 519 = .ok (.iload 5, 2) := dq_op21 (dq_at (j := 34) dk_29b_1 rfl rfl) (dq_at (j := 35) dk_29b_1 rfl rfl) rfl
theorem dL_law_521 : decode cL_law 521 = .ok (.ifCond .ne 16, 3) := dq_op154 (dq_at (j := 36) dk_29b_1 rfl rfl) (dq_at (j := 37) dk_29b_1 rfl rfl) (dq_at (j := 38) dk_29b_1 rfl rfl) (by decide +kernel)
theorem dL_law_524 : decode cL_law 524 = .ok (.aload_n 3, 1) := dq_op45 (dq_at (j := 39) dk_29b_1 rfl rfl)
theorem dL_law_525 : decode cL_law 525 = .ok (.getfield 13, 3) := dq_op180 (dq_at (j := 40) dk_29b_1 rfl rfl) (dq_at (j := 41) dk_29b_1 rfl rfl) (dq_at (j := 42) dk_29b_1 rfl rfl) rfl
theorem dL_law_528 : decode cL_law 528 = .ok (.iload 6, 2) := dq_op21 (dq_at (j := 43) dk_29b_1 rfl rfl) (dq_at (j := 44) dk_29b_1 rfl rfl) rfl
theorem dL_law_530 : decode cL_law 530 = .ok (.i2l, 1) := dq_op133 (dq_at (j := 45) dk_29b_1 rfl rfl)
theorem dL_law_531 : decode cL_law 531 = .ok (.lcmp, 1) := dq_op148 (dq_at (j := 46) dk_29b_1 rfl rfl)
theorem dL_law_532 : decode cL_law 532 = .ok (.ifCond .eq 5, 3) := dq_op153 (dq_at (j := 47) dk_29b_1 rfl rfl) (dq_at (j := 48) dk_29b_1 rfl rfl) (dq_at (j := 49) dk_29b_1 rfl rfl) (by decide +kernel)
theorem dL_law_535 : decode cL_law 535 = .ok (.iconst 0, 1) := dq_op3 (dq_at (j := 50) dk_29b_1 rfl rfl)
theorem dL_law_536 : decode cL_law 536 = .ok (.ireturn, 1) := dq_op172 (dq_at (j := 51) dk_29b_1 rfl rfl)
theorem dL_law_537 : decode cL_law 537 = .ok (.goto 3123, 3) := dq_op167 (dq_at (j := 52) dk_29b_1 rfl rfl) (dq_at (j := 53) dk_29b_1 rfl rfl) (dq_at (j := 54) dk_29b_1 rfl rfl) (by decide +kernel)
theorem dL_law_540 : decode cL_law 540 = .ok (.aload_n 1, 1) := dq_op43 (dq_at (j := 55) dk_29b_1 rfl rfl)
theorem dL_law_541 : decode cL_law 541 = .ok (.aload_n 0, 1) := dq_op42 (dq_at (j := 56) dk_29b_1 rfl rfl)
theorem dL_law_542 : decode cL_law 542 = .ok (.iload 4, 2) := dq_op21 (dq_at (j := 57) dk_29b_1 rfl rfl) (dq_at (j := 58) dk_29b_1 rfl rfl) rfl
theorem dL_law_544 : decode cL_law 544 = .ok (.iconst 1, 1) := dq_op4 (dq_at (j := 59) dk_29b_1 rfl rfl)
theorem dL_law_545 : decode cL_law 545 = .ok (.iadd, 1) := dq_op96 (dq_at (j := 60) dk_29b_1 rfl rfl)
theorem dL_law_546 : decode cL_law 546 = .ok (.iaload, 1) := dq_op46 (dq_at (j := 61) dk_29b_1 rfl rfl)
theorem dL_law_547 : decode cL_law 547 = .ok (.aload_n 0, 1) := dq_op42 (dq_at (j := 62) dk_29b_1 rfl rfl)
theorem dL_law_548 : decode cL_law 548 = .ok (.iload 4, 2) := dq_op21 (dq_at (j := 63) dk_29b_1 rfl rfl) (dq_at (j := 64) dk_29b_1 rfl rfl) rfl
theorem dL_law_550 : decode cL_law 550 = .ok (.iconst 2, 1) := dq_op5 (dq_at (j := 65) dk_29b_1 rfl rfl)
theorem dL_law_551 : decode cL_law 551 = .ok (.iadd, 1) := dq_op96 (dq_at (j := 66) dk_29b_1 rfl rfl)
theorem dL_law_552 : decode cL_law 552 = .ok (.iaload, 1) := dq_op46 (dq_at (j := 67) dk_29b_1 rfl rfl)
theorem dL_law_553 : decode cL_law 553 = .ok (.aload_n 3, 1) := dq_op45 (dq_at (j := 68) dk_29b_1 rfl rfl)
theorem dL_law_554 : decode cL_law 554 = .ok (.invokestatic 196, 3) := dq_op184 (dq_at (j := 69) dk_29b_1 rfl rfl) (dq_at (j := 70) dk_29b_1 rfl rfl) (dq_at (j := 71) dk_29b_1 rfl rfl) rfl
theorem dL_law_557 : decode cL_law 557 = .ok (.istore 5, 2) := dq_op54 (dq_at (j := 72) dk_29b_1 rfl rfl) (dq_at (j := 73) dk_29b_1 rfl rfl) rfl
theorem dL_law_559 : decode cL_law 559 = .ok (.aload_n 2, 1) := dq_op44 (dq_at (j := 74) dk_29b_1 rfl rfl)
theorem dL_law_560 : decode cL_law 560 = .ok (.aload_n 0, 1) := dq_op42 (dq_at (j := 75) dk_29b_1 rfl rfl)
theorem dL_law_561 : decode cL_law 561 = .ok (.iload 4, 2) := dq_op21 (dq_at (j := 76) dk_29b_1 rfl rfl) (dq_at (j := 77) dk_29b_1 rfl rfl) rfl
theorem dL_law_563 : decode cL_law 563 = .ok (.iconst 1, 1) := dq_op4 (dq_at (j := 78) dk_29b_1 rfl rfl)
theorem dL_law_564 : decode cL_law 564 = .ok (.iadd, 1) := dq_op96 (dq_at (j := 79) dk_29b_1 rfl rfl)
theorem dL_law_565 : decode cL_law 565 = .ok (.iaload, 1) := dq_op46 (dq_at (j := 80) dk_29b_1 rfl rfl)
theorem dL_law_566 : decode cL_law 566 = .ok (.aload_n 0, 1) := dq_op42 (dq_at (j := 81) dk_29b_1 rfl rfl)
theorem dL_law_567 : decode cL_law 567 = .ok (.iload 4, 2) := dq_op21 (dq_at (j := 82) dk_29b_1 rfl rfl) (dq_at (j := 83) dk_29b_1 rfl rfl) rfl
theorem dL_law_569 : decode cL_law 569 = .ok (.iconst 2, 1) := dq_op5 (dq_at (j := 84) dk_29b_1 rfl rfl)
theorem dL_law_570 : decode cL_law 570 = .ok (.iadd, 1) := dq_op96 (dq_at (j := 85) dk_29b_1 rfl rfl)
theorem dL_law_571 : decode cL_law 571 = .ok (.iaload, 1) := dq_op46 (dq_at (j := 86) dk_29b_1 rfl rfl)
theorem dL_law_572 : decode cL_law 572 = .ok (.invokevirtual 198, 3) := dq_op182 (dq_at (j := 87) dk_29b_1 rfl rfl) (dq_at (j := 88) dk_29b_1 rfl rfl) (dq_at (j := 89) dk_29b_1 rfl rfl) rfl
theorem dL_law_575 : decode cL_law 575 = .ok (.istore 6, 2) := dq_op54 (dq_at (j := 90) dk_29b_1 rfl rfl) (dq_at (j := 91) dk_29b_1 rfl rfl) rfl
theorem dL_law_577 : decode cL_law 577 = .ok (.aload_n 2, 1) := dq_op44 (dq_at (j := 92) dk_29b_1 rfl rfl)
theorem dL_law_578 : decode cL_law 578 = .ok (.invokevirtual 182, 3) := dq_op182 (dq_at (j := 93) dk_29b_1 rfl rfl) (dq_at (j := 94) dk_29b_1 rfl rfl) (dq_at (j := 95) dk_29b_1 rfl rfl) rfl
theorem dL_law_581 : decode cL_law 581 = .ok (.iload 5, 2) := dq_op21 (dq_at (j := 96) dk_29b_1 rfl rfl) (dq_at (j := 97) dk_29b_1 rfl rfl) rfl
theorem dL_law_583 : decode cL_law 583 = .ok (.if_icmp .eq 5, 3) := dq_op159 (dq_at (j := 98) dk_29b_1 rfl rfl) (dq_at (j := 99) dk_29b_1 rfl rfl) (dq_at (j := 100) dk_29b_1 rfl rfl) (by decide +kernel)
theorem dL_law_586 : decode cL_law 586 = .ok (.iconst 0, 1) := dq_op3 (dq_at (j := 101) dk_29b_1 rfl rfl)
theorem dL_law_587 : decode cL_law 587 = .ok (.ireturn, 1) := dq_op172 (dq_at (j := 102) dk_29b_1 rfl rfl)
theorem dL_law_588 : decode cL_law 588 = .ok (.iload 5, 2) := dq_op21 (dq_at (j := 103) dk_29b_1 rfl rfl) (dq_at (j := 104) dk_29b_1 rfl rfl) rfl
theorem dL_law_590 : decode cL_law 590 = .ok (.ifCond .ne 16, 3) := dq_op154 (dq_at (j := 105) dk_29b_1 rfl rfl) (dq_at (j := 106) dk_29b_1 rfl rfl) (dq_at (j := 107) dk_29b_1 rfl rfl) (by decide +kernel)
theorem dL_law_593 : decode cL_law 593 = .ok (.aload_n 3, 1) := dq_op45 (dq_at (j := 108) dk_29b_1 rfl rfl)
theorem dL_law_594 : decode cL_law 594 = .ok (.getfield 13, 3) := dq_op180 (dq_at (j := 109) dk_29b_1 rfl rfl) (dq_at (j := 110) dk_29b_1 rfl rfl) (dq_at (j := 111) dk_29b_1 rfl rfl) rfl
theorem dL_law_597 : decode cL_law 597 = .ok (.iload 6, 2) := dq_op21 (dq_at (j := 112) dk_29b_1 rfl rfl) (dq_at (j := 113) dk_29b_1 rfl rfl) rfl
theorem dL_law_599 : decode cL_law 599 = .ok (.i2l, 1) := dq_op133 (dq_at (j := 114) dk_29b_1 rfl rfl)
theorem dL_law_600 : decode cL_law 600 = .ok (.lcmp, 1) := dq_op148 (dq_at (j := 115) dk_29b_1 rfl rfl)
theorem dL_law_601 : decode cL_law 601 = .ok (.ifCond .eq 5, 3) := dq_op153 (dq_at (j := 116) dk_29b_1 rfl rfl) (dq_at (j := 117) dk_29b_1 rfl rfl) (dq_at (j := 118) dk_29b_1 rfl rfl) (by decide +kernel)
theorem dL_law_604 : decode cL_law 604 = .ok (.iconst 0, 1) := dq_op3 (dq_at (j := 119) dk_29b_1 rfl rfl)
theorem dL_law_605 : decode cL_law 605 = .ok (.ireturn, 1) := dq_op172 (dq_at (j := 120) dk_29b_1 rfl rfl)
theorem dL_law_606 : decode cL_law 606 = .ok (.goto 3054, 3) := dq_op167 (dq_at (j := 121) dk_29b_1 rfl rfl) (dq_at (j := 122) dk_29b_1 rfl rfl) (dq_at (j := 123) dk_29b_1 rfl rfl) (by decide +kernel)
theorem dL_law_609 : decode cL_law 609 = .ok (.aload_n 1, 1) := dq_op43 (dq_at (j := 124) dk_29b_1 rfl rfl)
theorem dL_law_610 : decode cL_law 610 = .ok (.aload_n 0, 1) := dq_op42 (dq_at (j := 125) dk_29b_1 rfl rfl)
theorem dL_law_611 : decode cL_law 611 = .ok (.iload 4, 2) := dq_op21 (dq_at (j := 126) dk_29b_1 rfl rfl) (dq_at (j := 127) dk_29b_1 rfl rfl) rfl
theorem dL_law_613 : decode cL_law 613 = .ok (.iconst 1, 1) := dq_op4 (dq_at (j := 128) dk_29b_1 rfl rfl)
theorem dL_law_614 : decode cL_law 614 = .ok (.iadd, 1) := dq_op96 (dq_at (j := 129) dk_29b_1 rfl rfl)
theorem dL_law_615 : decode cL_law 615 = .ok (.iaload, 1) := dq_op46 (dq_at (j := 130) dk_29b_1 rfl rfl)
theorem dL_law_616 : decode cL_law 616 = .ok (.aload_n 0, 1) := dq_op42 (dq_at (j := 131) dk_29b_1 rfl rfl)
theorem dL_law_617 : decode cL_law 617 = .ok (.iload 4, 2) := dq_op21 (dq_at (j := 132) dk_29b_1 rfl rfl) (dq_at (j := 133) dk_29b_1 rfl rfl) rfl
theorem dL_law_619 : decode cL_law 619 = .ok (.iconst 2, 1) := dq_op5 (dq_at (j := 134) dk_29b_1 rfl rfl)
theorem dL_law_620 : decode cL_law 620 = .ok (.iadd, 1) := dq_op96 (dq_at (j := 135) dk_29b_1 rfl rfl)
theorem dL_law_621 : decode cL_law 621 = .ok (.iaload, 1) := dq_op46 (dq_at (j := 136) dk_29b_1 rfl rfl)
theorem dL_law_622 : decode cL_law 622 = .ok (.aload_n 0, 1) := dq_op42 (dq_at (j := 137) dk_29b_1 rfl rfl)
theorem dL_law_623 : decode cL_law 623 = .ok (.iload 4, 2) := dq_op21 (dq_at (j := 138) dk_29b_1 rfl rfl) (dq_at (j := 139) dk_29b_1 rfl rfl) rfl
theorem dL_law_625 : decode cL_law 625 = .ok (.iconst 3, 1) := dq_op6 (dq_at (j := 140) dk_29b_1 rfl rfl)
theorem dL_law_626 : decode cL_law 626 = .ok (.iadd, 1) := dq_op96 (dq_at (j := 141) dk_29b_1 rfl rfl)
theorem dL_law_627 : decode cL_law 627 = .ok (.iaload, 1) := dq_op46 (dq_at (j := 142) dk_29b_1 rfl rfl)
theorem dL_law_628 : decode cL_law 628 = .ok (.aload_n 3, 1) := dq_op45 (dq_at (j := 143) dk_29b_1 rfl rfl)
theorem dL_law_629 : decode cL_law 629 = .ok (.invokestatic 199, 3) := dq_op184 (dq_at (j := 144) dk_29b_1 rfl rfl) (dq_at (j := 145) dk_29b_1 rfl rfl) (dq_at (j := 146) dk_29b_1 rfl rfl) rfl
theorem dL_law_632 : decode cL_law 632 = .ok (.istore 5, 2) := dq_op54 (dq_at (j := 147) dk_29b_1 rfl rfl) (dq_at (j := 148) dk_29b_1 rfl rfl) rfl
theorem dL_law_634 : decode cL_law 634 = .ok (.aload_n 2, 1) := dq_op44 (dq_at (j := 149) dk_29b_1 rfl rfl)
theorem dL_law_635 : decode cL_law 635 = .ok (.aload_n 0, 1) := dq_op42 (dq_at (j := 150) dk_29b_1 rfl rfl)
theorem dL_law_636 : decode cL_law 636 = .ok (.iload 4, 2) := dq_op21 (dq_at (j := 151) dk_29b_1 rfl rfl) (dq_at (j := 152) dk_29b_1 rfl rfl) rfl
theorem dL_law_638 : decode cL_law 638 = .ok (.iconst 1, 1) := dq_op4 (dq_at (j := 153) dk_29b_1 rfl rfl)
theorem dL_law_639 : decode cL_law 639 = .ok (.iadd, 1) := dq_op96 (dq_at (j := 154) dk_29b_1 rfl rfl)
theorem dk_29b_2 : (cL_law.data.toList.drop 640).take 125 = [46, 42, 21, 4, 5, 96, 46, 42, 21, 4, 6, 96, 46, 182, 0, 201, 54, 6, 44, 182, 0, 182, 21, 5, 159, 0, 5, 3, 172, 21, 5, 154, 0, 16, 45, 180, 0, 13, 21, 6, 133, 148, 153, 0, 5, 3, 172, 167, 11, 157, 43, 42, 21, 4, 4, 96, 46, 42, 21, 4, 5, 96, 46, 42, 21, 4, 6, 96, 46, 45, 184, 0, 202, 54, 5, 44, 42, 21, 4, 4, 96, 46, 42, 21, 4, 5, 96, 46, 42, 21, 4, 6, 96, 46, 182, 0, 204, 54, 6, 44, 182, 0, 182, 21, 5, 159, 0, 5, 3, 172, 21, 5, 154, 0, 16, 45, 180, 0, 13, 21, 6, 133, 148, 153, 0] := by decide +kernel
theorem dL_law_640 : decode cL_law 640 = .ok (.iaload, 1) := dq_op46 (dq_at (j := 0) dk_29b_2 rfl rfl)
theorem dL_law_641 : decode cL_law 641 = .ok (.aload_n 0, 1) := dq_op42 (dq_at (j := 1) dk_29b_2 rfl rfl)
theorem dL_law_642 : decode cL_law 642 = .ok (.iload 4, 2) := dq_op21 (dq_at (j := 2) dk_29b_2 rfl rfl) (dq_at (j := 3) dk_29b_2 rfl rfl) rfl
theorem dL_law_644 : decode cL_law 644 = .ok (.iconst 2, 1) := dq_op5 (dq_at (j := 4) dk_29b_2 rfl rfl)
theorem dL_law_645 : decode cL_law 645 = .ok (.iadd, 1) := dq_op96 (dq_at (j := 5) dk_29b_2 rfl rfl)
theorem dL_law_646 : decode cL_law 646 = .ok (.iaload, 1) := dq_op46 (dq_at (j := 6) dk_29b_2 rfl rfl)
theorem dL_law_647 : decode cL_law 647 = .ok (.aload_n 0, 1) := dq_op42 (dq_at (j := 7) dk_29b_2 rfl rfl)
theorem dL_law_648 : decode cL_law 648 = .ok (.iload 4, 2) := dq_op21 (dq_at (j := 8) dk_29b_2 rfl rfl) (dq_at (j := 9) dk_29b_2 rfl rfl) rfl
theorem dL_law_650 : decode cL_law 650 = .ok (.iconst 3, 1) := dq_op6 (dq_at (j := 10) dk_29b_2 rfl rfl)
theorem dL_law_651 : decode cL_law 651 = .ok (.iadd, 1) := dq_op96 (dq_at (j := 11) dk_29b_2 rfl rfl)
theorem dL_law_652 : decode cL_law 652 = .ok (.iaload, 1) := dq_op46 (dq_at (j := 12) dk_29b_2 rfl rfl)
theorem dL_law_653 : decode cL_law 653 = .ok (.invokevirtual 201, 3) := dq_op182 (dq_at (j := 13) dk_29b_2 rfl rfl) (dq_at (j := 14) dk_29b_2 rfl rfl) (dq_at (j := 15) dk_29b_2 rfl rfl) rfl
theorem dL_law_656 : decode cL_law 656 = .ok (.istore 6, 2) := dq_op54 (dq_at (j := 16) dk_29b_2 rfl rfl) (dq_at (j := 17) dk_29b_2 rfl rfl) rfl
theorem dL_law_658 : decode cL_law 658 = .ok (.aload_n 2, 1) := dq_op44 (dq_at (j := 18) dk_29b_2 rfl rfl)
theorem dL_law_659 : decode cL_law 659 = .ok (.invokevirtual 182, 3) := dq_op182 (dq_at (j := 19) dk_29b_2 rfl rfl) (dq_at (j := 20) dk_29b_2 rfl rfl) (dq_at (j := 21) dk_29b_2 rfl rfl) rfl
theorem dL_law_662 : decode cL_law 662 = .ok (.iload 5, 2) := dq_op21 (dq_at (j := 22) dk_29b_2 rfl rfl) (dq_at (j := 23) dk_29b_2 rfl rfl) rfl
theorem dL_law_664 : decode cL_law 664 = .ok (.if_icmp .eq 5, 3) := dq_op159 (dq_at (j := 24) dk_29b_2 rfl rfl) (dq_at (j := 25) dk_29b_2 rfl rfl) (dq_at (j := 26) dk_29b_2 rfl rfl) (by decide +kernel)
theorem dL_law_667 : decode cL_law 667 = .ok (.iconst 0, 1) := dq_op3 (dq_at (j := 27) dk_29b_2 rfl rfl)
theorem dL_law_668 : decode cL_law 668 = .ok (.ireturn, 1) := dq_op172 (dq_at (j := 28) dk_29b_2 rfl rfl)
theorem dL_law_669 : decode cL_law 669 = .ok (.iload 5, 2) := dq_op21 (dq_at (j := 29) dk_29b_2 rfl rfl) (dq_at (j := 30) dk_29b_2 rfl rfl) rfl
theorem dL_law_671 : decode cL_law 671 = .ok (.ifCond .ne 16, 3) := dq_op154 (dq_at (j := 31) dk_29b_2 rfl rfl) (dq_at (j := 32) dk_29b_2 rfl rfl) (dq_at (j := 33) dk_29b_2 rfl rfl) (by decide +kernel)
theorem dL_law_674 : decode cL_law 674 = .ok (.aload_n 3, 1) := dq_op45 (dq_at (j := 34) dk_29b_2 rfl rfl)
theorem dL_law_675 : decode cL_law 675 = .ok (.getfield 13, 3) := dq_op180 (dq_at (j := 35) dk_29b_2 rfl rfl) (dq_at (j := 36) dk_29b_2 rfl rfl) (dq_at (j := 37) dk_29b_2 rfl rfl) rfl
theorem dL_law_678 : decode cL_law 678 = .ok (.iload 6, 2) := dq_op21 (dq_at (j := 38) dk_29b_2 rfl rfl) (dq_at (j := 39) dk_29b_2 rfl rfl) rfl
theorem dL_law_680 : decode cL_law 680 = .ok (.i2l, 1) := dq_op133 (dq_at (j := 40) dk_29b_2 rfl rfl)
theorem dL_law_681 : decode cL_law 681 = .ok (.lcmp, 1) := dq_op148 (dq_at (j := 41) dk_29b_2 rfl rfl)
theorem dL_law_682 : decode cL_law 682 = .ok (.ifCond .eq 5, 3) := dq_op153 (dq_at (j := 42) dk_29b_2 rfl rfl) (dq_at (j := 43) dk_29b_2 rfl rfl) (dq_at (j := 44) dk_29b_2 rfl rfl) (by decide +kernel)
theorem dL_law_685 : decode cL_law 685 = .ok (.iconst 0, 1) := dq_op3 (dq_at (j := 45) dk_29b_2 rfl rfl)
theorem dL_law_686 : decode cL_law 686 = .ok (.ireturn, 1) := dq_op172 (dq_at (j := 46) dk_29b_2 rfl rfl)
theorem dL_law_687 : decode cL_law 687 = .ok (.goto 2973, 3) := dq_op167 (dq_at (j := 47) dk_29b_2 rfl rfl) (dq_at (j := 48) dk_29b_2 rfl rfl) (dq_at (j := 49) dk_29b_2 rfl rfl) (by decide +kernel)
theorem dL_law_690 : decode cL_law 690 = .ok (.aload_n 1, 1) := dq_op43 (dq_at (j := 50) dk_29b_2 rfl rfl)
theorem dL_law_691 : decode cL_law 691 = .ok (.aload_n 0, 1) := dq_op42 (dq_at (j := 51) dk_29b_2 rfl rfl)
theorem dL_law_692 : decode cL_law 692 = .ok (.iload 4, 2) := dq_op21 (dq_at (j := 52) dk_29b_2 rfl rfl) (dq_at (j := 53) dk_29b_2 rfl rfl) rfl
theorem dL_law_694 : decode cL_law 694 = .ok (.iconst 1, 1) := dq_op4 (dq_at (j := 54) dk_29b_2 rfl rfl)
theorem dL_law_695 : decode cL_law 695 = .ok (.iadd, 1) := dq_op96 (dq_at (j := 55) dk_29b_2 rfl rfl)
theorem dL_law_696 : decode cL_law 696 = .ok (.iaload, 1) := dq_op46 (dq_at (j := 56) dk_29b_2 rfl rfl)
theorem dL_law_697 : decode cL_law 697 = .ok (.aload_n 0, 1) := dq_op42 (dq_at (j := 57) dk_29b_2 rfl rfl)
theorem dL_law_698 : decode cL_law 698 = .ok (.iload 4, 2) := dq_op21 (dq_at (j := 58) dk_29b_2 rfl rfl) (dq_at (j := 59) dk_29b_2 rfl rfl) rfl
theorem dL_law_700 : decode cL_law 700 = .ok (.iconst 2, 1) := dq_op5 (dq_at (j := 60) dk_29b_2 rfl rfl)
theorem dL_law_701 : decode cL_law 701 = .ok (.iadd, 1) := dq_op96 (dq_at (j := 61) dk_29b_2 rfl rfl)
theorem dL_law_702 : decode cL_law 702 = .ok (.iaload, 1) := dq_op46 (dq_at (j := 62) dk_29b_2 rfl rfl)
theorem dL_law_703 : decode cL_law 703 = .ok (.aload_n 0, 1) := dq_op42 (dq_at (j := 63) dk_29b_2 rfl rfl)
theorem dL_law_704 : decode cL_law 704 = .ok (.iload 4, 2) := dq_op21 (dq_at (j := 64) dk_29b_2 rfl rfl) (dq_at (j := 65) dk_29b_2 rfl rfl) rfl
theorem dL_law_706 : decode cL_law 706 = .ok (.iconst 3, 1) := dq_op6 (dq_at (j := 66) dk_29b_2 rfl rfl)
theorem dL_law_707 : decode cL_law 707 = .ok (.iadd, 1) := dq_op96 (dq_at (j := 67) dk_29b_2 rfl rfl)
theorem dL_law_708 : decode cL_law 708 = .ok (.iaload, 1) := dq_op46 (dq_at (j := 68) dk_29b_2 rfl rfl)
theorem dL_law_709 : decode cL_law 709 = .ok (.aload_n 3, 1) := dq_op45 (dq_at (j := 69) dk_29b_2 rfl rfl)
theorem dL_law_710 : decode cL_law 710 = .ok (.invokestatic 202, 3) := dq_op184 (dq_at (j := 70) dk_29b_2 rfl rfl) (dq_at (j := 71) dk_29b_2 rfl rfl) (dq_at (j := 72) dk_29b_2 rfl rfl) rfl
theorem dL_law_713 : decode cL_law 713 = .ok (.istore 5, 2) := dq_op54 (dq_at (j := 73) dk_29b_2 rfl rfl) (dq_at (j := 74) dk_29b_2 rfl rfl) rfl
theorem dL_law_715 : decode cL_law 715 = .ok (.aload_n 2, 1) := dq_op44 (dq_at (j := 75) dk_29b_2 rfl rfl)
theorem dL_law_716 : decode cL_law 716 = .ok (.aload_n 0, 1) := dq_op42 (dq_at (j := 76) dk_29b_2 rfl rfl)
theorem dL_law_717 : decode cL_law 717 = .ok (.iload 4, 2) := dq_op21 (dq_at (j := 77) dk_29b_2 rfl rfl) (dq_at (j := 78) dk_29b_2 rfl rfl) rfl
theorem dL_law_719 : decode cL_law 719 = .ok (.iconst 1, 1) := dq_op4 (dq_at (j := 79) dk_29b_2 rfl rfl)
theorem dL_law_720 : decode cL_law 720 = .ok (.iadd, 1) := dq_op96 (dq_at (j := 80) dk_29b_2 rfl rfl)
theorem dL_law_721 : decode cL_law 721 = .ok (.iaload, 1) := dq_op46 (dq_at (j := 81) dk_29b_2 rfl rfl)
theorem dL_law_722 : decode cL_law 722 = .ok (.aload_n 0, 1) := dq_op42 (dq_at (j := 82) dk_29b_2 rfl rfl)
theorem dL_law_723 : decode cL_law 723 = .ok (.iload 4, 2) := dq_op21 (dq_at (j := 83) dk_29b_2 rfl rfl) (dq_at (j := 84) dk_29b_2 rfl rfl) rfl
theorem dL_law_725 : decode cL_law 725 = .ok (.iconst 2, 1) := dq_op5 (dq_at (j := 85) dk_29b_2 rfl rfl)
theorem dL_law_726 : decode cL_law 726 = .ok (.iadd, 1) := dq_op96 (dq_at (j := 86) dk_29b_2 rfl rfl)
theorem dL_law_727 : decode cL_law 727 = .ok (.iaload, 1) := dq_op46 (dq_at (j := 87) dk_29b_2 rfl rfl)
theorem dL_law_728 : decode cL_law 728 = .ok (.aload_n 0, 1) := dq_op42 (dq_at (j := 88) dk_29b_2 rfl rfl)
theorem dL_law_729 : decode cL_law 729 = .ok (.iload 4, 2) := dq_op21 (dq_at (j := 89) dk_29b_2 rfl rfl) (dq_at (j := 90) dk_29b_2 rfl rfl) rfl
theorem dL_law_731 : decode cL_law 731 = .ok (.iconst 3, 1) := dq_op6 (dq_at (j := 91) dk_29b_2 rfl rfl)
theorem dL_law_732 : decode cL_law 732 = .ok (.iadd, 1) := dq_op96 (dq_at (j := 92) dk_29b_2 rfl rfl)
theorem dL_law_733 : decode cL_law 733 = .ok (.iaload, 1) := dq_op46 (dq_at (j := 93) dk_29b_2 rfl rfl)
theorem dL_law_734 : decode cL_law 734 = .ok (.invokevirtual 204, 3) := dq_op182 (dq_at (j := 94) dk_29b_2 rfl rfl) (dq_at (j := 95) dk_29b_2 rfl rfl) (dq_at (j := 96) dk_29b_2 rfl rfl) rfl
theorem dL_law_737 : decode cL_law 737 = .ok (.istore 6, 2) := dq_op54 (dq_at (j := 97) dk_29b_2 rfl rfl) (dq_at (j := 98) dk_29b_2 rfl rfl) rfl
theorem dL_law_739 : decode cL_law 739 = .ok (.aload_n 2, 1) := dq_op44 (dq_at (j := 99) dk_29b_2 rfl rfl)
theorem dL_law_740 : decode cL_law 740 = .ok (.invokevirtual 182, 3) := dq_op182 (dq_at (j := 100) dk_29b_2 rfl rfl) (dq_at (j := 101) dk_29b_2 rfl rfl) (dq_at (j := 102) dk_29b_2 rfl rfl) rfl
theorem dL_law_743 : decode cL_law 743 = .ok (.iload 5, 2) := dq_op21 (dq_at (j := 103) dk_29b_2 rfl rfl) (dq_at (j := 104) dk_29b_2 rfl rfl) rfl
theorem dL_law_745 : decode cL_law 745 = .ok (.if_icmp .eq 5, 3) := dq_op159 (dq_at (j := 105) dk_29b_2 rfl rfl) (dq_at (j := 106) dk_29b_2 rfl rfl) (dq_at (j := 107) dk_29b_2 rfl rfl) (by decide +kernel)
theorem dL_law_748 : decode cL_law 748 = .ok (.iconst 0, 1) := dq_op3 (dq_at (j := 108) dk_29b_2 rfl rfl)
theorem dL_law_749 : decode cL_law 749 = .ok (.ireturn, 1) := dq_op172 (dq_at (j := 109) dk_29b_2 rfl rfl)
theorem dL_law_750 : decode cL_law 750 = .ok (.iload 5, 2) := dq_op21 (dq_at (j := 110) dk_29b_2 rfl rfl) (dq_at (j := 111) dk_29b_2 rfl rfl) rfl
theorem dL_law_752 : decode cL_law 752 = .ok (.ifCond .ne 16, 3) := dq_op154 (dq_at (j := 112) dk_29b_2 rfl rfl) (dq_at (j := 113) dk_29b_2 rfl rfl) (dq_at (j := 114) dk_29b_2 rfl rfl) (by decide +kernel)
theorem dL_law_755 : decode cL_law 755 = .ok (.aload_n 3, 1) := dq_op45 (dq_at (j := 115) dk_29b_2 rfl rfl)
theorem dL_law_756 : decode cL_law 756 = .ok (.getfield 13, 3) := dq_op180 (dq_at (j := 116) dk_29b_2 rfl rfl) (dq_at (j := 117) dk_29b_2 rfl rfl) (dq_at (j := 118) dk_29b_2 rfl rfl) rfl
theorem dL_law_759 : decode cL_law 759 = .ok (.iload 6, 2) := dq_op21 (dq_at (j := 119) dk_29b_2 rfl rfl) (dq_at (j := 120) dk_29b_2 rfl rfl) rfl
theorem dL_law_761 : decode cL_law 761 = .ok (.i2l, 1) := dq_op133 (dq_at (j := 121) dk_29b_2 rfl rfl)
theorem dL_law_762 : decode cL_law 762 = .ok (.lcmp, 1) := dq_op148 (dq_at (j := 122) dk_29b_2 rfl rfl)
noncomputable def dq_end_29b : Nat := 0
theorem dk_29c_1 : (cL_law.data.toList.drop 763).take 159 = [153, 0, 5, 3, 172, 167, 11, 76, 43, 42, 21, 4, 4, 96, 46, 42, 21, 4, 5, 96, 46, 42, 21, 4, 6, 96, 46, 45, 184, 0, 205, 54, 5, 44, 42, 21, 4, 4, 96, 46, 42, 21, 4, 5, 96, 46, 42, 21, 4, 6, 96, 46, 182, 0, 207, 54, 6, 44, 182, 0, 182, 21, 5, 159, 0, 5, 3, 172, 21, 5, 154, 0, 16, 45, 180, 0, 13, 21, 6, 133, 148, 153, 0, 5, 3, 172, 167, 10, 251, 43, 42, 21, 4, 4, 96, 46, 45, 184, 0, 208, 54, 5, 44, 42, 21, 4, 4, 96, 46, 182, 0, 211, 54, 6, 44, 182, 0, 182, 21, 5, 159, 0, 5, 3, 172, 21, 5, 154, 0, 16, 45, 180, 0, 13, 21, 6, 133, 148, 153, 0, 5, 3, 172, 167, 10, 194, 43, 42, 21, 4, 4, 96, 46, 153, 0, 7, 4, 167, 0] := by decide +kernel
theorem dL_law_763 : decode cL_law 763 = .ok (.ifCond .eq 5, 3) := dq_op153 (dq_at (j := 0) dk_29c_1 rfl rfl) (dq_at (j := 1) dk_29c_1 rfl rfl) (dq_at (j := 2) dk_29c_1 rfl rfl) (by decide +kernel)
theorem dL_law_766 : decode cL_law 766 = .ok (.iconst 0, 1) := dq_op3 (dq_at (j := 3) dk_29c_1 rfl rfl)
theorem dL_law_767 : decode cL_law 767 = .ok (.ireturn, 1) := dq_op172 (dq_at (j := 4) dk_29c_1 rfl rfl)
theorem dL_law_768 : decode cL_law 768 = .ok (.goto 2892, 3) := dq_op167 (dq_at (j := 5) dk_29c_1 rfl rfl) (dq_at (j := 6) dk_29c_1 rfl rfl) (dq_at (j := 7) dk_29c_1 rfl rfl) (by decide +kernel)
theorem dL_law_771 : decode cL_law 771 = .ok (.aload_n 1, 1) := dq_op43 (dq_at (j := 8) dk_29c_1 rfl rfl)
theorem dL_law_772 : decode cL_law 772 = .ok (.aload_n 0, 1) := dq_op42 (dq_at (j := 9) dk_29c_1 rfl rfl)
theorem dL_law_773 : decode cL_law 773 = .ok (.iload 4, 2) := dq_op21 (dq_at (j := 10) dk_29c_1 rfl rfl) (dq_at (j := 11) dk_29c_1 rfl rfl) rfl
theorem dL_law_775 : decode cL_law 775 = .ok (.iconst 1, 1) := dq_op4 (dq_at (j := 12) dk_29c_1 rfl rfl)
theorem dL_law_776 : decode cL_law 776 = .ok (.iadd, 1) := dq_op96 (dq_at (j := 13) dk_29c_1 rfl rfl)
theorem dL_law_777 : decode cL_law 777 = .ok (.iaload, 1) := dq_op46 (dq_at (j := 14) dk_29c_1 rfl rfl)
theorem dL_law_778 : decode cL_law 778 = .ok (.aload_n 0, 1) := dq_op42 (dq_at (j := 15) dk_29c_1 rfl rfl)
theorem dL_law_779 : decode cL_law 779 = .ok (.iload 4, 2) := dq_op21 (dq_at (j := 16) dk_29c_1 rfl rfl) (dq_at (j := 17) dk_29c_1 rfl rfl) rfl
theorem dL_law_781 : decode cL_law 781 = .ok (.iconst 2, 1) := dq_op5 (dq_at (j := 18) dk_29c_1 rfl rfl)
theorem dL_law_782 : decode cL_law 782 = .ok (.iadd, 1) := dq_op96 (dq_at (j := 19) dk_29c_1 rfl rfl)
theorem dL_law_783 : decode cL_law 783 = .ok (.iaload, 1) := dq_op46 (dq_at (j := 20) dk_29c_1 rfl rfl)
theorem dL_law_784 : decode cL_law 784 = .ok (.aload_n 0, 1) := dq_op42 (dq_at (j := 21) dk_29c_1 rfl rfl)
theorem dL_law_785 : decode cL_law 785 = .ok (.iload 4, 2) := dq_op21 (dq_at (j := 22) dk_29c_1 rfl rfl) (dq_at (j := 23) dk_29c_1 rfl rfl) rfl
theorem dL_law_787 : decode cL_law 787 = .ok (.iconst 3, 1) := dq_op6 (dq_at (j := 24) dk_29c_1 rfl rfl)
theorem dL_law_788 : decode cL_law 788 = .ok (.iadd, 1) := dq_op96 (dq_at (j := 25) dk_29c_1 rfl rfl)
theorem dL_law_789 : decode cL_law 789 = .ok (.iaload, 1) := dq_op46 (dq_at (j := 26) dk_29c_1 rfl rfl)
theorem dL_law_790 : decode cL_law 790 = .ok (.aload_n 3, 1) := dq_op45 (dq_at (j := 27) dk_29c_1 rfl rfl)
theorem dL_law_791 : decode cL_law 791 = .ok (.invokestatic 205, 3) := dq_op184 (dq_at (j := 28) dk_29c_1 rfl rfl) (dq_at (j := 29) dk_29c_1 rfl rfl) (dq_at (j := 30) dk_29c_1 rfl rfl) rfl
theorem dL_law_794 : decode cL_law 794 = .ok (.istore 5, 2) := dq_op54 (dq_at (j := 31) dk_29c_1 rfl rfl) (dq_at (j := 32) dk_29c_1 rfl rfl) rfl
theorem dL_law_796 : decode cL_law 796 = .ok (.aload_n 2, 1) := dq_op44 (dq_at (j := 33) dk_29c_1 rfl rfl)
theorem dL_law_797 : decode cL_law 797 = .ok (.aload_n 0, 1) := dq_op42 (dq_at (j := 34) dk_29c_1 rfl rfl)
theorem dL_law_798 : decode cL_law 798 = .ok (.iload 4, 2) := dq_op21 (dq_at (j := 35) dk_29c_1 rfl rfl) (dq_at (j := 36) dk_29c_1 rfl rfl) rfl
theorem dL_law_800 : decode cL_law 800 = .ok (.iconst 1, 1) := dq_op4 (dq_at (j := 37) dk_29c_1 rfl rfl)
theorem dL_law_801 : decode cL_law 801 = .ok (.iadd, 1) := dq_op96 (dq_at (j := 38) dk_29c_1 rfl rfl)
theorem dL_law_802 : decode cL_law 802 = .ok (.iaload, 1) := dq_op46 (dq_at (j := 39) dk_29c_1 rfl rfl)
theorem dL_law_803 : decode cL_law 803 = .ok (.aload_n 0, 1) := dq_op42 (dq_at (j := 40) dk_29c_1 rfl rfl)
theorem dL_law_804 : decode cL_law 804 = .ok (.iload 4, 2) := dq_op21 (dq_at (j := 41) dk_29c_1 rfl rfl) (dq_at (j := 42) dk_29c_1 rfl rfl) rfl
theorem dL_law_806 : decode cL_law 806 = .ok (.iconst 2, 1) := dq_op5 (dq_at (j := 43) dk_29c_1 rfl rfl)
theorem dL_law_807 : decode cL_law 807 = .ok (.iadd, 1) := dq_op96 (dq_at (j := 44) dk_29c_1 rfl rfl)
theorem dL_law_808 : decode cL_law 808 = .ok (.iaload, 1) := dq_op46 (dq_at (j := 45) dk_29c_1 rfl rfl)
theorem dL_law_809 : decode cL_law 809 = .ok (.aload_n 0, 1) := dq_op42 (dq_at (j := 46) dk_29c_1 rfl rfl)
theorem dL_law_810 : decode cL_law 810 = .ok (.iload 4, 2) := dq_op21 (dq_at (j := 47) dk_29c_1 rfl rfl) (dq_at (j := 48) dk_29c_1 rfl rfl) rfl
theorem dL_law_812 : decode cL_law 812 = .ok (.iconst 3, 1) := dq_op6 (dq_at (j := 49) dk_29c_1 rfl rfl)
theorem dL_law_813 : decode cL_law 813 = .ok (.iadd, 1) := dq_op96 (dq_at (j := 50) dk_29c_1 rfl rfl)
theorem dL_law_814 : decode cL_law 814 = .ok (.iaload, 1) := dq_op46 (dq_at (j := 51) dk_29c_1 rfl rfl)
theorem dL_law_815 : decode cL_law 815 = .ok (.invokevirtual 207, 3) := dq_op182 (dq_at (j := 52) dk_29c_1 rfl rfl) (dq_at (j := 53) dk_29c_1 rfl rfl) (dq_at (j := 54) dk_29c_1 rfl rfl) rfl
theorem dL_law_818 : decode cL_law 818 = .ok (.istore 6, 2) := dq_op54 (dq_at (j := 55) dk_29c_1 rfl rfl) (dq_at (j := 56) dk_29c_1 rfl rfl) rfl
theorem dL_law_820 : decode cL_law 820 = .ok (.aload_n 2, 1) := dq_op44 (dq_at (j := 57) dk_29c_1 rfl rfl)
theorem dL_law_821 : decode cL_law 821 = .ok (.invokevirtual 182, 3) := dq_op182 (dq_at (j := 58) dk_29c_1 rfl rfl) (dq_at (j := 59) dk_29c_1 rfl rfl) (dq_at (j := 60) dk_29c_1 rfl rfl) rfl
theorem dL_law_824 : decode cL_law 824 = .ok (.iload 5, 2) := dq_op21 (dq_at (j := 61) dk_29c_1 rfl rfl) (dq_at (j := 62) dk_29c_1 rfl rfl) rfl
theorem dL_law_826 : decode cL_law 826 = .ok (.if_icmp .eq 5, 3) := dq_op159 (dq_at (j := 63) dk_29c_1 rfl rfl) (dq_at (j := 64) dk_29c_1 rfl rfl) (dq_at (j := 65) dk_29c_1 rfl rfl) (by decide +kernel)
theorem dL_law_829 : decode cL_law 829 = .ok (.iconst 0, 1) := dq_op3 (dq_at (j := 66) dk_29c_1 rfl rfl)
theorem dL_law_830 : decode cL_law 830 = .ok (.ireturn, 1) := dq_op172 (dq_at (j := 67) dk_29c_1 rfl rfl)
theorem dL_law_831 : decode cL_law 831 = .ok (.iload 5, 2) := dq_op21 (dq_at (j := 68) dk_29c_1 rfl rfl) (dq_at (j := 69) dk_29c_1 rfl rfl) rfl
theorem dL_law_833 : decode cL_law 833 = .ok (.ifCond .ne 16, 3) := dq_op154 (dq_at (j := 70) dk_29c_1 rfl rfl) (dq_at (j := 71) dk_29c_1 rfl rfl) (dq_at (j := 72) dk_29c_1 rfl rfl) (by decide +kernel)
theorem dL_law_836 : decode cL_law 836 = .ok (.aload_n 3, 1) := dq_op45 (dq_at (j := 73) dk_29c_1 rfl rfl)
theorem dL_law_837 : decode cL_law 837 = .ok (.getfield 13, 3) := dq_op180 (dq_at (j := 74) dk_29c_1 rfl rfl) (dq_at (j := 75) dk_29c_1 rfl rfl) (dq_at (j := 76) dk_29c_1 rfl rfl) rfl
theorem dL_law_840 : decode cL_law 840 = .ok (.iload 6, 2) := dq_op21 (dq_at (j := 77) dk_29c_1 rfl rfl) (dq_at (j := 78) dk_29c_1 rfl rfl) rfl
theorem dL_law_842 : decode cL_law 842 = .ok (.i2l, 1) := dq_op133 (dq_at (j := 79) dk_29c_1 rfl rfl)
theorem dL_law_843 : decode cL_law 843 = .ok (.lcmp, 1) := dq_op148 (dq_at (j := 80) dk_29c_1 rfl rfl)
theorem dL_law_844 : decode cL_law 844 = .ok (.ifCond .eq 5, 3) := dq_op153 (dq_at (j := 81) dk_29c_1 rfl rfl) (dq_at (j := 82) dk_29c_1 rfl rfl) (dq_at (j := 83) dk_29c_1 rfl rfl) (by decide +kernel)
theorem dL_law_847 : decode cL_law 847 = .ok (.iconst 0, 1) := dq_op3 (dq_at (j := 84) dk_29c_1 rfl rfl)
theorem dL_law_848 : decode cL_law 848 = .ok (.ireturn, 1) := dq_op172 (dq_at (j := 85) dk_29c_1 rfl rfl)
theorem dL_law_849 : decode cL_law 849 = .ok (.goto 2811, 3) := dq_op167 (dq_at (j := 86) dk_29c_1 rfl rfl) (dq_at (j := 87) dk_29c_1 rfl rfl) (dq_at (j := 88) dk_29c_1 rfl rfl) (by decide +kernel)
theorem dL_law_852 : decode cL_law 852 = .ok (.aload_n 1, 1) := dq_op43 (dq_at (j := 89) dk_29c_1 rfl rfl)
theorem dL_law_853 : decode cL_law 853 = .ok (.aload_n 0, 1) := dq_op42 (dq_at (j := 90) dk_29c_1 rfl rfl)
theorem dL_law_854 : decode cL_law 854 = .ok (.iload 4, 2) := dq_op21 (dq_at (j := 91) dk_29c_1 rfl rfl) (dq_at (j := 92) dk_29c_1 rfl rfl) rfl
theorem dL_law_856 : decode cL_law 856 = .ok (.iconst 1, 1) := dq_op4 (dq_at (j := 93) dk_29c_1 rfl rfl)
theorem dL_law_857 : decode cL_law 857 = .ok (.iadd, 1) := dq_op96 (dq_at (j := 94) dk_29c_1 rfl rfl)
theorem dL_law_858 : decode cL_law 858 = .ok (.iaload, 1) := dq_op46 (dq_at (j := 95) dk_29c_1 rfl rfl)
theorem dL_law_859 : decode cL_law 859 = .ok (.aload_n 3, 1) := dq_op45 (dq_at (j := 96) dk_29c_1 rfl rfl)
theorem dL_law_860 : decode cL_law 860 = .ok (.invokestatic 208, 3) := dq_op184 (dq_at (j := 97) dk_29c_1 rfl rfl) (dq_at (j := 98) dk_29c_1 rfl rfl) (dq_at (j := 99) dk_29c_1 rfl rfl) rfl
theorem dL_law_863 : decode cL_law 863 = .ok (.istore 5, 2) := dq_op54 (dq_at (j := 100) dk_29c_1 rfl rfl) (dq_at (j := 101) dk_29c_1 rfl rfl) rfl
theorem dL_law_865 : decode cL_law 865 = .ok (.aload_n 2, 1) := dq_op44 (dq_at (j := 102) dk_29c_1 rfl rfl)
theorem dL_law_866 : decode cL_law 866 = .ok (.aload_n 0, 1) := dq_op42 (dq_at (j := 103) dk_29c_1 rfl rfl)
theorem dL_law_867 : decode cL_law 867 = .ok (.iload 4, 2) := dq_op21 (dq_at (j := 104) dk_29c_1 rfl rfl) (dq_at (j := 105) dk_29c_1 rfl rfl) rfl
theorem dL_law_869 : decode cL_law 869 = .ok (.iconst 1, 1) := dq_op4 (dq_at (j := 106) dk_29c_1 rfl rfl)
theorem dL_law_870 : decode cL_law 870 = .ok (.iadd, 1) := dq_op96 (dq_at (j := 107) dk_29c_1 rfl rfl)
theorem dL_law_871 : decode cL_law 871 = .ok (.iaload, 1) := dq_op46 (dq_at (j := 108) dk_29c_1 rfl rfl)
theorem dL_law_872 : decode cL_law 872 = .ok (.invokevirtual 211, 3) := dq_op182 (dq_at (j := 109) dk_29c_1 rfl rfl) (dq_at (j := 110) dk_29c_1 rfl rfl) (dq_at (j := 111) dk_29c_1 rfl rfl) rfl
theorem dL_law_875 : decode cL_law 875 = .ok (.istore 6, 2) := dq_op54 (dq_at (j := 112) dk_29c_1 rfl rfl) (dq_at (j := 113) dk_29c_1 rfl rfl) rfl
theorem dL_law_877 : decode cL_law 877 = .ok (.aload_n 2, 1) := dq_op44 (dq_at (j := 114) dk_29c_1 rfl rfl)
theorem dL_law_878 : decode cL_law 878 = .ok (.invokevirtual 182, 3) := dq_op182 (dq_at (j := 115) dk_29c_1 rfl rfl) (dq_at (j := 116) dk_29c_1 rfl rfl) (dq_at (j := 117) dk_29c_1 rfl rfl) rfl
theorem dL_law_881 : decode cL_law 881 = .ok (.iload 5, 2) := dq_op21 (dq_at (j := 118) dk_29c_1 rfl rfl) (dq_at (j := 119) dk_29c_1 rfl rfl) rfl
theorem dL_law_883 : decode cL_law 883 = .ok (.if_icmp .eq 5, 3) := dq_op159 (dq_at (j := 120) dk_29c_1 rfl rfl) (dq_at (j := 121) dk_29c_1 rfl rfl) (dq_at (j := 122) dk_29c_1 rfl rfl) (by decide +kernel)
theorem dL_law_886 : decode cL_law 886 = .ok (.iconst 0, 1) := dq_op3 (dq_at (j := 123) dk_29c_1 rfl rfl)
theorem dL_law_887 : decode cL_law 887 = .ok (.ireturn, 1) := dq_op172 (dq_at (j := 124) dk_29c_1 rfl rfl)
theorem dL_law_888 : decode cL_law 888 = .ok (.iload 5, 2) := dq_op21 (dq_at (j := 125) dk_29c_1 rfl rfl) (dq_at (j := 126) dk_29c_1 rfl rfl) rfl
theorem dL_law_890 : decode cL_law 890 = .ok (.ifCond .ne 16, 3) := dq_op154 (dq_at (j := 127) dk_29c_1 rfl rfl) (dq_at (j := 128) dk_29c_1 rfl rfl) (dq_at (j := 129) dk_29c_1 rfl rfl) (by decide +kernel)
theorem dL_law_893 : decode cL_law 893 = .ok (.aload_n 3, 1) := dq_op45 (dq_at (j := 130) dk_29c_1 rfl rfl)
theorem dL_law_894 : decode cL_law 894 = .ok (.getfield 13, 3) := dq_op180 (dq_at (j := 131) dk_29c_1 rfl rfl) (dq_at (j := 132) dk_29c_1 rfl rfl) (dq_at (j := 133) dk_29c_1 rfl rfl) rfl
theorem dL_law_897 : decode cL_law 897 = .ok (.iload 6, 2) := dq_op21 (dq_at (j := 134) dk_29c_1 rfl rfl) (dq_at (j := 135) dk_29c_1 rfl rfl) rfl
theorem dL_law_899 : decode cL_law 899 = .ok (.i2l, 1) := dq_op133 (dq_at (j := 136) dk_29c_1 rfl rfl)
theorem dL_law_900 : decode cL_law 900 = .ok (.lcmp, 1) := dq_op148 (dq_at (j := 137) dk_29c_1 rfl rfl)
theorem dL_law_901 : decode cL_law 901 = .ok (.ifCond .eq 5, 3) := dq_op153 (dq_at (j := 138) dk_29c_1 rfl rfl) (dq_at (j := 139) dk_29c_1 rfl rfl) (dq_at (j := 140) dk_29c_1 rfl rfl) (by decide +kernel)
theorem dL_law_904 : decode cL_law 904 = .ok (.iconst 0, 1) := dq_op3 (dq_at (j := 141) dk_29c_1 rfl rfl)
theorem dL_law_905 : decode cL_law 905 = .ok (.ireturn, 1) := dq_op172 (dq_at (j := 142) dk_29c_1 rfl rfl)
theorem dL_law_906 : decode cL_law 906 = .ok (.goto 2754, 3) := dq_op167 (dq_at (j := 143) dk_29c_1 rfl rfl) (dq_at (j := 144) dk_29c_1 rfl rfl) (dq_at (j := 145) dk_29c_1 rfl rfl) (by decide +kernel)
theorem dL_law_909 : decode cL_law 909 = .ok (.aload_n 1, 1) := dq_op43 (dq_at (j := 146) dk_29c_1 rfl rfl)
theorem dL_law_910 : decode cL_law 910 = .ok (.aload_n 0, 1) := dq_op42 (dq_at (j := 147) dk_29c_1 rfl rfl)
theorem dL_law_911 : decode cL_law 911 = .ok (.iload 4, 2) := dq_op21 (dq_at (j := 148) dk_29c_1 rfl rfl) (dq_at (j := 149) dk_29c_1 rfl rfl) rfl
theorem dL_law_913 : decode cL_law 913 = .ok (.iconst 1, 1) := dq_op4 (dq_at (j := 150) dk_29c_1 rfl rfl)
theorem dL_law_914 : decode cL_law 914 = .ok (.iadd, 1) := dq_op96 (dq_at (j := 151) dk_29c_1 rfl rfl)
theorem dL_law_915 : decode cL_law 915 = .ok (.iaload, 1) := dq_op46 (dq_at (j := 152) dk_29c_1 rfl rfl)
theorem dL_law_916 : decode cL_law 916 = .ok (.ifCond .eq 7, 3) := dq_op153 (dq_at (j := 153) dk_29c_1 rfl rfl) (dq_at (j := 154) dk_29c_1 rfl rfl) (dq_at (j := 155) dk_29c_1 rfl rfl) (by decide +kernel)
theorem dL_law_919 : decode cL_law 919 = .ok (.iconst 1, 1) := dq_op4 (dq_at (j := 156) dk_29c_1 rfl rfl)
theorem dk_29c_2 : (cL_law.data.toList.drop 920).take 135 = [167, 0, 4, 3, 42, 21, 4, 5, 96, 46, 45, 184, 0, 212, 54, 5, 44, 42, 21, 4, 4, 96, 46, 153, 0, 7, 4, 167, 0, 4, 3, 42, 21, 4, 5, 96, 46, 182, 0, 215, 54, 6, 44, 182, 0, 182, 21, 5, 159, 0, 5, 3, 172, 21, 5, 154, 0, 16, 45, 180, 0, 13, 21, 6, 133, 148, 153, 0, 5, 3, 172, 167, 10, 109, 43, 42, 21, 4, 4, 96, 46, 45, 184, 0, 216, 54, 5, 44, 42, 21, 4, 4, 96, 46, 182, 0, 218, 54, 6, 44, 182, 0, 182, 21, 5, 159, 0, 5, 3, 172, 21, 5, 154, 0, 16, 45, 180, 0, 13, 21, 6, 133, 148, 153, 0, 5, 3, 172, 167, 10, 52, 43, 42, 21, 4] := by decide +kernel
theorem dL_law_920 : decode cL_law 920 = .ok (.goto 4, 3) := dq_op167 (dq_at (j := 0) dk_29c_2 rfl rfl) (dq_at (j := 1) dk_29c_2 rfl rfl) (dq_at (j := 2) dk_29c_2 rfl rfl) (by decide +kernel)
theorem dL_law_923 : decode cL_law 923 = .ok (.iconst 0, 1) := dq_op3 (dq_at (j := 3) dk_29c_2 rfl rfl)
theorem dL_law_924 : decode cL_law 924 = .ok (.aload_n 0, 1) := dq_op42 (dq_at (j := 4) dk_29c_2 rfl rfl)
theorem dL_law_925 : decode cL_law 925 = .ok (.iload 4, 2) := dq_op21 (dq_at (j := 5) dk_29c_2 rfl rfl) (dq_at (j := 6) dk_29c_2 rfl rfl) rfl
theorem dL_law_927 : decode cL_law 927 = .ok (.iconst 2, 1) := dq_op5 (dq_at (j := 7) dk_29c_2 rfl rfl)
theorem dL_law_928 : decode cL_law 928 = .ok (.iadd, 1) := dq_op96 (dq_at (j := 8) dk_29c_2 rfl rfl)
theorem dL_law_929 : decode cL_law 929 = .ok (.iaload, 1) := dq_op46 (dq_at (j := 9) dk_29c_2 rfl rfl)
theorem dL_law_930 : decode cL_law 930 = .ok (.aload_n 3, 1) := dq_op45 (dq_at (j := 10) dk_29c_2 rfl rfl)
theorem dL_law_931 : decode cL_law 931 = .ok (.invokestatic 212, 3) := dq_op184 (dq_at (j := 11) dk_29c_2 rfl rfl) (dq_at (j := 12) dk_29c_2 rfl rfl) (dq_at (j := 13) dk_29c_2 rfl rfl) rfl
theorem dL_law_934 : decode cL_law 934 = .ok (.istore 5, 2) := dq_op54 (dq_at (j := 14) dk_29c_2 rfl rfl) (dq_at (j := 15) dk_29c_2 rfl rfl) rfl
theorem dL_law_936 : decode cL_law 936 = .ok (.aload_n 2, 1) := dq_op44 (dq_at (j := 16) dk_29c_2 rfl rfl)
theorem dL_law_937 : decode cL_law 937 = .ok (.aload_n 0, 1) := dq_op42 (dq_at (j := 17) dk_29c_2 rfl rfl)
theorem dL_law_938 : decode cL_law 938 = .ok (.iload 4, 2) := dq_op21 (dq_at (j := 18) dk_29c_2 rfl rfl) (dq_at (j := 19) dk_29c_2 rfl rfl) rfl
theorem dL_law_940 : decode cL_law 940 = .ok (.iconst 1, 1) := dq_op4 (dq_at (j := 20) dk_29c_2 rfl rfl)
theorem dL_law_941 : decode cL_law 941 = .ok (.iadd, 1) := dq_op96 (dq_at (j := 21) dk_29c_2 rfl rfl)
theorem dL_law_942 : decode cL_law 942 = .ok (.iaload, 1) := dq_op46 (dq_at (j := 22) dk_29c_2 rfl rfl)
theorem dL_law_943 : decode cL_law 943 = .ok (.ifCond .eq 7, 3) := dq_op153 (dq_at (j := 23) dk_29c_2 rfl rfl) (dq_at (j := 24) dk_29c_2 rfl rfl) (dq_at (j := 25) dk_29c_2 rfl rfl) (by decide +kernel)
theorem dL_law_946 : decode cL_law 946 = .ok (.iconst 1, 1) := dq_op4 (dq_at (j := 26) dk_29c_2 rfl rfl)
theorem dL_law_947 : decode cL_law 947 = .ok (.goto 4, 3) := dq_op167 (dq_at (j := 27) dk_29c_2 rfl rfl) (dq_at (j := 28) dk_29c_2 rfl rfl) (dq_at (j := 29) dk_29c_2 rfl rfl) (by decide +kernel)
theorem dL_law_950 : decode cL_law 950 = .ok (.iconst 0, 1) := dq_op3 (dq_at (j := 30) dk_29c_2 rfl rfl)
theorem dL_law_951 : decode cL_law 951 = .ok (.aload_n 0, 1) := dq_op42 (dq_at (j := 31) dk_29c_2 rfl rfl)
theorem dL_law_952 : decode cL_law 952 = .ok (.iload 4, 2) := dq_op21 (dq_at (j := 32) dk_29c_2 rfl rfl) (dq_at (j := 33) dk_29c_2 rfl rfl) rfl
theorem dL_law_954 : decode cL_law 954 = .ok (.iconst 2, 1) := dq_op5 (dq_at (j := 34) dk_29c_2 rfl rfl)
theorem dL_law_955 : decode cL_law 955 = .ok (.iadd, 1) := dq_op96 (dq_at (j := 35) dk_29c_2 rfl rfl)
theorem dL_law_956 : decode cL_law 956 = .ok (.iaload, 1) := dq_op46 (dq_at (j := 36) dk_29c_2 rfl rfl)
theorem dL_law_957 : decode cL_law 957 = .ok (.invokevirtual 215, 3) := dq_op182 (dq_at (j := 37) dk_29c_2 rfl rfl) (dq_at (j := 38) dk_29c_2 rfl rfl) (dq_at (j := 39) dk_29c_2 rfl rfl) rfl
theorem dL_law_960 : decode cL_law 960 = .ok (.istore 6, 2) := dq_op54 (dq_at (j := 40) dk_29c_2 rfl rfl) (dq_at (j := 41) dk_29c_2 rfl rfl) rfl
theorem dL_law_962 : decode cL_law 962 = .ok (.aload_n 2, 1) := dq_op44 (dq_at (j := 42) dk_29c_2 rfl rfl)
theorem dL_law_963 : decode cL_law 963 = .ok (.invokevirtual 182, 3) := dq_op182 (dq_at (j := 43) dk_29c_2 rfl rfl) (dq_at (j := 44) dk_29c_2 rfl rfl) (dq_at (j := 45) dk_29c_2 rfl rfl) rfl
theorem dL_law_966 : decode cL_law 966 = .ok (.iload 5, 2) := dq_op21 (dq_at (j := 46) dk_29c_2 rfl rfl) (dq_at (j := 47) dk_29c_2 rfl rfl) rfl
theorem dL_law_968 : decode cL_law 968 = .ok (.if_icmp .eq 5, 3) := dq_op159 (dq_at (j := 48) dk_29c_2 rfl rfl) (dq_at (j := 49) dk_29c_2 rfl rfl) (dq_at (j := 50) dk_29c_2 rfl rfl) (by decide +kernel)
theorem dL_law_971 : decode cL_law 971 = .ok (.iconst 0, 1) := dq_op3 (dq_at (j := 51) dk_29c_2 rfl rfl)
theorem dL_law_972 : decode cL_law 972 = .ok (.ireturn, 1) := dq_op172 (dq_at (j := 52) dk_29c_2 rfl rfl)
theorem dL_law_973 : decode cL_law 973 = .ok (.iload 5, 2) := dq_op21 (dq_at (j := 53) dk_29c_2 rfl rfl) (dq_at (j := 54) dk_29c_2 rfl rfl) rfl
theorem dL_law_975 : decode cL_law 975 = .ok (.ifCond .ne 16, 3) := dq_op154 (dq_at (j := 55) dk_29c_2 rfl rfl) (dq_at (j := 56) dk_29c_2 rfl rfl) (dq_at (j := 57) dk_29c_2 rfl rfl) (by decide +kernel)
theorem dL_law_978 : decode cL_law 978 = .ok (.aload_n 3, 1) := dq_op45 (dq_at (j := 58) dk_29c_2 rfl rfl)
theorem dL_law_979 : decode cL_law 979 = .ok (.getfield 13, 3) := dq_op180 (dq_at (j := 59) dk_29c_2 rfl rfl) (dq_at (j := 60) dk_29c_2 rfl rfl) (dq_at (j := 61) dk_29c_2 rfl rfl) rfl
theorem dL_law_982 : decode cL_law 982 = .ok (.iload 6, 2) := dq_op21 (dq_at (j := 62) dk_29c_2 rfl rfl) (dq_at (j := 63) dk_29c_2 rfl rfl) rfl
theorem dL_law_984 : decode cL_law 984 = .ok (.i2l, 1) := dq_op133 (dq_at (j := 64) dk_29c_2 rfl rfl)
theorem dL_law_985 : decode cL_law 985 = .ok (.lcmp, 1) := dq_op148 (dq_at (j := 65) dk_29c_2 rfl rfl)
theorem dL_law_986 : decode cL_law 986 = .ok (.ifCond .eq 5, 3) := dq_op153 (dq_at (j := 66) dk_29c_2 rfl rfl) (dq_at (j := 67) dk_29c_2 rfl rfl) (dq_at (j := 68) dk_29c_2 rfl rfl) (by decide +kernel)
theorem dL_law_989 : decode cL_law 989 = .ok (.iconst 0, 1) := dq_op3 (dq_at (j := 69) dk_29c_2 rfl rfl)
theorem dL_law_990 : decode cL_law 990 = .ok (.ireturn, 1) := dq_op172 (dq_at (j := 70) dk_29c_2 rfl rfl)
theorem dL_law_991 : decode cL_law 991 = .ok (.goto 2669, 3) := dq_op167 (dq_at (j := 71) dk_29c_2 rfl rfl) (dq_at (j := 72) dk_29c_2 rfl rfl) (dq_at (j := 73) dk_29c_2 rfl rfl) (by decide +kernel)
theorem dL_law_994 : decode cL_law 994 = .ok (.aload_n 1, 1) := dq_op43 (dq_at (j := 74) dk_29c_2 rfl rfl)
theorem dL_law_995 : decode cL_law 995 = .ok (.aload_n 0, 1) := dq_op42 (dq_at (j := 75) dk_29c_2 rfl rfl)
theorem dL_law_996 : decode cL_law 996 = .ok (.iload 4, 2) := dq_op21 (dq_at (j := 76) dk_29c_2 rfl rfl) (dq_at (j := 77) dk_29c_2 rfl rfl) rfl
theorem dL_law_998 : decode cL_law 998 = .ok (.iconst 1, 1) := dq_op4 (dq_at (j := 78) dk_29c_2 rfl rfl)
theorem dL_law_999 : decode cL_law 999 = .ok (.iadd, 1) := dq_op96 (dq_at (j := 79) dk_29c_2 rfl rfl)
theorem dL_law_1000 : decode cL_law 1000 = .ok (.iaload, 1) := dq_op46 (dq_at (j := 80) dk_29c_2 rfl rfl)
theorem dL_law_1001 : decode cL_law 1001 = .ok (.aload_n 3, 1) := dq_op45 (dq_at (j := 81) dk_29c_2 rfl rfl)
theorem dL_law_1002 : decode cL_law 1002 = .ok (.invokestatic 216, 3) := dq_op184 (dq_at (j := 82) dk_29c_2 rfl rfl) (dq_at (j := 83) dk_29c_2 rfl rfl) (dq_at (j := 84) dk_29c_2 rfl rfl) rfl
theorem dL_law_1005 : decode cL_law 1005 = .ok (.istore 5, 2) := dq_op54 (dq_at (j := 85) dk_29c_2 rfl rfl) (dq_at (j := 86) dk_29c_2 rfl rfl) rfl
theorem dL_law_1007 : decode cL_law 1007 = .ok (.aload_n 2, 1) := dq_op44 (dq_at (j := 87) dk_29c_2 rfl rfl)
theorem dL_law_1008 : decode cL_law 1008 = .ok (.aload_n 0, 1) := dq_op42 (dq_at (j := 88) dk_29c_2 rfl rfl)
theorem dL_law_1009 : decode cL_law 1009 = .ok (.iload 4, 2) := dq_op21 (dq_at (j := 89) dk_29c_2 rfl rfl) (dq_at (j := 90) dk_29c_2 rfl rfl) rfl
theorem dL_law_1011 : decode cL_law 1011 = .ok (.iconst 1, 1) := dq_op4 (dq_at (j := 91) dk_29c_2 rfl rfl)
theorem dL_law_1012 : decode cL_law 1012 = .ok (.iadd, 1) := dq_op96 (dq_at (j := 92) dk_29c_2 rfl rfl)
theorem dL_law_1013 : decode cL_law 1013 = .ok (.iaload, 1) := dq_op46 (dq_at (j := 93) dk_29c_2 rfl rfl)
theorem dL_law_1014 : decode cL_law 1014 = .ok (.invokevirtual 218, 3) := dq_op182 (dq_at (j := 94) dk_29c_2 rfl rfl) (dq_at (j := 95) dk_29c_2 rfl rfl) (dq_at (j := 96) dk_29c_2 rfl rfl) rfl
theorem dL_law_1017 : decode cL_law 1017 = .ok (.istore 6, 2) := dq_op54 (dq_at (j := 97) dk_29c_2 rfl rfl) (dq_at (j := 98) dk_29c_2 rfl rfl) rfl
theorem dL_law_1019 : decode cL_law 1019 = .ok (.aload_n 2, 1) := dq_op44 (dq_at (j := 99) dk_29c_2 rfl rfl)
theorem dL_law_1020 : decode cL_law 1020 = .ok (.invokevirtual 182, 3) := dq_op182 (dq_at (j := 100) dk_29c_2 rfl rfl) (dq_at (j := 101) dk_29c_2 rfl rfl) (dq_at (j := 102) dk_29c_2 rfl rfl) rfl
theorem dL_law_1023 : decode cL_law 1023 = .ok (.iload 5, 2) := dq_op21 (dq_at (j := 103) dk_29c_2 rfl rfl) (dq_at (j := 104) dk_29c_2 rfl rfl) rfl
theorem dL_law_1025 : decode cL_law 1025 = .ok (.if_icmp .eq 5, 3) := dq_op159 (dq_at (j := 105) dk_29c_2 rfl rfl) (dq_at (j := 106) dk_29c_2 rfl rfl) (dq_at (j := 107) dk_29c_2 rfl rfl) (by decide +kernel)
theorem dL_law_1028 : decode cL_law 1028 = .ok (.iconst 0, 1) := dq_op3 (dq_at (j := 108) dk_29c_2 rfl rfl)
theorem dL_law_1029 : decode cL_law 1029 = .ok (.ireturn, 1) := dq_op172 (dq_at (j := 109) dk_29c_2 rfl rfl)
theorem dL_law_1030 : decode cL_law 1030 = .ok (.iload 5, 2) := dq_op21 (dq_at (j := 110) dk_29c_2 rfl rfl) (dq_at (j := 111) dk_29c_2 rfl rfl) rfl
theorem dL_law_1032 : decode cL_law 1032 = .ok (.ifCond .ne 16, 3) := dq_op154 (dq_at (j := 112) dk_29c_2 rfl rfl) (dq_at (j := 113) dk_29c_2 rfl rfl) (dq_at (j := 114) dk_29c_2 rfl rfl) (by decide +kernel)
theorem dL_law_1035 : decode cL_law 1035 = .ok (.aload_n 3, 1) := dq_op45 (dq_at (j := 115) dk_29c_2 rfl rfl)
theorem dL_law_1036 : decode cL_law 1036 = .ok (.getfield 13, 3) := dq_op180 (dq_at (j := 116) dk_29c_2 rfl rfl) (dq_at (j := 117) dk_29c_2 rfl rfl) (dq_at (j := 118) dk_29c_2 rfl rfl) rfl
theorem dL_law_1039 : decode cL_law 1039 = .ok (.iload 6, 2) := dq_op21 (dq_at (j := 119) dk_29c_2 rfl rfl) (dq_at (j := 120) dk_29c_2 rfl rfl) rfl
theorem dL_law_1041 : decode cL_law 1041 = .ok (.i2l, 1) := dq_op133 (dq_at (j := 121) dk_29c_2 rfl rfl)
theorem dL_law_1042 : decode cL_law 1042 = .ok (.lcmp, 1) := dq_op148 (dq_at (j := 122) dk_29c_2 rfl rfl)
theorem dL_law_1043 : decode cL_law 1043 = .ok (.ifCond .eq 5, 3) := dq_op153 (dq_at (j := 123) dk_29c_2 rfl rfl) (dq_at (j := 124) dk_29c_2 rfl rfl) (dq_at (j := 125) dk_29c_2 rfl rfl) (by decide +kernel)
theorem dL_law_1046 : decode cL_law 1046 = .ok (.iconst 0, 1) := dq_op3 (dq_at (j := 126) dk_29c_2 rfl rfl)
theorem dL_law_1047 : decode cL_law 1047 = .ok (.ireturn, 1) := dq_op172 (dq_at (j := 127) dk_29c_2 rfl rfl)
theorem dL_law_1048 : decode cL_law 1048 = .ok (.goto 2612, 3) := dq_op167 (dq_at (j := 128) dk_29c_2 rfl rfl) (dq_at (j := 129) dk_29c_2 rfl rfl) (dq_at (j := 130) dk_29c_2 rfl rfl) (by decide +kernel)
theorem dL_law_1051 : decode cL_law 1051 = .ok (.aload_n 1, 1) := dq_op43 (dq_at (j := 131) dk_29c_2 rfl rfl)
theorem dL_law_1052 : decode cL_law 1052 = .ok (.aload_n 0, 1) := dq_op42 (dq_at (j := 132) dk_29c_2 rfl rfl)
noncomputable def dq_end_29c : Nat := 0
theorem dk_29d_1 : (cL_law.data.toList.drop 1053).take 159 = [21, 4, 4, 96, 46, 45, 184, 0, 219, 54, 5, 44, 42, 21, 4, 4, 96, 46, 182, 0, 221, 54, 6, 44, 182, 0, 182, 21, 5, 159, 0, 5, 3, 172, 21, 5, 154, 0, 16, 45, 180, 0, 13, 21, 6, 133, 148, 153, 0, 5, 3, 172, 167, 9, 251, 43, 42, 21, 4, 4, 96, 46, 45, 184, 0, 222, 54, 5, 44, 42, 21, 4, 4, 96, 46, 182, 0, 224, 58, 6, 44, 182, 0, 182, 21, 5, 159, 0, 5, 3, 172, 21, 5, 154, 0, 17, 45, 180, 0, 63, 25, 6, 182, 0, 225, 154, 0, 5, 3, 172, 167, 9, 193, 43, 42, 21, 4, 4, 96, 46, 42, 21, 4, 5, 96, 46, 42, 21, 4, 6, 96, 46, 45, 184, 0, 231, 54, 5, 44, 42, 21, 4, 4, 96, 46, 42, 21, 4, 5, 96, 46, 42, 21, 4, 6, 96, 46, 182, 0] := by decide +kernel
theorem dL_law_1053 : decode cL_law 1053 = .ok (.iload 4, 2) := dq_op21 (dq_at (j := 0) dk_29d_1 rfl rfl) (dq_at (j := 1) dk_29d_1 rfl rfl) rfl
theorem dL_law_1055 : decode cL_law 1055 = .ok (.iconst 1, 1) := dq_op4 (dq_at (j := 2) dk_29d_1 rfl rfl)
theorem dL_law_1056 : decode cL_law 1056 = .ok (.iadd, 1) := dq_op96 (dq_at (j := 3) dk_29d_1 rfl rfl)
theorem dL_law_1057 : decode cL_law 1057 = .ok (.iaload, 1) := dq_op46 (dq_at (j := 4) dk_29d_1 rfl rfl)
theorem dL_law_1058 : decode cL_law 1058 = .ok (.aload_n 3, 1) := dq_op45 (dq_at (j := 5) dk_29d_1 rfl rfl)
theorem dL_law_1059 : decode cL_law 1059 = .ok (.invokestatic 219, 3) := dq_op184 (dq_at (j := 6) dk_29d_1 rfl rfl) (dq_at (j := 7) dk_29d_1 rfl rfl) (dq_at (j := 8) dk_29d_1 rfl rfl) rfl
theorem dL_law_1062 : decode cL_law 1062 = .ok (.istore 5, 2) := dq_op54 (dq_at (j := 9) dk_29d_1 rfl rfl) (dq_at (j := 10) dk_29d_1 rfl rfl) rfl
theorem dL_law_1064 : decode cL_law 1064 = .ok (.aload_n 2, 1) := dq_op44 (dq_at (j := 11) dk_29d_1 rfl rfl)
theorem dL_law_1065 : decode cL_law 1065 = .ok (.aload_n 0, 1) := dq_op42 (dq_at (j := 12) dk_29d_1 rfl rfl)
theorem dL_law_1066 : decode cL_law 1066 = .ok (.iload 4, 2) := dq_op21 (dq_at (j := 13) dk_29d_1 rfl rfl) (dq_at (j := 14) dk_29d_1 rfl rfl) rfl
theorem dL_law_1068 : decode cL_law 1068 = .ok (.iconst 1, 1) := dq_op4 (dq_at (j := 15) dk_29d_1 rfl rfl)
theorem dL_law_1069 : decode cL_law 1069 = .ok (.iadd, 1) := dq_op96 (dq_at (j := 16) dk_29d_1 rfl rfl)
theorem dL_law_1070 : decode cL_law 1070 = .ok (.iaload, 1) := dq_op46 (dq_at (j := 17) dk_29d_1 rfl rfl)
theorem dL_law_1071 : decode cL_law 1071 = .ok (.invokevirtual 221, 3) := dq_op182 (dq_at (j := 18) dk_29d_1 rfl rfl) (dq_at (j := 19) dk_29d_1 rfl rfl) (dq_at (j := 20) dk_29d_1 rfl rfl) rfl
theorem dL_law_1074 : decode cL_law 1074 = .ok (.istore 6, 2) := dq_op54 (dq_at (j := 21) dk_29d_1 rfl rfl) (dq_at (j := 22) dk_29d_1 rfl rfl) rfl
theorem dL_law_1076 : decode cL_law 1076 = .ok (.aload_n 2, 1) := dq_op44 (dq_at (j := 23) dk_29d_1 rfl rfl)
theorem dL_law_1077 : decode cL_law 1077 = .ok (.invokevirtual 182, 3) := dq_op182 (dq_at (j := 24) dk_29d_1 rfl rfl) (dq_at (j := 25) dk_29d_1 rfl rfl) (dq_at (j := 26) dk_29d_1 rfl rfl) rfl
theorem dL_law_1080 : decode cL_law 1080 = .ok (.iload 5, 2) := dq_op21 (dq_at (j := 27) dk_29d_1 rfl rfl) (dq_at (j := 28) dk_29d_1 rfl rfl) rfl
theorem dL_law_1082 : decode cL_law 1082 = .ok (.if_icmp .eq 5, 3) := dq_op159 (dq_at (j := 29) dk_29d_1 rfl rfl) (dq_at (j := 30) dk_29d_1 rfl rfl) (dq_at (j := 31) dk_29d_1 rfl rfl) (by decide +kernel)
theorem dL_law_1085 : decode cL_law 1085 = .ok (.iconst 0, 1) := dq_op3 (dq_at (j := 32) dk_29d_1 rfl rfl)
theorem dL_law_1086 : decode cL_law 1086 = .ok (.ireturn, 1) := dq_op172 (dq_at (j := 33) dk_29d_1 rfl rfl)
theorem dL_law_1087 : decode cL_law 1087 = .ok (.iload 5, 2) := dq_op21 (dq_at (j := 34) dk_29d_1 rfl rfl) (dq_at (j := 35) dk_29d_1 rfl rfl) rfl
theorem dL_law_1089 : decode cL_law 1089 = .ok (.ifCond .ne 16, 3) := dq_op154 (dq_at (j := 36) dk_29d_1 rfl rfl) (dq_at (j := 37) dk_29d_1 rfl rfl) (dq_at (j := 38) dk_29d_1 rfl rfl) (by decide +kernel)
theorem dL_law_1092 : decode cL_law 1092 = .ok (.aload_n 3, 1) := dq_op45 (dq_at (j := 39) dk_29d_1 rfl rfl)
theorem dL_law_1093 : decode cL_law 1093 = .ok (.getfield 13, 3) := dq_op180 (dq_at (j := 40) dk_29d_1 rfl rfl) (dq_at (j := 41) dk_29d_1 rfl rfl) (dq_at (j := 42) dk_29d_1 rfl rfl) rfl
theorem dL_law_1096 : decode cL_law 1096 = .ok (.iload 6, 2) := dq_op21 (dq_at (j := 43) dk_29d_1 rfl rfl) (dq_at (j := 44) dk_29d_1 rfl rfl) rfl
theorem dL_law_1098 : decode cL_law 1098 = .ok (.i2l, 1) := dq_op133 (dq_at (j := 45) dk_29d_1 rfl rfl)
theorem dL_law_1099 : decode cL_law 1099 = .ok (.lcmp, 1) := dq_op148 (dq_at (j := 46) dk_29d_1 rfl rfl)
theorem dL_law_1100 : decode cL_law 1100 = .ok (.ifCond .eq 5, 3) := dq_op153 (dq_at (j := 47) dk_29d_1 rfl rfl) (dq_at (j := 48) dk_29d_1 rfl rfl) (dq_at (j := 49) dk_29d_1 rfl rfl) (by decide +kernel)
theorem dL_law_1103 : decode cL_law 1103 = .ok (.iconst 0, 1) := dq_op3 (dq_at (j := 50) dk_29d_1 rfl rfl)
theorem dL_law_1104 : decode cL_law 1104 = .ok (.ireturn, 1) := dq_op172 (dq_at (j := 51) dk_29d_1 rfl rfl)
theorem dL_law_1105 : decode cL_law 1105 = .ok (.goto 2555, 3) := dq_op167 (dq_at (j := 52) dk_29d_1 rfl rfl) (dq_at (j := 53) dk_29d_1 rfl rfl) (dq_at (j := 54) dk_29d_1 rfl rfl) (by decide +kernel)
theorem dL_law_1108 : decode cL_law 1108 = .ok (.aload_n 1, 1) := dq_op43 (dq_at (j := 55) dk_29d_1 rfl rfl)
theorem dL_law_1109 : decode cL_law 1109 = .ok (.aload_n 0, 1) := dq_op42 (dq_at (j := 56) dk_29d_1 rfl rfl)
theorem dL_law_1110 : decode cL_law 1110 = .ok (.iload 4, 2) := dq_op21 (dq_at (j := 57) dk_29d_1 rfl rfl) (dq_at (j := 58) dk_29d_1 rfl rfl) rfl
theorem dL_law_1112 : decode cL_law 1112 = .ok (.iconst 1, 1) := dq_op4 (dq_at (j := 59) dk_29d_1 rfl rfl)
theorem dL_law_1113 : decode cL_law 1113 = .ok (.iadd, 1) := dq_op96 (dq_at (j := 60) dk_29d_1 rfl rfl)
theorem dL_law_1114 : decode cL_law 1114 = .ok (.iaload, 1) := dq_op46 (dq_at (j := 61) dk_29d_1 rfl rfl)
theorem dL_law_1115 : decode cL_law 1115 = .ok (.aload_n 3, 1) := dq_op45 (dq_at (j := 62) dk_29d_1 rfl rfl)
theorem dL_law_1116 : decode cL_law 1116 = .ok (.invokestatic 222, 3) := dq_op184 (dq_at (j := 63) dk_29d_1 rfl rfl) (dq_at (j := 64) dk_29d_1 rfl rfl) (dq_at (j := 65) dk_29d_1 rfl rfl) rfl
theorem dL_law_1119 : decode cL_law 1119 = .ok (.istore 5, 2) := dq_op54 (dq_at (j := 66) dk_29d_1 rfl rfl) (dq_at (j := 67) dk_29d_1 rfl rfl) rfl
theorem dL_law_1121 : decode cL_law 1121 = .ok (.aload_n 2, 1) := dq_op44 (dq_at (j := 68) dk_29d_1 rfl rfl)
theorem dL_law_1122 : decode cL_law 1122 = .ok (.aload_n 0, 1) := dq_op42 (dq_at (j := 69) dk_29d_1 rfl rfl)
theorem dL_law_1123 : decode cL_law 1123 = .ok (.iload 4, 2) := dq_op21 (dq_at (j := 70) dk_29d_1 rfl rfl) (dq_at (j := 71) dk_29d_1 rfl rfl) rfl
theorem dL_law_1125 : decode cL_law 1125 = .ok (.iconst 1, 1) := dq_op4 (dq_at (j := 72) dk_29d_1 rfl rfl)
theorem dL_law_1126 : decode cL_law 1126 = .ok (.iadd, 1) := dq_op96 (dq_at (j := 73) dk_29d_1 rfl rfl)
theorem dL_law_1127 : decode cL_law 1127 = .ok (.iaload, 1) := dq_op46 (dq_at (j := 74) dk_29d_1 rfl rfl)
theorem dL_law_1128 : decode cL_law 1128 = .ok (.invokevirtual 224, 3) := dq_op182 (dq_at (j := 75) dk_29d_1 rfl rfl) (dq_at (j := 76) dk_29d_1 rfl rfl) (dq_at (j := 77) dk_29d_1 rfl rfl) rfl
theorem dL_law_1131 : decode cL_law 1131 = .ok (.astore 6, 2) := dq_op58 (dq_at (j := 78) dk_29d_1 rfl rfl) (dq_at (j := 79) dk_29d_1 rfl rfl) rfl
theorem dL_law_1133 : decode cL_law 1133 = .ok (.aload_n 2, 1) := dq_op44 (dq_at (j := 80) dk_29d_1 rfl rfl)
theorem dL_law_1134 : decode cL_law 1134 = .ok (.invokevirtual 182, 3) := dq_op182 (dq_at (j := 81) dk_29d_1 rfl rfl) (dq_at (j := 82) dk_29d_1 rfl rfl) (dq_at (j := 83) dk_29d_1 rfl rfl) rfl
theorem dL_law_1137 : decode cL_law 1137 = .ok (.iload 5, 2) := dq_op21 (dq_at (j := 84) dk_29d_1 rfl rfl) (dq_at (j := 85) dk_29d_1 rfl rfl) rfl
theorem dL_law_1139 : decode cL_law 1139 = .ok (.if_icmp .eq 5, 3) := dq_op159 (dq_at (j := 86) dk_29d_1 rfl rfl) (dq_at (j := 87) dk_29d_1 rfl rfl) (dq_at (j := 88) dk_29d_1 rfl rfl) (by decide +kernel)
theorem dL_law_1142 : decode cL_law 1142 = .ok (.iconst 0, 1) := dq_op3 (dq_at (j := 89) dk_29d_1 rfl rfl)
theorem dL_law_1143 : decode cL_law 1143 = .ok (.ireturn, 1) := dq_op172 (dq_at (j := 90) dk_29d_1 rfl rfl)
theorem dL_law_1144 : decode cL_law 1144 = .ok (.iload 5, 2) := dq_op21 (dq_at (j := 91) dk_29d_1 rfl rfl) (dq_at (j := 92) dk_29d_1 rfl rfl) rfl
theorem dL_law_1146 : decode cL_law 1146 = .ok (.ifCond .ne 17, 3) := dq_op154 (dq_at (j := 93) dk_29d_1 rfl rfl) (dq_at (j := 94) dk_29d_1 rfl rfl) (dq_at (j := 95) dk_29d_1 rfl rfl) (by decide +kernel)
theorem dL_law_1149 : decode cL_law 1149 = .ok (.aload_n 3, 1) := dq_op45 (dq_at (j := 96) dk_29d_1 rfl rfl)
theorem dL_law_1150 : decode cL_law 1150 = .ok (.getfield 63, 3) := dq_op180 (dq_at (j := 97) dk_29d_1 rfl rfl) (dq_at (j := 98) dk_29d_1 rfl rfl) (dq_at (j := 99) dk_29d_1 rfl rfl) rfl
theorem dL_law_1153 : decode cL_law 1153 = .ok (.aload 6, 2) := dq_op25 (dq_at (j := 100) dk_29d_1 rfl rfl) (dq_at (j := 101) dk_29d_1 rfl rfl) rfl
theorem dL_law_1155 : decode cL_law 1155 = .ok (.invokevirtual 225, 3) := dq_op182 (dq_at (j := 102) dk_29d_1 rfl rfl) (dq_at (j := 103) dk_29d_1 rfl rfl) (dq_at (j := 104) dk_29d_1 rfl rfl) rfl
theorem dL_law_1158 : decode cL_law 1158 = .ok (.ifCond .ne 5, 3) := dq_op154 (dq_at (j := 105) dk_29d_1 rfl rfl) (dq_at (j := 106) dk_29d_1 rfl rfl) (dq_at (j := 107) dk_29d_1 rfl rfl) (by decide +kernel)
theorem dL_law_1161 : decode cL_law 1161 = .ok (.iconst 0, 1) := dq_op3 (dq_at (j := 108) dk_29d_1 rfl rfl)
theorem dL_law_1162 : decode cL_law 1162 = .ok (.ireturn, 1) := dq_op172 (dq_at (j := 109) dk_29d_1 rfl rfl)
theorem dL_law_1163 : decode cL_law 1163 = .ok (.goto 2497, 3) := dq_op167 (dq_at (j := 110) dk_29d_1 rfl rfl) (dq_at (j := 111) dk_29d_1 rfl rfl) (dq_at (j := 112) dk_29d_1 rfl rfl) (by decide +kernel)
theorem dL_law_1166 : decode cL_law 1166 = .ok (.aload_n 1, 1) := dq_op43 (dq_at (j := 113) dk_29d_1 rfl rfl)
theorem dL_law_1167 : decode cL_law 1167 = .ok (.aload_n 0, 1) := dq_op42 (dq_at (j := 114) dk_29d_1 rfl rfl)
theorem dL_law_1168 : decode cL_law 1168 = .ok (.iload 4, 2) := dq_op21 (dq_at (j := 115) dk_29d_1 rfl rfl) (dq_at (j := 116) dk_29d_1 rfl rfl) rfl
theorem dL_law_1170 : decode cL_law 1170 = .ok (.iconst 1, 1) := dq_op4 (dq_at (j := 117) dk_29d_1 rfl rfl)
theorem dL_law_1171 : decode cL_law 1171 = .ok (.iadd, 1) := dq_op96 (dq_at (j := 118) dk_29d_1 rfl rfl)
theorem dL_law_1172 : decode cL_law 1172 = .ok (.iaload, 1) := dq_op46 (dq_at (j := 119) dk_29d_1 rfl rfl)
theorem dL_law_1173 : decode cL_law 1173 = .ok (.aload_n 0, 1) := dq_op42 (dq_at (j := 120) dk_29d_1 rfl rfl)
theorem dL_law_1174 : decode cL_law 1174 = .ok (.iload 4, 2) := dq_op21 (dq_at (j := 121) dk_29d_1 rfl rfl) (dq_at (j := 122) dk_29d_1 rfl rfl) rfl
theorem dL_law_1176 : decode cL_law 1176 = .ok (.iconst 2, 1) := dq_op5 (dq_at (j := 123) dk_29d_1 rfl rfl)
theorem dL_law_1177 : decode cL_law 1177 = .ok (.iadd, 1) := dq_op96 (dq_at (j := 124) dk_29d_1 rfl rfl)
theorem dL_law_1178 : decode cL_law 1178 = .ok (.iaload, 1) := dq_op46 (dq_at (j := 125) dk_29d_1 rfl rfl)
theorem dL_law_1179 : decode cL_law 1179 = .ok (.aload_n 0, 1) := dq_op42 (dq_at (j := 126) dk_29d_1 rfl rfl)
theorem dL_law_1180 : decode cL_law 1180 = .ok (.iload 4, 2) := dq_op21 (dq_at (j := 127) dk_29d_1 rfl rfl) (dq_at (j := 128) dk_29d_1 rfl rfl) rfl
theorem dL_law_1182 : decode cL_law 1182 = .ok (.iconst 3, 1) := dq_op6 (dq_at (j := 129) dk_29d_1 rfl rfl)
theorem dL_law_1183 : decode cL_law 1183 = .ok (.iadd, 1) := dq_op96 (dq_at (j := 130) dk_29d_1 rfl rfl)
theorem dL_law_1184 : decode cL_law 1184 = .ok (.iaload, 1) := dq_op46 (dq_at (j := 131) dk_29d_1 rfl rfl)
theorem dL_law_1185 : decode cL_law 1185 = .ok (.aload_n 3, 1) := dq_op45 (dq_at (j := 132) dk_29d_1 rfl rfl)
theorem dL_law_1186 : decode cL_law 1186 = .ok (.invokestatic 231, 3) := dq_op184 (dq_at (j := 133) dk_29d_1 rfl rfl) (dq_at (j := 134) dk_29d_1 rfl rfl) (dq_at (j := 135) dk_29d_1 rfl rfl) rfl
theorem dL_law_1189 : decode cL_law 1189 = .ok (.istore 5, 2) := dq_op54 (dq_at (j := 136) dk_29d_1 rfl rfl) (dq_at (j := 137) dk_29d_1 rfl rfl) rfl
theorem dL_law_1191 : decode cL_law 1191 = .ok (.aload_n 2, 1) := dq_op44 (dq_at (j := 138) dk_29d_1 rfl rfl)
theorem dL_law_1192 : decode cL_law 1192 = .ok (.aload_n 0, 1) := dq_op42 (dq_at (j := 139) dk_29d_1 rfl rfl)
theorem dL_law_1193 : decode cL_law 1193 = .ok (.iload 4, 2) := dq_op21 (dq_at (j := 140) dk_29d_1 rfl rfl) (dq_at (j := 141) dk_29d_1 rfl rfl) rfl
theorem dL_law_1195 : decode cL_law 1195 = .ok (.iconst 1, 1) := dq_op4 (dq_at (j := 142) dk_29d_1 rfl rfl)
theorem dL_law_1196 : decode cL_law 1196 = .ok (.iadd, 1) := dq_op96 (dq_at (j := 143) dk_29d_1 rfl rfl)
theorem dL_law_1197 : decode cL_law 1197 = .ok (.iaload, 1) := dq_op46 (dq_at (j := 144) dk_29d_1 rfl rfl)
theorem dL_law_1198 : decode cL_law 1198 = .ok (.aload_n 0, 1) := dq_op42 (dq_at (j := 145) dk_29d_1 rfl rfl)
theorem dL_law_1199 : decode cL_law 1199 = .ok (.iload 4, 2) := dq_op21 (dq_at (j := 146) dk_29d_1 rfl rfl) (dq_at (j := 147) dk_29d_1 rfl rfl) rfl
theorem dL_law_1201 : decode cL_law 1201 = .ok (.iconst 2, 1) := dq_op5 (dq_at (j := 148) dk_29d_1 rfl rfl)
theorem dL_law_1202 : decode cL_law 1202 = .ok (.iadd, 1) := dq_op96 (dq_at (j := 149) dk_29d_1 rfl rfl)
theorem dL_law_1203 : decode cL_law 1203 = .ok (.iaload, 1) := dq_op46 (dq_at (j := 150) dk_29d_1 rfl rfl)
theorem dL_law_1204 : decode cL_law 1204 = .ok (.aload_n 0, 1) := dq_op42 (dq_at (j := 151) dk_29d_1 rfl rfl)
theorem dL_law_1205 : decode cL_law 1205 = .ok (.iload 4, 2) := dq_op21 (dq_at (j := 152) dk_29d_1 rfl rfl) (dq_at (j := 153) dk_29d_1 rfl rfl) rfl
theorem dL_law_1207 : decode cL_law 1207 = .ok (.iconst 3, 1) := dq_op6 (dq_at (j := 154) dk_29d_1 rfl rfl)
theorem dL_law_1208 : decode cL_law 1208 = .ok (.iadd, 1) := dq_op96 (dq_at (j := 155) dk_29d_1 rfl rfl)
theorem dL_law_1209 : decode cL_law 1209 = .ok (.iaload, 1) := dq_op46 (dq_at (j := 156) dk_29d_1 rfl rfl)
theorem dk_29d_2 : (cL_law.data.toList.drop 1210).take 132 = [182, 0, 233, 54, 6, 44, 182, 0, 182, 21, 5, 159, 0, 5, 3, 172, 21, 5, 154, 0, 16, 45, 180, 0, 13, 21, 6, 133, 148, 153, 0, 5, 3, 172, 167, 9, 112, 43, 42, 21, 4, 4, 96, 46, 42, 21, 4, 5, 96, 46, 42, 21, 4, 6, 96, 46, 45, 184, 0, 234, 54, 5, 44, 42, 21, 4, 4, 96, 46, 42, 21, 4, 5, 96, 46, 42, 21, 4, 6, 96, 46, 182, 0, 236, 54, 6, 44, 182, 0, 182, 21, 5, 159, 0, 5, 3, 172, 21, 5, 154, 0, 23, 45, 180, 0, 13, 21, 6, 153, 0, 7, 10, 167, 0, 4, 9, 148, 153, 0, 5, 3, 172, 167, 9, 24, 43, 42, 21, 4, 4, 96, 46] := by decide +kernel
theorem dL_law_1210 : decode cL_law 1210 = .ok (.invokevirtual 233, 3) := dq_op182 (dq_at (j := 0) dk_29d_2 rfl rfl) (dq_at (j := 1) dk_29d_2 rfl rfl) (dq_at (j := 2) dk_29d_2 rfl rfl) rfl
theorem dL_law_1213 : decode cL_law 1213 = .ok (.istore 6, 2) := dq_op54 (dq_at (j := 3) dk_29d_2 rfl rfl) (dq_at (j := 4) dk_29d_2 rfl rfl) rfl
theorem dL_law_1215 : decode cL_law 1215 = .ok (.aload_n 2, 1) := dq_op44 (dq_at (j := 5) dk_29d_2 rfl rfl)
theorem dL_law_1216 : decode cL_law 1216 = .ok (.invokevirtual 182, 3) := dq_op182 (dq_at (j := 6) dk_29d_2 rfl rfl) (dq_at (j := 7) dk_29d_2 rfl rfl) (dq_at (j := 8) dk_29d_2 rfl rfl) rfl
theorem dL_law_1219 : decode cL_law 1219 = .ok (.iload 5, 2) := dq_op21 (dq_at (j := 9) dk_29d_2 rfl rfl) (dq_at (j := 10) dk_29d_2 rfl rfl) rfl
theorem dL_law_1221 : decode cL_law 1221 = .ok (.if_icmp .eq 5, 3) := dq_op159 (dq_at (j := 11) dk_29d_2 rfl rfl) (dq_at (j := 12) dk_29d_2 rfl rfl) (dq_at (j := 13) dk_29d_2 rfl rfl) (by decide +kernel)
theorem dL_law_1224 : decode cL_law 1224 = .ok (.iconst 0, 1) := dq_op3 (dq_at (j := 14) dk_29d_2 rfl rfl)
theorem dL_law_1225 : decode cL_law 1225 = .ok (.ireturn, 1) := dq_op172 (dq_at (j := 15) dk_29d_2 rfl rfl)
theorem dL_law_1226 : decode cL_law 1226 = .ok (.iload 5, 2) := dq_op21 (dq_at (j := 16) dk_29d_2 rfl rfl) (dq_at (j := 17) dk_29d_2 rfl rfl) rfl
theorem dL_law_1228 : decode cL_law 1228 = .ok (.ifCond .ne 16, 3) := dq_op154 (dq_at (j := 18) dk_29d_2 rfl rfl) (dq_at (j := 19) dk_29d_2 rfl rfl) (dq_at (j := 20) dk_29d_2 rfl rfl) (by decide +kernel)
theorem dL_law_1231 : decode cL_law 1231 = .ok (.aload_n 3, 1) := dq_op45 (dq_at (j := 21) dk_29d_2 rfl rfl)
theorem dL_law_1232 : decode cL_law 1232 = .ok (.getfield 13, 3) := dq_op180 (dq_at (j := 22) dk_29d_2 rfl rfl) (dq_at (j := 23) dk_29d_2 rfl rfl) (dq_at (j := 24) dk_29d_2 rfl rfl) rfl
theorem dL_law_1235 : decode cL_law 1235 = .ok (.iload 6, 2) := dq_op21 (dq_at (j := 25) dk_29d_2 rfl rfl) (dq_at (j := 26) dk_29d_2 rfl rfl) rfl
theorem dL_law_1237 : decode cL_law 1237 = .ok (.i2l, 1) := dq_op133 (dq_at (j := 27) dk_29d_2 rfl rfl)
theorem dL_law_1238 : decode cL_law 1238 = .ok (.lcmp, 1) := dq_op148 (dq_at (j := 28) dk_29d_2 rfl rfl)
theorem dL_law_1239 : decode cL_law 1239 = .ok (.ifCond .eq 5, 3) := dq_op153 (dq_at (j := 29) dk_29d_2 rfl rfl) (dq_at (j := 30) dk_29d_2 rfl rfl) (dq_at (j := 31) dk_29d_2 rfl rfl) (by decide +kernel)
theorem dL_law_1242 : decode cL_law 1242 = .ok (.iconst 0, 1) := dq_op3 (dq_at (j := 32) dk_29d_2 rfl rfl)
theorem dL_law_1243 : decode cL_law 1243 = .ok (.ireturn, 1) := dq_op172 (dq_at (j := 33) dk_29d_2 rfl rfl)
theorem dL_law_1244 : decode cL_law 1244 = .ok (.goto 2416, 3) := dq_op167 (dq_at (j := 34) dk_29d_2 rfl rfl) (dq_at (j := 35) dk_29d_2 rfl rfl) (dq_at (j := 36) dk_29d_2 rfl rfl) (by decide +kernel)
theorem dL_law_1247 : decode cL_law 1247 = .ok (.aload_n 1, 1) := dq_op43 (dq_at (j := 37) dk_29d_2 rfl rfl)
theorem dL_law_1248 : decode cL_law 1248 = .ok (.aload_n 0, 1) := dq_op42 (dq_at (j := 38) dk_29d_2 rfl rfl)
theorem dL_law_1249 : decode cL_law 1249 = .ok (.iload 4, 2) := dq_op21 (dq_at (j := 39) dk_29d_2 rfl rfl) (dq_at (j := 40) dk_29d_2 rfl rfl) rfl
theorem dL_law_1251 : decode cL_law 1251 = .ok (.iconst 1, 1) := dq_op4 (dq_at (j := 41) dk_29d_2 rfl rfl)
theorem dL_law_1252 : decode cL_law 1252 = .ok (.iadd, 1) := dq_op96 (dq_at (j := 42) dk_29d_2 rfl rfl)
theorem dL_law_1253 : decode cL_law 1253 = .ok (.iaload, 1) := dq_op46 (dq_at (j := 43) dk_29d_2 rfl rfl)
theorem dL_law_1254 : decode cL_law 1254 = .ok (.aload_n 0, 1) := dq_op42 (dq_at (j := 44) dk_29d_2 rfl rfl)
theorem dL_law_1255 : decode cL_law 1255 = .ok (.iload 4, 2) := dq_op21 (dq_at (j := 45) dk_29d_2 rfl rfl) (dq_at (j := 46) dk_29d_2 rfl rfl) rfl
theorem dL_law_1257 : decode cL_law 1257 = .ok (.iconst 2, 1) := dq_op5 (dq_at (j := 47) dk_29d_2 rfl rfl)
theorem dL_law_1258 : decode cL_law 1258 = .ok (.iadd, 1) := dq_op96 (dq_at (j := 48) dk_29d_2 rfl rfl)
theorem dL_law_1259 : decode cL_law 1259 = .ok (.iaload, 1) := dq_op46 (dq_at (j := 49) dk_29d_2 rfl rfl)
theorem dL_law_1260 : decode cL_law 1260 = .ok (.aload_n 0, 1) := dq_op42 (dq_at (j := 50) dk_29d_2 rfl rfl)
theorem dL_law_1261 : decode cL_law 1261 = .ok (.iload 4, 2) := dq_op21 (dq_at (j := 51) dk_29d_2 rfl rfl) (dq_at (j := 52) dk_29d_2 rfl rfl) rfl
theorem dL_law_1263 : decode cL_law 1263 = .ok (.iconst 3, 1) := dq_op6 (dq_at (j := 53) dk_29d_2 rfl rfl)
theorem dL_law_1264 : decode cL_law 1264 = .ok (.iadd, 1) := dq_op96 (dq_at (j := 54) dk_29d_2 rfl rfl)
theorem dL_law_1265 : decode cL_law 1265 = .ok (.iaload, 1) := dq_op46 (dq_at (j := 55) dk_29d_2 rfl rfl)
theorem dL_law_1266 : decode cL_law 1266 = .ok (.aload_n 3, 1) := dq_op45 (dq_at (j := 56) dk_29d_2 rfl rfl)
theorem dL_law_1267 : decode cL_law 1267 = .ok (.invokestatic 234, 3) := dq_op184 (dq_at (j := 57) dk_29d_2 rfl rfl) (dq_at (j := 58) dk_29d_2 rfl rfl) (dq_at (j := 59) dk_29d_2 rfl rfl) rfl
theorem dL_law_1270 : decode cL_law 1270 = .ok (.istore 5, 2) := dq_op54 (dq_at (j := 60) dk_29d_2 rfl rfl) (dq_at (j := 61) dk_29d_2 rfl rfl) rfl
theorem dL_law_1272 : decode cL_law 1272 = .ok (.aload_n 2, 1) := dq_op44 (dq_at (j := 62) dk_29d_2 rfl rfl)
theorem dL_law_1273 : decode cL_law 1273 = .ok (.aload_n 0, 1) := dq_op42 (dq_at (j := 63) dk_29d_2 rfl rfl)
theorem dL_law_1274 : decode cL_law 1274 = .ok (.iload 4, 2) := dq_op21 (dq_at (j := 64) dk_29d_2 rfl rfl) (dq_at (j := 65) dk_29d_2 rfl rfl) rfl
theorem dL_law_1276 : decode cL_law 1276 = .ok (.iconst 1, 1) := dq_op4 (dq_at (j := 66) dk_29d_2 rfl rfl)
theorem dL_law_1277 : decode cL_law 1277 = .ok (.iadd, 1) := dq_op96 (dq_at (j := 67) dk_29d_2 rfl rfl)
theorem dL_law_1278 : decode cL_law 1278 = .ok (.iaload, 1) := dq_op46 (dq_at (j := 68) dk_29d_2 rfl rfl)
theorem dL_law_1279 : decode cL_law 1279 = .ok (.aload_n 0, 1) := dq_op42 (dq_at (j := 69) dk_29d_2 rfl rfl)
theorem dL_law_1280 : decode cL_law 1280 = .ok (.iload 4, 2) := dq_op21 (dq_at (j := 70) dk_29d_2 rfl rfl) (dq_at (j := 71) dk_29d_2 rfl rfl) rfl
theorem dL_law_1282 : decode cL_law 1282 = .ok (.iconst 2, 1) := dq_op5 (dq_at (j := 72) dk_29d_2 rfl rfl)
theorem dL_law_1283 : decode cL_law 1283 = .ok (.iadd, 1) := dq_op96 (dq_at (j := 73) dk_29d_2 rfl rfl)
theorem dL_law_1284 : decode cL_law 1284 = .ok (.iaload, 1) := dq_op46 (dq_at (j := 74) dk_29d_2 rfl rfl)
theorem dL_law_1285 : decode cL_law 1285 = .ok (.aload_n 0, 1) := dq_op42 (dq_at (j := 75) dk_29d_2 rfl rfl)
theorem dL_law_1286 : decode cL_law 1286 = .ok (.iload 4, 2) := dq_op21 (dq_at (j := 76) dk_29d_2 rfl rfl) (dq_at (j := 77) dk_29d_2 rfl rfl) rfl
theorem dL_law_1288 : decode cL_law 1288 = .ok (.iconst 3, 1) := dq_op6 (dq_at (j := 78) dk_29d_2 rfl rfl)
theorem dL_law_1289 : decode cL_law 1289 = .ok (.iadd, 1) := dq_op96 (dq_at (j := 79) dk_29d_2 rfl rfl)
theorem dL_law_1290 : decode cL_law 1290 = .ok (.iaload, 1) := dq_op46 (dq_at (j := 80) dk_29d_2 rfl rfl)
theorem dL_law_1291 : decode cL_law 1291 = .ok (.invokevirtual 236, 3) := dq_op182 (dq_at (j := 81) dk_29d_2 rfl rfl) (dq_at (j := 82) dk_29d_2 rfl rfl) (dq_at (j := 83) dk_29d_2 rfl rfl) rfl
theorem dL_law_1294 : decode cL_law 1294 = .ok (.istore 6, 2) := dq_op54 (dq_at (j := 84) dk_29d_2 rfl rfl) (dq_at (j := 85) dk_29d_2 rfl rfl) rfl
theorem dL_law_1296 : decode cL_law 1296 = .ok (.aload_n 2, 1) := dq_op44 (dq_at (j := 86) dk_29d_2 rfl rfl)
theorem dL_law_1297 : decode cL_law 1297 = .ok (.invokevirtual 182, 3) := dq_op182 (dq_at (j := 87) dk_29d_2 rfl rfl) (dq_at (j := 88) dk_29d_2 rfl rfl) (dq_at (j := 89) dk_29d_2 rfl rfl) rfl
theorem dL_law_1300 : decode cL_law 1300 = .ok (.iload 5, 2) := dq_op21 (dq_at (j := 90) dk_29d_2 rfl rfl) (dq_at (j := 91) dk_29d_2 rfl rfl) rfl
theorem dL_law_1302 : decode cL_law 1302 = .ok (.if_icmp .eq 5, 3) := dq_op159 (dq_at (j := 92) dk_29d_2 rfl rfl) (dq_at (j := 93) dk_29d_2 rfl rfl) (dq_at (j := 94) dk_29d_2 rfl rfl) (by decide +kernel)
theorem dL_law_1305 : decode cL_law 1305 = .ok (.iconst 0, 1) := dq_op3 (dq_at (j := 95) dk_29d_2 rfl rfl)
theorem dL_law_1306 : decode cL_law 1306 = .ok (.ireturn, 1) := dq_op172 (dq_at (j := 96) dk_29d_2 rfl rfl)
theorem dL_law_1307 : decode cL_law 1307 = .ok (.iload 5, 2) := dq_op21 (dq_at (j := 97) dk_29d_2 rfl rfl) (dq_at (j := 98) dk_29d_2 rfl rfl) rfl
theorem dL_law_1309 : decode cL_law 1309 = .ok (.ifCond .ne 23, 3) := dq_op154 (dq_at (j := 99) dk_29d_2 rfl rfl) (dq_at (j := 100) dk_29d_2 rfl rfl) (dq_at (j := 101) dk_29d_2 rfl rfl) (by decide +kernel)
theorem dL_law_1312 : decode cL_law 1312 = .ok (.aload_n 3, 1) := dq_op45 (dq_at (j := 102) dk_29d_2 rfl rfl)
theorem dL_law_1313 : decode cL_law 1313 = .ok (.getfield 13, 3) := dq_op180 (dq_at (j := 103) dk_29d_2 rfl rfl) (dq_at (j := 104) dk_29d_2 rfl rfl) (dq_at (j := 105) dk_29d_2 rfl rfl) rfl
theorem dL_law_1316 : decode cL_law 1316 = .ok (.iload 6, 2) := dq_op21 (dq_at (j := 106) dk_29d_2 rfl rfl) (dq_at (j := 107) dk_29d_2 rfl rfl) rfl
theorem dL_law_1318 : decode cL_law 1318 = .ok (.ifCond .eq 7, 3) := dq_op153 (dq_at (j := 108) dk_29d_2 rfl rfl) (dq_at (j := 109) dk_29d_2 rfl rfl) (dq_at (j := 110) dk_29d_2 rfl rfl) (by decide +kernel)
theorem dL_law_1321 : decode cL_law 1321 = .ok (.lconst 1, 1) := dq_op10 (dq_at (j := 111) dk_29d_2 rfl rfl)
theorem dL_law_1322 : decode cL_law 1322 = .ok (.goto 4, 3) := dq_op167 (dq_at (j := 112) dk_29d_2 rfl rfl) (dq_at (j := 113) dk_29d_2 rfl rfl) (dq_at (j := 114) dk_29d_2 rfl rfl) (by decide +kernel)
theorem dL_law_1325 : decode cL_law 1325 = .ok (.lconst 0, 1) := dq_op9 (dq_at (j := 115) dk_29d_2 rfl rfl)
theorem dL_law_1326 : decode cL_law 1326 = .ok (.lcmp, 1) := dq_op148 (dq_at (j := 116) dk_29d_2 rfl rfl)
theorem dL_law_1327 : decode cL_law 1327 = .ok (.ifCond .eq 5, 3) := dq_op153 (dq_at (j := 117) dk_29d_2 rfl rfl) (dq_at (j := 118) dk_29d_2 rfl rfl) (dq_at (j := 119) dk_29d_2 rfl rfl) (by decide +kernel)
theorem dL_law_1330 : decode cL_law 1330 = .ok (.iconst 0, 1) := dq_op3 (dq_at (j := 120) dk_29d_2 rfl rfl)
theorem dL_law_1331 : decode cL_law 1331 = .ok (.ireturn, 1) := dq_op172 (dq_at (j := 121) dk_29d_2 rfl rfl)
theorem dL_law_1332 : decode cL_law 1332 = .ok (.goto 2328, 3) := dq_op167 (dq_at (j := 122) dk_29d_2 rfl rfl) (dq_at (j := 123) dk_29d_2 rfl rfl) (dq_at (j := 124) dk_29d_2 rfl rfl) (by decide +kernel)
theorem dL_law_1335 : decode cL_law 1335 = .ok (.aload_n 1, 1) := dq_op43 (dq_at (j := 125) dk_29d_2 rfl rfl)
theorem dL_law_1336 : decode cL_law 1336 = .ok (.aload_n 0, 1) := dq_op42 (dq_at (j := 126) dk_29d_2 rfl rfl)
theorem dL_law_1337 : decode cL_law 1337 = .ok (.iload 4, 2) := dq_op21 (dq_at (j := 127) dk_29d_2 rfl rfl) (dq_at (j := 128) dk_29d_2 rfl rfl) rfl
theorem dL_law_1339 : decode cL_law 1339 = .ok (.iconst 1, 1) := dq_op4 (dq_at (j := 129) dk_29d_2 rfl rfl)
noncomputable def dq_end_29d : Nat := 0
theorem dk_29e_1 : (cL_law.data.toList.drop 1340).take 161 = [96, 46, 42, 21, 4, 5, 96, 46, 45, 184, 0, 237, 54, 5, 44, 42, 21, 4, 4, 96, 46, 42, 21, 4, 5, 96, 46, 182, 0, 239, 54, 6, 44, 182, 0, 182, 21, 5, 159, 0, 5, 3, 172, 21, 5, 154, 0, 23, 45, 180, 0, 13, 21, 6, 153, 0, 7, 10, 167, 0, 4, 9, 148, 153, 0, 5, 3, 172, 167, 8, 204, 43, 42, 21, 4, 4, 96, 46, 42, 21, 4, 5, 96, 46, 45, 184, 0, 240, 54, 5, 44, 42, 21, 4, 4, 96, 46, 42, 21, 4, 5, 96, 46, 182, 0, 242, 54, 6, 44, 182, 0, 182, 21, 5, 159, 0, 5, 3, 172, 21, 5, 154, 0, 23, 45, 180, 0, 13, 21, 6, 153, 0, 7, 10, 167, 0, 4, 9, 148, 153, 0, 5, 3, 172, 167, 8, 128, 43, 42, 21, 4, 4, 96, 46, 42, 21, 4, 5, 96, 46, 42] := by decide +kernel
theorem dL_law_1340 : decode cL_law 1340 = .ok (.iadd, 1) := dq_op96 (dq_at (j := 0) dk_29e_1 rfl rfl)
theorem dL_law_1341 : decode cL_law 1341 = .ok (.iaload, 1) := dq_op46 (dq_at (j := 1) dk_29e_1 rfl rfl)
theorem dL_law_1342 : decode cL_law 1342 = .ok (.aload_n 0, 1) := dq_op42 (dq_at (j := 2) dk_29e_1 rfl rfl)
theorem dL_law_1343 : decode cL_law 1343 = .ok (.iload 4, 2) := dq_op21 (dq_at (j := 3) dk_29e_1 rfl rfl) (dq_at (j := 4) dk_29e_1 rfl rfl) rfl
theorem dL_law_1345 : decode cL_law 1345 = .ok (.iconst 2, 1) := dq_op5 (dq_at (j := 5) dk_29e_1 rfl rfl)
theorem dL_law_1346 : decode cL_law 1346 = .ok (.iadd, 1) := dq_op96 (dq_at (j := 6) dk_29e_1 rfl rfl)
theorem dL_law_1347 : decode cL_law 1347 = .ok (.iaload, 1) := dq_op46 (dq_at (j := 7) dk_29e_1 rfl rfl)
theorem dL_law_1348 : decode cL_law 1348 = .ok (.aload_n 3, 1) := dq_op45 (dq_at (j := 8) dk_29e_1 rfl rfl)
theorem dL_law_1349 : decode cL_law 1349 = .ok (.invokestatic 237, 3) := dq_op184 (dq_at (j := 9) dk_29e_1 rfl rfl) (dq_at (j := 10) dk_29e_1 rfl rfl) (dq_at (j := 11) dk_29e_1 rfl rfl) rfl
theorem dL_law_1352 : decode cL_law 1352 = .ok (.istore 5, 2) := dq_op54 (dq_at (j := 12) dk_29e_1 rfl rfl) (dq_at (j := 13) dk_29e_1 rfl rfl) rfl
theorem dL_law_1354 : decode cL_law 1354 = .ok (.aload_n 2, 1) := dq_op44 (dq_at (j := 14) dk_29e_1 rfl rfl)
theorem dL_law_1355 : decode cL_law 1355 = .ok (.aload_n 0, 1) := dq_op42 (dq_at (j := 15) dk_29e_1 rfl rfl)
theorem dL_law_1356 : decode cL_law 1356 = .ok (.iload 4, 2) := dq_op21 (dq_at (j := 16) dk_29e_1 rfl rfl) (dq_at (j := 17) dk_29e_1 rfl rfl) rfl
theorem dL_law_1358 : decode cL_law 1358 = .ok (.iconst 1, 1) := dq_op4 (dq_at (j := 18) dk_29e_1 rfl rfl)
theorem dL_law_1359 : decode cL_law 1359 = .ok (.iadd, 1) := dq_op96 (dq_at (j := 19) dk_29e_1 rfl rfl)
theorem dL_law_1360 : decode cL_law 1360 = .ok (.iaload, 1) := dq_op46 (dq_at (j := 20) dk_29e_1 rfl rfl)
theorem dL_law_1361 : decode cL_law 1361 = .ok (.aload_n 0, 1) := dq_op42 (dq_at (j := 21) dk_29e_1 rfl rfl)
theorem dL_law_1362 : decode cL_law 1362 = .ok (.iload 4, 2) := dq_op21 (dq_at (j := 22) dk_29e_1 rfl rfl) (dq_at (j := 23) dk_29e_1 rfl rfl) rfl
theorem dL_law_1364 : decode cL_law 1364 = .ok (.iconst 2, 1) := dq_op5 (dq_at (j := 24) dk_29e_1 rfl rfl)
theorem dL_law_1365 : decode cL_law 1365 = .ok (.iadd, 1) := dq_op96 (dq_at (j := 25) dk_29e_1 rfl rfl)
theorem dL_law_1366 : decode cL_law 1366 = .ok (.iaload, 1) := dq_op46 (dq_at (j := 26) dk_29e_1 rfl rfl)
theorem dL_law_1367 : decode cL_law 1367 = .ok (.invokevirtual 239, 3) := dq_op182 (dq_at (j := 27) dk_29e_1 rfl rfl) (dq_at (j := 28) dk_29e_1 rfl rfl) (dq_at (j := 29) dk_29e_1 rfl rfl) rfl
theorem dL_law_1370 : decode cL_law 1370 = .ok (.istore 6, 2) := dq_op54 (dq_at (j := 30) dk_29e_1 rfl rfl) (dq_at (j := 31) dk_29e_1 rfl rfl) rfl
theorem dL_law_1372 : decode cL_law 1372 = .ok (.aload_n 2, 1) := dq_op44 (dq_at (j := 32) dk_29e_1 rfl rfl)
theorem dL_law_1373 : decode cL_law 1373 = .ok (.invokevirtual 182, 3) := dq_op182 (dq_at (j := 33) dk_29e_1 rfl rfl) (dq_at (j := 34) dk_29e_1 rfl rfl) (dq_at (j := 35) dk_29e_1 rfl rfl) rfl
theorem dL_law_1376 : decode cL_law 1376 = .ok (.iload 5, 2) := dq_op21 (dq_at (j := 36) dk_29e_1 rfl rfl) (dq_at (j := 37) dk_29e_1 rfl rfl) rfl
theorem dL_law_1378 : decode cL_law 1378 = .ok (.if_icmp .eq 5, 3) := dq_op159 (dq_at (j := 38) dk_29e_1 rfl rfl) (dq_at (j := 39) dk_29e_1 rfl rfl) (dq_at (j := 40) dk_29e_1 rfl rfl) (by decide +kernel)
theorem dL_law_1381 : decode cL_law 1381 = .ok (.iconst 0, 1) := dq_op3 (dq_at (j := 41) dk_29e_1 rfl rfl)
theorem dL_law_1382 : decode cL_law 1382 = .ok (.ireturn, 1) := dq_op172 (dq_at (j := 42) dk_29e_1 rfl rfl)
theorem dL_law_1383 : decode cL_law 1383 = .ok (.iload 5, 2) := dq_op21 (dq_at (j := 43) dk_29e_1 rfl rfl) (dq_at (j := 44) dk_29e_1 rfl rfl) rfl
theorem dL_law_1385 : decode cL_law 1385 = .ok (.ifCond .ne 23, 3) := dq_op154 (dq_at (j := 45) dk_29e_1 rfl rfl) (dq_at (j := 46) dk_29e_1 rfl rfl) (dq_at (j := 47) dk_29e_1 rfl rfl) (by decide +kernel)
theorem dL_law_1388 : decode cL_law 1388 = .ok (.aload_n 3, 1) := dq_op45 (dq_at (j := 48) dk_29e_1 rfl rfl)
theorem dL_law_1389 : decode cL_law 1389 = .ok (.getfield 13, 3) := dq_op180 (dq_at (j := 49) dk_29e_1 rfl rfl) (dq_at (j := 50) dk_29e_1 rfl rfl) (dq_at (j := 51) dk_29e_1 rfl rfl) rfl
theorem dL_law_1392 : decode cL_law 1392 = .ok (.iload 6, 2) := dq_op21 (dq_at (j := 52) dk_29e_1 rfl rfl) (dq_at (j := 53) dk_29e_1 rfl rfl) rfl
theorem dL_law_1394 : decode cL_law 1394 = .ok (.ifCond .eq 7, 3) := dq_op153 (dq_at (j := 54) dk_29e_1 rfl rfl) (dq_at (j := 55) dk_29e_1 rfl rfl) (dq_at (j := 56) dk_29e_1 rfl rfl) (by decide +kernel)
theorem dL_law_1397 : decode cL_law 1397 = .ok (.lconst 1, 1) := dq_op10 (dq_at (j := 57) dk_29e_1 rfl rfl)
theorem dL_law_1398 : decode cL_law 1398 = .ok (.goto 4, 3) := dq_op167 (dq_at (j := 58) dk_29e_1 rfl rfl) (dq_at (j := 59) dk_29e_1 rfl rfl) (dq_at (j := 60) dk_29e_1 rfl rfl) (by decide +kernel)
theorem dL_law_1401 : decode cL_law 1401 = .ok (.lconst 0, 1) := dq_op9 (dq_at (j := 61) dk_29e_1 rfl rfl)
theorem dL_law_1402 : decode cL_law 1402 = .ok (.lcmp, 1) := dq_op148 (dq_at (j := 62) dk_29e_1 rfl rfl)
theorem dL_law_1403 : decode cL_law 1403 = .ok (.ifCond .eq 5, 3) := dq_op153 (dq_at (j := 63) dk_29e_1 rfl rfl) (dq_at (j := 64) dk_29e_1 rfl rfl) (dq_at (j := 65) dk_29e_1 rfl rfl) (by decide +kernel)
theorem dL_law_1406 : decode cL_law 1406 = .ok (.iconst 0, 1) := dq_op3 (dq_at (j := 66) dk_29e_1 rfl rfl)
theorem dL_law_1407 : decode cL_law 1407 = .ok (.ireturn, 1) := dq_op172 (dq_at (j := 67) dk_29e_1 rfl rfl)
theorem dL_law_1408 : decode cL_law 1408 = .ok (.goto 2252, 3) := dq_op167 (dq_at (j := 68) dk_29e_1 rfl rfl) (dq_at (j := 69) dk_29e_1 rfl rfl) (dq_at (j := 70) dk_29e_1 rfl rfl) (by decide +kernel)
theorem dL_law_1411 : decode cL_law 1411 = .ok (.aload_n 1, 1) := dq_op43 (dq_at (j := 71) dk_29e_1 rfl rfl)
theorem dL_law_1412 : decode cL_law 1412 = .ok (.aload_n 0, 1) := dq_op42 (dq_at (j := 72) dk_29e_1 rfl rfl)
theorem dL_law_1413 : decode cL_law 1413 = .ok (.iload 4, 2) := dq_op21 (dq_at (j := 73) dk_29e_1 rfl rfl) (dq_at (j := 74) dk_29e_1 rfl rfl) rfl
theorem dL_law_1415 : decode cL_law 1415 = .ok (.iconst 1, 1) := dq_op4 (dq_at (j := 75) dk_29e_1 rfl rfl)
theorem dL_law_1416 : decode cL_law 1416 = .ok (.iadd, 1) := dq_op96 (dq_at (j := 76) dk_29e_1 rfl rfl)
theorem dL_law_1417 : decode cL_law 1417 = .ok (.iaload, 1) := dq_op46 (dq_at (j := 77) dk_29e_1 rfl rfl)
theorem dL_law_1418 : decode cL_law 1418 = .ok (.aload_n 0, 1) := dq_op42 (dq_at (j := 78) dk_29e_1 rfl rfl)
theorem dL_law_1419 : decode cL_law 1419 = .ok (.iload 4, 2) := dq_op21 (dq_at (j := 79) dk_29e_1 rfl rfl) (dq_at (j := 80) dk_29e_1 rfl rfl) rfl
theorem dL_law_1421 : decode cL_law 1421 = .ok (.iconst 2, 1) := dq_op5 (dq_at (j := 81) dk_29e_1 rfl rfl)
theorem dL_law_1422 : decode cL_law 1422 = .ok (.iadd, 1) := dq_op96 (dq_at (j := 82) dk_29e_1 rfl rfl)
theorem dL_law_1423 : decode cL_law 1423 = .ok (.iaload, 1) := dq_op46 (dq_at (j := 83) dk_29e_1 rfl rfl)
theorem dL_law_1424 : decode cL_law 1424 = .ok (.aload_n 3, 1) := dq_op45 (dq_at (j := 84) dk_29e_1 rfl rfl)
theorem dL_law_1425 : decode cL_law 1425 = .ok (.invokestatic 240, 3) := dq_op184 (dq_at (j := 85) dk_29e_1 rfl rfl) (dq_at (j := 86) dk_29e_1 rfl rfl) (dq_at (j := 87) dk_29e_1 rfl rfl) rfl
theorem dL_law_1428 : decode cL_law 1428 = .ok (.istore 5, 2) := dq_op54 (dq_at (j := 88) dk_29e_1 rfl rfl) (dq_at (j := 89) dk_29e_1 rfl rfl) rfl
theorem dL_law_1430 : decode cL_law 1430 = .ok (.aload_n 2, 1) := dq_op44 (dq_at (j := 90) dk_29e_1 rfl rfl)
theorem dL_law_1431 : decode cL_law 1431 = .ok (.aload_n 0, 1) := dq_op42 (dq_at (j := 91) dk_29e_1 rfl rfl)
theorem dL_law_1432 : decode cL_law 1432 = .ok (.iload 4, 2) := dq_op21 (dq_at (j := 92) dk_29e_1 rfl rfl) (dq_at (j := 93) dk_29e_1 rfl rfl) rfl
theorem dL_law_1434 : decode cL_law 1434 = .ok (.iconst 1, 1) := dq_op4 (dq_at (j := 94) dk_29e_1 rfl rfl)
theorem dL_law_1435 : decode cL_law 1435 = .ok (.iadd, 1) := dq_op96 (dq_at (j := 95) dk_29e_1 rfl rfl)
theorem dL_law_1436 : decode cL_law 1436 = .ok (.iaload, 1) := dq_op46 (dq_at (j := 96) dk_29e_1 rfl rfl)
theorem dL_law_1437 : decode cL_law 1437 = .ok (.aload_n 0, 1) := dq_op42 (dq_at (j := 97) dk_29e_1 rfl rfl)
theorem dL_law_1438 : decode cL_law 1438 = .ok (.iload 4, 2) := dq_op21 (dq_at (j := 98) dk_29e_1 rfl rfl) (dq_at (j := 99) dk_29e_1 rfl rfl) rfl
theorem dL_law_1440 : decode cL_law 1440 = .ok (.iconst 2, 1) := dq_op5 (dq_at (j := 100) dk_29e_1 rfl rfl)
theorem dL_law_1441 : decode cL_law 1441 = .ok (.iadd, 1) := dq_op96 (dq_at (j := 101) dk_29e_1 rfl rfl)
theorem dL_law_1442 : decode cL_law 1442 = .ok (.iaload, 1) := dq_op46 (dq_at (j := 102) dk_29e_1 rfl rfl)
theorem dL_law_1443 : decode cL_law 1443 = .ok (.invokevirtual 242, 3) := dq_op182 (dq_at (j := 103) dk_29e_1 rfl rfl) (dq_at (j := 104) dk_29e_1 rfl rfl) (dq_at (j := 105) dk_29e_1 rfl rfl) rfl
theorem dL_law_1446 : decode cL_law 1446 = .ok (.istore 6, 2) := dq_op54 (dq_at (j := 106) dk_29e_1 rfl rfl) (dq_at (j := 107) dk_29e_1 rfl rfl) rfl
theorem dL_law_1448 : decode cL_law 1448 = .ok (.aload_n 2, 1) := dq_op44 (dq_at (j := 108) dk_29e_1 rfl rfl)
theorem dL_law_1449 : decode cL_law 1449 = .ok (.invokevirtual 182, 3) := dq_op182 (dq_at (j := 109) dk_29e_1 rfl rfl) (dq_at (j := 110) dk_29e_1 rfl rfl) (dq_at (j := 111) dk_29e_1 rfl rfl) rfl
theorem dL_law_1452 : decode cL_law 1452 = .ok (.iload 5, 2) := dq_op21 (dq_at (j := 112) dk_29e_1 rfl rfl) (dq_at (j := 113) dk_29e_1 rfl rfl) rfl
theorem dL_law_1454 : decode cL_law 1454 = .ok (.if_icmp .eq 5, 3) := dq_op159 (dq_at (j := 114) dk_29e_1 rfl rfl) (dq_at (j := 115) dk_29e_1 rfl rfl) (dq_at (j := 116) dk_29e_1 rfl rfl) (by decide +kernel)
theorem dL_law_1457 : decode cL_law 1457 = .ok (.iconst 0, 1) := dq_op3 (dq_at (j := 117) dk_29e_1 rfl rfl)
theorem dL_law_1458 : decode cL_law 1458 = .ok (.ireturn, 1) := dq_op172 (dq_at (j := 118) dk_29e_1 rfl rfl)
theorem dL_law_1459 : decode cL_law 1459 = .ok (.iload 5, 2) := dq_op21 (dq_at (j := 119) dk_29e_1 rfl rfl) (dq_at (j := 120) dk_29e_1 rfl rfl) rfl
theorem dL_law_1461 : decode cL_law 1461 = .ok (.ifCond .ne 23, 3) := dq_op154 (dq_at (j := 121) dk_29e_1 rfl rfl) (dq_at (j := 122) dk_29e_1 rfl rfl) (dq_at (j := 123) dk_29e_1 rfl rfl) (by decide +kernel)
theorem dL_law_1464 : decode cL_law 1464 = .ok (.aload_n 3, 1) := dq_op45 (dq_at (j := 124) dk_29e_1 rfl rfl)
theorem dL_law_1465 : decode cL_law 1465 = .ok (.getfield 13, 3) := dq_op180 (dq_at (j := 125) dk_29e_1 rfl rfl) (dq_at (j := 126) dk_29e_1 rfl rfl) (dq_at (j := 127) dk_29e_1 rfl rfl) rfl
theorem dL_law_1468 : decode cL_law 1468 = .ok (.iload 6, 2) := dq_op21 (dq_at (j := 128) dk_29e_1 rfl rfl) (dq_at (j := 129) dk_29e_1 rfl rfl) rfl
theorem dL_law_1470 : decode cL_law 1470 = .ok (.ifCond .eq 7, 3) := dq_op153 (dq_at (j := 130) dk_29e_1 rfl rfl) (dq_at (j := 131) dk_29e_1 rfl rfl) (dq_at (j := 132) dk_29e_1 rfl rfl) (by decide +kernel)
theorem dL_law_1473 : decode cL_law 1473 = .ok (.lconst 1, 1) := dq_op10 (dq_at (j := 133) dk_29e_1 rfl rfl)
theorem dL_law_1474 : decode cL_law 1474 = .ok (.goto 4, 3) := dq_op167 (dq_at (j := 134) dk_29e_1 rfl rfl) (dq_at (j := 135) dk_29e_1 rfl rfl) (dq_at (j := 136) dk_29e_1 rfl rfl) (by decide +kernel)
theorem dL_law_1477 : decode cL_law 1477 = .ok (.lconst 0, 1) := dq_op9 (dq_at (j := 137) dk_29e_1 rfl rfl)
theorem dL_law_1478 : decode cL_law 1478 = .ok (.lcmp, 1) := dq_op148 (dq_at (j := 138) dk_29e_1 rfl rfl)
theorem dL_law_1479 : decode cL_law 1479 = .ok (.ifCond .eq 5, 3) := dq_op153 (dq_at (j := 139) dk_29e_1 rfl rfl) (dq_at (j := 140) dk_29e_1 rfl rfl) (dq_at (j := 141) dk_29e_1 rfl rfl) (by decide +kernel)
theorem dL_law_1482 : decode cL_law 1482 = .ok (.iconst 0, 1) := dq_op3 (dq_at (j := 142) dk_29e_1 rfl rfl)
theorem dL_law_1483 : decode cL_law 1483 = .ok (.ireturn, 1) := dq_op172 (dq_at (j := 143) dk_29e_1 rfl rfl)
theorem dL_law_1484 : decode cL_law 1484 = .ok (.goto 2176, 3) := dq_op167 (dq_at (j := 144) dk_29e_1 rfl rfl) (dq_at (j := 145) dk_29e_1 rfl rfl) (dq_at (j := 146) dk_29e_1 rfl rfl) (by decide +kernel)
theorem dL_law_1487 : decode cL_law 1487 = .ok (.aload_n 1, 1) := dq_op43 (dq_at (j := 147) dk_29e_1 rfl rfl)
theorem dL_law_1488 : decode cL_law 1488 = .ok (.aload_n 0, 1) := dq_op42 (dq_at (j := 148) dk_29e_1 rfl rfl)
theorem dL_law_1489 : decode cL_law 1489 = .ok (.iload 4, 2) := dq_op21 (dq_at (j := 149) dk_29e_1 rfl rfl) (dq_at (j := 150) dk_29e_1 rfl rfl) rfl
theorem dL_law_1491 : decode cL_law 1491 = .ok (.iconst 1, 1) := dq_op4 (dq_at (j := 151) dk_29e_1 rfl rfl)
theorem dL_law_1492 : decode cL_law 1492 = .ok (.iadd, 1) := dq_op96 (dq_at (j := 152) dk_29e_1 rfl rfl)
theorem dL_law_1493 : decode cL_law 1493 = .ok (.iaload, 1) := dq_op46 (dq_at (j := 153) dk_29e_1 rfl rfl)
theorem dL_law_1494 : decode cL_law 1494 = .ok (.aload_n 0, 1) := dq_op42 (dq_at (j := 154) dk_29e_1 rfl rfl)
theorem dL_law_1495 : decode cL_law 1495 = .ok (.iload 4, 2) := dq_op21 (dq_at (j := 155) dk_29e_1 rfl rfl) (dq_at (j := 156) dk_29e_1 rfl rfl) rfl
theorem dL_law_1497 : decode cL_law 1497 = .ok (.iconst 2, 1) := dq_op5 (dq_at (j := 157) dk_29e_1 rfl rfl)
theorem dL_law_1498 : decode cL_law 1498 = .ok (.iadd, 1) := dq_op96 (dq_at (j := 158) dk_29e_1 rfl rfl)
theorem dk_29e_2 : (cL_law.data.toList.drop 1499).take 126 = [46, 42, 21, 4, 6, 96, 46, 153, 0, 7, 4, 167, 0, 4, 3, 45, 184, 0, 243, 54, 5, 44, 42, 21, 4, 4, 96, 46, 42, 21, 4, 5, 96, 46, 42, 21, 4, 6, 96, 46, 153, 0, 7, 4, 167, 0, 4, 3, 182, 0, 246, 54, 6, 44, 182, 0, 182, 21, 5, 159, 0, 5, 3, 172, 21, 5, 154, 0, 23, 45, 180, 0, 13, 21, 6, 153, 0, 7, 10, 167, 0, 4, 9, 148, 153, 0, 5, 3, 172, 167, 8, 24, 43, 42, 21, 4, 4, 96, 46, 42, 21, 4, 5, 96, 46, 45, 184, 0, 247, 54, 5, 44, 42, 21, 4, 4, 96, 46, 42, 21, 4, 5, 96, 46, 182, 0] := by decide +kernel
theorem dL_law_1499 : decode cL_law 1499 = .ok (.iaload, 1) := dq_op46 (dq_at (j := 0) dk_29e_2 rfl rfl)
theorem dL_law_1500 : decode cL_law 1500 = .ok (.aload_n 0, 1) := dq_op42 (dq_at (j := 1) dk_29e_2 rfl rfl)
theorem dL_law_1501 : decode cL_law 1501 = .ok (.iload 4, 2) := dq_op21 (dq_at (j := 2) dk_29e_2 rfl rfl) (dq_at (j := 3) dk_29e_2 rfl rfl) rfl
theorem dL_law_1503 : decode cL_law 1503 = .ok (.iconst 3, 1) := dq_op6 (dq_at (j := 4) dk_29e_2 rfl rfl)
theorem dL_law_1504 : decode cL_law 1504 = .ok (.iadd, 1) := dq_op96 (dq_at (j := 5) dk_29e_2 rfl rfl)
theorem dL_law_1505 : decode cL_law 1505 = .ok (.iaload, 1) := dq_op46 (dq_at (j := 6) dk_29e_2 rfl rfl)
theorem dL_law_1506 : decode cL_law 1506 = .ok (.ifCond .eq 7, 3) := dq_op153 (dq_at (j := 7) dk_29e_2 rfl rfl) (dq_at (j := 8) dk_29e_2 rfl rfl) (dq_at (j := 9) dk_29e_2 rfl rfl) (by decide +kernel)
theorem dL_law_1509 : decode cL_law 1509 = .ok (.iconst 1, 1) := dq_op4 (dq_at (j := 10) dk_29e_2 rfl rfl)
theorem dL_law_1510 : decode cL_law 1510 = .ok (.goto 4, 3) := dq_op167 (dq_at (j := 11) dk_29e_2 rfl rfl) (dq_at (j := 12) dk_29e_2 rfl rfl) (dq_at (j := 13) dk_29e_2 rfl rfl) (by decide +kernel)
theorem dL_law_1513 : decode cL_law 1513 = .ok (.iconst 0, 1) := dq_op3 (dq_at (j := 14) dk_29e_2 rfl rfl)
theorem dL_law_1514 : decode cL_law 1514 = .ok (.aload_n 3, 1) := dq_op45 (dq_at (j := 15) dk_29e_2 rfl rfl)
theorem dL_law_1515 : decode cL_law 1515 = .ok (.invokestatic 243, 3) := dq_op184 (dq_at (j := 16) dk_29e_2 rfl rfl) (dq_at (j := 17) dk_29e_2 rfl rfl) (dq_at (j := 18) dk_29e_2 rfl rfl) rfl
theorem dL_law_1518 : decode cL_law 1518 = .ok (.istore 5, 2) := dq_op54 (dq_at (j := 19) dk_29e_2 rfl rfl) (dq_at (j := 20) dk_29e_2 rfl rfl) rfl
theorem dL_law_1520 : decode cL_law 1520 = .ok (.aload_n 2, 1) := dq_op44 (dq_at (j := 21) dk_29e_2 rfl rfl)
theorem dL_law_1521 : decode cL_law 1521 = .ok (.aload_n 0, 1) := dq_op42 (dq_at (j := 22) dk_29e_2 rfl rfl)
theorem dL_law_1522 : decode cL_law 1522 = .ok (.iload 4, 2) := dq_op21 (dq_at (j := 23) dk_29e_2 rfl rfl) (dq_at (j := 24) dk_29e_2 rfl rfl) rfl
theorem dL_law_1524 : decode cL_law 1524 = .ok (.iconst 1, 1) := dq_op4 (dq_at (j := 25) dk_29e_2 rfl rfl)
theorem dL_law_1525 : decode cL_law 1525 = .ok (.iadd, 1) := dq_op96 (dq_at (j := 26) dk_29e_2 rfl rfl)
theorem dL_law_1526 : decode cL_law 1526 = .ok (.iaload, 1) := dq_op46 (dq_at (j := 27) dk_29e_2 rfl rfl)
theorem dL_law_1527 : decode cL_law 1527 = .ok (.aload_n 0, 1) := dq_op42 (dq_at (j := 28) dk_29e_2 rfl rfl)
theorem dL_law_1528 : decode cL_law 1528 = .ok (.iload 4, 2) := dq_op21 (dq_at (j := 29) dk_29e_2 rfl rfl) (dq_at (j := 30) dk_29e_2 rfl rfl) rfl
theorem dL_law_1530 : decode cL_law 1530 = .ok (.iconst 2, 1) := dq_op5 (dq_at (j := 31) dk_29e_2 rfl rfl)
theorem dL_law_1531 : decode cL_law 1531 = .ok (.iadd, 1) := dq_op96 (dq_at (j := 32) dk_29e_2 rfl rfl)
theorem dL_law_1532 : decode cL_law 1532 = .ok (.iaload, 1) := dq_op46 (dq_at (j := 33) dk_29e_2 rfl rfl)
theorem dL_law_1533 : decode cL_law 1533 = .ok (.aload_n 0, 1) := dq_op42 (dq_at (j := 34) dk_29e_2 rfl rfl)
theorem dL_law_1534 : decode cL_law 1534 = .ok (.iload 4, 2) := dq_op21 (dq_at (j := 35) dk_29e_2 rfl rfl) (dq_at (j := 36) dk_29e_2 rfl rfl) rfl
theorem dL_law_1536 : decode cL_law 1536 = .ok (.iconst 3, 1) := dq_op6 (dq_at (j := 37) dk_29e_2 rfl rfl)
theorem dL_law_1537 : decode cL_law 1537 = .ok (.iadd, 1) := dq_op96 (dq_at (j := 38) dk_29e_2 rfl rfl)
theorem dL_law_1538 : decode cL_law 1538 = .ok (.iaload, 1) := dq_op46 (dq_at (j := 39) dk_29e_2 rfl rfl)
theorem dL_law_1539 : decode cL_law 1539 = .ok (.ifCond .eq 7, 3) := dq_op153 (dq_at (j := 40) dk_29e_2 rfl rfl) (dq_at (j := 41) dk_29e_2 rfl rfl) (dq_at (j := 42) dk_29e_2 rfl rfl) (by decide +kernel)
theorem dL_law_1542 : decode cL_law 1542 = .ok (.iconst 1, 1) := dq_op4 (dq_at (j := 43) dk_29e_2 rfl rfl)
theorem dL_law_1543 : decode cL_law 1543 = .ok (.goto 4, 3) := dq_op167 (dq_at (j := 44) dk_29e_2 rfl rfl) (dq_at (j := 45) dk_29e_2 rfl rfl) (dq_at (j := 46) dk_29e_2 rfl rfl) (by decide +kernel)
theorem dL_law_1546 : decode cL_law 1546 = .ok (.iconst 0, 1) := dq_op3 (dq_at (j := 47) dk_29e_2 rfl rfl)
theorem dL_law_1547 : decode cL_law 1547 = .ok (.invokevirtual 246, 3) := dq_op182 (dq_at (j := 48) dk_29e_2 rfl rfl) (dq_at (j := 49) dk_29e_2 rfl rfl) (dq_at (j := 50) dk_29e_2 rfl rfl) rfl
theorem dL_law_1550 : decode cL_law 1550 = .ok (.istore 6, 2) := dq_op54 (dq_at (j := 51) dk_29e_2 rfl rfl) (dq_at (j := 52) dk_29e_2 rfl rfl) rfl
theorem dL_law_1552 : decode cL_law 1552 = .ok (.aload_n 2, 1) := dq_op44 (dq_at (j := 53) dk_29e_2 rfl rfl)
theorem dL_law_1553 : decode cL_law 1553 = .ok (.invokevirtual 182, 3) := dq_op182 (dq_at (j := 54) dk_29e_2 rfl rfl) (dq_at (j := 55) dk_29e_2 rfl rfl) (dq_at (j := 56) dk_29e_2 rfl rfl) rfl
theorem dL_law_1556 : decode cL_law 1556 = .ok (.iload 5, 2) := dq_op21 (dq_at (j := 57) dk_29e_2 rfl rfl) (dq_at (j := 58) dk_29e_2 rfl rfl) rfl
theorem dL_law_1558 : decode cL_law 1558 = .ok (.if_icmp .eq 5, 3) := dq_op159 (dq_at (j := 59) dk_29e_2 rfl rfl) (dq_at (j := 60) dk_29e_2 rfl rfl) (dq_at (j := 61) dk_29e_2 rfl rfl) (by decide +kernel)
theorem dL_law_1561 : decode cL_law 1561 = .ok (.iconst 0, 1) := dq_op3 (dq_at (j := 62) dk_29e_2 rfl rfl)
theorem dL_law_1562 : decode cL_law 1562 = .ok (.ireturn, 1) := dq_op172 (dq_at (j := 63) dk_29e_2 rfl rfl)
theorem dL_law_1563 : decode cL_law 1563 = .ok (.iload 5, 2) := dq_op21 (dq_at (j := 64) dk_29e_2 rfl rfl) (dq_at (j := 65) dk_29e_2 rfl rfl) rfl
theorem dL_law_1565 : decode cL_law 1565 = .ok (.ifCond .ne 23, 3) := dq_op154 (dq_at (j := 66) dk_29e_2 rfl rfl) (dq_at (j := 67) dk_29e_2 rfl rfl) (dq_at (j := 68) dk_29e_2 rfl rfl) (by decide +kernel)
theorem dL_law_1568 : decode cL_law 1568 = .ok (.aload_n 3, 1) := dq_op45 (dq_at (j := 69) dk_29e_2 rfl rfl)
theorem dL_law_1569 : decode cL_law 1569 = .ok (.getfield 13, 3) := dq_op180 (dq_at (j := 70) dk_29e_2 rfl rfl) (dq_at (j := 71) dk_29e_2 rfl rfl) (dq_at (j := 72) dk_29e_2 rfl rfl) rfl
theorem dL_law_1572 : decode cL_law 1572 = .ok (.iload 6, 2) := dq_op21 (dq_at (j := 73) dk_29e_2 rfl rfl) (dq_at (j := 74) dk_29e_2 rfl rfl) rfl
theorem dL_law_1574 : decode cL_law 1574 = .ok (.ifCond .eq 7, 3) := dq_op153 (dq_at (j := 75) dk_29e_2 rfl rfl) (dq_at (j := 76) dk_29e_2 rfl rfl) (dq_at (j := 77) dk_29e_2 rfl rfl) (by decide +kernel)
theorem dL_law_1577 : decode cL_law 1577 = .ok (.lconst 1, 1) := dq_op10 (dq_at (j := 78) dk_29e_2 rfl rfl)
theorem dL_law_1578 : decode cL_law 1578 = .ok (.goto 4, 3) := dq_op167 (dq_at (j := 79) dk_29e_2 rfl rfl) (dq_at (j := 80) dk_29e_2 rfl rfl) (dq_at (j := 81) dk_29e_2 rfl rfl) (by decide +kernel)
theorem dL_law_1581 : decode cL_law 1581 = .ok (.lconst 0, 1) := dq_op9 (dq_at (j := 82) dk_29e_2 rfl rfl)
theorem dL_law_1582 : decode cL_law 1582 = .ok (.lcmp, 1) := dq_op148 (dq_at (j := 83) dk_29e_2 rfl rfl)
theorem dL_law_1583 : decode cL_law 1583 = .ok (.ifCond .eq 5, 3) := dq_op153 (dq_at (j := 84) dk_29e_2 rfl rfl) (dq_at (j := 85) dk_29e_2 rfl rfl) (dq_at (j := 86) dk_29e_2 rfl rfl) (by decide +kernel)
theorem dL_law_1586 : decode cL_law 1586 = .ok (.iconst 0, 1) := dq_op3 (dq_at (j := 87) dk_29e_2 rfl rfl)
theorem dL_law_1587 : decode cL_law 1587 = .ok (.ireturn, 1) := dq_op172 (dq_at (j := 88) dk_29e_2 rfl rfl)
theorem dL_law_1588 : decode cL_law 1588 = .ok (.goto 2072, 3) := dq_op167 (dq_at (j := 89) dk_29e_2 rfl rfl) (dq_at (j := 90) dk_29e_2 rfl rfl) (dq_at (j := 91) dk_29e_2 rfl rfl) (by decide +kernel)
theorem dL_law_1591 : decode cL_law 1591 = .ok (.aload_n 1, 1) := dq_op43 (dq_at (j := 92) dk_29e_2 rfl rfl)
theorem dL_law_1592 : decode cL_law 1592 = .ok (.aload_n 0, 1) := dq_op42 (dq_at (j := 93) dk_29e_2 rfl rfl)
theorem dL_law_1593 : decode cL_law 1593 = .ok (.iload 4, 2) := dq_op21 (dq_at (j := 94) dk_29e_2 rfl rfl) (dq_at (j := 95) dk_29e_2 rfl rfl) rfl
theorem dL_law_1595 : decode cL_law 1595 = .ok (.iconst 1, 1) := dq_op4 (dq_at (j := 96) dk_29e_2 rfl rfl)
theorem dL_law_1596 : decode cL_law 1596 = .ok (.iadd, 1) := dq_op96 (dq_at (j := 97) dk_29e_2 rfl rfl)
theorem dL_law_1597 : decode cL_law 1597 = .ok (.iaload, 1) := dq_op46 (dq_at (j := 98) dk_29e_2 rfl rfl)
theorem dL_law_1598 : decode cL_law 1598 = .ok (.aload_n 0, 1) := dq_op42 (dq_at (j := 99) dk_29e_2 rfl rfl)
theorem dL_law_1599 : decode cL_law 1599 = .ok (.iload 4, 2) := dq_op21 (dq_at (j := 100) dk_29e_2 rfl rfl) (dq_at (j := 101) dk_29e_2 rfl rfl) rfl
theorem dL_law_1601 : decode cL_law 1601 = .ok (.iconst 2, 1) := dq_op5 (dq_at (j := 102) dk_29e_2 rfl rfl)
theorem dL_law_1602 : decode cL_law 1602 = .ok (.iadd, 1) := dq_op96 (dq_at (j := 103) dk_29e_2 rfl rfl)
theorem dL_law_1603 : decode cL_law 1603 = .ok (.iaload, 1) := dq_op46 (dq_at (j := 104) dk_29e_2 rfl rfl)
theorem dL_law_1604 : decode cL_law 1604 = .ok (.aload_n 3, 1) := dq_op45 (dq_at (j := 105) dk_29e_2 rfl rfl)
theorem dL_law_1605 : decode cL_law 1605 = .ok (.invokestatic 247, 3) := dq_op184 (dq_at (j := 106) dk_29e_2 rfl rfl) (dq_at (j := 107) dk_29e_2 rfl rfl) (dq_at (j := 108) dk_29e_2 rfl rfl) rfl
theorem dL_law_1608 : decode cL_law 1608 = .ok (.istore 5, 2) := dq_op54 (dq_at (j := 109) dk_29e_2 rfl rfl) (dq_at (j := 110) dk_29e_2 rfl rfl) rfl
theorem dL_law_1610 : decode cL_law 1610 = .ok (.aload_n 2, 1) := dq_op44 (dq_at (j := 111) dk_29e_2 rfl rfl)
theorem dL_law_1611 : decode cL_law 1611 = .ok (.aload_n 0, 1) := dq_op42 (dq_at (j := 112) dk_29e_2 rfl rfl)
theorem dL_law_1612 : decode cL_law 1612 = .ok (.iload 4, 2) := dq_op21 (dq_at (j := 113) dk_29e_2 rfl rfl) (dq_at (j := 114) dk_29e_2 rfl rfl) rfl
theorem dL_law_1614 : decode cL_law 1614 = .ok (.iconst 1, 1) := dq_op4 (dq_at (j := 115) dk_29e_2 rfl rfl)
theorem dL_law_1615 : decode cL_law 1615 = .ok (.iadd, 1) := dq_op96 (dq_at (j := 116) dk_29e_2 rfl rfl)
theorem dL_law_1616 : decode cL_law 1616 = .ok (.iaload, 1) := dq_op46 (dq_at (j := 117) dk_29e_2 rfl rfl)
theorem dL_law_1617 : decode cL_law 1617 = .ok (.aload_n 0, 1) := dq_op42 (dq_at (j := 118) dk_29e_2 rfl rfl)
theorem dL_law_1618 : decode cL_law 1618 = .ok (.iload 4, 2) := dq_op21 (dq_at (j := 119) dk_29e_2 rfl rfl) (dq_at (j := 120) dk_29e_2 rfl rfl) rfl
theorem dL_law_1620 : decode cL_law 1620 = .ok (.iconst 2, 1) := dq_op5 (dq_at (j := 121) dk_29e_2 rfl rfl)
theorem dL_law_1621 : decode cL_law 1621 = .ok (.iadd, 1) := dq_op96 (dq_at (j := 122) dk_29e_2 rfl rfl)
theorem dL_law_1622 : decode cL_law 1622 = .ok (.iaload, 1) := dq_op46 (dq_at (j := 123) dk_29e_2 rfl rfl)
noncomputable def dq_end_29e : Nat := 0
theorem dk_29f_1 : (cL_law.data.toList.drop 1623).take 170 = [182, 0, 249, 54, 6, 44, 182, 0, 182, 21, 5, 159, 0, 5, 3, 172, 21, 5, 154, 0, 16, 45, 180, 0, 13, 21, 6, 133, 148, 153, 0, 5, 3, 172, 167, 7, 211, 43, 42, 21, 4, 4, 96, 46, 42, 21, 4, 5, 96, 46, 45, 184, 0, 250, 54, 5, 44, 42, 21, 4, 4, 96, 46, 42, 21, 4, 5, 96, 46, 182, 0, 252, 54, 6, 44, 182, 0, 182, 21, 5, 159, 0, 5, 3, 172, 21, 5, 154, 0, 23, 45, 180, 0, 13, 21, 6, 153, 0, 7, 10, 167, 0, 4, 9, 148, 153, 0, 5, 3, 172, 167, 7, 135, 43, 42, 21, 4, 4, 96, 46, 45, 184, 0, 253, 54, 5, 44, 42, 21, 4, 4, 96, 46, 182, 0, 255, 54, 6, 44, 182, 0, 182, 21, 5, 159, 0, 5, 3, 172, 21, 5, 154, 0, 16, 45, 180, 0, 13, 21, 6, 133, 148, 153, 0, 5, 3, 172, 167, 7, 78] := by decide +kernel
theorem dL_law_1623 : decode cL_law 1623 = .ok (.invokevirtual 249, 3) := dq_op182 (dq_at (j := 0) dk_29f_1 rfl rfl) (dq_at (j := 1) dk_29f_1 rfl rfl) (dq_at (j := 2) dk_29f_1 rfl rfl) rfl
theorem dL_law_1626 : decode cL_law 1626 = .ok (.istore 6, 2) := dq_op54 (dq_at (j := 3) dk_29f_1 rfl rfl) (dq_at (j := 4) dk_29f_1 rfl rfl) rfl
theorem dL_law_1628 : decode cL_law 1628 = .ok (.aload_n 2, 1) := dq_op44 (dq_at (j := 5) dk_29f_1 rfl rfl)
theorem dL_law_1629 : decode cL_law 1629 = .ok (.invokevirtual 182, 3) := dq_op182 (dq_at (j := 6) dk_29f_1 rfl rfl) (dq_at (j := 7) dk_29f_1 rfl rfl) (dq_at (j := 8) dk_29f_1 rfl rfl) rfl
theorem dL_law_1632 : decode cL_law 1632 = .ok (.iload 5, 2) := dq_op21 (dq_at (j := 9) dk_29f_1 rfl rfl) (dq_at (j := 10) dk_29f_1 rfl rfl) rfl
theorem dL_law_1634 : decode cL_law 1634 = .ok (.if_icmp .eq 5, 3) := dq_op159 (dq_at (j := 11) dk_29f_1 rfl rfl) (dq_at (j := 12) dk_29f_1 rfl rfl) (dq_at (j := 13) dk_29f_1 rfl rfl) (by decide +kernel)
theorem dL_law_1637 : decode cL_law 1637 = .ok (.iconst 0, 1) := dq_op3 (dq_at (j := 14) dk_29f_1 rfl rfl)
theorem dL_law_1638 : decode cL_law 1638 = .ok (.ireturn, 1) := dq_op172 (dq_at (j := 15) dk_29f_1 rfl rfl)
theorem dL_law_1639 : decode cL_law 1639 = .ok (.iload 5, 2) := dq_op21 (dq_at (j := 16) dk_29f_1 rfl rfl) (dq_at (j := 17) dk_29f_1 rfl rfl) rfl
theorem dL_law_1641 : decode cL_law 1641 = .ok (.ifCond .ne 16, 3) := dq_op154 (dq_at (j := 18) dk_29f_1 rfl rfl) (dq_at (j := 19) dk_29f_1 rfl rfl) (dq_at (j := 20) dk_29f_1 rfl rfl) (by decide +kernel)
theorem dL_law_1644 : decode cL_law 1644 = .ok (.aload_n 3, 1) := dq_op45 (dq_at (j := 21) dk_29f_1 rfl rfl)
theorem dL_law_1645 : decode cL_law 1645 = .ok (.getfield 13, 3) := dq_op180 (dq_at (j := 22) dk_29f_1 rfl rfl) (dq_at (j := 23) dk_29f_1 rfl rfl) (dq_at (j := 24) dk_29f_1 rfl rfl) rfl
theorem dL_law_1648 : decode cL_law 1648 = .ok (.iload 6, 2) := dq_op21 (dq_at (j := 25) dk_29f_1 rfl rfl) (dq_at (j := 26) dk_29f_1 rfl rfl) rfl
theorem dL_law_1650 : decode cL_law 1650 = .ok (.i2l, 1) := dq_op133 (dq_at (j := 27) dk_29f_1 rfl rfl)
theorem dL_law_1651 : decode cL_law 1651 = .ok (.lcmp, 1) := dq_op148 (dq_at (j := 28) dk_29f_1 rfl rfl)
theorem dL_law_1652 : decode cL_law 1652 = .ok (.ifCond .eq 5, 3) := dq_op153 (dq_at (j := 29) dk_29f_1 rfl rfl) (dq_at (j := 30) dk_29f_1 rfl rfl) (dq_at (j := 31) dk_29f_1 rfl rfl) (by decide +kernel)
theorem dL_law_1655 : decode cL_law 1655 = .ok (.iconst 0, 1) := dq_op3 (dq_at (j := 32) dk_29f_1 rfl rfl)
theorem dL_law_1656 : decode cL_law 1656 = .ok (.ireturn, 1) := dq_op172 (dq_at (j := 33) dk_29f_1 rfl rfl)
theorem dL_law_1657 : decode cL_law 1657 = .ok (.goto 2003, 3) := dq_op167 (dq_at (j := 34) dk_29f_1 rfl rfl) (dq_at (j := 35) dk_29f_1 rfl rfl) (dq_at (j := 36) dk_29f_1 rfl rfl) (by decide +kernel)
theorem dL_law_1660 : decode cL_law 1660 = .ok (.aload_n 1, 1) := dq_op43 (dq_at (j := 37) dk_29f_1 rfl rfl)
theorem dL_law_1661 : decode cL_law 1661 = .ok (.aload_n 0, 1) := dq_op42 (dq_at (j := 38) dk_29f_1 rfl rfl)
theorem dL_law_1662 : decode cL_law 1662 = .ok (.iload 4, 2) := dq_op21 (dq_at (j := 39) dk_29f_1 rfl rfl) (dq_at (j := 40) dk_29f_1 rfl rfl) rfl
theorem dL_law_1664 : decode cL_law 1664 = .ok (.iconst 1, 1) := dq_op4 (dq_at (j := 41) dk_29f_1 rfl rfl)
theorem dL_law_1665 : decode cL_law 1665 = .ok (.iadd, 1) := dq_op96 (dq_at (j := 42) dk_29f_1 rfl rfl)
theorem dL_law_1666 : decode cL_law 1666 = .ok (.iaload, 1) := dq_op46 (dq_at (j := 43) dk_29f_1 rfl rfl)
theorem dL_law_1667 : decode cL_law 1667 = .ok (.aload_n 0, 1) := dq_op42 (dq_at (j := 44) dk_29f_1 rfl rfl)
theorem dL_law_1668 : decode cL_law 1668 = .ok (.iload 4, 2) := dq_op21 (dq_at (j := 45) dk_29f_1 rfl rfl) (dq_at (j := 46) dk_29f_1 rfl rfl) rfl
theorem dL_law_1670 : decode cL_law 1670 = .ok (.iconst 2, 1) := dq_op5 (dq_at (j := 47) dk_29f_1 rfl rfl)
theorem dL_law_1671 : decode cL_law 1671 = .ok (.iadd, 1) := dq_op96 (dq_at (j := 48) dk_29f_1 rfl rfl)
theorem dL_law_1672 : decode cL_law 1672 = .ok (.iaload, 1) := dq_op46 (dq_at (j := 49) dk_29f_1 rfl rfl)
theorem dL_law_1673 : decode cL_law 1673 = .ok (.aload_n 3, 1) := dq_op45 (dq_at (j := 50) dk_29f_1 rfl rfl)
theorem dL_law_1674 : decode cL_law 1674 = .ok (.invokestatic 250, 3) := dq_op184 (dq_at (j := 51) dk_29f_1 rfl rfl) (dq_at (j := 52) dk_29f_1 rfl rfl) (dq_at (j := 53) dk_29f_1 rfl rfl) rfl
theorem dL_law_1677 : decode cL_law 1677 = .ok (.istore 5, 2) := dq_op54 (dq_at (j := 54) dk_29f_1 rfl rfl) (dq_at (j := 55) dk_29f_1 rfl rfl) rfl
theorem dL_law_1679 : decode cL_law 1679 = .ok (.aload_n 2, 1) := dq_op44 (dq_at (j := 56) dk_29f_1 rfl rfl)
theorem dL_law_1680 : decode cL_law 1680 = .ok (.aload_n 0, 1) := dq_op42 (dq_at (j := 57) dk_29f_1 rfl rfl)
theorem dL_law_1681 : decode cL_law 1681 = .ok (.iload 4, 2) := dq_op21 (dq_at (j := 58) dk_29f_1 rfl rfl) (dq_at (j := 59) dk_29f_1 rfl rfl) rfl
theorem dL_law_1683 : decode cL_law 1683 = .ok (.iconst 1, 1) := dq_op4 (dq_at (j := 60) dk_29f_1 rfl rfl)
theorem dL_law_1684 : decode cL_law 1684 = .ok (.iadd, 1) := dq_op96 (dq_at (j := 61) dk_29f_1 rfl rfl)
theorem dL_law_1685 : decode cL_law 1685 = .ok (.iaload, 1) := dq_op46 (dq_at (j := 62) dk_29f_1 rfl rfl)
theorem dL_law_1686 : decode cL_law 1686 = .ok (.aload_n 0, 1) := dq_op42 (dq_at (j := 63) dk_29f_1 rfl rfl)
theorem dL_law_1687 : decode cL_law 1687 = .ok (.iload 4, 2) := dq_op21 (dq_at (j := 64) dk_29f_1 rfl rfl) (dq_at (j := 65) dk_29f_1 rfl rfl) rfl
theorem dL_law_1689 : decode cL_law 1689 = .ok (.iconst 2, 1) := dq_op5 (dq_at (j := 66) dk_29f_1 rfl rfl)
theorem dL_law_1690 : decode cL_law 1690 = .ok (.iadd, 1) := dq_op96 (dq_at (j := 67) dk_29f_1 rfl rfl)
theorem dL_law_1691 : decode cL_law 1691 = .ok (.iaload, 1) := dq_op46 (dq_at (j := 68) dk_29f_1 rfl rfl)
theorem dL_law_1692 : decode cL_law 1692 = .ok (.invokevirtual 252, 3) := dq_op182 (dq_at (j := 69) dk_29f_1 rfl rfl) (dq_at (j := 70) dk_29f_1 rfl rfl) (dq_at (j := 71) dk_29f_1 rfl rfl) rfl
theorem dL_law_1695 : decode cL_law 1695 = .ok (.istore 6, 2) := dq_op54 (dq_at (j := 72) dk_29f_1 rfl rfl) (dq_at (j := 73) dk_29f_1 rfl rfl) rfl
theorem dL_law_1697 : decode cL_law 1697 = .ok (.aload_n 2, 1) := dq_op44 (dq_at (j := 74) dk_29f_1 rfl rfl)
theorem dL_law_1698 : decode cL_law 1698 = .ok (.invokevirtual 182, 3) := dq_op182 (dq_at (j := 75) dk_29f_1 rfl rfl) (dq_at (j := 76) dk_29f_1 rfl rfl) (dq_at (j := 77) dk_29f_1 rfl rfl) rfl
theorem dL_law_1701 : decode cL_law 1701 = .ok (.iload 5, 2) := dq_op21 (dq_at (j := 78) dk_29f_1 rfl rfl) (dq_at (j := 79) dk_29f_1 rfl rfl) rfl
theorem dL_law_1703 : decode cL_law 1703 = .ok (.if_icmp .eq 5, 3) := dq_op159 (dq_at (j := 80) dk_29f_1 rfl rfl) (dq_at (j := 81) dk_29f_1 rfl rfl) (dq_at (j := 82) dk_29f_1 rfl rfl) (by decide +kernel)
theorem dL_law_1706 : decode cL_law 1706 = .ok (.iconst 0, 1) := dq_op3 (dq_at (j := 83) dk_29f_1 rfl rfl)
theorem dL_law_1707 : decode cL_law 1707 = .ok (.ireturn, 1) := dq_op172 (dq_at (j := 84) dk_29f_1 rfl rfl)
theorem dL_law_1708 : decode cL_law 1708 = .ok (.iload 5, 2) := dq_op21 (dq_at (j := 85) dk_29f_1 rfl rfl) (dq_at (j := 86) dk_29f_1 rfl rfl) rfl
theorem dL_law_1710 : decode cL_law 1710 = .ok (.ifCond .ne 23, 3) := dq_op154 (dq_at (j := 87) dk_29f_1 rfl rfl) (dq_at (j := 88) dk_29f_1 rfl rfl) (dq_at (j := 89) dk_29f_1 rfl rfl) (by decide +kernel)
theorem dL_law_1713 : decode cL_law 1713 = .ok (.aload_n 3, 1) := dq_op45 (dq_at (j := 90) dk_29f_1 rfl rfl)
theorem dL_law_1714 : decode cL_law 1714 = .ok (.getfield 13, 3) := dq_op180 (dq_at (j := 91) dk_29f_1 rfl rfl) (dq_at (j := 92) dk_29f_1 rfl rfl) (dq_at (j := 93) dk_29f_1 rfl rfl) rfl
theorem dL_law_1717 : decode cL_law 1717 = .ok (.iload 6, 2) := dq_op21 (dq_at (j := 94) dk_29f_1 rfl rfl) (dq_at (j := 95) dk_29f_1 rfl rfl) rfl
theorem dL_law_1719 : decode cL_law 1719 = .ok (.ifCond .eq 7, 3) := dq_op153 (dq_at (j := 96) dk_29f_1 rfl rfl) (dq_at (j := 97) dk_29f_1 rfl rfl) (dq_at (j := 98) dk_29f_1 rfl rfl) (by decide +kernel)
theorem dL_law_1722 : decode cL_law 1722 = .ok (.lconst 1, 1) := dq_op10 (dq_at (j := 99) dk_29f_1 rfl rfl)
theorem dL_law_1723 : decode cL_law 1723 = .ok (.goto 4, 3) := dq_op167 (dq_at (j := 100) dk_29f_1 rfl rfl) (dq_at (j := 101) dk_29f_1 rfl rfl) (dq_at (j := 102) dk_29f_1 rfl rfl) (by decide +kernel)
theorem dL_law_1726 : decode cL_law 1726 = .ok (.lconst 0, 1) := dq_op9 (dq_at (j := 103) dk_29f_1 rfl rfl)
theorem dL_law_1727 : decode cL_law 1727 = .ok (.lcmp, 1) := dq_op148 (dq_at (j := 104) dk_29f_1 rfl rfl)
theorem dL_law_1728 : decode cL_law 1728 = .ok (.ifCond .eq 5, 3) := dq_op153 (dq_at (j := 105) dk_29f_1 rfl rfl) (dq_at (j := 106) dk_29f_1 rfl rfl) (dq_at (j := 107) dk_29f_1 rfl rfl) (by decide +kernel)
theorem dL_law_1731 : decode cL_law 1731 = .ok (.iconst 0, 1) := dq_op3 (dq_at (j := 108) dk_29f_1 rfl rfl)
theorem dL_law_1732 : decode cL_law 1732 = .ok (.ireturn, 1) := dq_op172 (dq_at (j := 109) dk_29f_1 rfl rfl)
theorem dL_law_1733 : decode cL_law 1733 = .ok (.goto 1927, 3) := dq_op167 (dq_at (j := 110) dk_29f_1 rfl rfl) (dq_at (j := 111) dk_29f_1 rfl rfl) (dq_at (j := 112) dk_29f_1 rfl rfl) (by decide +kernel)
theorem dL_law_1736 : decode cL_law 1736 = .ok (.aload_n 1, 1) := dq_op43 (dq_at (j := 113) dk_29f_1 rfl rfl)
theorem dL_law_1737 : decode cL_law 1737 = .ok (.aload_n 0, 1) := dq_op42 (dq_at (j := 114) dk_29f_1 rfl rfl)
theorem dL_law_1738 : decode cL_law 1738 = .ok (.iload 4, 2) := dq_op21 (dq_at (j := 115) dk_29f_1 rfl rfl) (dq_at (j := 116) dk_29f_1 rfl rfl) rfl
theorem dL_law_1740 : decode cL_law 1740 = .ok (.iconst 1, 1) := dq_op4 (dq_at (j := 117) dk_29f_1 rfl rfl)
theorem dL_law_1741 : decode cL_law 1741 = .ok (.iadd, 1) := dq_op96 (dq_at (j := 118) dk_29f_1 rfl rfl)
theorem dL_law_1742 : decode cL_law 1742 = .ok (.iaload, 1) := dq_op46 (dq_at (j := 119) dk_29f_1 rfl rfl)
theorem dL_law_1743 : decode cL_law 1743 = .ok (.aload_n 3, 1) := dq_op45 (dq_at (j := 120) dk_29f_1 rfl rfl)
theorem dL_law_1744 : decode cL_law 1744 = .ok (.invokestatic 253, 3) := dq_op184 (dq_at (j := 121) dk_29f_1 rfl rfl) (dq_at (j := 122) dk_29f_1 rfl rfl) (dq_at (j := 123) dk_29f_1 rfl rfl) rfl
theorem dL_law_1747 : decode cL_law 1747 = .ok (.istore 5, 2) := dq_op54 (dq_at (j := 124) dk_29f_1 rfl rfl) (dq_at (j := 125) dk_29f_1 rfl rfl) rfl
theorem dL_law_1749 : decode cL_law 1749 = .ok (.aload_n 2, 1) := dq_op44 (dq_at (j := 126) dk_29f_1 rfl rfl)
theorem dL_law_1750 : decode cL_law 1750 = .ok (.aload_n 0, 1) := dq_op42 (dq_at (j := 127) dk_29f_1 rfl rfl)
theorem dL_law_1751 : decode cL_law 1751 = .ok (.iload 4, 2) := dq_op21 (dq_at (j := 128) dk_29f_1 rfl rfl) (dq_at (j := 129) dk_29f_1 rfl rfl) rfl
theorem dL_law_1753 : decode cL_law 1753 = .ok (.iconst 1, 1) := dq_op4 (dq_at (j := 130) dk_29f_1 rfl rfl)
theorem dL_law_1754 : decode cL_law 1754 = .ok (.iadd, 1) := dq_op96 (dq_at (j := 131) dk_29f_1 rfl rfl)
theorem dL_law_1755 : decode cL_law 1755 = .ok (.iaload, 1) := dq_op46 (dq_at (j := 132) dk_29f_1 rfl rfl)
theorem dL_law_1756 : decode cL_law 1756 = .ok (.invokevirtual 255, 3) := dq_op182 (dq_at (j := 133) dk_29f_1 rfl rfl) (dq_at (j := 134) dk_29f_1 rfl rfl) (dq_at (j := 135) dk_29f_1 rfl rfl) rfl
theorem dL_law_1759 : decode cL_law 1759 = .ok (.istore 6, 2) := dq_op54 (dq_at (j := 136) dk_29f_1 rfl rfl) (dq_at (j := 137) dk_29f_1 rfl rfl) rfl
theorem dL_law_1761 : decode cL_law 1761 = .ok (.aload_n 2, 1) := dq_op44 (dq_at (j := 138) dk_29f_1 rfl rfl)
theorem dL_law_1762 : decode cL_law 1762 = .ok (.invokevirtual 182, 3) := dq_op182 (dq_at (j := 139) dk_29f_1 rfl rfl) (dq_at (j := 140) dk_29f_1 rfl rfl) (dq_at (j := 141) dk_29f_1 rfl rfl) rfl
theorem dL_law_1765 : decode cL_law 1765 = .ok (.iload 5, 2) := dq_op21 (dq_at (j := 142) dk_29f_1 rfl rfl) (dq_at (j := 143) dk_29f_1 rfl rfl) rfl
theorem dL_law_1767 : decode cL_law 1767 = .ok (.if_icmp .eq 5, 3) := dq_op159 (dq_at (j := 144) dk_29f_1 rfl rfl) (dq_at (j := 145) dk_29f_1 rfl rfl) (dq_at (j := 146) dk_29f_1 rfl rfl) (by decide +kernel)
theorem dL_law_1770 : decode cL_law 1770 = .ok (.iconst 0, 1) := dq_op3 (dq_at (j := 147) dk_29f_1 rfl rfl)
theorem dL_law_1771 : decode cL_law 1771 = .ok (.ireturn, 1) := dq_op172 (dq_at (j := 148) dk_29f_1 rfl rfl)
theorem dL_law_1772 : decode cL_law 1772 = .ok (.iload 5, 2) := dq_op21 (dq_at (j := 149) dk_29f_1 rfl rfl) (dq_at (j := 150) dk_29f_1 rfl rfl) rfl
theorem dL_law_1774 : decode cL_law 1774 = .ok (.ifCond .ne 16, 3) := dq_op154 (dq_at (j := 151) dk_29f_1 rfl rfl) (dq_at (j := 152) dk_29f_1 rfl rfl) (dq_at (j := 153) dk_29f_1 rfl rfl) (by decide +kernel)
theorem dL_law_1777 : decode cL_law 1777 = .ok (.aload_n 3, 1) := dq_op45 (dq_at (j := 154) dk_29f_1 rfl rfl)
theorem dL_law_1778 : decode cL_law 1778 = .ok (.getfield 13, 3) := dq_op180 (dq_at (j := 155) dk_29f_1 rfl rfl) (dq_at (j := 156) dk_29f_1 rfl rfl) (dq_at (j := 157) dk_29f_1 rfl rfl) rfl
theorem dL_law_1781 : decode cL_law 1781 = .ok (.iload 6, 2) := dq_op21 (dq_at (j := 158) dk_29f_1 rfl rfl) (dq_at (j := 159) dk_29f_1 rfl rfl) rfl
theorem dL_law_1783 : decode cL_law 1783 = .ok (.i2l, 1) := dq_op133 (dq_at (j := 160) dk_29f_1 rfl rfl)
theorem dL_law_1784 : decode cL_law 1784 = .ok (.lcmp, 1) := dq_op148 (dq_at (j := 161) dk_29f_1 rfl rfl)
theorem dL_law_1785 : decode cL_law 1785 = .ok (.ifCond .eq 5, 3) := dq_op153 (dq_at (j := 162) dk_29f_1 rfl rfl) (dq_at (j := 163) dk_29f_1 rfl rfl) (dq_at (j := 164) dk_29f_1 rfl rfl) (by decide +kernel)
theorem dL_law_1788 : decode cL_law 1788 = .ok (.iconst 0, 1) := dq_op3 (dq_at (j := 165) dk_29f_1 rfl rfl)
theorem dL_law_1789 : decode cL_law 1789 = .ok (.ireturn, 1) := dq_op172 (dq_at (j := 166) dk_29f_1 rfl rfl)
theorem dL_law_1790 : decode cL_law 1790 = .ok (.goto 1870, 3) := dq_op167 (dq_at (j := 167) dk_29f_1 rfl rfl) (dq_at (j := 168) dk_29f_1 rfl rfl) (dq_at (j := 169) dk_29f_1 rfl rfl) (by decide +kernel)
theorem dk_29f_2 : (cL_law.data.toList.drop 1793).take 133 = [43, 42, 21, 4, 4, 96, 46, 42, 21, 4, 5, 96, 46, 153, 0, 7, 4, 167, 0, 4, 3, 45, 184, 1, 0, 54, 5, 44, 42, 21, 4, 4, 96, 46, 42, 21, 4, 5, 96, 46, 153, 0, 7, 4, 167, 0, 4, 3, 182, 1, 3, 54, 6, 44, 182, 0, 182, 21, 5, 159, 0, 5, 3, 172, 21, 5, 154, 0, 16, 45, 180, 0, 13, 21, 6, 133, 148, 153, 0, 5, 3, 172, 167, 6, 249, 43, 42, 21, 4, 4, 96, 46, 45, 184, 1, 4, 54, 5, 44, 42, 21, 4, 4, 96, 46, 182, 1, 6, 54, 6, 44, 182, 0, 182, 21, 5, 159, 0, 5, 3, 172, 21, 5, 154, 0, 23, 45, 180, 0, 13, 21, 6, 153] := by decide +kernel
theorem dL_law_1793 : decode cL_law 1793 = .ok (.aload_n 1, 1) := dq_op43 (dq_at (j := 0) dk_29f_2 rfl rfl)
theorem dL_law_1794 : decode cL_law 1794 = .ok (.aload_n 0, 1) := dq_op42 (dq_at (j := 1) dk_29f_2 rfl rfl)
theorem dL_law_1795 : decode cL_law 1795 = .ok (.iload 4, 2) := dq_op21 (dq_at (j := 2) dk_29f_2 rfl rfl) (dq_at (j := 3) dk_29f_2 rfl rfl) rfl
theorem dL_law_1797 : decode cL_law 1797 = .ok (.iconst 1, 1) := dq_op4 (dq_at (j := 4) dk_29f_2 rfl rfl)
theorem dL_law_1798 : decode cL_law 1798 = .ok (.iadd, 1) := dq_op96 (dq_at (j := 5) dk_29f_2 rfl rfl)
theorem dL_law_1799 : decode cL_law 1799 = .ok (.iaload, 1) := dq_op46 (dq_at (j := 6) dk_29f_2 rfl rfl)
theorem dL_law_1800 : decode cL_law 1800 = .ok (.aload_n 0, 1) := dq_op42 (dq_at (j := 7) dk_29f_2 rfl rfl)
theorem dL_law_1801 : decode cL_law 1801 = .ok (.iload 4, 2) := dq_op21 (dq_at (j := 8) dk_29f_2 rfl rfl) (dq_at (j := 9) dk_29f_2 rfl rfl) rfl
theorem dL_law_1803 : decode cL_law 1803 = .ok (.iconst 2, 1) := dq_op5 (dq_at (j := 10) dk_29f_2 rfl rfl)
theorem dL_law_1804 : decode cL_law 1804 = .ok (.iadd, 1) := dq_op96 (dq_at (j := 11) dk_29f_2 rfl rfl)
theorem dL_law_1805 : decode cL_law 1805 = .ok (.iaload, 1) := dq_op46 (dq_at (j := 12) dk_29f_2 rfl rfl)
theorem dL_law_1806 : decode cL_law 1806 = .ok (.ifCond .eq 7, 3) := dq_op153 (dq_at (j := 13) dk_29f_2 rfl rfl) (dq_at (j := 14) dk_29f_2 rfl rfl) (dq_at (j := 15) dk_29f_2 rfl rfl) (by decide +kernel)
theorem dL_law_1809 : decode cL_law 1809 = .ok (.iconst 1, 1) := dq_op4 (dq_at (j := 16) dk_29f_2 rfl rfl)
theorem dL_law_1810 : decode cL_law 1810 = .ok (.goto 4, 3) := dq_op167 (dq_at (j := 17) dk_29f_2 rfl rfl) (dq_at (j := 18) dk_29f_2 rfl rfl) (dq_at (j := 19) dk_29f_2 rfl rfl) (by decide +kernel)
theorem dL_law_1813 : decode cL_law 1813 = .ok (.iconst 0, 1) := dq_op3 (dq_at (j := 20) dk_29f_2 rfl rfl)
theorem dL_law_1814 : decode cL_law 1814 = .ok (.aload_n 3, 1) := dq_op45 (dq_at (j := 21) dk_29f_2 rfl rfl)
theorem dL_law_1815 : decode cL_law 1815 = .ok (.invokestatic 256, 3) := dq_op184 (dq_at (j := 22) dk_29f_2 rfl rfl) (dq_at (j := 23) dk_29f_2 rfl rfl) (dq_at (j := 24) dk_29f_2 rfl rfl) rfl
theorem dL_law_1818 : decode cL_law 1818 = .ok (.istore 5, 2) := dq_op54 (dq_at (j := 25) dk_29f_2 rfl rfl) (dq_at (j := 26) dk_29f_2 rfl rfl) rfl
theorem dL_law_1820 : decode cL_law 1820 = .ok (.aload_n 2, 1) := dq_op44 (dq_at (j := 27) dk_29f_2 rfl rfl)
theorem dL_law_1821 : decode cL_law 1821 = .ok (.aload_n 0, 1) := dq_op42 (dq_at (j := 28) dk_29f_2 rfl rfl)
theorem dL_law_1822 : decode cL_law 1822 = .ok (.iload 4, 2) := dq_op21 (dq_at (j := 29) dk_29f_2 rfl rfl) (dq_at (j := 30) dk_29f_2 rfl rfl) rfl
theorem dL_law_1824 : decode cL_law 1824 = .ok (.iconst 1, 1) := dq_op4 (dq_at (j := 31) dk_29f_2 rfl rfl)
theorem dL_law_1825 : decode cL_law 1825 = .ok (.iadd, 1) := dq_op96 (dq_at (j := 32) dk_29f_2 rfl rfl)
theorem dL_law_1826 : decode cL_law 1826 = .ok (.iaload, 1) := dq_op46 (dq_at (j := 33) dk_29f_2 rfl rfl)
theorem dL_law_1827 : decode cL_law 1827 = .ok (.aload_n 0, 1) := dq_op42 (dq_at (j := 34) dk_29f_2 rfl rfl)
theorem dL_law_1828 : decode cL_law 1828 = .ok (.iload 4, 2) := dq_op21 (dq_at (j := 35) dk_29f_2 rfl rfl) (dq_at (j := 36) dk_29f_2 rfl rfl) rfl
theorem dL_law_1830 : decode cL_law 1830 = .ok (.iconst 2, 1) := dq_op5 (dq_at (j := 37) dk_29f_2 rfl rfl)
theorem dL_law_1831 : decode cL_law 1831 = .ok (.iadd, 1) := dq_op96 (dq_at (j := 38) dk_29f_2 rfl rfl)
theorem dL_law_1832 : decode cL_law 1832 = .ok (.iaload, 1) := dq_op46 (dq_at (j := 39) dk_29f_2 rfl rfl)
theorem dL_law_1833 : decode cL_law 1833 = .ok (.ifCond .eq 7, 3) := dq_op153 (dq_at (j := 40) dk_29f_2 rfl rfl) (dq_at (j := 41) dk_29f_2 rfl rfl) (dq_at (j := 42) dk_29f_2 rfl rfl) (by decide +kernel)
theorem dL_law_1836 : decode cL_law 1836 = .ok (.iconst 1, 1) := dq_op4 (dq_at (j := 43) dk_29f_2 rfl rfl)
theorem dL_law_1837 : decode cL_law 1837 = .ok (.goto 4, 3) := dq_op167 (dq_at (j := 44) dk_29f_2 rfl rfl) (dq_at (j := 45) dk_29f_2 rfl rfl) (dq_at (j := 46) dk_29f_2 rfl rfl) (by decide +kernel)
theorem dL_law_1840 : decode cL_law 1840 = .ok (.iconst 0, 1) := dq_op3 (dq_at (j := 47) dk_29f_2 rfl rfl)
theorem dL_law_1841 : decode cL_law 1841 = .ok (.invokevirtual 259, 3) := dq_op182 (dq_at (j := 48) dk_29f_2 rfl rfl) (dq_at (j := 49) dk_29f_2 rfl rfl) (dq_at (j := 50) dk_29f_2 rfl rfl) rfl
theorem dL_law_1844 : decode cL_law 1844 = .ok (.istore 6, 2) := dq_op54 (dq_at (j := 51) dk_29f_2 rfl rfl) (dq_at (j := 52) dk_29f_2 rfl rfl) rfl
theorem dL_law_1846 : decode cL_law 1846 = .ok (.aload_n 2, 1) := dq_op44 (dq_at (j := 53) dk_29f_2 rfl rfl)
theorem dL_law_1847 : decode cL_law 1847 = .ok (.invokevirtual 182, 3) := dq_op182 (dq_at (j := 54) dk_29f_2 rfl rfl) (dq_at (j := 55) dk_29f_2 rfl rfl) (dq_at (j := 56) dk_29f_2 rfl rfl) rfl
theorem dL_law_1850 : decode cL_law 1850 = .ok (.iload 5, 2) := dq_op21 (dq_at (j := 57) dk_29f_2 rfl rfl) (dq_at (j := 58) dk_29f_2 rfl rfl) rfl
theorem dL_law_1852 : decode cL_law 1852 = .ok (.if_icmp .eq 5, 3) := dq_op159 (dq_at (j := 59) dk_29f_2 rfl rfl) (dq_at (j := 60) dk_29f_2 rfl rfl) (dq_at (j := 61) dk_29f_2 rfl rfl) (by decide +kernel)
theorem dL_law_1855 : decode cL_law 1855 = .ok (.iconst 0, 1) := dq_op3 (dq_at (j := 62) dk_29f_2 rfl rfl)
theorem dL_law_1856 : decode cL_law 1856 = .ok (.ireturn, 1) := dq_op172 (dq_at (j := 63) dk_29f_2 rfl rfl)
theorem dL_law_1857 : decode cL_law 1857 = .ok (.iload 5, 2) := dq_op21 (dq_at (j := 64) dk_29f_2 rfl rfl) (dq_at (j := 65) dk_29f_2 rfl rfl) rfl
theorem dL_law_1859 : decode cL_law 1859 = .ok (.ifCond .ne 16, 3) := dq_op154 (dq_at (j := 66) dk_29f_2 rfl rfl) (dq_at (j := 67) dk_29f_2 rfl rfl) (dq_at (j := 68) dk_29f_2 rfl rfl) (by decide +kernel)
theorem dL_law_1862 : decode cL_law 1862 = .ok (.aload_n 3, 1) := dq_op45 (dq_at (j := 69) dk_29f_2 rfl rfl)
theorem dL_law_1863 : decode cL_law 1863 = .ok (.getfield 13, 3) := dq_op180 (dq_at (j := 70) dk_29f_2 rfl rfl) (dq_at (j := 71) dk_29f_2 rfl rfl) (dq_at (j := 72) dk_29f_2 rfl rfl) rfl
theorem dL_law_1866 : decode cL_law 1866 = .ok (.iload 6, 2) := dq_op21 (dq_at (j := 73) dk_29f_2 rfl rfl) (dq_at (j := 74) dk_29f_2 rfl rfl) rfl
theorem dL_law_1868 : decode cL_law 1868 = .ok (.i2l, 1) := dq_op133 (dq_at (j := 75) dk_29f_2 rfl rfl)
theorem dL_law_1869 : decode cL_law 1869 = .ok (.lcmp, 1) := dq_op148 (dq_at (j := 76) dk_29f_2 rfl rfl)
theorem dL_law_1870 : decode cL_law 1870 = .ok (.ifCond .eq 5, 3) := dq_op153 (dq_at (j := 77) dk_29f_2 rfl rfl) (dq_at (j := 78) dk_29f_2 rfl rfl) (dq_at (j := 79) dk_29f_2 rfl rfl) (by decide +kernel)
theorem dL_law_1873 : decode cL_law 1873 = .ok (.iconst 0, 1) := dq_op3 (dq_at (j := 80) dk_29f_2 rfl rfl)
theorem dL_law_1874 : decode cL_law 1874 = .ok (.ireturn, 1) := dq_op172 (dq_at (j := 81) dk_29f_2 rfl rfl)
theorem dL_law_1875 : decode cL_law 1875 = .ok (.goto 1785, 3) := dq_op167 (dq_at (j := 82) dk_29f_2 rfl rfl) (dq_at (j := 83) dk_29f_2 rfl rfl) (dq_at (j := 84) dk_29f_2 rfl rfl) (by decide +kernel)
theorem dL_law_1878 : decode cL_law 1878 = .ok (.aload_n 1, 1) := dq_op43 (dq_at (j := 85) dk_29f_2 rfl rfl)
theorem dL_law_1879 : decode cL_law 1879 = .ok (.aload_n 0, 1) := dq_op42 (dq_at (j := 86) dk_29f_2 rfl rfl)
theorem dL_law_1880 : decode cL_law 1880 = .ok (.iload 4, 2) := dq_op21 (dq_at (j := 87) dk_29f_2 rfl rfl) (dq_at (j := 88) dk_29f_2 rfl rfl) rfl
theorem dL_law_1882 : decode cL_law 1882 = .ok (.iconst 1, 1) := dq_op4 (dq_at (j := 89) dk_29f_2 rfl rfl)
theorem dL_law_1883 : decode cL_law 1883 = .ok (.iadd, 1) := dq_op96 (dq_at (j := 90) dk_29f_2 rfl rfl)
theorem dL_law_1884 : decode cL_law 1884 = .ok (.iaload, 1) := dq_op46 (dq_at (j := 91) dk_29f_2 rfl rfl)
theorem dL_law_1885 : decode cL_law 1885 = .ok (.aload_n 3, 1) := dq_op45 (dq_at (j := 92) dk_29f_2 rfl rfl)
theorem dL_law_1886 : decode cL_law 1886 = .ok (.invokestatic 260, 3) := dq_op184 (dq_at (j := 93) dk_29f_2 rfl rfl) (dq_at (j := 94) dk_29f_2 rfl rfl) (dq_at (j := 95) dk_29f_2 rfl rfl) rfl
theorem dL_law_1889 : decode cL_law 1889 = .ok (.istore 5, 2) := dq_op54 (dq_at (j := 96) dk_29f_2 rfl rfl) (dq_at (j := 97) dk_29f_2 rfl rfl) rfl
theorem dL_law_1891 : decode cL_law 1891 = .ok (.aload_n 2, 1) := dq_op44 (dq_at (j := 98) dk_29f_2 rfl rfl)
theorem dL_law_1892 : decode cL_law 1892 = .ok (.aload_n 0, 1) := dq_op42 (dq_at (j := 99) dk_29f_2 rfl rfl)
theorem dL_law_1893 : decode cL_law 1893 = .ok (.iload 4, 2) := dq_op21 (dq_at (j := 100) dk_29f_2 rfl rfl) (dq_at (j := 101) dk_29f_2 rfl rfl) rfl
theorem dL_law_1895 : decode cL_law 1895 = .ok (.iconst 1, 1) := dq_op4 (dq_at (j := 102) dk_29f_2 rfl rfl)
theorem dL_law_1896 : decode cL_law 1896 = .ok (.iadd, 1) := dq_op96 (dq_at (j := 103) dk_29f_2 rfl rfl)
theorem dL_law_1897 : decode cL_law 1897 = .ok (.iaload, 1) := dq_op46 (dq_at (j := 104) dk_29f_2 rfl rfl)
theorem dL_law_1898 : decode cL_law 1898 = .ok (.invokevirtual 262, 3) := dq_op182 (dq_at (j := 105) dk_29f_2 rfl rfl) (dq_at (j := 106) dk_29f_2 rfl rfl) (dq_at (j := 107) dk_29f_2 rfl rfl) rfl
theorem dL_law_1901 : decode cL_law 1901 = .ok (.istore 6, 2) := dq_op54 (dq_at (j := 108) dk_29f_2 rfl rfl) (dq_at (j := 109) dk_29f_2 rfl rfl) rfl
theorem dL_law_1903 : decode cL_law 1903 = .ok (.aload_n 2, 1) := dq_op44 (dq_at (j := 110) dk_29f_2 rfl rfl)
theorem dL_law_1904 : decode cL_law 1904 = .ok (.invokevirtual 182, 3) := dq_op182 (dq_at (j := 111) dk_29f_2 rfl rfl) (dq_at (j := 112) dk_29f_2 rfl rfl) (dq_at (j := 113) dk_29f_2 rfl rfl) rfl
theorem dL_law_1907 : decode cL_law 1907 = .ok (.iload 5, 2) := dq_op21 (dq_at (j := 114) dk_29f_2 rfl rfl) (dq_at (j := 115) dk_29f_2 rfl rfl) rfl
theorem dL_law_1909 : decode cL_law 1909 = .ok (.if_icmp .eq 5, 3) := dq_op159 (dq_at (j := 116) dk_29f_2 rfl rfl) (dq_at (j := 117) dk_29f_2 rfl rfl) (dq_at (j := 118) dk_29f_2 rfl rfl) (by decide +kernel)
theorem dL_law_1912 : decode cL_law 1912 = .ok (.iconst 0, 1) := dq_op3 (dq_at (j := 119) dk_29f_2 rfl rfl)
theorem dL_law_1913 : decode cL_law 1913 = .ok (.ireturn, 1) := dq_op172 (dq_at (j := 120) dk_29f_2 rfl rfl)
theorem dL_law_1914 : decode cL_law 1914 = .ok (.iload 5, 2) := dq_op21 (dq_at (j := 121) dk_29f_2 rfl rfl) (dq_at (j := 122) dk_29f_2 rfl rfl) rfl
theorem dL_law_1916 : decode cL_law 1916 = .ok (.ifCond .ne 23, 3) := dq_op154 (dq_at (j := 123) dk_29f_2 rfl rfl) (dq_at (j := 124) dk_29f_2 rfl rfl) (dq_at (j := 125) dk_29f_2 rfl rfl) (by decide +kernel)
theorem dL_law_1919 : decode cL_law 1919 = .ok (.aload_n 3, 1) := dq_op45 (dq_at (j := 126) dk_29f_2 rfl rfl)
theorem dL_law_1920 : decode cL_law 1920 = .ok (.getfield 13, 3) := dq_op180 (dq_at (j := 127) dk_29f_2 rfl rfl) (dq_at (j := 128) dk_29f_2 rfl rfl) (dq_at (j := 129) dk_29f_2 rfl rfl) rfl
theorem dL_law_1923 : decode cL_law 1923 = .ok (.iload 6, 2) := dq_op21 (dq_at (j := 130) dk_29f_2 rfl rfl) (dq_at (j := 131) dk_29f_2 rfl rfl) rfl
noncomputable def dq_end_29f : Nat := 0
theorem dk_29g_1 : (cL_law.data.toList.drop 1925).take 160 = [153, 0, 7, 10, 167, 0, 4, 9, 148, 153, 0, 5, 3, 172, 167, 6, 185, 43, 42, 21, 4, 4, 96, 46, 42, 21, 4, 5, 96, 46, 45, 184, 1, 7, 54, 5, 44, 42, 21, 4, 4, 96, 46, 42, 21, 4, 5, 96, 46, 182, 1, 9, 54, 6, 44, 182, 0, 182, 21, 5, 159, 0, 5, 3, 172, 21, 5, 154, 0, 16, 45, 180, 0, 13, 21, 6, 133, 148, 153, 0, 5, 3, 172, 167, 6, 116, 43, 42, 21, 4, 4, 96, 46, 42, 21, 4, 5, 96, 46, 45, 184, 1, 10, 54, 5, 44, 42, 21, 4, 4, 96, 46, 42, 21, 4, 5, 96, 46, 182, 1, 12, 54, 6, 44, 182, 0, 182, 21, 5, 159, 0, 5, 3, 172, 21, 5, 154, 0, 16, 45, 180, 0, 13, 21, 6, 133, 148, 153, 0, 5, 3, 172, 167, 6, 47, 43, 42, 21, 4, 4] := by decide +kernel
theorem dL_law_1925 : decode cL_law 1925 = .ok (.ifCond .eq 7, 3) := dq_op153 (dq_at (j := 0) dk_29g_1 rfl rfl) (dq_at (j := 1) dk_29g_1 rfl rfl) (dq_at (j := 2) dk_29g_1 rfl rfl) (by decide +kernel)
theorem dL_law_1928 : decode cL_law 1928 = .ok (.lconst 1, 1) := dq_op10 (dq_at (j := 3) dk_29g_1 rfl rfl)
theorem dL_law_1929 : decode cL_law 1929 = .ok (.goto 4, 3) := dq_op167 (dq_at (j := 4) dk_29g_1 rfl rfl) (dq_at (j := 5) dk_29g_1 rfl rfl) (dq_at (j := 6) dk_29g_1 rfl rfl) (by decide +kernel)
theorem dL_law_1932 : decode cL_law 1932 = .ok (.lconst 0, 1) := dq_op9 (dq_at (j := 7) dk_29g_1 rfl rfl)
theorem dL_law_1933 : decode cL_law 1933 = .ok (.lcmp, 1) := dq_op148 (dq_at (j := 8) dk_29g_1 rfl rfl)
theorem dL_law_1934 : decode cL_law 1934 = .ok (.ifCond .eq 5, 3) := dq_op153 (dq_at (j := 9) dk_29g_1 rfl rfl) (dq_at (j := 10) dk_29g_1 rfl rfl) (dq_at (j := 11) dk_29g_1 rfl rfl) (by decide +kernel)
theorem dL_law_1937 : decode cL_law 1937 = .ok (.iconst 0, 1) := dq_op3 (dq_at (j := 12) dk_29g_1 rfl rfl)
theorem dL_law_1938 : decode cL_law 1938 = .ok (.ireturn, 1) := dq_op172 (dq_at (j := 13) dk_29g_1 rfl rfl)
theorem dL_law_1939 : decode cL_law 1939 = .ok (.goto 1721, 3) := dq_op167 (dq_at (j := 14) dk_29g_1 rfl rfl) (dq_at (j := 15) dk_29g_1 rfl rfl) (dq_at (j := 16) dk_29g_1 rfl rfl) (by decide +kernel)
theorem dL_law_1942 : decode cL_law 1942 = .ok (.aload_n 1, 1) := dq_op43 (dq_at (j := 17) dk_29g_1 rfl rfl)
theorem dL_law_1943 : decode cL_law 1943 = .ok (.aload_n 0, 1) := dq_op42 (dq_at (j := 18) dk_29g_1 rfl rfl)
theorem dL_law_1944 : decode cL_law 1944 = .ok (.iload 4, 2) := dq_op21 (dq_at (j := 19) dk_29g_1 rfl rfl) (dq_at (j := 20) dk_29g_1 rfl rfl) rfl
theorem dL_law_1946 : decode cL_law 1946 = .ok (.iconst 1, 1) := dq_op4 (dq_at (j := 21) dk_29g_1 rfl rfl)
theorem dL_law_1947 : decode cL_law 1947 = .ok (.iadd, 1) := dq_op96 (dq_at (j := 22) dk_29g_1 rfl rfl)
theorem dL_law_1948 : decode cL_law 1948 = .ok (.iaload, 1) := dq_op46 (dq_at (j := 23) dk_29g_1 rfl rfl)
theorem dL_law_1949 : decode cL_law 1949 = .ok (.aload_n 0, 1) := dq_op42 (dq_at (j := 24) dk_29g_1 rfl rfl)
theorem dL_law_1950 : decode cL_law 1950 = .ok (.iload 4, 2) := dq_op21 (dq_at (j := 25) dk_29g_1 rfl rfl) (dq_at (j := 26) dk_29g_1 rfl rfl) rfl
theorem dL_law_1952 : decode cL_law 1952 = .ok (.iconst 2, 1) := dq_op5 (dq_at (j := 27) dk_29g_1 rfl rfl)
theorem dL_law_1953 : decode cL_law 1953 = .ok (.iadd, 1) := dq_op96 (dq_at (j := 28) dk_29g_1 rfl rfl)
theorem dL_law_1954 : decode cL_law 1954 = .ok (.iaload, 1) := dq_op46 (dq_at (j := 29) dk_29g_1 rfl rfl)
theorem dL_law_1955 : decode cL_law 1955 = .ok (.aload_n 3, 1) := dq_op45 (dq_at (j := 30) dk_29g_1 rfl rfl)
theorem dL_law_1956 : decode cL_law 1956 = .ok (.invokestatic 263, 3) := dq_op184 (dq_at (j := 31) dk_29g_1 rfl rfl) (dq_at (j := 32) dk_29g_1 rfl rfl) (dq_at (j := 33) dk_29g_1 rfl rfl) rfl
theorem dL_law_1959 : decode cL_law 1959 = .ok (.istore 5, 2) := dq_op54 (dq_at (j := 34) dk_29g_1 rfl rfl) (dq_at (j := 35) dk_29g_1 rfl rfl) rfl
theorem dL_law_1961 : decode cL_law 1961 = .ok (.aload_n 2, 1) := dq_op44 (dq_at (j := 36) dk_29g_1 rfl rfl)
theorem dL_law_1962 : decode cL_law 1962 = .ok (.aload_n 0, 1) := dq_op42 (dq_at (j := 37) dk_29g_1 rfl rfl)
theorem dL_law_1963 : decode cL_law 1963 = .ok (.iload 4, 2) := dq_op21 (dq_at (j := 38) dk_29g_1 rfl rfl) (dq_at (j := 39) dk_29g_1 rfl rfl) rfl
theorem dL_law_1965 : decode cL_law 1965 = .ok (.iconst 1, 1) := dq_op4 (dq_at (j := 40) dk_29g_1 rfl rfl)
theorem dL_law_1966 : decode cL_law 1966 = .ok (.iadd, 1) := dq_op96 (dq_at (j := 41) dk_29g_1 rfl rfl)
theorem dL_law_1967 : decode cL_law 1967 = .ok (.iaload, 1) := dq_op46 (dq_at (j := 42) dk_29g_1 rfl rfl)
theorem dL_law_1968 : decode cL_law 1968 = .ok (.aload_n 0, 1) := dq_op42 (dq_at (j := 43) dk_29g_1 rfl rfl)
theorem dL_law_1969 : decode cL_law 1969 = .ok (.iload 4, 2) := dq_op21 (dq_at (j := 44) dk_29g_1 rfl rfl) (dq_at (j := 45) dk_29g_1 rfl rfl) rfl
theorem dL_law_1971 : decode cL_law 1971 = .ok (.iconst 2, 1) := dq_op5 (dq_at (j := 46) dk_29g_1 rfl rfl)
theorem dL_law_1972 : decode cL_law 1972 = .ok (.iadd, 1) := dq_op96 (dq_at (j := 47) dk_29g_1 rfl rfl)
theorem dL_law_1973 : decode cL_law 1973 = .ok (.iaload, 1) := dq_op46 (dq_at (j := 48) dk_29g_1 rfl rfl)
theorem dL_law_1974 : decode cL_law 1974 = .ok (.invokevirtual 265, 3) := dq_op182 (dq_at (j := 49) dk_29g_1 rfl rfl) (dq_at (j := 50) dk_29g_1 rfl rfl) (dq_at (j := 51) dk_29g_1 rfl rfl) rfl
theorem dL_law_1977 : decode cL_law 1977 = .ok (.istore 6, 2) := dq_op54 (dq_at (j := 52) dk_29g_1 rfl rfl) (dq_at (j := 53) dk_29g_1 rfl rfl) rfl
theorem dL_law_1979 : decode cL_law 1979 = .ok (.aload_n 2, 1) := dq_op44 (dq_at (j := 54) dk_29g_1 rfl rfl)
theorem dL_law_1980 : decode cL_law 1980 = .ok (.invokevirtual 182, 3) := dq_op182 (dq_at (j := 55) dk_29g_1 rfl rfl) (dq_at (j := 56) dk_29g_1 rfl rfl) (dq_at (j := 57) dk_29g_1 rfl rfl) rfl
theorem dL_law_1983 : decode cL_law 1983 = .ok (.iload 5, 2) := dq_op21 (dq_at (j := 58) dk_29g_1 rfl rfl) (dq_at (j := 59) dk_29g_1 rfl rfl) rfl
theorem dL_law_1985 : decode cL_law 1985 = .ok (.if_icmp .eq 5, 3) := dq_op159 (dq_at (j := 60) dk_29g_1 rfl rfl) (dq_at (j := 61) dk_29g_1 rfl rfl) (dq_at (j := 62) dk_29g_1 rfl rfl) (by decide +kernel)
theorem dL_law_1988 : decode cL_law 1988 = .ok (.iconst 0, 1) := dq_op3 (dq_at (j := 63) dk_29g_1 rfl rfl)
theorem dL_law_1989 : decode cL_law 1989 = .ok (.ireturn, 1) := dq_op172 (dq_at (j := 64) dk_29g_1 rfl rfl)
theorem dL_law_1990 : decode cL_law 1990 = .ok (.iload 5, 2) := dq_op21 (dq_at (j := 65) dk_29g_1 rfl rfl) (dq_at (j := 66) dk_29g_1 rfl rfl) rfl
theorem dL_law_1992 : decode cL_law 1992 = .ok (.ifCond .ne 16, 3) := dq_op154 (dq_at (j := 67) dk_29g_1 rfl rfl) (dq_at (j := 68) dk_29g_1 rfl rfl) (dq_at (j := 69) dk_29g_1 rfl rfl) (by decide +kernel)
theorem dL_law_1995 : decode cL_law 1995 = .ok (.aload_n 3, 1) := dq_op45 (dq_at (j := 70) dk_29g_1 rfl rfl)
theorem dL_law_1996 : decode cL_law 1996 = .ok (.getfield 13, 3) := dq_op180 (dq_at (j := 71) dk_29g_1 rfl rfl) (dq_at (j := 72) dk_29g_1 rfl rfl) (dq_at (j := 73) dk_29g_1 rfl rfl) rfl
theorem dL_law_1999 : decode cL_law 1999 = .ok (.iload 6, 2) := dq_op21 (dq_at (j := 74) dk_29g_1 rfl rfl) (dq_at (j := 75) dk_29g_1 rfl rfl) rfl
theorem dL_law_2001 : decode cL_law 2001 = .ok (.i2l, 1) := dq_op133 (dq_at (j := 76) dk_29g_1 rfl rfl)
theorem dL_law_2002 : decode cL_law 2002 = .ok (.lcmp, 1) := dq_op148 (dq_at (j := 77) dk_29g_1 rfl rfl)
theorem dL_law_2003 : decode cL_law 2003 = .ok (.ifCond .eq 5, 3) := dq_op153 (dq_at (j := 78) dk_29g_1 rfl rfl) (dq_at (j := 79) dk_29g_1 rfl rfl) (dq_at (j := 80) dk_29g_1 rfl rfl) (by decide +kernel)
theorem dL_law_2006 : decode cL_law 2006 = .ok (.iconst 0, 1) := dq_op3 (dq_at (j := 81) dk_29g_1 rfl rfl)
theorem dL_law_2007 : decode cL_law 2007 = .ok (.ireturn, 1) := dq_op172 (dq_at (j := 82) dk_29g_1 rfl rfl)
theorem dL_law_2008 : decode cL_law 2008 = .ok (.goto 1652, 3) := dq_op167 (dq_at (j := 83) dk_29g_1 rfl rfl) (dq_at (j := 84) dk_29g_1 rfl rfl) (dq_at (j := 85) dk_29g_1 rfl rfl) (by decide +kernel)
theorem dL_law_2011 : decode cL_law 2011 = .ok (.aload_n 1, 1) := dq_op43 (dq_at (j := 86) dk_29g_1 rfl rfl)
theorem dL_law_2012 : decode cL_law 2012 = .ok (.aload_n 0, 1) := dq_op42 (dq_at (j := 87) dk_29g_1 rfl rfl)
theorem dL_law_2013 : decode cL_law 2013 = .ok (.iload 4, 2) := dq_op21 (dq_at (j := 88) dk_29g_1 rfl rfl) (dq_at (j := 89) dk_29g_1 rfl rfl) rfl
theorem dL_law_2015 : decode cL_law 2015 = .ok (.iconst 1, 1) := dq_op4 (dq_at (j := 90) dk_29g_1 rfl rfl)
theorem dL_law_2016 : decode cL_law 2016 = .ok (.iadd, 1) := dq_op96 (dq_at (j := 91) dk_29g_1 rfl rfl)
theorem dL_law_2017 : decode cL_law 2017 = .ok (.iaload, 1) := dq_op46 (dq_at (j := 92) dk_29g_1 rfl rfl)
theorem dL_law_2018 : decode cL_law 2018 = .ok (.aload_n 0, 1) := dq_op42 (dq_at (j := 93) dk_29g_1 rfl rfl)
theorem dL_law_2019 : decode cL_law 2019 = .ok (.iload 4, 2) := dq_op21 (dq_at (j := 94) dk_29g_1 rfl rfl) (dq_at (j := 95) dk_29g_1 rfl rfl) rfl
theorem dL_law_2021 : decode cL_law 2021 = .ok (.iconst 2, 1) := dq_op5 (dq_at (j := 96) dk_29g_1 rfl rfl)
theorem dL_law_2022 : decode cL_law 2022 = .ok (.iadd, 1) := dq_op96 (dq_at (j := 97) dk_29g_1 rfl rfl)
theorem dL_law_2023 : decode cL_law 2023 = .ok (.iaload, 1) := dq_op46 (dq_at (j := 98) dk_29g_1 rfl rfl)
theorem dL_law_2024 : decode cL_law 2024 = .ok (.aload_n 3, 1) := dq_op45 (dq_at (j := 99) dk_29g_1 rfl rfl)
theorem dL_law_2025 : decode cL_law 2025 = .ok (.invokestatic 266, 3) := dq_op184 (dq_at (j := 100) dk_29g_1 rfl rfl) (dq_at (j := 101) dk_29g_1 rfl rfl) (dq_at (j := 102) dk_29g_1 rfl rfl) rfl
theorem dL_law_2028 : decode cL_law 2028 = .ok (.istore 5, 2) := dq_op54 (dq_at (j := 103) dk_29g_1 rfl rfl) (dq_at (j := 104) dk_29g_1 rfl rfl) rfl
theorem dL_law_2030 : decode cL_law 2030 = .ok (.aload_n 2, 1) := dq_op44 (dq_at (j := 105) dk_29g_1 rfl rfl)
theorem dL_law_2031 : decode cL_law 2031 = .ok (.aload_n 0, 1) := dq_op42 (dq_at (j := 106) dk_29g_1 rfl rfl)
theorem dL_law_2032 : decode cL_law 2032 = .ok (.iload 4, 2) := dq_op21 (dq_at (j := 107) dk_29g_1 rfl rfl) (dq_at (j := 108) dk_29g_1 rfl rfl) rfl
theorem dL_law_2034 : decode cL_law 2034 = .ok (.iconst 1, 1) := dq_op4 (dq_at (j := 109) dk_29g_1 rfl rfl)
theorem dL_law_2035 : decode cL_law 2035 = .ok (.iadd, 1) := dq_op96 (dq_at (j := 110) dk_29g_1 rfl rfl)
theorem dL_law_2036 : decode cL_law 2036 = .ok (.iaload, 1) := dq_op46 (dq_at (j := 111) dk_29g_1 rfl rfl)
theorem dL_law_2037 : decode cL_law 2037 = .ok (.aload_n 0, 1) := dq_op42 (dq_at (j := 112) dk_29g_1 rfl rfl)
theorem dL_law_2038 : decode cL_law 2038 = .ok (.iload 4, 2) := dq_op21 (dq_at (j := 113) dk_29g_1 rfl rfl) (dq_at (j := 114) dk_29g_1 rfl rfl) rfl
theorem dL_law_2040 : decode cL_law 2040 = .ok (.iconst 2, 1) := dq_op5 (dq_at (j := 115) dk_29g_1 rfl rfl)
theorem dL_law_2041 : decode cL_law 2041 = .ok (.iadd, 1) := dq_op96 (dq_at (j := 116) dk_29g_1 rfl rfl)
theorem dL_law_2042 : decode cL_law 2042 = .ok (.iaload, 1) := dq_op46 (dq_at (j := 117) dk_29g_1 rfl rfl)
theorem dL_law_2043 : decode cL_law 2043 = .ok (.invokevirtual 268, 3) := dq_op182 (dq_at (j := 118) dk_29g_1 rfl rfl) (dq_at (j := 119) dk_29g_1 rfl rfl) (dq_at (j := 120) dk_29g_1 rfl rfl) rfl
theorem dL_law_2046 : decode cL_law 2046 = .ok (.istore 6, 2) := dq_op54 (dq_at (j := 121) dk_29g_1 rfl rfl) (dq_at (j := 122) dk_29g_1 rfl rfl) rfl
theorem dL_law_2048 : decode cL_law 2048 = .ok (.aload_n 2, 1) := dq_op44 (dq_at (j := 123) dk_29g_1 rfl rfl)
theorem dL_law_2049 : decode cL_law 2049 = .ok (.invokevirtual 182, 3) := dq_op182 (dq_at (j := 124) dk_29g_1 rfl rfl) (dq_at (j := 125) dk_29g_1 rfl rfl) (dq_at (j := 126) dk_29g_1 rfl rfl) rfl
theorem dL_law_2052 : decode cL_law 2052 = .ok (.iload 5, 2) := dq_op21 (dq_at (j := 127) dk_29g_1 rfl rfl) (dq_at (j := 128) dk_29g_1 rfl rfl) rfl
theorem dL_law_2054 : decode cL_law 2054 = .ok (.if_icmp .eq 5, 3) := dq_op159 (dq_at (j := 129) dk_29g_1 rfl rfl) (dq_at (j := 130) dk_29g_1 rfl rfl) (dq_at (j := 131) dk_29g_1 rfl rfl) (by decide +kernel)
theorem dL_law_2057 : decode cL_law 2057 = .ok (.iconst 0, 1) := dq_op3 (dq_at (j := 132) dk_29g_1 rfl rfl)
theorem dL_law_2058 : decode cL_law 2058 = .ok (.ireturn, 1) := dq_op172 (dq_at (j := 133) dk_29g_1 rfl rfl)
theorem dL_law_2059 : decode cL_law 2059 = .ok (.iload 5, 2) := dq_op21 (dq_at (j := 134) dk_29g_1 rfl rfl) (dq_at (j := 135) dk_29g_1 rfl rfl) rfl
theorem dL_law_2061 : decode cL_law 2061 = .ok (.ifCond .ne 16, 3) := dq_op154 (dq_at (j := 136) dk_29g_1 rfl rfl) (dq_at (j := 137) dk_29g_1 rfl rfl) (dq_at (j := 138) dk_29g_1 rfl rfl) (by decide +kernel)
theorem dL_law_2064 : decode cL_law 2064 = .ok (.aload_n 3, 1) := dq_op45 (dq_at (j := 139) dk_29g_1 rfl rfl)
theorem dL_law_2065 : decode cL_law 2065 = .ok (.getfield 13, 3) := dq_op180 (dq_at (j := 140) dk_29g_1 rfl rfl) (dq_at (j := 141) dk_29g_1 rfl rfl) (dq_at (j := 142) dk_29g_1 rfl rfl) rfl
theorem dL_law_2068 : decode cL_law 2068 = .ok (.iload 6, 2) := dq_op21 (dq_at (j := 143) dk_29g_1 rfl rfl) (dq_at (j := 144) dk_29g_1 rfl rfl) rfl
theorem dL_law_2070 : decode cL_law 2070 = .ok (.i2l, 1) := dq_op133 (dq_at (j := 145) dk_29g_1 rfl rfl)
theorem dL_law_2071 : decode cL_law 2071 = .ok (.lcmp, 1) := dq_op148 (dq_at (j := 146) dk_29g_1 rfl rfl)
theorem dL_law_2072 : decode cL_law 2072 = .ok (.ifCond .eq 5, 3) := dq_op153 (dq_at (j := 147) dk_29g_1 rfl rfl) (dq_at (j := 148) dk_29g_1 rfl rfl) (dq_at (j := 149) dk_29g_1 rfl rfl) (by decide +kernel)
theorem dL_law_2075 : decode cL_law 2075 = .ok (.iconst 0, 1) := dq_op3 (dq_at (j := 150) dk_29g_1 rfl rfl)
theorem dL_law_2076 : decode cL_law 2076 = .ok (.ireturn, 1) := dq_op172 (dq_at (j := 151) dk_29g_1 rfl rfl)
theorem dL_law_2077 : decode cL_law 2077 = .ok (.goto 1583, 3) := dq_op167 (dq_at (j := 152) dk_29g_1 rfl rfl) (dq_at (j := 153) dk_29g_1 rfl rfl) (dq_at (j := 154) dk_29g_1 rfl rfl) (by decide +kernel)
theorem dL_law_2080 : decode cL_law 2080 = .ok (.aload_n 1, 1) := dq_op43 (dq_at (j := 155) dk_29g_1 rfl rfl)
theorem dL_law_2081 : decode cL_law 2081 = .ok (.aload_n 0, 1) := dq_op42 (dq_at (j := 156) dk_29g_1 rfl rfl)
theorem dL_law_2082 : decode cL_law 2082 = .ok (.iload 4, 2) := dq_op21 (dq_at (j := 157) dk_29g_1 rfl rfl) (dq_at (j := 158) dk_29g_1 rfl rfl) rfl
theorem dk_29g_2 : (cL_law.data.toList.drop 2084).take 127 = [4, 96, 46, 42, 21, 4, 5, 96, 46, 45, 184, 1, 13, 54, 5, 44, 42, 21, 4, 4, 96, 46, 42, 21, 4, 5, 96, 46, 182, 1, 15, 54, 6, 44, 182, 0, 182, 21, 5, 159, 0, 5, 3, 172, 21, 5, 154, 0, 16, 45, 180, 0, 13, 21, 6, 133, 148, 153, 0, 5, 3, 172, 167, 5, 234, 43, 42, 21, 4, 4, 96, 46, 42, 21, 4, 5, 96, 46, 45, 184, 1, 16, 54, 5, 44, 42, 21, 4, 4, 96, 46, 42, 21, 4, 5, 96, 46, 182, 1, 18, 54, 6, 44, 182, 0, 182, 21, 5, 159, 0, 5, 3, 172, 21, 5, 154, 0, 16, 45, 180, 0, 13, 21, 6, 133, 148, 153] := by decide +kernel
theorem dL_law_2084 : decode cL_law 2084 = .ok (.iconst 1, 1) := dq_op4 (dq_at (j := 0) dk_29g_2 rfl rfl)
theorem dL_law_2085 : decode cL_law 2085 = .ok (.iadd, 1) := dq_op96 (dq_at (j := 1) dk_29g_2 rfl rfl)
theorem dL_law_2086 : decode cL_law 2086 = .ok (.iaload, 1) := dq_op46 (dq_at (j := 2) dk_29g_2 rfl rfl)
theorem dL_law_2087 : decode cL_law 2087 = .ok (.aload_n 0, 1) := dq_op42 (dq_at (j := 3) dk_29g_2 rfl rfl)
theorem dL_law_2088 : decode cL_law 2088 = .ok (.iload 4, 2) := dq_op21 (dq_at (j := 4) dk_29g_2 rfl rfl) (dq_at (j := 5) dk_29g_2 rfl rfl) rfl
theorem dL_law_2090 : decode cL_law 2090 = .ok (.iconst 2, 1) := dq_op5 (dq_at (j := 6) dk_29g_2 rfl rfl)
theorem dL_law_2091 : decode cL_law 2091 = .ok (.iadd, 1) := dq_op96 (dq_at (j := 7) dk_29g_2 rfl rfl)
theorem dL_law_2092 : decode cL_law 2092 = .ok (.iaload, 1) := dq_op46 (dq_at (j := 8) dk_29g_2 rfl rfl)
theorem dL_law_2093 : decode cL_law 2093 = .ok (.aload_n 3, 1) := dq_op45 (dq_at (j := 9) dk_29g_2 rfl rfl)
theorem dL_law_2094 : decode cL_law 2094 = .ok (.invokestatic 269, 3) := dq_op184 (dq_at (j := 10) dk_29g_2 rfl rfl) (dq_at (j := 11) dk_29g_2 rfl rfl) (dq_at (j := 12) dk_29g_2 rfl rfl) rfl
theorem dL_law_2097 : decode cL_law 2097 = .ok (.istore 5, 2) := dq_op54 (dq_at (j := 13) dk_29g_2 rfl rfl) (dq_at (j := 14) dk_29g_2 rfl rfl) rfl
theorem dL_law_2099 : decode cL_law 2099 = .ok (.aload_n 2, 1) := dq_op44 (dq_at (j := 15) dk_29g_2 rfl rfl)
theorem dL_law_2100 : decode cL_law 2100 = .ok (.aload_n 0, 1) := dq_op42 (dq_at (j := 16) dk_29g_2 rfl rfl)
theorem dL_law_2101 : decode cL_law 2101 = .ok (.iload 4, 2) := dq_op21 (dq_at (j := 17) dk_29g_2 rfl rfl) (dq_at (j := 18) dk_29g_2 rfl rfl) rfl
theorem dL_law_2103 : decode cL_law 2103 = .ok (.iconst 1, 1) := dq_op4 (dq_at (j := 19) dk_29g_2 rfl rfl)
theorem dL_law_2104 : decode cL_law 2104 = .ok (.iadd, 1) := dq_op96 (dq_at (j := 20) dk_29g_2 rfl rfl)
theorem dL_law_2105 : decode cL_law 2105 = .ok (.iaload, 1) := dq_op46 (dq_at (j := 21) dk_29g_2 rfl rfl)
theorem dL_law_2106 : decode cL_law 2106 = .ok (.aload_n 0, 1) := dq_op42 (dq_at (j := 22) dk_29g_2 rfl rfl)
theorem dL_law_2107 : decode cL_law 2107 = .ok (.iload 4, 2) := dq_op21 (dq_at (j := 23) dk_29g_2 rfl rfl) (dq_at (j := 24) dk_29g_2 rfl rfl) rfl
theorem dL_law_2109 : decode cL_law 2109 = .ok (.iconst 2, 1) := dq_op5 (dq_at (j := 25) dk_29g_2 rfl rfl)
theorem dL_law_2110 : decode cL_law 2110 = .ok (.iadd, 1) := dq_op96 (dq_at (j := 26) dk_29g_2 rfl rfl)
theorem dL_law_2111 : decode cL_law 2111 = .ok (.iaload, 1) := dq_op46 (dq_at (j := 27) dk_29g_2 rfl rfl)
theorem dL_law_2112 : decode cL_law 2112 = .ok (.invokevirtual 271, 3) := dq_op182 (dq_at (j := 28) dk_29g_2 rfl rfl) (dq_at (j := 29) dk_29g_2 rfl rfl) (dq_at (j := 30) dk_29g_2 rfl rfl) rfl
theorem dL_law_2115 : decode cL_law 2115 = .ok (.istore 6, 2) := dq_op54 (dq_at (j := 31) dk_29g_2 rfl rfl) (dq_at (j := 32) dk_29g_2 rfl rfl) rfl
theorem dL_law_2117 : decode cL_law 2117 = .ok (.aload_n 2, 1) := dq_op44 (dq_at (j := 33) dk_29g_2 rfl rfl)
theorem dL_law_2118 : decode cL_law 2118 = .ok (.invokevirtual 182, 3) := dq_op182 (dq_at (j := 34) dk_29g_2 rfl rfl) (dq_at (j := 35) dk_29g_2 rfl rfl) (dq_at (j := 36) dk_29g_2 rfl rfl) rfl
theorem dL_law_2121 : decode cL_law 2121 = .ok (.iload 5, 2) := dq_op21 (dq_at (j := 37) dk_29g_2 rfl rfl) (dq_at (j := 38) dk_29g_2 rfl rfl) rfl
theorem dL_law_2123 : decode cL_law 2123 = .ok (.if_icmp .eq 5, 3) := dq_op159 (dq_at (j := 39) dk_29g_2 rfl rfl) (dq_at (j := 40) dk_29g_2 rfl rfl) (dq_at (j := 41) dk_29g_2 rfl rfl) (by decide +kernel)
theorem dL_law_2126 : decode cL_law 2126 = .ok (.iconst 0, 1) := dq_op3 (dq_at (j := 42) dk_29g_2 rfl rfl)
theorem dL_law_2127 : decode cL_law 2127 = .ok (.ireturn, 1) := dq_op172 (dq_at (j := 43) dk_29g_2 rfl rfl)
theorem dL_law_2128 : decode cL_law 2128 = .ok (.iload 5, 2) := dq_op21 (dq_at (j := 44) dk_29g_2 rfl rfl) (dq_at (j := 45) dk_29g_2 rfl rfl) rfl
theorem dL_law_2130 : decode cL_law 2130 = .ok (.ifCond .ne 16, 3) := dq_op154 (dq_at (j := 46) dk_29g_2 rfl rfl) (dq_at (j := 47) dk_29g_2 rfl rfl) (dq_at (j := 48) dk_29g_2 rfl rfl) (by decide +kernel)
theorem dL_law_2133 : decode cL_law 2133 = .ok (.aload_n 3, 1) := dq_op45 (dq_at (j := 49) dk_29g_2 rfl rfl)
theorem dL_law_2134 : decode cL_law 2134 = .ok (.getfield 13, 3) := dq_op180 (dq_at (j := 50) dk_29g_2 rfl rfl) (dq_at (j := 51) dk_29g_2 rfl rfl) (dq_at (j := 52) dk_29g_2 rfl rfl) rfl
theorem dL_law_2137 : decode cL_law 2137 = .ok (.iload 6, 2) := dq_op21 (dq_at (j := 53) dk_29g_2 rfl rfl) (dq_at (j := 54) dk_29g_2 rfl rfl) rfl
theorem dL_law_2139 : decode cL_law 2139 = .ok (.i2l, 1) := dq_op133 (dq_at (j := 55) dk_29g_2 rfl rfl)
theorem dL_law_2140 : decode cL_law 2140 = .ok (.lcmp, 1) := dq_op148 (dq_at (j := 56) dk_29g_2 rfl rfl)
theorem dL_law_2141 : decode cL_law 2141 = .ok (.ifCond .eq 5, 3) := dq_op153 (dq_at (j := 57) dk_29g_2 rfl rfl) (dq_at (j := 58) dk_29g_2 rfl rfl) (dq_at (j := 59) dk_29g_2 rfl rfl) (by decide +kernel)
theorem dL_law_2144 : decode cL_law 2144 = .ok (.iconst 0, 1) := dq_op3 (dq_at (j := 60) dk_29g_2 rfl rfl)
theorem dL_law_2145 : decode cL_law 2145 = .ok (.ireturn, 1) := dq_op172 (dq_at (j := 61) dk_29g_2 rfl rfl)
theorem dL_law_2146 : decode cL_law 2146 = .ok (.goto 1514, 3) := dq_op167 (dq_at (j := 62) dk_29g_2 rfl rfl) (dq_at (j := 63) dk_29g_2 rfl rfl) (dq_at (j := 64) dk_29g_2 rfl rfl) (by decide +kernel)
theorem dL_law_2149 : decode cL_law 2149 = .ok (.aload_n 1, 1) := dq_op43 (dq_at (j := 65) dk_29g_2 rfl rfl)
theorem dL_law_2150 : decode cL_law 2150 = .ok (.aload_n 0, 1) := dq_op42 (dq_at (j := 66) dk_29g_2 rfl rfl)
theorem dL_law_2151 : decode cL_law 2151 = .ok (.iload 4, 2) := dq_op21 (dq_at (j := 67) dk_29g_2 rfl rfl) (dq_at (j := 68) dk_29g_2 rfl rfl) rfl
theorem dL_law_2153 : decode cL_law 2153 = .ok (.iconst 1, 1) := dq_op4 (dq_at (j := 69) dk_29g_2 rfl rfl)
theorem dL_law_2154 : decode cL_law 2154 = .ok (.iadd, 1) := dq_op96 (dq_at (j := 70) dk_29g_2 rfl rfl)
theorem dL_law_2155 : decode cL_law 2155 = .ok (.iaload, 1) := dq_op46 (dq_at (j := 71) dk_29g_2 rfl rfl)
theorem dL_law_2156 : decode cL_law 2156 = .ok (.aload_n 0, 1) := dq_op42 (dq_at (j := 72) dk_29g_2 rfl rfl)
theorem dL_law_2157 : decode cL_law 2157 = .ok (.iload 4, 2) := dq_op21 (dq_at (j := 73) dk_29g_2 rfl rfl) (dq_at (j := 74) dk_29g_2 rfl rfl) rfl
theorem dL_law_2159 : decode cL_law 2159 = .ok (.iconst 2, 1) := dq_op5 (dq_at (j := 75) dk_29g_2 rfl rfl)
theorem dL_law_2160 : decode cL_law 2160 = .ok (.iadd, 1) := dq_op96 (dq_at (j := 76) dk_29g_2 rfl rfl)
theorem dL_law_2161 : decode cL_law 2161 = .ok (.iaload, 1) := dq_op46 (dq_at (j := 77) dk_29g_2 rfl rfl)
theorem dL_law_2162 : decode cL_law 2162 = .ok (.aload_n 3, 1) := dq_op45 (dq_at (j := 78) dk_29g_2 rfl rfl)
theorem dL_law_2163 : decode cL_law 2163 = .ok (.invokestatic 272, 3) := dq_op184 (dq_at (j := 79) dk_29g_2 rfl rfl) (dq_at (j := 80) dk_29g_2 rfl rfl) (dq_at (j := 81) dk_29g_2 rfl rfl) rfl
theorem dL_law_2166 : decode cL_law 2166 = .ok (.istore 5, 2) := dq_op54 (dq_at (j := 82) dk_29g_2 rfl rfl) (dq_at (j := 83) dk_29g_2 rfl rfl) rfl
theorem dL_law_2168 : decode cL_law 2168 = .ok (.aload_n 2, 1) := dq_op44 (dq_at (j := 84) dk_29g_2 rfl rfl)
theorem dL_law_2169 : decode cL_law 2169 = .ok (.aload_n 0, 1) := dq_op42 (dq_at (j := 85) dk_29g_2 rfl rfl)
theorem dL_law_2170 : decode cL_law 2170 = .ok (.iload 4, 2) := dq_op21 (dq_at (j := 86) dk_29g_2 rfl rfl) (dq_at (j := 87) dk_29g_2 rfl rfl) rfl
theorem dL_law_2172 : decode cL_law 2172 = .ok (.iconst 1, 1) := dq_op4 (dq_at (j := 88) dk_29g_2 rfl rfl)
theorem dL_law_2173 : decode cL_law 2173 = .ok (.iadd, 1) := dq_op96 (dq_at (j := 89) dk_29g_2 rfl rfl)
theorem dL_law_2174 : decode cL_law 2174 = .ok (.iaload, 1) := dq_op46 (dq_at (j := 90) dk_29g_2 rfl rfl)
theorem dL_law_2175 : decode cL_law 2175 = .ok (.aload_n 0, 1) := dq_op42 (dq_at (j := 91) dk_29g_2 rfl rfl)
theorem dL_law_2176 : decode cL_law 2176 = .ok (.iload 4, 2) := dq_op21 (dq_at (j := 92) dk_29g_2 rfl rfl) (dq_at (j := 93) dk_29g_2 rfl rfl) rfl
theorem dL_law_2178 : decode cL_law 2178 = .ok (.iconst 2, 1) := dq_op5 (dq_at (j := 94) dk_29g_2 rfl rfl)
theorem dL_law_2179 : decode cL_law 2179 = .ok (.iadd, 1) := dq_op96 (dq_at (j := 95) dk_29g_2 rfl rfl)
theorem dL_law_2180 : decode cL_law 2180 = .ok (.iaload, 1) := dq_op46 (dq_at (j := 96) dk_29g_2 rfl rfl)
theorem dL_law_2181 : decode cL_law 2181 = .ok (.invokevirtual 274, 3) := dq_op182 (dq_at (j := 97) dk_29g_2 rfl rfl) (dq_at (j := 98) dk_29g_2 rfl rfl) (dq_at (j := 99) dk_29g_2 rfl rfl) rfl
theorem dL_law_2184 : decode cL_law 2184 = .ok (.istore 6, 2) := dq_op54 (dq_at (j := 100) dk_29g_2 rfl rfl) (dq_at (j := 101) dk_29g_2 rfl rfl) rfl
theorem dL_law_2186 : decode cL_law 2186 = .ok (.aload_n 2, 1) := dq_op44 (dq_at (j := 102) dk_29g_2 rfl rfl)
theorem dL_law_2187 : decode cL_law 2187 = .ok (.invokevirtual 182, 3) := dq_op182 (dq_at (j := 103) dk_29g_2 rfl rfl) (dq_at (j := 104) dk_29g_2 rfl rfl) (dq_at (j := 105) dk_29g_2 rfl rfl) rfl
theorem dL_law_2190 : decode cL_law 2190 = .ok (.iload 5, 2) := dq_op21 (dq_at (j := 106) dk_29g_2 rfl rfl) (dq_at (j := 107) dk_29g_2 rfl rfl) rfl
theorem dL_law_2192 : decode cL_law 2192 = .ok (.if_icmp .eq 5, 3) := dq_op159 (dq_at (j := 108) dk_29g_2 rfl rfl) (dq_at (j := 109) dk_29g_2 rfl rfl) (dq_at (j := 110) dk_29g_2 rfl rfl) (by decide +kernel)
theorem dL_law_2195 : decode cL_law 2195 = .ok (.iconst 0, 1) := dq_op3 (dq_at (j := 111) dk_29g_2 rfl rfl)
theorem dL_law_2196 : decode cL_law 2196 = .ok (.ireturn, 1) := dq_op172 (dq_at (j := 112) dk_29g_2 rfl rfl)
theorem dL_law_2197 : decode cL_law 2197 = .ok (.iload 5, 2) := dq_op21 (dq_at (j := 113) dk_29g_2 rfl rfl) (dq_at (j := 114) dk_29g_2 rfl rfl) rfl
theorem dL_law_2199 : decode cL_law 2199 = .ok (.ifCond .ne 16, 3) := dq_op154 (dq_at (j := 115) dk_29g_2 rfl rfl) (dq_at (j := 116) dk_29g_2 rfl rfl) (dq_at (j := 117) dk_29g_2 rfl rfl) (by decide +kernel)
theorem dL_law_2202 : decode cL_law 2202 = .ok (.aload_n 3, 1) := dq_op45 (dq_at (j := 118) dk_29g_2 rfl rfl)
theorem dL_law_2203 : decode cL_law 2203 = .ok (.getfield 13, 3) := dq_op180 (dq_at (j := 119) dk_29g_2 rfl rfl) (dq_at (j := 120) dk_29g_2 rfl rfl) (dq_at (j := 121) dk_29g_2 rfl rfl) rfl
theorem dL_law_2206 : decode cL_law 2206 = .ok (.iload 6, 2) := dq_op21 (dq_at (j := 122) dk_29g_2 rfl rfl) (dq_at (j := 123) dk_29g_2 rfl rfl) rfl
theorem dL_law_2208 : decode cL_law 2208 = .ok (.i2l, 1) := dq_op133 (dq_at (j := 124) dk_29g_2 rfl rfl)
noncomputable def dq_end_29g : Nat := 0
theorem dk_29h_1 : (cL_law.data.toList.drop 2209).take 154 = [148, 153, 0, 5, 3, 172, 167, 5, 165, 43, 42, 21, 4, 4, 96, 46, 42, 21, 4, 5, 96, 46, 45, 184, 1, 19, 54, 5, 44, 42, 21, 4, 4, 96, 46, 42, 21, 4, 5, 96, 46, 182, 1, 21, 54, 6, 44, 182, 0, 182, 21, 5, 159, 0, 5, 3, 172, 21, 5, 154, 0, 16, 45, 180, 0, 13, 21, 6, 133, 148, 153, 0, 5, 3, 172, 167, 5, 96, 43, 42, 21, 4, 4, 96, 46, 42, 21, 4, 5, 96, 46, 42, 21, 4, 6, 96, 46, 45, 184, 1, 22, 54, 5, 44, 42, 21, 4, 4, 96, 46, 42, 21, 4, 5, 96, 46, 42, 21, 4, 6, 96, 46, 182, 1, 24, 54, 6, 44, 182, 0, 182, 21, 5, 159, 0, 5, 3, 172, 21, 5, 154, 0, 16, 45, 180, 0, 13, 21, 6, 133, 148, 153, 0, 5] := by decide +kernel
theorem dL_law_2209 : decode cL_law 2209 = .ok (.lcmp, 1) := dq_op148 (dq_at (j := 0) dk_29h_1 rfl rfl)
theorem dL_law_2210 : decode cL_law 2210 = .ok (.ifCond .eq 5, 3) := dq_op153 (dq_at (j := 1) dk_29h_1 rfl rfl) (dq_at (j := 2) dk_29h_1 rfl rfl) (dq_at (j := 3) dk_29h_1 rfl rfl) (by decide +kernel)
theorem dL_law_2213 : decode cL_law 2213 = .ok (.iconst 0, 1) := dq_op3 (dq_at (j := 4) dk_29h_1 rfl rfl)
theorem dL_law_2214 : decode cL_law 2214 = .ok (.ireturn, 1) := dq_op172 (dq_at (j := 5) dk_29h_1 rfl rfl)
theorem dL_law_2215 : decode cL_law 2215 = .ok (.goto 1445, 3) := dq_op167 (dq_at (j := 6) dk_29h_1 rfl rfl) (dq_at (j := 7) dk_29h_1 rfl rfl) (dq_at (j := 8) dk_29h_1 rfl rfl) (by decide +kernel)
theorem dL_law_2218 : decode cL_law 2218 = .ok (.aload_n 1, 1) := dq_op43 (dq_at (j := 9) dk_29h_1 rfl rfl)
theorem dL_law_2219 : decode cL_law 2219 = .ok (.aload_n 0, 1) := dq_op42 (dq_at (j := 10) dk_29h_1 rfl rfl)
theorem dL_law_2220 : decode cL_law 2220 = .ok (.iload 4, 2) := dq_op21 (dq_at (j := 11) dk_29h_1 rfl rfl) (dq_at (j := 12) dk_29h_1 rfl rfl) rfl
theorem dL_law_2222 : decode cL_law 2222 = .ok (.iconst 1, 1) := dq_op4 (dq_at (j := 13) dk_29h_1 rfl rfl)
theorem dL_law_2223 : decode cL_law 2223 = .ok (.iadd, 1) := dq_op96 (dq_at (j := 14) dk_29h_1 rfl rfl)
theorem dL_law_2224 : decode cL_law 2224 = .ok (.iaload, 1) := dq_op46 (dq_at (j := 15) dk_29h_1 rfl rfl)
theorem dL_law_2225 : decode cL_law 2225 = .ok (.aload_n 0, 1) := dq_op42 (dq_at (j := 16) dk_29h_1 rfl rfl)
theorem dL_law_2226 : decode cL_law 2226 = .ok (.iload 4, 2) := dq_op21 (dq_at (j := 17) dk_29h_1 rfl rfl) (dq_at (j := 18) dk_29h_1 rfl rfl) rfl
theorem dL_law_2228 : decode cL_law 2228 = .ok (.iconst 2, 1) := dq_op5 (dq_at (j := 19) dk_29h_1 rfl rfl)
theorem dL_law_2229 : decode cL_law 2229 = .ok (.iadd, 1) := dq_op96 (dq_at (j := 20) dk_29h_1 rfl rfl)
theorem dL_law_2230 : decode cL_law 2230 = .ok (.iaload, 1) := dq_op46 (dq_at (j := 21) dk_29h_1 rfl rfl)
theorem dL_law_2231 : decode cL_law 2231 = .ok (.aload_n 3, 1) := dq_op45 (dq_at (j := 22) dk_29h_1 rfl rfl)
theorem dL_law_2232 : decode cL_law 2232 = .ok (.invokestatic 275, 3) := dq_op184 (dq_at (j := 23) dk_29h_1 rfl rfl) (dq_at (j := 24) dk_29h_1 rfl rfl) (dq_at (j := 25) dk_29h_1 rfl rfl) rfl
theorem dL_law_2235 : decode cL_law 2235 = .ok (.istore 5, 2) := dq_op54 (dq_at (j := 26) dk_29h_1 rfl rfl) (dq_at (j := 27) dk_29h_1 rfl rfl) rfl
theorem dL_law_2237 : decode cL_law 2237 = .ok (.aload_n 2, 1) := dq_op44 (dq_at (j := 28) dk_29h_1 rfl rfl)
theorem dL_law_2238 : decode cL_law 2238 = .ok (.aload_n 0, 1) := dq_op42 (dq_at (j := 29) dk_29h_1 rfl rfl)
theorem dL_law_2239 : decode cL_law 2239 = .ok (.iload 4, 2) := dq_op21 (dq_at (j := 30) dk_29h_1 rfl rfl) (dq_at (j := 31) dk_29h_1 rfl rfl) rfl
theorem dL_law_2241 : decode cL_law 2241 = .ok (.iconst 1, 1) := dq_op4 (dq_at (j := 32) dk_29h_1 rfl rfl)
theorem dL_law_2242 : decode cL_law 2242 = .ok (.iadd, 1) := dq_op96 (dq_at (j := 33) dk_29h_1 rfl rfl)
theorem dL_law_2243 : decode cL_law 2243 = .ok (.iaload, 1) := dq_op46 (dq_at (j := 34) dk_29h_1 rfl rfl)
theorem dL_law_2244 : decode cL_law 2244 = .ok (.aload_n 0, 1) := dq_op42 (dq_at (j := 35) dk_29h_1 rfl rfl)
theorem dL_law_2245 : decode cL_law 2245 = .ok (.iload 4, 2) := dq_op21 (dq_at (j := 36) dk_29h_1 rfl rfl) (dq_at (j := 37) dk_29h_1 rfl rfl) rfl
theorem dL_law_2247 : decode cL_law 2247 = .ok (.iconst 2, 1) := dq_op5 (dq_at (j := 38) dk_29h_1 rfl rfl)
theorem dL_law_2248 : decode cL_law 2248 = .ok (.iadd, 1) := dq_op96 (dq_at (j := 39) dk_29h_1 rfl rfl)
theorem dL_law_2249 : decode cL_law 2249 = .ok (.iaload, 1) := dq_op46 (dq_at (j := 40) dk_29h_1 rfl rfl)
theorem dL_law_2250 : decode cL_law 2250 = .ok (.invokevirtual 277, 3) := dq_op182 (dq_at (j := 41) dk_29h_1 rfl rfl) (dq_at (j := 42) dk_29h_1 rfl rfl) (dq_at (j := 43) dk_29h_1 rfl rfl) rfl
theorem dL_law_2253 : decode cL_law 2253 = .ok (.istore 6, 2) := dq_op54 (dq_at (j := 44) dk_29h_1 rfl rfl) (dq_at (j := 45) dk_29h_1 rfl rfl) rfl
theorem dL_law_2255 : decode cL_law 2255 = .ok (.aload_n 2, 1) := dq_op44 (dq_at (j := 46) dk_29h_1 rfl rfl)
theorem dL_law_2256 : decode cL_law 2256 = .ok (.invokevirtual 182, 3) := dq_op182 (dq_at (j := 47) dk_29h_1 rfl rfl) (dq_at (j := 48) dk_29h_1 rfl rfl) (dq_at (j := 49) dk_29h_1 rfl rfl) rfl
theorem dL_law_2259 : decode cL_law 2259 = .ok (.iload 5, 2) := dq_op21 (dq_at (j := 50) dk_29h_1 rfl rfl) (dq_at (j := 51) dk_29h_1 rfl rfl) rfl
theorem dL_law_2261 : decode cL_law 2261 = .ok (.if_icmp .eq 5, 3) := dq_op159 (dq_at (j := 52) dk_29h_1 rfl rfl) (dq_at (j := 53) dk_29h_1 rfl rfl) (dq_at (j := 54) dk_29h_1 rfl rfl) (by decide +kernel)
theorem dL_law_2264 : decode cL_law 2264 = .ok (.iconst 0, 1) := dq_op3 (dq_at (j := 55) dk_29h_1 rfl rfl)
theorem dL_law_2265 : decode cL_law 2265 = .ok (.ireturn, 1) := dq_op172 (dq_at (j := 56) dk_29h_1 rfl rfl)
theorem dL_law_2266 : decode cL_law 2266 = .ok (.iload 5, 2) := dq_op21 (dq_at (j := 57) dk_29h_1 rfl rfl) (dq_at (j := 58) dk_29h_1 rfl rfl) rfl
theorem dL_law_2268 : decode cL_law 2268 = .ok (.ifCond .ne 16, 3) := dq_op154 (dq_at (j := 59) dk_29h_1 rfl rfl) (dq_at (j := 60) dk_29h_1 rfl rfl) (dq_at (j := 61) dk_29h_1 rfl rfl) (by decide +kernel)
theorem dL_law_2271 : decode cL_law 2271 = .ok (.aload_n 3, 1) := dq_op45 (dq_at (j := 62) dk_29h_1 rfl rfl)
theorem dL_law_2272 : decode cL_law 2272 = .ok (.getfield 13, 3) := dq_op180 (dq_at (j := 63) dk_29h_1 rfl rfl) (dq_at (j := 64) dk_29h_1 rfl rfl) (dq_at (j := 65) dk_29h_1 rfl rfl) rfl
theorem dL_law_2275 : decode cL_law 2275 = .ok (.iload 6, 2) := dq_op21 (dq_at (j := 66) dk_29h_1 rfl rfl) (dq_at (j := 67) dk_29h_1 rfl rfl) rfl
theorem dL_law_2277 : decode cL_law 2277 = .ok (.i2l, 1) := dq_op133 (dq_at (j := 68) dk_29h_1 rfl rfl)
theorem dL_law_2278 : decode cL_law 2278 = .ok (.lcmp, 1) := dq_op148 (dq_at (j := 69) dk_29h_1 rfl rfl)
theorem dL_law_2279 : decode cL_law 2279 = .ok (.ifCond .eq 5, 3) := dq_op153 (dq_at (j := 70) dk_29h_1 rfl rfl) (dq_at (j := 71) dk_29h_1 rfl rfl) (dq_at (j := 72) dk_29h_1 rfl rfl) (by decide +kernel)
theorem dL_law_2282 : decode cL_law 2282 = .ok (.iconst 0, 1) := dq_op3 (dq_at (j := 73) dk_29h_1 rfl rfl)
theorem dL_law_2283 : decode cL_law 2283 = .ok (.ireturn, 1) := dq_op172 (dq_at (j := 74) dk_29h_1 rfl rfl)
theorem dL_law_2284 : decode cL_law 2284 = .ok (.goto 1376, 3) := dq_op167 (dq_at (j := 75) dk_29h_1 rfl rfl) (dq_at (j := 76) dk_29h_1 rfl rfl) (dq_at (j := 77) dk_29h_1 rfl rfl) (by decide +kernel)
theorem dL_law_2287 : decode cL_law 2287 = .ok (.aload_n 1, 1) := dq_op43 (dq_at (j := 78) dk_29h_1 rfl rfl)
theorem dL_law_2288 : decode cL_law 2288 = .ok (.aload_n 0, 1) := dq_op42 (dq_at (j := 79) dk_29h_1 rfl rfl)
theorem dL_law_2289 : decode cL_law 2289 = .ok (.iload 4, 2) := dq_op21 (dq_at (j := 80) dk_29h_1 rfl rfl) (dq_at (j := 81) dk_29h_1 rfl rfl) rfl
theorem dL_law_2291 : decode cL_law 2291 = .ok (.iconst 1, 1) := dq_op4 (dq_at (j := 82) dk_29h_1 rfl rfl)
theorem dL_law_2292 : decode cL_law 2292 = .ok (.iadd, 1) := dq_op96 (dq_at (j := 83) dk_29h_1 rfl rfl)
theorem dL_law_2293 : decode cL_law 2293 = .ok (.iaload, 1) := dq_op46 (dq_at (j := 84) dk_29h_1 rfl rfl)
theorem dL_law_2294 : decode cL_law 2294 = .ok (.aload_n 0, 1) := dq_op42 (dq_at (j := 85) dk_29h_1 rfl rfl)
theorem dL_law_2295 : decode cL_law 2295 = .ok (.iload 4, 2) := dq_op21 (dq_at (j := 86) dk_29h_1 rfl rfl) (dq_at (j := 87) dk_29h_1 rfl rfl) rfl
theorem dL_law_2297 : decode cL_law 2297 = .ok (.iconst 2, 1) := dq_op5 (dq_at (j := 88) dk_29h_1 rfl rfl)
theorem dL_law_2298 : decode cL_law 2298 = .ok (.iadd, 1) := dq_op96 (dq_at (j := 89) dk_29h_1 rfl rfl)
theorem dL_law_2299 : decode cL_law 2299 = .ok (.iaload, 1) := dq_op46 (dq_at (j := 90) dk_29h_1 rfl rfl)
theorem dL_law_2300 : decode cL_law 2300 = .ok (.aload_n 0, 1) := dq_op42 (dq_at (j := 91) dk_29h_1 rfl rfl)
theorem dL_law_2301 : decode cL_law 2301 = .ok (.iload 4, 2) := dq_op21 (dq_at (j := 92) dk_29h_1 rfl rfl) (dq_at (j := 93) dk_29h_1 rfl rfl) rfl
theorem dL_law_2303 : decode cL_law 2303 = .ok (.iconst 3, 1) := dq_op6 (dq_at (j := 94) dk_29h_1 rfl rfl)
theorem dL_law_2304 : decode cL_law 2304 = .ok (.iadd, 1) := dq_op96 (dq_at (j := 95) dk_29h_1 rfl rfl)
theorem dL_law_2305 : decode cL_law 2305 = .ok (.iaload, 1) := dq_op46 (dq_at (j := 96) dk_29h_1 rfl rfl)
theorem dL_law_2306 : decode cL_law 2306 = .ok (.aload_n 3, 1) := dq_op45 (dq_at (j := 97) dk_29h_1 rfl rfl)
theorem dL_law_2307 : decode cL_law 2307 = .ok (.invokestatic 278, 3) := dq_op184 (dq_at (j := 98) dk_29h_1 rfl rfl) (dq_at (j := 99) dk_29h_1 rfl rfl) (dq_at (j := 100) dk_29h_1 rfl rfl) rfl
theorem dL_law_2310 : decode cL_law 2310 = .ok (.istore 5, 2) := dq_op54 (dq_at (j := 101) dk_29h_1 rfl rfl) (dq_at (j := 102) dk_29h_1 rfl rfl) rfl
theorem dL_law_2312 : decode cL_law 2312 = .ok (.aload_n 2, 1) := dq_op44 (dq_at (j := 103) dk_29h_1 rfl rfl)
theorem dL_law_2313 : decode cL_law 2313 = .ok (.aload_n 0, 1) := dq_op42 (dq_at (j := 104) dk_29h_1 rfl rfl)
theorem dL_law_2314 : decode cL_law 2314 = .ok (.iload 4, 2) := dq_op21 (dq_at (j := 105) dk_29h_1 rfl rfl) (dq_at (j := 106) dk_29h_1 rfl rfl) rfl
theorem dL_law_2316 : decode cL_law 2316 = .ok (.iconst 1, 1) := dq_op4 (dq_at (j := 107) dk_29h_1 rfl rfl)
theorem dL_law_2317 : decode cL_law 2317 = .ok (.iadd, 1) := dq_op96 (dq_at (j := 108) dk_29h_1 rfl rfl)
theorem dL_law_2318 : decode cL_law 2318 = .ok (.iaload, 1) := dq_op46 (dq_at (j := 109) dk_29h_1 rfl rfl)
theorem dL_law_2319 : decode cL_law 2319 = .ok (.aload_n 0, 1) := dq_op42 (dq_at (j := 110) dk_29h_1 rfl rfl)
theorem dL_law_2320 : decode cL_law 2320 = .ok (.iload 4, 2) := dq_op21 (dq_at (j := 111) dk_29h_1 rfl rfl) (dq_at (j := 112) dk_29h_1 rfl rfl) rfl
theorem dL_law_2322 : decode cL_law 2322 = .ok (.iconst 2, 1) := dq_op5 (dq_at (j := 113) dk_29h_1 rfl rfl)
theorem dL_law_2323 : decode cL_law 2323 = .ok (.iadd, 1) := dq_op96 (dq_at (j := 114) dk_29h_1 rfl rfl)
theorem dL_law_2324 : decode cL_law 2324 = .ok (.iaload, 1) := dq_op46 (dq_at (j := 115) dk_29h_1 rfl rfl)
theorem dL_law_2325 : decode cL_law 2325 = .ok (.aload_n 0, 1) := dq_op42 (dq_at (j := 116) dk_29h_1 rfl rfl)
theorem dL_law_2326 : decode cL_law 2326 = .ok (.iload 4, 2) := dq_op21 (dq_at (j := 117) dk_29h_1 rfl rfl) (dq_at (j := 118) dk_29h_1 rfl rfl) rfl
theorem dL_law_2328 : decode cL_law 2328 = .ok (.iconst 3, 1) := dq_op6 (dq_at (j := 119) dk_29h_1 rfl rfl)
theorem dL_law_2329 : decode cL_law 2329 = .ok (.iadd, 1) := dq_op96 (dq_at (j := 120) dk_29h_1 rfl rfl)
theorem dL_law_2330 : decode cL_law 2330 = .ok (.iaload, 1) := dq_op46 (dq_at (j := 121) dk_29h_1 rfl rfl)
theorem dL_law_2331 : decode cL_law 2331 = .ok (.invokevirtual 280, 3) := dq_op182 (dq_at (j := 122) dk_29h_1 rfl rfl) (dq_at (j := 123) dk_29h_1 rfl rfl) (dq_at (j := 124) dk_29h_1 rfl rfl) rfl
theorem dL_law_2334 : decode cL_law 2334 = .ok (.istore 6, 2) := dq_op54 (dq_at (j := 125) dk_29h_1 rfl rfl) (dq_at (j := 126) dk_29h_1 rfl rfl) rfl
theorem dL_law_2336 : decode cL_law 2336 = .ok (.aload_n 2, 1) := dq_op44 (dq_at (j := 127) dk_29h_1 rfl rfl)
theorem dL_law_2337 : decode cL_law 2337 = .ok (.invokevirtual 182, 3) := dq_op182 (dq_at (j := 128) dk_29h_1 rfl rfl) (dq_at (j := 129) dk_29h_1 rfl rfl) (dq_at (j := 130) dk_29h_1 rfl rfl) rfl
theorem dL_law_2340 : decode cL_law 2340 = .ok (.iload 5, 2) := dq_op21 (dq_at (j := 131) dk_29h_1 rfl rfl) (dq_at (j := 132) dk_29h_1 rfl rfl) rfl
theorem dL_law_2342 : decode cL_law 2342 = .ok (.if_icmp .eq 5, 3) := dq_op159 (dq_at (j := 133) dk_29h_1 rfl rfl) (dq_at (j := 134) dk_29h_1 rfl rfl) (dq_at (j := 135) dk_29h_1 rfl rfl) (by decide +kernel)
theorem dL_law_2345 : decode cL_law 2345 = .ok (.iconst 0, 1) := dq_op3 (dq_at (j := 136) dk_29h_1 rfl rfl)
theorem dL_law_2346 : decode cL_law 2346 = .ok (.ireturn, 1) := dq_op172 (dq_at (j := 137) dk_29h_1 rfl rfl)
theorem dL_law_2347 : decode cL_law 2347 = .ok (.iload 5, 2) := dq_op21 (dq_at (j := 138) dk_29h_1 rfl rfl) (dq_at (j := 139) dk_29h_1 rfl rfl) rfl
theorem dL_law_2349 : decode cL_law 2349 = .ok (.ifCond .ne 16, 3) := dq_op154 (dq_at (j := 140) dk_29h_1 rfl rfl) (dq_at (j := 141) dk_29h_1 rfl rfl) (dq_at (j := 142) dk_29h_1 rfl rfl) (by decide +kernel)
theorem dL_law_2352 : decode cL_law 2352 = .ok (.aload_n 3, 1) := dq_op45 (dq_at (j := 143) dk_29h_1 rfl rfl)
theorem dL_law_2353 : decode cL_law 2353 = .ok (.getfield 13, 3) := dq_op180 (dq_at (j := 144) dk_29h_1 rfl rfl) (dq_at (j := 145) dk_29h_1 rfl rfl) (dq_at (j := 146) dk_29h_1 rfl rfl) rfl
theorem dL_law_2356 : decode cL_law 2356 = .ok (.iload 6, 2) := dq_op21 (dq_at (j := 147) dk_29h_1 rfl rfl) (dq_at (j := 148) dk_29h_1 rfl rfl) rfl
theorem dL_law_2358 : decode cL_law 2358 = .ok (.i2l, 1) := dq_op133 (dq_at (j := 149) dk_29h_1 rfl rfl)
theorem dL_law_2359 : decode cL_law 2359 = .ok (.lcmp, 1) := dq_op148 (dq_at (j := 150) dk_29h_1 rfl rfl)
theorem dL_law_2360 : decode cL_law 2360 = .ok (.ifCond .eq 5, 3) := dq_op153 (dq_at (j := 151) dk_29h_1 rfl rfl) (dq_at (j := 152) dk_29h_1 rfl rfl) (dq_at (j := 153) dk_29h_1 rfl rfl) (by decide +kernel)
theorem dk_29h_2 : (cL_law.data.toList.drop 2363).take 118 = [3, 172, 167, 5, 15, 43, 42, 21, 4, 4, 96, 46, 42, 21, 4, 5, 96, 46, 42, 21, 4, 6, 96, 46, 45, 184, 1, 25, 54, 5, 44, 42, 21, 4, 4, 96, 46, 42, 21, 4, 5, 96, 46, 42, 21, 4, 6, 96, 46, 182, 1, 27, 54, 6, 44, 182, 0, 182, 21, 5, 159, 0, 5, 3, 172, 21, 5, 154, 0, 16, 45, 180, 0, 13, 21, 6, 133, 148, 153, 0, 5, 3, 172, 167, 4, 190, 43, 42, 21, 4, 4, 96, 46, 42, 21, 4, 5, 96, 46, 42, 21, 4, 6, 96, 46, 45, 184, 1, 28, 54, 5, 44, 42, 21, 4, 4, 96, 46] := by decide +kernel
theorem dL_law_2363 : decode cL_law 2363 = .ok (.iconst 0, 1) := dq_op3 (dq_at (j := 0) dk_29h_2 rfl rfl)
theorem dL_law_2364 : decode cL_law 2364 = .ok (.ireturn, 1) := dq_op172 (dq_at (j := 1) dk_29h_2 rfl rfl)
theorem dL_law_2365 : decode cL_law 2365 = .ok (.goto 1295, 3) := dq_op167 (dq_at (j := 2) dk_29h_2 rfl rfl) (dq_at (j := 3) dk_29h_2 rfl rfl) (dq_at (j := 4) dk_29h_2 rfl rfl) (by decide +kernel)
theorem dL_law_2368 : decode cL_law 2368 = .ok (.aload_n 1, 1) := dq_op43 (dq_at (j := 5) dk_29h_2 rfl rfl)
theorem dL_law_2369 : decode cL_law 2369 = .ok (.aload_n 0, 1) := dq_op42 (dq_at (j := 6) dk_29h_2 rfl rfl)
theorem dL_law_2370 : decode cL_law 2370 = .ok (.iload 4, 2) := dq_op21 (dq_at (j := 7) dk_29h_2 rfl rfl) (dq_at (j := 8) dk_29h_2 rfl rfl) rfl
theorem dL_law_2372 : decode cL_law 2372 = .ok (.iconst 1, 1) := dq_op4 (dq_at (j := 9) dk_29h_2 rfl rfl)
theorem dL_law_2373 : decode cL_law 2373 = .ok (.iadd, 1) := dq_op96 (dq_at (j := 10) dk_29h_2 rfl rfl)
theorem dL_law_2374 : decode cL_law 2374 = .ok (.iaload, 1) := dq_op46 (dq_at (j := 11) dk_29h_2 rfl rfl)
theorem dL_law_2375 : decode cL_law 2375 = .ok (.aload_n 0, 1) := dq_op42 (dq_at (j := 12) dk_29h_2 rfl rfl)
theorem dL_law_2376 : decode cL_law 2376 = .ok (.iload 4, 2) := dq_op21 (dq_at (j := 13) dk_29h_2 rfl rfl) (dq_at (j := 14) dk_29h_2 rfl rfl) rfl
theorem dL_law_2378 : decode cL_law 2378 = .ok (.iconst 2, 1) := dq_op5 (dq_at (j := 15) dk_29h_2 rfl rfl)
theorem dL_law_2379 : decode cL_law 2379 = .ok (.iadd, 1) := dq_op96 (dq_at (j := 16) dk_29h_2 rfl rfl)
theorem dL_law_2380 : decode cL_law 2380 = .ok (.iaload, 1) := dq_op46 (dq_at (j := 17) dk_29h_2 rfl rfl)
theorem dL_law_2381 : decode cL_law 2381 = .ok (.aload_n 0, 1) := dq_op42 (dq_at (j := 18) dk_29h_2 rfl rfl)
theorem dL_law_2382 : decode cL_law 2382 = .ok (.iload 4, 2) := dq_op21 (dq_at (j := 19) dk_29h_2 rfl rfl) (dq_at (j := 20) dk_29h_2 rfl rfl) rfl
theorem dL_law_2384 : decode cL_law 2384 = .ok (.iconst 3, 1) := dq_op6 (dq_at (j := 21) dk_29h_2 rfl rfl)
theorem dL_law_2385 : decode cL_law 2385 = .ok (.iadd, 1) := dq_op96 (dq_at (j := 22) dk_29h_2 rfl rfl)
theorem dL_law_2386 : decode cL_law 2386 = .ok (.iaload, 1) := dq_op46 (dq_at (j := 23) dk_29h_2 rfl rfl)
theorem dL_law_2387 : decode cL_law 2387 = .ok (.aload_n 3, 1) := dq_op45 (dq_at (j := 24) dk_29h_2 rfl rfl)
theorem dL_law_2388 : decode cL_law 2388 = .ok (.invokestatic 281, 3) := dq_op184 (dq_at (j := 25) dk_29h_2 rfl rfl) (dq_at (j := 26) dk_29h_2 rfl rfl) (dq_at (j := 27) dk_29h_2 rfl rfl) rfl
theorem dL_law_2391 : decode cL_law 2391 = .ok (.istore 5, 2) := dq_op54 (dq_at (j := 28) dk_29h_2 rfl rfl) (dq_at (j := 29) dk_29h_2 rfl rfl) rfl
theorem dL_law_2393 : decode cL_law 2393 = .ok (.aload_n 2, 1) := dq_op44 (dq_at (j := 30) dk_29h_2 rfl rfl)
theorem dL_law_2394 : decode cL_law 2394 = .ok (.aload_n 0, 1) := dq_op42 (dq_at (j := 31) dk_29h_2 rfl rfl)
theorem dL_law_2395 : decode cL_law 2395 = .ok (.iload 4, 2) := dq_op21 (dq_at (j := 32) dk_29h_2 rfl rfl) (dq_at (j := 33) dk_29h_2 rfl rfl) rfl
theorem dL_law_2397 : decode cL_law 2397 = .ok (.iconst 1, 1) := dq_op4 (dq_at (j := 34) dk_29h_2 rfl rfl)
theorem dL_law_2398 : decode cL_law 2398 = .ok (.iadd, 1) := dq_op96 (dq_at (j := 35) dk_29h_2 rfl rfl)
theorem dL_law_2399 : decode cL_law 2399 = .ok (.iaload, 1) := dq_op46 (dq_at (j := 36) dk_29h_2 rfl rfl)
theorem dL_law_2400 : decode cL_law 2400 = .ok (.aload_n 0, 1) := dq_op42 (dq_at (j := 37) dk_29h_2 rfl rfl)
theorem dL_law_2401 : decode cL_law 2401 = .ok (.iload 4, 2) := dq_op21 (dq_at (j := 38) dk_29h_2 rfl rfl) (dq_at (j := 39) dk_29h_2 rfl rfl) rfl
theorem dL_law_2403 : decode cL_law 2403 = .ok (.iconst 2, 1) := dq_op5 (dq_at (j := 40) dk_29h_2 rfl rfl)
theorem dL_law_2404 : decode cL_law 2404 = .ok (.iadd, 1) := dq_op96 (dq_at (j := 41) dk_29h_2 rfl rfl)
theorem dL_law_2405 : decode cL_law 2405 = .ok (.iaload, 1) := dq_op46 (dq_at (j := 42) dk_29h_2 rfl rfl)
theorem dL_law_2406 : decode cL_law 2406 = .ok (.aload_n 0, 1) := dq_op42 (dq_at (j := 43) dk_29h_2 rfl rfl)
theorem dL_law_2407 : decode cL_law 2407 = .ok (.iload 4, 2) := dq_op21 (dq_at (j := 44) dk_29h_2 rfl rfl) (dq_at (j := 45) dk_29h_2 rfl rfl) rfl
theorem dL_law_2409 : decode cL_law 2409 = .ok (.iconst 3, 1) := dq_op6 (dq_at (j := 46) dk_29h_2 rfl rfl)
theorem dL_law_2410 : decode cL_law 2410 = .ok (.iadd, 1) := dq_op96 (dq_at (j := 47) dk_29h_2 rfl rfl)
theorem dL_law_2411 : decode cL_law 2411 = .ok (.iaload, 1) := dq_op46 (dq_at (j := 48) dk_29h_2 rfl rfl)
theorem dL_law_2412 : decode cL_law 2412 = .ok (.invokevirtual 283, 3) := dq_op182 (dq_at (j := 49) dk_29h_2 rfl rfl) (dq_at (j := 50) dk_29h_2 rfl rfl) (dq_at (j := 51) dk_29h_2 rfl rfl) rfl
theorem dL_law_2415 : decode cL_law 2415 = .ok (.istore 6, 2) := dq_op54 (dq_at (j := 52) dk_29h_2 rfl rfl) (dq_at (j := 53) dk_29h_2 rfl rfl) rfl
theorem dL_law_2417 : decode cL_law 2417 = .ok (.aload_n 2, 1) := dq_op44 (dq_at (j := 54) dk_29h_2 rfl rfl)
theorem dL_law_2418 : decode cL_law 2418 = .ok (.invokevirtual 182, 3) := dq_op182 (dq_at (j := 55) dk_29h_2 rfl rfl) (dq_at (j := 56) dk_29h_2 rfl rfl) (dq_at (j := 57) dk_29h_2 rfl rfl) rfl
theorem dL_law_2421 : decode cL_law 2421 = .ok (.iload 5, 2) := dq_op21 (dq_at (j := 58) dk_29h_2 rfl rfl) (dq_at (j := 59) dk_29h_2 rfl rfl) rfl
theorem dL_law_2423 : decode cL_law 2423 = .ok (.if_icmp .eq 5, 3) := dq_op159 (dq_at (j := 60) dk_29h_2 rfl rfl) (dq_at (j := 61) dk_29h_2 rfl rfl) (dq_at (j := 62) dk_29h_2 rfl rfl) (by decide +kernel)
theorem dL_law_2426 : decode cL_law 2426 = .ok (.iconst 0, 1) := dq_op3 (dq_at (j := 63) dk_29h_2 rfl rfl)
theorem dL_law_2427 : decode cL_law 2427 = .ok (.ireturn, 1) := dq_op172 (dq_at (j := 64) dk_29h_2 rfl rfl)
theorem dL_law_2428 : decode cL_law 2428 = .ok (.iload 5, 2) := dq_op21 (dq_at (j := 65) dk_29h_2 rfl rfl) (dq_at (j := 66) dk_29h_2 rfl rfl) rfl
theorem dL_law_2430 : decode cL_law 2430 = .ok (.ifCond .ne 16, 3) := dq_op154 (dq_at (j := 67) dk_29h_2 rfl rfl) (dq_at (j := 68) dk_29h_2 rfl rfl) (dq_at (j := 69) dk_29h_2 rfl rfl) (by decide +kernel)
theorem dL_law_2433 : decode cL_law 2433 = .ok (.aload_n 3, 1) := dq_op45 (dq_at (j := 70) dk_29h_2 rfl rfl)
theorem dL_law_2434 : decode cL_law 2434 = .ok (.getfield 13, 3) := dq_op180 (dq_at (j := 71) dk_29h_2 rfl rfl) (dq_at (j := 72) dk_29h_2 rfl rfl) (dq_at (j := 73) dk_29h_2 rfl rfl) rfl
theorem dL_law_2437 : decode cL_law 2437 = .ok (.iload 6, 2) := dq_op21 (dq_at (j := 74) dk_29h_2 rfl rfl) (dq_at (j := 75) dk_29h_2 rfl rfl) rfl
theorem dL_law_2439 : decode cL_law 2439 = .ok (.i2l, 1) := dq_op133 (dq_at (j := 76) dk_29h_2 rfl rfl)
theorem dL_law_2440 : decode cL_law 2440 = .ok (.lcmp, 1) := dq_op148 (dq_at (j := 77) dk_29h_2 rfl rfl)
theorem dL_law_2441 : decode cL_law 2441 = .ok (.ifCond .eq 5, 3) := dq_op153 (dq_at (j := 78) dk_29h_2 rfl rfl) (dq_at (j := 79) dk_29h_2 rfl rfl) (dq_at (j := 80) dk_29h_2 rfl rfl) (by decide +kernel)
theorem dL_law_2444 : decode cL_law 2444 = .ok (.iconst 0, 1) := dq_op3 (dq_at (j := 81) dk_29h_2 rfl rfl)
theorem dL_law_2445 : decode cL_law 2445 = .ok (.ireturn, 1) := dq_op172 (dq_at (j := 82) dk_29h_2 rfl rfl)
theorem dL_law_2446 : decode cL_law 2446 = .ok (.goto 1214, 3) := dq_op167 (dq_at (j := 83) dk_29h_2 rfl rfl) (dq_at (j := 84) dk_29h_2 rfl rfl) (dq_at (j := 85) dk_29h_2 rfl rfl) (by decide +kernel)
theorem dL_law_2449 : decode cL_law 2449 = .ok (.aload_n 1, 1) := dq_op43 (dq_at (j := 86) dk_29h_2 rfl rfl)
theorem dL_law_2450 : decode cL_law 2450 = .ok (.aload_n 0, 1) := dq_op42 (dq_at (j := 87) dk_29h_2 rfl rfl)
theorem dL_law_2451 : decode cL_law 2451 = .ok (.iload 4, 2) := dq_op21 (dq_at (j := 88) dk_29h_2 rfl rfl) (dq_at (j := 89) dk_29h_2 rfl rfl) rfl
theorem dL_law_2453 : decode cL_law 2453 = .ok (.iconst 1, 1) := dq_op4 (dq_at (j := 90) dk_29h_2 rfl rfl)
theorem dL_law_2454 : decode cL_law 2454 = .ok (.iadd, 1) := dq_op96 (dq_at (j := 91) dk_29h_2 rfl rfl)
theorem dL_law_2455 : decode cL_law 2455 = .ok (.iaload, 1) := dq_op46 (dq_at (j := 92) dk_29h_2 rfl rfl)
theorem dL_law_2456 : decode cL_law 2456 = .ok (.aload_n 0, 1) := dq_op42 (dq_at (j := 93) dk_29h_2 rfl rfl)
theorem dL_law_2457 : decode cL_law 2457 = .ok (.iload 4, 2) := dq_op21 (dq_at (j := 94) dk_29h_2 rfl rfl) (dq_at (j := 95) dk_29h_2 rfl rfl) rfl
theorem dL_law_2459 : decode cL_law 2459 = .ok (.iconst 2, 1) := dq_op5 (dq_at (j := 96) dk_29h_2 rfl rfl)
theorem dL_law_2460 : decode cL_law 2460 = .ok (.iadd, 1) := dq_op96 (dq_at (j := 97) dk_29h_2 rfl rfl)
theorem dL_law_2461 : decode cL_law 2461 = .ok (.iaload, 1) := dq_op46 (dq_at (j := 98) dk_29h_2 rfl rfl)
theorem dL_law_2462 : decode cL_law 2462 = .ok (.aload_n 0, 1) := dq_op42 (dq_at (j := 99) dk_29h_2 rfl rfl)
theorem dL_law_2463 : decode cL_law 2463 = .ok (.iload 4, 2) := dq_op21 (dq_at (j := 100) dk_29h_2 rfl rfl) (dq_at (j := 101) dk_29h_2 rfl rfl) rfl
theorem dL_law_2465 : decode cL_law 2465 = .ok (.iconst 3, 1) := dq_op6 (dq_at (j := 102) dk_29h_2 rfl rfl)
theorem dL_law_2466 : decode cL_law 2466 = .ok (.iadd, 1) := dq_op96 (dq_at (j := 103) dk_29h_2 rfl rfl)
theorem dL_law_2467 : decode cL_law 2467 = .ok (.iaload, 1) := dq_op46 (dq_at (j := 104) dk_29h_2 rfl rfl)
theorem dL_law_2468 : decode cL_law 2468 = .ok (.aload_n 3, 1) := dq_op45 (dq_at (j := 105) dk_29h_2 rfl rfl)
theorem dL_law_2469 : decode cL_law 2469 = .ok (.invokestatic 284, 3) := dq_op184 (dq_at (j := 106) dk_29h_2 rfl rfl) (dq_at (j := 107) dk_29h_2 rfl rfl) (dq_at (j := 108) dk_29h_2 rfl rfl) rfl
theorem dL_law_2472 : decode cL_law 2472 = .ok (.istore 5, 2) := dq_op54 (dq_at (j := 109) dk_29h_2 rfl rfl) (dq_at (j := 110) dk_29h_2 rfl rfl) rfl
theorem dL_law_2474 : decode cL_law 2474 = .ok (.aload_n 2, 1) := dq_op44 (dq_at (j := 111) dk_29h_2 rfl rfl)
theorem dL_law_2475 : decode cL_law 2475 = .ok (.aload_n 0, 1) := dq_op42 (dq_at (j := 112) dk_29h_2 rfl rfl)
theorem dL_law_2476 : decode cL_law 2476 = .ok (.iload 4, 2) := dq_op21 (dq_at (j := 113) dk_29h_2 rfl rfl) (dq_at (j := 114) dk_29h_2 rfl rfl) rfl
theorem dL_law_2478 : decode cL_law 2478 = .ok (.iconst 1, 1) := dq_op4 (dq_at (j := 115) dk_29h_2 rfl rfl)
noncomputable def dq_end_29h : Nat := 0
