
theorem dq_u1 {c : ByteArray} {p : Nat} {b : UInt8} (h : c.data.toList[p]? = some b) : (Reader.u1 : Reader DecodeError Nat) c p = .ok (b.toNat, p + 1) := by
  obtain ⟨h1, h2⟩ := List.getElem?_eq_some_iff.mp h
  have hp : p < c.size := by simpa using h1
  have hb : c[p] = b := h2
  show (do if h : p < c.size then do set (p + 1); Pure.pure c[p].toNat else MonadExcept.throw (HasTruncated.truncated p) : Reader DecodeError Nat) c p = _
  rw [dif_pos hp, hb]; rfl
theorem dq_u1n {c : ByteArray} {p n : Nat} {b : UInt8} (h : c.data.toList[p]? = some b) (hn : b.toNat = n) : (Reader.u1 : Reader DecodeError Nat) c p = .ok (n, p + 1) := by
  subst hn; exact dq_u1 h
theorem dq_bind {α β : Type} {r : Reader DecodeError α} {f : α → Reader DecodeError β} {c : ByteArray} {p q : Nat} {a : α} (h : r c p = .ok (a, q)) : (r >>= f) c p = f a c q := by
  show (do let (a, s) ← r c p; f a c s : Except DecodeError (β × Nat)) = _
  rw [h]; rfl
theorem dq_u2 {c : ByteArray} {p : Nat} {x y : UInt8} (h : c.data.toList[p]? = some x) (g : c.data.toList[p + 1]? = some y) : (Reader.u2 : Reader DecodeError Nat) c p = .ok (x.toNat * 256 + y.toNat, p + 2) := by
  delta Reader.u2
  refine (dq_bind (dq_u1 h)).trans ?_
  refine (dq_bind (dq_u1 g)).trans ?_
  rfl
theorem dq_map {c : ByteArray} {p q n : Nat} {r : Reader DecodeError Nat} (g : Nat → Int) (h : r c p = .ok (n, q)) : (g <$> r : Reader DecodeError Int) c p = .ok (g n, q) := by
  show (do let (a, s) ← r c p; .ok (g a, s) : Except DecodeError (Int × Nat)) = _
  rw [h]; rfl
theorem dq_s1 {c : ByteArray} {p : Nat} {x : UInt8} (h : c.data.toList[p]? = some x) : (Reader.s1 : Reader DecodeError Int) c p = .ok (Reader.signed 8 x.toNat, p + 1) := dq_map _ (dq_u1 h)
theorem dq_s2 {c : ByteArray} {p : Nat} {x y : UInt8} (h : c.data.toList[p]? = some x) (g : c.data.toList[p + 1]? = some y) : (Reader.s2 : Reader DecodeError Int) c p = .ok (Reader.signed 16 (x.toNat * 256 + y.toNat), p + 2) := dq_map _ (dq_u2 h g)
theorem dq_dec {c : ByteArray} {pc k : Nat} {i : Instr} (h : Decoder.instr pc c pc = .ok (i, pc + k)) : decode c pc = .ok (i, k) := by
  have : decode c pc = (match Decoder.instr pc c pc with | .error x => .error x | .ok (j, s) => .ok (j, s - pc)) := by
    show (do let (j, s) ← Decoder.instr pc c pc; Pure.pure (j, s - pc) : Except DecodeError (Instr × Nat)) = _
    cases Decoder.instr pc c pc <;> rfl
  rw [this, h]
  show Except.ok (i, pc + k - pc) = _
  rw [Nat.add_sub_cancel_left]
theorem dq_at {l t : List UInt8} {a n j p : Nat} {b : UInt8} (h : (l.drop a).take n = t) (e : t[j]? = some b) (hp : p = a + j) : l[p]? = some b := by
  subst hp; subst h
  rw [List.getElem?_take] at e
  split at e
  · rw [List.getElem?_drop] at e; exact e
  · cases e

theorem dq_op187 {c : ByteArray} {pc : Nat} {x y : UInt8} {v : Nat} (h0 : c.data.toList[pc]? = some 187) (h1 : c.data.toList[pc + 1]? = some x) (h2 : c.data.toList[pc + 1 + 1]? = some y) (hv : x.toNat * 256 + y.toNat = v) : decode c pc = .ok (.new v, 3) := by
  subst hv
  refine dq_dec (k := 3) ?_
  delta Decoder.instr
  refine (dq_bind (dq_u1n (n := 187) h0 rfl)).trans ?_
  refine (dq_bind (dq_u2 h1 h2)).trans ?_
  rfl
theorem dq_op89 {c : ByteArray} {pc : Nat} (h0 : c.data.toList[pc]? = some 89) : decode c pc = .ok (.dup, 1) := by
  refine dq_dec (k := 1) ?_
  delta Decoder.instr
  refine (dq_bind (dq_u1n (n := 89) h0 rfl)).trans ?_
  rfl
theorem dq_op183 {c : ByteArray} {pc : Nat} {x y : UInt8} {v : Nat} (h0 : c.data.toList[pc]? = some 183) (h1 : c.data.toList[pc + 1]? = some x) (h2 : c.data.toList[pc + 1 + 1]? = some y) (hv : x.toNat * 256 + y.toNat = v) : decode c pc = .ok (.invokespecial v, 3) := by
  subst hv
  refine dq_dec (k := 3) ?_
  delta Decoder.instr
  refine (dq_bind (dq_u1n (n := 183) h0 rfl)).trans ?_
  refine (dq_bind (dq_u2 h1 h2)).trans ?_
  rfl
theorem dq_op76 {c : ByteArray} {pc : Nat} (h0 : c.data.toList[pc]? = some 76) : decode c pc = .ok (.astore_n 1, 1) := by
  refine dq_dec (k := 1) ?_
  delta Decoder.instr
  refine (dq_bind (dq_u1n (n := 76) h0 rfl)).trans ?_
  rfl
theorem dq_op77 {c : ByteArray} {pc : Nat} (h0 : c.data.toList[pc]? = some 77) : decode c pc = .ok (.astore_n 2, 1) := by
  refine dq_dec (k := 1) ?_
  delta Decoder.instr
  refine (dq_bind (dq_u1n (n := 77) h0 rfl)).trans ?_
  rfl
theorem dq_op78 {c : ByteArray} {pc : Nat} (h0 : c.data.toList[pc]? = some 78) : decode c pc = .ok (.astore_n 3, 1) := by
  refine dq_dec (k := 1) ?_
  delta Decoder.instr
  refine (dq_bind (dq_u1n (n := 78) h0 rfl)).trans ?_
  rfl
theorem dq_op3 {c : ByteArray} {pc : Nat} (h0 : c.data.toList[pc]? = some 3) : decode c pc = .ok (.iconst 0, 1) := by
  refine dq_dec (k := 1) ?_
  delta Decoder.instr
  refine (dq_bind (dq_u1n (n := 3) h0 rfl)).trans ?_
  rfl
theorem dq_op54 {c : ByteArray} {pc : Nat} {x : UInt8} {v : Nat} (h0 : c.data.toList[pc]? = some 54) (h1 : c.data.toList[pc + 1]? = some x) (hv : x.toNat = v) : decode c pc = .ok (.istore v, 2) := by
  subst hv
  refine dq_dec (k := 2) ?_
  delta Decoder.instr
  refine (dq_bind (dq_u1n (n := 54) h0 rfl)).trans ?_
  refine (dq_bind (dq_u1 h1)).trans ?_
  rfl
theorem dq_op21 {c : ByteArray} {pc : Nat} {x : UInt8} {v : Nat} (h0 : c.data.toList[pc]? = some 21) (h1 : c.data.toList[pc + 1]? = some x) (hv : x.toNat = v) : decode c pc = .ok (.iload v, 2) := by
  subst hv
  refine dq_dec (k := 2) ?_
  delta Decoder.instr
  refine (dq_bind (dq_u1n (n := 21) h0 rfl)).trans ?_
  refine (dq_bind (dq_u1 h1)).trans ?_
  rfl
theorem dq_op42 {c : ByteArray} {pc : Nat} (h0 : c.data.toList[pc]? = some 42) : decode c pc = .ok (.aload_n 0, 1) := by
  refine dq_dec (k := 1) ?_
  delta Decoder.instr
  refine (dq_bind (dq_u1n (n := 42) h0 rfl)).trans ?_
  rfl
theorem dq_op190 {c : ByteArray} {pc : Nat} (h0 : c.data.toList[pc]? = some 190) : decode c pc = .ok (.arraylength, 1) := by
  refine dq_dec (k := 1) ?_
  delta Decoder.instr
  refine (dq_bind (dq_u1n (n := 190) h0 rfl)).trans ?_
  rfl
theorem dq_op7 {c : ByteArray} {pc : Nat} (h0 : c.data.toList[pc]? = some 7) : decode c pc = .ok (.iconst 4, 1) := by
  refine dq_dec (k := 1) ?_
  delta Decoder.instr
  refine (dq_bind (dq_u1n (n := 7) h0 rfl)).trans ?_
  rfl
theorem dq_op100 {c : ByteArray} {pc : Nat} (h0 : c.data.toList[pc]? = some 100) : decode c pc = .ok (.isub, 1) := by
  refine dq_dec (k := 1) ?_
  delta Decoder.instr
  refine (dq_bind (dq_u1n (n := 100) h0 rfl)).trans ?_
  rfl
theorem dq_op163 {c : ByteArray} {pc : Nat} {x y : UInt8} {v : Int} (h0 : c.data.toList[pc]? = some 163) (h1 : c.data.toList[pc + 1]? = some x) (h2 : c.data.toList[pc + 1 + 1]? = some y) (hv : Reader.signed 16 (x.toNat * 256 + y.toNat) = v) : decode c pc = .ok (.if_icmp .gt v, 3) := by
  subst hv
  refine dq_dec (k := 3) ?_
  delta Decoder.instr
  refine (dq_bind (dq_u1n (n := 163) h0 rfl)).trans ?_
  refine (dq_bind (dq_s2 h1 h2)).trans ?_
  rfl
theorem dq_op46 {c : ByteArray} {pc : Nat} (h0 : c.data.toList[pc]? = some 46) : decode c pc = .ok (.iaload, 1) := by
  refine dq_dec (k := 1) ?_
  delta Decoder.instr
  refine (dq_bind (dq_u1n (n := 46) h0 rfl)).trans ?_
  rfl
theorem dq_op16 {c : ByteArray} {pc : Nat} {x : UInt8} {v : Int} (h0 : c.data.toList[pc]? = some 16) (h1 : c.data.toList[pc + 1]? = some x) (hv : (Reader.signed 8 x.toNat) = v) : decode c pc = .ok (.bipush v, 2) := by
  subst hv
  refine dq_dec (k := 2) ?_
  delta Decoder.instr
  refine (dq_bind (dq_u1n (n := 16) h0 rfl)).trans ?_
  refine (dq_bind (dq_s1 h1)).trans ?_
  rfl
theorem dq_op126 {c : ByteArray} {pc : Nat} (h0 : c.data.toList[pc]? = some 126) : decode c pc = .ok (.iand, 1) := by
  refine dq_dec (k := 1) ?_
  delta Decoder.instr
  refine (dq_bind (dq_u1n (n := 126) h0 rfl)).trans ?_
  rfl
theorem dq_op43 {c : ByteArray} {pc : Nat} (h0 : c.data.toList[pc]? = some 43) : decode c pc = .ok (.aload_n 1, 1) := by
  refine dq_dec (k := 1) ?_
  delta Decoder.instr
  refine (dq_bind (dq_u1n (n := 43) h0 rfl)).trans ?_
  rfl
theorem dq_op4 {c : ByteArray} {pc : Nat} (h0 : c.data.toList[pc]? = some 4) : decode c pc = .ok (.iconst 1, 1) := by
  refine dq_dec (k := 1) ?_
  delta Decoder.instr
  refine (dq_bind (dq_u1n (n := 4) h0 rfl)).trans ?_
  rfl
theorem dq_op96 {c : ByteArray} {pc : Nat} (h0 : c.data.toList[pc]? = some 96) : decode c pc = .ok (.iadd, 1) := by
  refine dq_dec (k := 1) ?_
  delta Decoder.instr
  refine (dq_bind (dq_u1n (n := 96) h0 rfl)).trans ?_
  rfl
theorem dq_op5 {c : ByteArray} {pc : Nat} (h0 : c.data.toList[pc]? = some 5) : decode c pc = .ok (.iconst 2, 1) := by
  refine dq_dec (k := 1) ?_
  delta Decoder.instr
  refine (dq_bind (dq_u1n (n := 5) h0 rfl)).trans ?_
  rfl
theorem dq_op6 {c : ByteArray} {pc : Nat} (h0 : c.data.toList[pc]? = some 6) : decode c pc = .ok (.iconst 3, 1) := by
  refine dq_dec (k := 1) ?_
  delta Decoder.instr
  refine (dq_bind (dq_u1n (n := 6) h0 rfl)).trans ?_
  rfl
theorem dq_op45 {c : ByteArray} {pc : Nat} (h0 : c.data.toList[pc]? = some 45) : decode c pc = .ok (.aload_n 3, 1) := by
  refine dq_dec (k := 1) ?_
  delta Decoder.instr
  refine (dq_bind (dq_u1n (n := 45) h0 rfl)).trans ?_
  rfl
theorem dq_op184 {c : ByteArray} {pc : Nat} {x y : UInt8} {v : Nat} (h0 : c.data.toList[pc]? = some 184) (h1 : c.data.toList[pc + 1]? = some x) (h2 : c.data.toList[pc + 1 + 1]? = some y) (hv : x.toNat * 256 + y.toNat = v) : decode c pc = .ok (.invokestatic v, 3) := by
  subst hv
  refine dq_dec (k := 3) ?_
  delta Decoder.instr
  refine (dq_bind (dq_u1n (n := 184) h0 rfl)).trans ?_
  refine (dq_bind (dq_u2 h1 h2)).trans ?_
  rfl
theorem dq_op44 {c : ByteArray} {pc : Nat} (h0 : c.data.toList[pc]? = some 44) : decode c pc = .ok (.aload_n 2, 1) := by
  refine dq_dec (k := 1) ?_
  delta Decoder.instr
  refine (dq_bind (dq_u1n (n := 44) h0 rfl)).trans ?_
  rfl
theorem dq_op182 {c : ByteArray} {pc : Nat} {x y : UInt8} {v : Nat} (h0 : c.data.toList[pc]? = some 182) (h1 : c.data.toList[pc + 1]? = some x) (h2 : c.data.toList[pc + 1 + 1]? = some y) (hv : x.toNat * 256 + y.toNat = v) : decode c pc = .ok (.invokevirtual v, 3) := by
  subst hv
  refine dq_dec (k := 3) ?_
  delta Decoder.instr
  refine (dq_bind (dq_u1n (n := 182) h0 rfl)).trans ?_
  refine (dq_bind (dq_u2 h1 h2)).trans ?_
  rfl
theorem dq_op167 {c : ByteArray} {pc : Nat} {x y : UInt8} {v : Int} (h0 : c.data.toList[pc]? = some 167) (h1 : c.data.toList[pc + 1]? = some x) (h2 : c.data.toList[pc + 1 + 1]? = some y) (hv : Reader.signed 16 (x.toNat * 256 + y.toNat) = v) : decode c pc = .ok (.goto v, 3) := by
  subst hv
  refine dq_dec (k := 3) ?_
  delta Decoder.instr
  refine (dq_bind (dq_u1n (n := 167) h0 rfl)).trans ?_
  refine (dq_bind (dq_s2 h1 h2)).trans ?_
  rfl
theorem dq_op153 {c : ByteArray} {pc : Nat} {x y : UInt8} {v : Int} (h0 : c.data.toList[pc]? = some 153) (h1 : c.data.toList[pc + 1]? = some x) (h2 : c.data.toList[pc + 1 + 1]? = some y) (hv : Reader.signed 16 (x.toNat * 256 + y.toNat) = v) : decode c pc = .ok (.ifCond .eq v, 3) := by
  subst hv
  refine dq_dec (k := 3) ?_
  delta Decoder.instr
  refine (dq_bind (dq_u1n (n := 153) h0 rfl)).trans ?_
  refine (dq_bind (dq_s2 h1 h2)).trans ?_
  rfl
theorem dq_op58 {c : ByteArray} {pc : Nat} {x : UInt8} {v : Nat} (h0 : c.data.toList[pc]? = some 58) (h1 : c.data.toList[pc + 1]? = some x) (hv : x.toNat = v) : decode c pc = .ok (.astore v, 2) := by
  subst hv
  refine dq_dec (k := 2) ?_
  delta Decoder.instr
  refine (dq_bind (dq_u1n (n := 58) h0 rfl)).trans ?_
  refine (dq_bind (dq_u1 h1)).trans ?_
  rfl
theorem dq_op87 {c : ByteArray} {pc : Nat} (h0 : c.data.toList[pc]? = some 87) : decode c pc = .ok (.pop, 1) := by
  refine dq_dec (k := 1) ?_
  delta Decoder.instr
  refine (dq_bind (dq_u1n (n := 87) h0 rfl)).trans ?_
  rfl
theorem dq_op148 {c : ByteArray} {pc : Nat} (h0 : c.data.toList[pc]? = some 148) : decode c pc = .ok (.lcmp, 1) := by
  refine dq_dec (k := 1) ?_
  delta Decoder.instr
  refine (dq_bind (dq_u1n (n := 148) h0 rfl)).trans ?_
  rfl
theorem dq_op172 {c : ByteArray} {pc : Nat} (h0 : c.data.toList[pc]? = some 172) : decode c pc = .ok (.ireturn, 1) := by
  refine dq_dec (k := 1) ?_
  delta Decoder.instr
  refine (dq_bind (dq_u1n (n := 172) h0 rfl)).trans ?_
  rfl
theorem dq_op132 {c : ByteArray} {pc : Nat} {x y : UInt8} {v : Nat} {w : Int} (h0 : c.data.toList[pc]? = some 132) (h1 : c.data.toList[pc + 1]? = some x) (h2 : c.data.toList[pc + 1 + 1]? = some y) (hv : x.toNat = v) (hw : Reader.signed 8 y.toNat = w) : decode c pc = .ok (.iinc v w, 3) := by
  subst hv hw
  refine dq_dec (k := 3) ?_
  delta Decoder.instr
  refine (dq_bind (dq_u1n (n := 132) h0 rfl)).trans ?_
  refine (dq_bind (dq_u1 h1)).trans ?_
  refine (dq_bind (dq_s1 h2)).trans ?_
  rfl
noncomputable def dq_end : Nat := 0
theorem dk_29a_1 : (cL_law.data.toList.drop 0).take 355 = [187, 0, 8, 89, 183, 0, 171, 76, 187, 0, 172, 89, 183, 0, 174, 77, 187, 0, 14, 89, 183, 0, 175, 78, 3, 54, 4, 21, 4, 42, 190, 7, 100, 163, 8, 165, 42, 21, 4, 46, 16, 63, 126, 170, 0, 0, 8, 149, 0, 0, 0, 0, 0, 0, 0, 48, 0, 0, 0, 209, 0, 0, 1, 5, 0, 0, 1, 45, 0, 0, 1, 85, 0, 0, 1, 125, 0, 0, 1, 165, 0, 0, 1, 217, 0, 0, 2, 13, 0, 0, 2, 65, 0, 0, 2, 93, 0, 0, 2, 149, 0, 0, 2, 177, 0, 0, 2, 205, 0, 0, 2, 233, 0, 0, 3, 29, 0, 0, 3, 81, 0, 0, 3, 121, 0, 0, 3, 161, 0, 0, 3, 229, 0, 0, 4, 13, 0, 0, 4, 53, 0, 0, 4, 81, 0, 0, 4, 137, 0, 0, 4, 165, 0, 0, 4, 205, 0, 0, 4, 245, 0, 0, 5, 29, 0, 0, 5, 69, 0, 0, 5, 109, 0, 0, 5, 161, 0, 0, 5, 213, 0, 0, 6, 9, 0, 0, 6, 37, 0, 0, 6, 93, 0, 0, 6, 121, 0, 0, 6, 149, 0, 0, 6, 201, 0, 0, 6, 253, 0, 0, 7, 37, 0, 0, 7, 77, 0, 0, 7, 145, 0, 0, 7, 185, 0, 0, 7, 225, 0, 0, 7, 253, 0, 0, 8, 53, 0, 0, 8, 81, 0, 0, 8, 109, 0, 0, 8, 122, 0, 0, 8, 135, 43, 42, 21, 4, 4, 96, 46, 42, 21, 4, 5, 96, 46, 42, 21, 4, 6, 96, 46, 45, 184, 0, 176, 54, 5, 44, 42, 21, 4, 4, 96, 46, 42, 21, 4, 5, 96, 46, 42, 21, 4, 6, 96, 46, 182, 0, 181, 54, 6, 167, 7, 147, 43, 42, 21, 4, 4, 96, 46, 42, 21, 4, 5, 96, 46, 45, 184, 0, 182, 54, 5, 44, 42, 21, 4, 4, 96, 46, 42, 21, 4, 5, 96, 46, 182, 0, 185, 54, 6, 167, 7, 107, 43, 42, 21, 4, 4, 96, 46, 42, 21, 4, 5] := by decide +kernel
theorem dL_law_0 : decode cL_law 0 = .ok (.new 8, 3) := dq_op187 (dq_at (j := 0) dk_29a_1 rfl rfl) (dq_at (j := 1) dk_29a_1 rfl rfl) (dq_at (j := 2) dk_29a_1 rfl rfl) rfl
theorem dL_law_3 : decode cL_law 3 = .ok (.dup, 1) := dq_op89 (dq_at (j := 3) dk_29a_1 rfl rfl)
theorem dL_law_4 : decode cL_law 4 = .ok (.invokespecial 171, 3) := dq_op183 (dq_at (j := 4) dk_29a_1 rfl rfl) (dq_at (j := 5) dk_29a_1 rfl rfl) (dq_at (j := 6) dk_29a_1 rfl rfl) rfl
theorem dL_law_7 : decode cL_law 7 = .ok (.astore_n 1, 1) := dq_op76 (dq_at (j := 7) dk_29a_1 rfl rfl)
theorem dL_law_8 : decode cL_law 8 = .ok (.new 172, 3) := dq_op187 (dq_at (j := 8) dk_29a_1 rfl rfl) (dq_at (j := 9) dk_29a_1 rfl rfl) (dq_at (j := 10) dk_29a_1 rfl rfl) rfl
theorem dL_law_11 : decode cL_law 11 = .ok (.dup, 1) := dq_op89 (dq_at (j := 11) dk_29a_1 rfl rfl)
theorem dL_law_12 : decode cL_law 12 = .ok (.invokespecial 174, 3) := dq_op183 (dq_at (j := 12) dk_29a_1 rfl rfl) (dq_at (j := 13) dk_29a_1 rfl rfl) (dq_at (j := 14) dk_29a_1 rfl rfl) rfl
theorem dL_law_15 : decode cL_law 15 = .ok (.astore_n 2, 1) := dq_op77 (dq_at (j := 15) dk_29a_1 rfl rfl)
theorem dL_law_16 : decode cL_law 16 = .ok (.new 14, 3) := dq_op187 (dq_at (j := 16) dk_29a_1 rfl rfl) (dq_at (j := 17) dk_29a_1 rfl rfl) (dq_at (j := 18) dk_29a_1 rfl rfl) rfl
theorem dL_law_19 : decode cL_law 19 = .ok (.dup, 1) := dq_op89 (dq_at (j := 19) dk_29a_1 rfl rfl)
theorem dL_law_20 : decode cL_law 20 = .ok (.invokespecial 175, 3) := dq_op183 (dq_at (j := 20) dk_29a_1 rfl rfl) (dq_at (j := 21) dk_29a_1 rfl rfl) (dq_at (j := 22) dk_29a_1 rfl rfl) rfl
theorem dL_law_23 : decode cL_law 23 = .ok (.astore_n 3, 1) := dq_op78 (dq_at (j := 23) dk_29a_1 rfl rfl)
theorem dL_law_24 : decode cL_law 24 = .ok (.iconst 0, 1) := dq_op3 (dq_at (j := 24) dk_29a_1 rfl rfl)
theorem dL_law_25 : decode cL_law 25 = .ok (.istore 4, 2) := dq_op54 (dq_at (j := 25) dk_29a_1 rfl rfl) (dq_at (j := 26) dk_29a_1 rfl rfl) rfl
theorem dL_law_27 : decode cL_law 27 = .ok (.iload 4, 2) := dq_op21 (dq_at (j := 27) dk_29a_1 rfl rfl) (dq_at (j := 28) dk_29a_1 rfl rfl) rfl
theorem dL_law_29 : decode cL_law 29 = .ok (.aload_n 0, 1) := dq_op42 (dq_at (j := 29) dk_29a_1 rfl rfl)
theorem dL_law_30 : decode cL_law 30 = .ok (.arraylength, 1) := dq_op190 (dq_at (j := 30) dk_29a_1 rfl rfl)
theorem dL_law_31 : decode cL_law 31 = .ok (.iconst 4, 1) := dq_op7 (dq_at (j := 31) dk_29a_1 rfl rfl)
theorem dL_law_32 : decode cL_law 32 = .ok (.isub, 1) := dq_op100 (dq_at (j := 32) dk_29a_1 rfl rfl)
theorem dL_law_33 : decode cL_law 33 = .ok (.if_icmp .gt 2213, 3) := dq_op163 (dq_at (j := 33) dk_29a_1 rfl rfl) (dq_at (j := 34) dk_29a_1 rfl rfl) (dq_at (j := 35) dk_29a_1 rfl rfl) (by decide +kernel)
theorem dL_law_36 : decode cL_law 36 = .ok (.aload_n 0, 1) := dq_op42 (dq_at (j := 36) dk_29a_1 rfl rfl)
theorem dL_law_37 : decode cL_law 37 = .ok (.iload 4, 2) := dq_op21 (dq_at (j := 37) dk_29a_1 rfl rfl) (dq_at (j := 38) dk_29a_1 rfl rfl) rfl
theorem dL_law_39 : decode cL_law 39 = .ok (.iaload, 1) := dq_op46 (dq_at (j := 39) dk_29a_1 rfl rfl)
theorem dL_law_40 : decode cL_law 40 = .ok (.bipush 63, 2) := dq_op16 (dq_at (j := 40) dk_29a_1 rfl rfl) (dq_at (j := 41) dk_29a_1 rfl rfl) (by decide +kernel)
theorem dL_law_42 : decode cL_law 42 = .ok (.iand, 1) := dq_op126 (dq_at (j := 42) dk_29a_1 rfl rfl)
theorem dL_law_43 : decode cL_law 43 = .ok (.tableswitch 2197 0 48 #[209, 261, 301, 341, 381, 421, 473, 525, 577, 605, 661, 689, 717, 745, 797, 849, 889, 929, 997, 1037, 1077, 1105, 1161, 1189, 1229, 1269, 1309, 1349, 1389, 1441, 1493, 1545, 1573, 1629, 1657, 1685, 1737, 1789, 1829, 1869, 1937, 1977, 2017, 2045, 2101, 2129, 2157, 2170, 2183], 209) := by decide +kernel
theorem dL_law_252 : decode cL_law 252 = .ok (.aload_n 1, 1) := dq_op43 (dq_at (j := 252) dk_29a_1 rfl rfl)
theorem dL_law_253 : decode cL_law 253 = .ok (.aload_n 0, 1) := dq_op42 (dq_at (j := 253) dk_29a_1 rfl rfl)
theorem dL_law_254 : decode cL_law 254 = .ok (.iload 4, 2) := dq_op21 (dq_at (j := 254) dk_29a_1 rfl rfl) (dq_at (j := 255) dk_29a_1 rfl rfl) rfl
theorem dL_law_256 : decode cL_law 256 = .ok (.iconst 1, 1) := dq_op4 (dq_at (j := 256) dk_29a_1 rfl rfl)
theorem dL_law_257 : decode cL_law 257 = .ok (.iadd, 1) := dq_op96 (dq_at (j := 257) dk_29a_1 rfl rfl)
theorem dL_law_258 : decode cL_law 258 = .ok (.iaload, 1) := dq_op46 (dq_at (j := 258) dk_29a_1 rfl rfl)
theorem dL_law_259 : decode cL_law 259 = .ok (.aload_n 0, 1) := dq_op42 (dq_at (j := 259) dk_29a_1 rfl rfl)
theorem dL_law_260 : decode cL_law 260 = .ok (.iload 4, 2) := dq_op21 (dq_at (j := 260) dk_29a_1 rfl rfl) (dq_at (j := 261) dk_29a_1 rfl rfl) rfl
theorem dL_law_262 : decode cL_law 262 = .ok (.iconst 2, 1) := dq_op5 (dq_at (j := 262) dk_29a_1 rfl rfl)
theorem dL_law_263 : decode cL_law 263 = .ok (.iadd, 1) := dq_op96 (dq_at (j := 263) dk_29a_1 rfl rfl)
theorem dL_law_264 : decode cL_law 264 = .ok (.iaload, 1) := dq_op46 (dq_at (j := 264) dk_29a_1 rfl rfl)
theorem dL_law_265 : decode cL_law 265 = .ok (.aload_n 0, 1) := dq_op42 (dq_at (j := 265) dk_29a_1 rfl rfl)
theorem dL_law_266 : decode cL_law 266 = .ok (.iload 4, 2) := dq_op21 (dq_at (j := 266) dk_29a_1 rfl rfl) (dq_at (j := 267) dk_29a_1 rfl rfl) rfl
theorem dL_law_268 : decode cL_law 268 = .ok (.iconst 3, 1) := dq_op6 (dq_at (j := 268) dk_29a_1 rfl rfl)
theorem dL_law_269 : decode cL_law 269 = .ok (.iadd, 1) := dq_op96 (dq_at (j := 269) dk_29a_1 rfl rfl)
theorem dL_law_270 : decode cL_law 270 = .ok (.iaload, 1) := dq_op46 (dq_at (j := 270) dk_29a_1 rfl rfl)
theorem dL_law_271 : decode cL_law 271 = .ok (.aload_n 3, 1) := dq_op45 (dq_at (j := 271) dk_29a_1 rfl rfl)
theorem dL_law_272 : decode cL_law 272 = .ok (.invokestatic 176, 3) := dq_op184 (dq_at (j := 272) dk_29a_1 rfl rfl) (dq_at (j := 273) dk_29a_1 rfl rfl) (dq_at (j := 274) dk_29a_1 rfl rfl) rfl
theorem dL_law_275 : decode cL_law 275 = .ok (.istore 5, 2) := dq_op54 (dq_at (j := 275) dk_29a_1 rfl rfl) (dq_at (j := 276) dk_29a_1 rfl rfl) rfl
theorem dL_law_277 : decode cL_law 277 = .ok (.aload_n 2, 1) := dq_op44 (dq_at (j := 277) dk_29a_1 rfl rfl)
theorem dL_law_278 : decode cL_law 278 = .ok (.aload_n 0, 1) := dq_op42 (dq_at (j := 278) dk_29a_1 rfl rfl)
theorem dL_law_279 : decode cL_law 279 = .ok (.iload 4, 2) := dq_op21 (dq_at (j := 279) dk_29a_1 rfl rfl) (dq_at (j := 280) dk_29a_1 rfl rfl) rfl
theorem dL_law_281 : decode cL_law 281 = .ok (.iconst 1, 1) := dq_op4 (dq_at (j := 281) dk_29a_1 rfl rfl)
theorem dL_law_282 : decode cL_law 282 = .ok (.iadd, 1) := dq_op96 (dq_at (j := 282) dk_29a_1 rfl rfl)
theorem dL_law_283 : decode cL_law 283 = .ok (.iaload, 1) := dq_op46 (dq_at (j := 283) dk_29a_1 rfl rfl)
theorem dL_law_284 : decode cL_law 284 = .ok (.aload_n 0, 1) := dq_op42 (dq_at (j := 284) dk_29a_1 rfl rfl)
theorem dL_law_285 : decode cL_law 285 = .ok (.iload 4, 2) := dq_op21 (dq_at (j := 285) dk_29a_1 rfl rfl) (dq_at (j := 286) dk_29a_1 rfl rfl) rfl
theorem dL_law_287 : decode cL_law 287 = .ok (.iconst 2, 1) := dq_op5 (dq_at (j := 287) dk_29a_1 rfl rfl)
theorem dL_law_288 : decode cL_law 288 = .ok (.iadd, 1) := dq_op96 (dq_at (j := 288) dk_29a_1 rfl rfl)
theorem dL_law_289 : decode cL_law 289 = .ok (.iaload, 1) := dq_op46 (dq_at (j := 289) dk_29a_1 rfl rfl)
theorem dL_law_290 : decode cL_law 290 = .ok (.aload_n 0, 1) := dq_op42 (dq_at (j := 290) dk_29a_1 rfl rfl)
theorem dL_law_291 : decode cL_law 291 = .ok (.iload 4, 2) := dq_op21 (dq_at (j := 291) dk_29a_1 rfl rfl) (dq_at (j := 292) dk_29a_1 rfl rfl) rfl
theorem dL_law_293 : decode cL_law 293 = .ok (.iconst 3, 1) := dq_op6 (dq_at (j := 293) dk_29a_1 rfl rfl)
theorem dL_law_294 : decode cL_law 294 = .ok (.iadd, 1) := dq_op96 (dq_at (j := 294) dk_29a_1 rfl rfl)
theorem dL_law_295 : decode cL_law 295 = .ok (.iaload, 1) := dq_op46 (dq_at (j := 295) dk_29a_1 rfl rfl)
theorem dL_law_296 : decode cL_law 296 = .ok (.invokevirtual 181, 3) := dq_op182 (dq_at (j := 296) dk_29a_1 rfl rfl) (dq_at (j := 297) dk_29a_1 rfl rfl) (dq_at (j := 298) dk_29a_1 rfl rfl) rfl
theorem dL_law_299 : decode cL_law 299 = .ok (.istore 6, 2) := dq_op54 (dq_at (j := 299) dk_29a_1 rfl rfl) (dq_at (j := 300) dk_29a_1 rfl rfl) rfl
theorem dL_law_301 : decode cL_law 301 = .ok (.goto 1939, 3) := dq_op167 (dq_at (j := 301) dk_29a_1 rfl rfl) (dq_at (j := 302) dk_29a_1 rfl rfl) (dq_at (j := 303) dk_29a_1 rfl rfl) (by decide +kernel)
theorem dL_law_304 : decode cL_law 304 = .ok (.aload_n 1, 1) := dq_op43 (dq_at (j := 304) dk_29a_1 rfl rfl)
theorem dL_law_305 : decode cL_law 305 = .ok (.aload_n 0, 1) := dq_op42 (dq_at (j := 305) dk_29a_1 rfl rfl)
theorem dL_law_306 : decode cL_law 306 = .ok (.iload 4, 2) := dq_op21 (dq_at (j := 306) dk_29a_1 rfl rfl) (dq_at (j := 307) dk_29a_1 rfl rfl) rfl
theorem dL_law_308 : decode cL_law 308 = .ok (.iconst 1, 1) := dq_op4 (dq_at (j := 308) dk_29a_1 rfl rfl)
theorem dL_law_309 : decode cL_law 309 = .ok (.iadd, 1) := dq_op96 (dq_at (j := 309) dk_29a_1 rfl rfl)
theorem dL_law_310 : decode cL_law 310 = .ok (.iaload, 1) := dq_op46 (dq_at (j := 310) dk_29a_1 rfl rfl)
theorem dL_law_311 : decode cL_law 311 = .ok (.aload_n 0, 1) := dq_op42 (dq_at (j := 311) dk_29a_1 rfl rfl)
theorem dL_law_312 : decode cL_law 312 = .ok (.iload 4, 2) := dq_op21 (dq_at (j := 312) dk_29a_1 rfl rfl) (dq_at (j := 313) dk_29a_1 rfl rfl) rfl
theorem dL_law_314 : decode cL_law 314 = .ok (.iconst 2, 1) := dq_op5 (dq_at (j := 314) dk_29a_1 rfl rfl)
theorem dL_law_315 : decode cL_law 315 = .ok (.iadd, 1) := dq_op96 (dq_at (j := 315) dk_29a_1 rfl rfl)
theorem dL_law_316 : decode cL_law 316 = .ok (.iaload, 1) := dq_op46 (dq_at (j := 316) dk_29a_1 rfl rfl)
theorem dL_law_317 : decode cL_law 317 = .ok (.aload_n 3, 1) := dq_op45 (dq_at (j := 317) dk_29a_1 rfl rfl)
theorem dL_law_318 : decode cL_law 318 = .ok (.invokestatic 182, 3) := dq_op184 (dq_at (j := 318) dk_29a_1 rfl rfl) (dq_at (j := 319) dk_29a_1 rfl rfl) (dq_at (j := 320) dk_29a_1 rfl rfl) rfl
theorem dL_law_321 : decode cL_law 321 = .ok (.istore 5, 2) := dq_op54 (dq_at (j := 321) dk_29a_1 rfl rfl) (dq_at (j := 322) dk_29a_1 rfl rfl) rfl
theorem dL_law_323 : decode cL_law 323 = .ok (.aload_n 2, 1) := dq_op44 (dq_at (j := 323) dk_29a_1 rfl rfl)
theorem dL_law_324 : decode cL_law 324 = .ok (.aload_n 0, 1) := dq_op42 (dq_at (j := 324) dk_29a_1 rfl rfl)
theorem dL_law_325 : decode cL_law 325 = .ok (.iload 4, 2) := dq_op21 (dq_at (j := 325) dk_29a_1 rfl rfl) (dq_at (j := 326) dk_29a_1 rfl rfl) rfl
theorem dL_law_327 : decode cL_law 327 = .ok (.iconst 1, 1) := dq_op4 (dq_at (j := 327) dk_29a_1 rfl rfl)
theorem dL_law_328 : decode cL_law 328 = .ok (.iadd, 1) := dq_op96 (dq_at (j := 328) dk_29a_1 rfl rfl)
theorem dL_law_329 : decode cL_law 329 = .ok (.iaload, 1) := dq_op46 (dq_at (j := 329) dk_29a_1 rfl rfl)
theorem dL_law_330 : decode cL_law 330 = .ok (.aload_n 0, 1) := dq_op42 (dq_at (j := 330) dk_29a_1 rfl rfl)
theorem dL_law_331 : decode cL_law 331 = .ok (.iload 4, 2) := dq_op21 (dq_at (j := 331) dk_29a_1 rfl rfl) (dq_at (j := 332) dk_29a_1 rfl rfl) rfl
theorem dL_law_333 : decode cL_law 333 = .ok (.iconst 2, 1) := dq_op5 (dq_at (j := 333) dk_29a_1 rfl rfl)
theorem dL_law_334 : decode cL_law 334 = .ok (.iadd, 1) := dq_op96 (dq_at (j := 334) dk_29a_1 rfl rfl)
theorem dL_law_335 : decode cL_law 335 = .ok (.iaload, 1) := dq_op46 (dq_at (j := 335) dk_29a_1 rfl rfl)
theorem dL_law_336 : decode cL_law 336 = .ok (.invokevirtual 185, 3) := dq_op182 (dq_at (j := 336) dk_29a_1 rfl rfl) (dq_at (j := 337) dk_29a_1 rfl rfl) (dq_at (j := 338) dk_29a_1 rfl rfl) rfl
theorem dL_law_339 : decode cL_law 339 = .ok (.istore 6, 2) := dq_op54 (dq_at (j := 339) dk_29a_1 rfl rfl) (dq_at (j := 340) dk_29a_1 rfl rfl) rfl
theorem dL_law_341 : decode cL_law 341 = .ok (.goto 1899, 3) := dq_op167 (dq_at (j := 341) dk_29a_1 rfl rfl) (dq_at (j := 342) dk_29a_1 rfl rfl) (dq_at (j := 343) dk_29a_1 rfl rfl) (by decide +kernel)
theorem dL_law_344 : decode cL_law 344 = .ok (.aload_n 1, 1) := dq_op43 (dq_at (j := 344) dk_29a_1 rfl rfl)
theorem dL_law_345 : decode cL_law 345 = .ok (.aload_n 0, 1) := dq_op42 (dq_at (j := 345) dk_29a_1 rfl rfl)
theorem dL_law_346 : decode cL_law 346 = .ok (.iload 4, 2) := dq_op21 (dq_at (j := 346) dk_29a_1 rfl rfl) (dq_at (j := 347) dk_29a_1 rfl rfl) rfl
theorem dL_law_348 : decode cL_law 348 = .ok (.iconst 1, 1) := dq_op4 (dq_at (j := 348) dk_29a_1 rfl rfl)
theorem dL_law_349 : decode cL_law 349 = .ok (.iadd, 1) := dq_op96 (dq_at (j := 349) dk_29a_1 rfl rfl)
theorem dL_law_350 : decode cL_law 350 = .ok (.iaload, 1) := dq_op46 (dq_at (j := 350) dk_29a_1 rfl rfl)
theorem dL_law_351 : decode cL_law 351 = .ok (.aload_n 0, 1) := dq_op42 (dq_at (j := 351) dk_29a_1 rfl rfl)
theorem dL_law_352 : decode cL_law 352 = .ok (.iload 4, 2) := dq_op21 (dq_at (j := 352) dk_29a_1 rfl rfl) (dq_at (j := 353) dk_29a_1 rfl rfl) rfl
theorem dk_29a_2 : (cL_law.data.toList.drop 354).take 117 = [5, 96, 46, 45, 184, 0, 186, 54, 5, 44, 42, 21, 4, 4, 96, 46, 42, 21, 4, 5, 96, 46, 182, 0, 188, 54, 6, 167, 7, 67, 43, 42, 21, 4, 4, 96, 46, 42, 21, 4, 5, 96, 46, 45, 184, 0, 189, 54, 5, 44, 42, 21, 4, 4, 96, 46, 42, 21, 4, 5, 96, 46, 182, 0, 191, 54, 6, 167, 7, 27, 43, 42, 21, 4, 4, 96, 46, 42, 21, 4, 5, 96, 46, 45, 184, 0, 192, 54, 5, 44, 42, 21, 4, 4, 96, 46, 42, 21, 4, 5, 96, 46, 182, 0, 194, 54, 6, 167, 6, 243, 43, 42, 21, 4, 4, 96, 46] := by decide +kernel
theorem dL_law_354 : decode cL_law 354 = .ok (.iconst 2, 1) := dq_op5 (dq_at (j := 0) dk_29a_2 rfl rfl)
theorem dL_law_355 : decode cL_law 355 = .ok (.iadd, 1) := dq_op96 (dq_at (j := 1) dk_29a_2 rfl rfl)
theorem dL_law_356 : decode cL_law 356 = .ok (.iaload, 1) := dq_op46 (dq_at (j := 2) dk_29a_2 rfl rfl)
theorem dL_law_357 : decode cL_law 357 = .ok (.aload_n 3, 1) := dq_op45 (dq_at (j := 3) dk_29a_2 rfl rfl)
theorem dL_law_358 : decode cL_law 358 = .ok (.invokestatic 186, 3) := dq_op184 (dq_at (j := 4) dk_29a_2 rfl rfl) (dq_at (j := 5) dk_29a_2 rfl rfl) (dq_at (j := 6) dk_29a_2 rfl rfl) rfl
theorem dL_law_361 : decode cL_law 361 = .ok (.istore 5, 2) := dq_op54 (dq_at (j := 7) dk_29a_2 rfl rfl) (dq_at (j := 8) dk_29a_2 rfl rfl) rfl
theorem dL_law_363 : decode cL_law 363 = .ok (.aload_n 2, 1) := dq_op44 (dq_at (j := 9) dk_29a_2 rfl rfl)
theorem dL_law_364 : decode cL_law 364 = .ok (.aload_n 0, 1) := dq_op42 (dq_at (j := 10) dk_29a_2 rfl rfl)
theorem dL_law_365 : decode cL_law 365 = .ok (.iload 4, 2) := dq_op21 (dq_at (j := 11) dk_29a_2 rfl rfl) (dq_at (j := 12) dk_29a_2 rfl rfl) rfl
theorem dL_law_367 : decode cL_law 367 = .ok (.iconst 1, 1) := dq_op4 (dq_at (j := 13) dk_29a_2 rfl rfl)
theorem dL_law_368 : decode cL_law 368 = .ok (.iadd, 1) := dq_op96 (dq_at (j := 14) dk_29a_2 rfl rfl)
theorem dL_law_369 : decode cL_law 369 = .ok (.iaload, 1) := dq_op46 (dq_at (j := 15) dk_29a_2 rfl rfl)
theorem dL_law_370 : decode cL_law 370 = .ok (.aload_n 0, 1) := dq_op42 (dq_at (j := 16) dk_29a_2 rfl rfl)
theorem dL_law_371 : decode cL_law 371 = .ok (.iload 4, 2) := dq_op21 (dq_at (j := 17) dk_29a_2 rfl rfl) (dq_at (j := 18) dk_29a_2 rfl rfl) rfl
theorem dL_law_373 : decode cL_law 373 = .ok (.iconst 2, 1) := dq_op5 (dq_at (j := 19) dk_29a_2 rfl rfl)
theorem dL_law_374 : decode cL_law 374 = .ok (.iadd, 1) := dq_op96 (dq_at (j := 20) dk_29a_2 rfl rfl)
theorem dL_law_375 : decode cL_law 375 = .ok (.iaload, 1) := dq_op46 (dq_at (j := 21) dk_29a_2 rfl rfl)
theorem dL_law_376 : decode cL_law 376 = .ok (.invokevirtual 188, 3) := dq_op182 (dq_at (j := 22) dk_29a_2 rfl rfl) (dq_at (j := 23) dk_29a_2 rfl rfl) (dq_at (j := 24) dk_29a_2 rfl rfl) rfl
theorem dL_law_379 : decode cL_law 379 = .ok (.istore 6, 2) := dq_op54 (dq_at (j := 25) dk_29a_2 rfl rfl) (dq_at (j := 26) dk_29a_2 rfl rfl) rfl
theorem dL_law_381 : decode cL_law 381 = .ok (.goto 1859, 3) := dq_op167 (dq_at (j := 27) dk_29a_2 rfl rfl) (dq_at (j := 28) dk_29a_2 rfl rfl) (dq_at (j := 29) dk_29a_2 rfl rfl) (by decide +kernel)
theorem dL_law_384 : decode cL_law 384 = .ok (.aload_n 1, 1) := dq_op43 (dq_at (j := 30) dk_29a_2 rfl rfl)
theorem dL_law_385 : decode cL_law 385 = .ok (.aload_n 0, 1) := dq_op42 (dq_at (j := 31) dk_29a_2 rfl rfl)
theorem dL_law_386 : decode cL_law 386 = .ok (.iload 4, 2) := dq_op21 (dq_at (j := 32) dk_29a_2 rfl rfl) (dq_at (j := 33) dk_29a_2 rfl rfl) rfl
theorem dL_law_388 : decode cL_law 388 = .ok (.iconst 1, 1) := dq_op4 (dq_at (j := 34) dk_29a_2 rfl rfl)
theorem dL_law_389 : decode cL_law 389 = .ok (.iadd, 1) := dq_op96 (dq_at (j := 35) dk_29a_2 rfl rfl)
theorem dL_law_390 : decode cL_law 390 = .ok (.iaload, 1) := dq_op46 (dq_at (j := 36) dk_29a_2 rfl rfl)
theorem dL_law_391 : decode cL_law 391 = .ok (.aload_n 0, 1) := dq_op42 (dq_at (j := 37) dk_29a_2 rfl rfl)
theorem dL_law_392 : decode cL_law 392 = .ok (.iload 4, 2) := dq_op21 (dq_at (j := 38) dk_29a_2 rfl rfl) (dq_at (j := 39) dk_29a_2 rfl rfl) rfl
theorem dL_law_394 : decode cL_law 394 = .ok (.iconst 2, 1) := dq_op5 (dq_at (j := 40) dk_29a_2 rfl rfl)
theorem dL_law_395 : decode cL_law 395 = .ok (.iadd, 1) := dq_op96 (dq_at (j := 41) dk_29a_2 rfl rfl)
theorem dL_law_396 : decode cL_law 396 = .ok (.iaload, 1) := dq_op46 (dq_at (j := 42) dk_29a_2 rfl rfl)
theorem dL_law_397 : decode cL_law 397 = .ok (.aload_n 3, 1) := dq_op45 (dq_at (j := 43) dk_29a_2 rfl rfl)
theorem dL_law_398 : decode cL_law 398 = .ok (.invokestatic 189, 3) := dq_op184 (dq_at (j := 44) dk_29a_2 rfl rfl) (dq_at (j := 45) dk_29a_2 rfl rfl) (dq_at (j := 46) dk_29a_2 rfl rfl) rfl
theorem dL_law_401 : decode cL_law 401 = .ok (.istore 5, 2) := dq_op54 (dq_at (j := 47) dk_29a_2 rfl rfl) (dq_at (j := 48) dk_29a_2 rfl rfl) rfl
theorem dL_law_403 : decode cL_law 403 = .ok (.aload_n 2, 1) := dq_op44 (dq_at (j := 49) dk_29a_2 rfl rfl)
theorem dL_law_404 : decode cL_law 404 = .ok (.aload_n 0, 1) := dq_op42 (dq_at (j := 50) dk_29a_2 rfl rfl)
theorem dL_law_405 : decode cL_law 405 = .ok (.iload 4, 2) := dq_op21 (dq_at (j := 51) dk_29a_2 rfl rfl) (dq_at (j := 52) dk_29a_2 rfl rfl) rfl
theorem dL_law_407 : decode cL_law 407 = .ok (.iconst 1, 1) := dq_op4 (dq_at (j := 53) dk_29a_2 rfl rfl)
theorem dL_law_408 : decode cL_law 408 = .ok (.iadd, 1) := dq_op96 (dq_at (j := 54) dk_29a_2 rfl rfl)
theorem dL_law_409 : decode cL_law 409 = .ok (.iaload, 1) := dq_op46 (dq_at (j := 55) dk_29a_2 rfl rfl)
theorem dL_law_410 : decode cL_law 410 = .ok (.aload_n 0, 1) := dq_op42 (dq_at (j := 56) dk_29a_2 rfl rfl)
theorem dL_law_411 : decode cL_law 411 = .ok (.iload 4, 2) := dq_op21 (dq_at (j := 57) dk_29a_2 rfl rfl) (dq_at (j := 58) dk_29a_2 rfl rfl) rfl
theorem dL_law_413 : decode cL_law 413 = .ok (.iconst 2, 1) := dq_op5 (dq_at (j := 59) dk_29a_2 rfl rfl)
theorem dL_law_414 : decode cL_law 414 = .ok (.iadd, 1) := dq_op96 (dq_at (j := 60) dk_29a_2 rfl rfl)
theorem dL_law_415 : decode cL_law 415 = .ok (.iaload, 1) := dq_op46 (dq_at (j := 61) dk_29a_2 rfl rfl)
theorem dL_law_416 : decode cL_law 416 = .ok (.invokevirtual 191, 3) := dq_op182 (dq_at (j := 62) dk_29a_2 rfl rfl) (dq_at (j := 63) dk_29a_2 rfl rfl) (dq_at (j := 64) dk_29a_2 rfl rfl) rfl
theorem dL_law_419 : decode cL_law 419 = .ok (.istore 6, 2) := dq_op54 (dq_at (j := 65) dk_29a_2 rfl rfl) (dq_at (j := 66) dk_29a_2 rfl rfl) rfl
theorem dL_law_421 : decode cL_law 421 = .ok (.goto 1819, 3) := dq_op167 (dq_at (j := 67) dk_29a_2 rfl rfl) (dq_at (j := 68) dk_29a_2 rfl rfl) (dq_at (j := 69) dk_29a_2 rfl rfl) (by decide +kernel)
theorem dL_law_424 : decode cL_law 424 = .ok (.aload_n 1, 1) := dq_op43 (dq_at (j := 70) dk_29a_2 rfl rfl)
theorem dL_law_425 : decode cL_law 425 = .ok (.aload_n 0, 1) := dq_op42 (dq_at (j := 71) dk_29a_2 rfl rfl)
theorem dL_law_426 : decode cL_law 426 = .ok (.iload 4, 2) := dq_op21 (dq_at (j := 72) dk_29a_2 rfl rfl) (dq_at (j := 73) dk_29a_2 rfl rfl) rfl
theorem dL_law_428 : decode cL_law 428 = .ok (.iconst 1, 1) := dq_op4 (dq_at (j := 74) dk_29a_2 rfl rfl)
theorem dL_law_429 : decode cL_law 429 = .ok (.iadd, 1) := dq_op96 (dq_at (j := 75) dk_29a_2 rfl rfl)
theorem dL_law_430 : decode cL_law 430 = .ok (.iaload, 1) := dq_op46 (dq_at (j := 76) dk_29a_2 rfl rfl)
theorem dL_law_431 : decode cL_law 431 = .ok (.aload_n 0, 1) := dq_op42 (dq_at (j := 77) dk_29a_2 rfl rfl)
theorem dL_law_432 : decode cL_law 432 = .ok (.iload 4, 2) := dq_op21 (dq_at (j := 78) dk_29a_2 rfl rfl) (dq_at (j := 79) dk_29a_2 rfl rfl) rfl
theorem dL_law_434 : decode cL_law 434 = .ok (.iconst 2, 1) := dq_op5 (dq_at (j := 80) dk_29a_2 rfl rfl)
theorem dL_law_435 : decode cL_law 435 = .ok (.iadd, 1) := dq_op96 (dq_at (j := 81) dk_29a_2 rfl rfl)
theorem dL_law_436 : decode cL_law 436 = .ok (.iaload, 1) := dq_op46 (dq_at (j := 82) dk_29a_2 rfl rfl)
theorem dL_law_437 : decode cL_law 437 = .ok (.aload_n 3, 1) := dq_op45 (dq_at (j := 83) dk_29a_2 rfl rfl)
theorem dL_law_438 : decode cL_law 438 = .ok (.invokestatic 192, 3) := dq_op184 (dq_at (j := 84) dk_29a_2 rfl rfl) (dq_at (j := 85) dk_29a_2 rfl rfl) (dq_at (j := 86) dk_29a_2 rfl rfl) rfl
theorem dL_law_441 : decode cL_law 441 = .ok (.istore 5, 2) := dq_op54 (dq_at (j := 87) dk_29a_2 rfl rfl) (dq_at (j := 88) dk_29a_2 rfl rfl) rfl
theorem dL_law_443 : decode cL_law 443 = .ok (.aload_n 2, 1) := dq_op44 (dq_at (j := 89) dk_29a_2 rfl rfl)
theorem dL_law_444 : decode cL_law 444 = .ok (.aload_n 0, 1) := dq_op42 (dq_at (j := 90) dk_29a_2 rfl rfl)
theorem dL_law_445 : decode cL_law 445 = .ok (.iload 4, 2) := dq_op21 (dq_at (j := 91) dk_29a_2 rfl rfl) (dq_at (j := 92) dk_29a_2 rfl rfl) rfl
theorem dL_law_447 : decode cL_law 447 = .ok (.iconst 1, 1) := dq_op4 (dq_at (j := 93) dk_29a_2 rfl rfl)
theorem dL_law_448 : decode cL_law 448 = .ok (.iadd, 1) := dq_op96 (dq_at (j := 94) dk_29a_2 rfl rfl)
theorem dL_law_449 : decode cL_law 449 = .ok (.iaload, 1) := dq_op46 (dq_at (j := 95) dk_29a_2 rfl rfl)
theorem dL_law_450 : decode cL_law 450 = .ok (.aload_n 0, 1) := dq_op42 (dq_at (j := 96) dk_29a_2 rfl rfl)
theorem dL_law_451 : decode cL_law 451 = .ok (.iload 4, 2) := dq_op21 (dq_at (j := 97) dk_29a_2 rfl rfl) (dq_at (j := 98) dk_29a_2 rfl rfl) rfl
theorem dL_law_453 : decode cL_law 453 = .ok (.iconst 2, 1) := dq_op5 (dq_at (j := 99) dk_29a_2 rfl rfl)
theorem dL_law_454 : decode cL_law 454 = .ok (.iadd, 1) := dq_op96 (dq_at (j := 100) dk_29a_2 rfl rfl)
theorem dL_law_455 : decode cL_law 455 = .ok (.iaload, 1) := dq_op46 (dq_at (j := 101) dk_29a_2 rfl rfl)
theorem dL_law_456 : decode cL_law 456 = .ok (.invokevirtual 194, 3) := dq_op182 (dq_at (j := 102) dk_29a_2 rfl rfl) (dq_at (j := 103) dk_29a_2 rfl rfl) (dq_at (j := 104) dk_29a_2 rfl rfl) rfl
theorem dL_law_459 : decode cL_law 459 = .ok (.istore 6, 2) := dq_op54 (dq_at (j := 105) dk_29a_2 rfl rfl) (dq_at (j := 106) dk_29a_2 rfl rfl) rfl
theorem dL_law_461 : decode cL_law 461 = .ok (.goto 1779, 3) := dq_op167 (dq_at (j := 107) dk_29a_2 rfl rfl) (dq_at (j := 108) dk_29a_2 rfl rfl) (dq_at (j := 109) dk_29a_2 rfl rfl) (by decide +kernel)
theorem dL_law_464 : decode cL_law 464 = .ok (.aload_n 1, 1) := dq_op43 (dq_at (j := 110) dk_29a_2 rfl rfl)
theorem dL_law_465 : decode cL_law 465 = .ok (.aload_n 0, 1) := dq_op42 (dq_at (j := 111) dk_29a_2 rfl rfl)
theorem dL_law_466 : decode cL_law 466 = .ok (.iload 4, 2) := dq_op21 (dq_at (j := 112) dk_29a_2 rfl rfl) (dq_at (j := 113) dk_29a_2 rfl rfl) rfl
theorem dL_law_468 : decode cL_law 468 = .ok (.iconst 1, 1) := dq_op4 (dq_at (j := 114) dk_29a_2 rfl rfl)
noncomputable def dq_end_29a : Nat := 0
theorem dk_29b_1 : (cL_law.data.toList.drop 469).take 137 = [96, 46, 42, 21, 4, 5, 96, 46, 42, 21, 4, 6, 96, 46, 45, 184, 0, 195, 54, 5, 44, 42, 21, 4, 4, 96, 46, 42, 21, 4, 5, 96, 46, 42, 21, 4, 6, 96, 46, 182, 0, 197, 54, 6, 167, 6, 191, 43, 42, 21, 4, 4, 96, 46, 42, 21, 4, 5, 96, 46, 42, 21, 4, 6, 96, 46, 45, 184, 0, 198, 54, 5, 44, 42, 21, 4, 4, 96, 46, 42, 21, 4, 5, 96, 46, 42, 21, 4, 6, 96, 46, 182, 0, 200, 54, 6, 167, 6, 139, 43, 42, 21, 4, 4, 96, 46, 42, 21, 4, 5, 96, 46, 42, 21, 4, 6, 96, 46, 45, 184, 0, 201, 54, 5, 44, 42, 21, 4, 4, 96, 46, 42, 21, 4, 5, 96, 46] := by decide +kernel
theorem dL_law_469 : decode cL_law 469 = .ok (.iadd, 1) := dq_op96 (dq_at (j := 0) dk_29b_1 rfl rfl)
theorem dL_law_470 : decode cL_law 470 = .ok (.iaload, 1) := dq_op46 (dq_at (j := 1) dk_29b_1 rfl rfl)
theorem dL_law_471 : decode cL_law 471 = .ok (.aload_n 0, 1) := dq_op42 (dq_at (j := 2) dk_29b_1 rfl rfl)
theorem dL_law_472 : decode cL_law 472 = .ok (.iload 4, 2) := dq_op21 (dq_at (j := 3) dk_29b_1 rfl rfl) (dq_at (j := 4) dk_29b_1 rfl rfl) rfl
theorem dL_law_474 : decode cL_law 474 = .ok (.iconst 2, 1) := dq_op5 (dq_at (j := 5) dk_29b_1 rfl rfl)
theorem dL_law_475 : decode cL_law 475 = .ok (.iadd, 1) := dq_op96 (dq_at (j := 6) dk_29b_1 rfl rfl)
theorem dL_law_476 : decode cL_law 476 = .ok (.iaload, 1) := dq_op46 (dq_at (j := 7) dk_29b_1 rfl rfl)
theorem dL_law_477 : decode cL_law 477 = .ok (.aload_n 0, 1) := dq_op42 (dq_at (j := 8) dk_29b_1 rfl rfl)
theorem dL_law_478 : decode cL_law 478 = .ok (.iload 4, 2) := dq_op21 (dq_at (j := 9) dk_29b_1 rfl rfl) (dq_at (j := 10) dk_29b_1 rfl rfl) rfl
theorem dL_law_480 : decode cL_law 480 = .ok (.iconst 3, 1) := dq_op6 (dq_at (j := 11) dk_29b_1 rfl rfl)
theorem dL_law_481 : decode cL_law 481 = .ok (.iadd, 1) := dq_op96 (dq_at (j := 12) dk_29b_1 rfl rfl)
theorem dL_law_482 : decode cL_law 482 = .ok (.iaload, 1) := dq_op46 (dq_at (j := 13) dk_29b_1 rfl rfl)
theorem dL_law_483 : decode cL_law 483 = .ok (.aload_n 3, 1) := dq_op45 (dq_at (j := 14) dk_29b_1 rfl rfl)
theorem dL_law_484 : decode cL_law 484 = .ok (.invokestatic 195, 3) := dq_op184 (dq_at (j := 15) dk_29b_1 rfl rfl) (dq_at (j := 16) dk_29b_1 rfl rfl) (dq_at (j := 17) dk_29b_1 rfl rfl) rfl
theorem dL_law_487 : decode cL_law 487 = .ok (.istore 5, 2) := dq_op54 (dq_at (j := 18) dk_29b_1 rfl rfl) (dq_at (j := 19) dk_29b_1 rfl rfl) rfl
theorem dL_law_489 : decode cL_law 489 = .ok (.aload_n 2, 1) := dq_op44 (dq_at (j := 20) dk_29b_1 rfl rfl)
theorem dL_law_490 : decode cL_law 490 = .ok (.aload_n 0, 1) := dq_op42 (dq_at (j := 21) dk_29b_1 rfl rfl)
theorem dL_law_491 : decode cL_law 491 = .ok (.iload 4, 2) := dq_op21 (dq_at (j := 22) dk_29b_1 rfl rfl) (dq_at (j := 23) dk_29b_1 rfl rfl) rfl
theorem dL_law_493 : decode cL_law 493 = .ok (.iconst 1, 1) := dq_op4 (dq_at (j := 24) dk_29b_1 rfl rfl)
theorem dL_law_494 : decode cL_law 494 = .ok (.iadd, 1) := dq_op96 (dq_at (j := 25) dk_29b_1 rfl rfl)
theorem dL_law_495 : decode cL_law 495 = .ok (.iaload, 1) := dq_op46 (dq_at (j := 26) dk_29b_1 rfl rfl)
theorem dL_law_496 : decode cL_law 496 = .ok (.aload_n 0, 1) := dq_op42 (dq_at (j := 27) dk_29b_1 rfl rfl)
theorem dL_law_497 : decode cL_law 497 = .ok (.iload 4, 2) := dq_op21 (dq_at (j := 28) dk_29b_1 rfl rfl) (dq_at (j := 29) dk_29b_1 rfl rfl) rfl
theorem dL_law_499 : decode cL_law 499 = .ok (.iconst 2, 1) := dq_op5 (dq_at (j := 30) dk_29b_1 rfl rfl)
theorem dL_law_500 : decode cL_law 500 = .ok (.iadd, 1) := dq_op96 (dq_at (j := 31) dk_29b_1 rfl rfl)
theorem dL_law_501 : decode cL_law 501 = .ok (.iaload, 1) := dq_op46 (dq_at (j := 32) dk_29b_1 rfl rfl)
theorem dL_law_502 : decode cL_law 502 = .ok (.aload_n 0, 1) := dq_op42 (dq_at (j := 33) dk_29b_1 rfl rfl)
theorem dL_law_503 : decode cL_law 503 = .ok (.iload 4, 2) := dq_op21 (dq_at (j := 34) dk_29b_1 rfl rfl) (dq_at (j := 35) dk_29b_1 rfl rfl) rfl
theorem dL_law_505 : decode cL_law 505 = .ok (.iconst 3, 1) := dq_op6 (dq_at (j := 36) dk_29b_1 rfl rfl)
theorem dL_law_506 : decode cL_law 506 = .ok (.iadd, 1) := dq_op96 (dq_at (j := 37) dk_29b_1 rfl rfl)
theorem dL_law_507 : decode cL_law 507 = .ok (.iaload, 1) := dq_op46 (dq_at (j := 38) dk_29b_1 rfl rfl)
theorem dL_law_508 : decode cL_law 508 = .ok (.invokevirtual 197, 3) := dq_op182 (dq_at (j := 39) dk_29b_1 rfl rfl) (dq_at (j := 40) dk_29b_1 rfl rfl) (dq_at (j := 41) dk_29b_1 rfl rfl) rfl
theorem dL_law_511 : decode cL_law 511 = .ok (.istore 6, 2) := dq_op54 (dq_at (j := 42) dk_29b_1 rfl rfl) (dq_at (j := 43) dk_29b_1 rfl rfl) rfl
theorem dL_law_513 : decode cL_law 513 = .ok (.goto 1727, 3) := dq_op167 (dq_at (j := 44) dk_29b_1 rfl rfl) (dq_at (j := 45) dk_29b_1 rfl rfl) (dq_at (j := 46) dk_29b_1 rfl rfl) (by decide +kernel)
theorem dL_law_516 : decode cL_law 516 = .ok (.aload_n 1, 1) := dq_op43 (dq_at (j := 47) dk_29b_1 rfl rfl)
theorem dL_law_517 : decode cL_law 517 = .ok (.aload_n 0, 1) := dq_op42 (dq_at (j := 48) dk_29b_1 rfl rfl)
theorem dL_law_518 : decode cL_law 518 = .ok (.iload 4, 2) := dq_op21 (dq_at (j := 49) dk_29b_1 rfl rfl) (dq_at (j := 50) dk_29b_1 rfl rfl) rfl
theorem dL_law_520 : decode cL_law 520 = .ok (.iconst 1, 1) := dq_op4 (dq_at (j := 51) dk_29b_1 rfl rfl)
theorem dL_law_521 : decode cL_law 521 = .ok (.iadd, 1) := dq_op96 (dq_at (j := 52) dk_29b_1 rfl rfl)
theorem dL_law_522 : decode cL_law 522 = .ok (.iaload, 1) := dq_op46 (dq_at (j := 53) dk_29b_1 rfl rfl)
theorem dL_law_523 : decode cL_law 523 = .ok (.aload_n 0, 1) := dq_op42 (dq_at (j := 54) dk_29b_1 rfl rfl)
theorem dL_law_524 : decode cL_law 524 = .ok (.iload 4, 2) := dq_op21 (dq_at (j := 55) dk_29b_1 rfl rfl) (dq_at (j := 56) dk_29b_1 rfl rfl) rfl
theorem dL_law_526 : decode cL_law 526 = .ok (.iconst 2, 1) := dq_op5 (dq_at (j := 57) dk_29b_1 rfl rfl)
theorem dL_law_527 : decode cL_law 527 = .ok (.iadd, 1) := dq_op96 (dq_at (j := 58) dk_29b_1 rfl rfl)
theorem dL_law_528 : decode cL_law 528 = .ok (.iaload, 1) := dq_op46 (dq_at (j := 59) dk_29b_1 rfl rfl)
theorem dL_law_529 : decode cL_law 529 = .ok (.aload_n 0, 1) := dq_op42 (dq_at (j := 60) dk_29b_1 rfl rfl)
theorem dL_law_530 : decode cL_law 530 = .ok (.iload 4, 2) := dq_op21 (dq_at (j := 61) dk_29b_1 rfl rfl) (dq_at (j := 62) dk_29b_1 rfl rfl) rfl
theorem dL_law_532 : decode cL_law 532 = .ok (.iconst 3, 1) := dq_op6 (dq_at (j := 63) dk_29b_1 rfl rfl)
theorem dL_law_533 : decode cL_law 533 = .ok (.iadd, 1) := dq_op96 (dq_at (j := 64) dk_29b_1 rfl rfl)
theorem dL_law_534 : decode cL_law 534 = .ok (.iaload, 1) := dq_op46 (dq_at (j := 65) dk_29b_1 rfl rfl)
theorem dL_law_535 : decode cL_law 535 = .ok (.aload_n 3, 1) := dq_op45 (dq_at (j := 66) dk_29b_1 rfl rfl)
theorem dL_law_536 : decode cL_law 536 = .ok (.invokestatic 198, 3) := dq_op184 (dq_at (j := 67) dk_29b_1 rfl rfl) (dq_at (j := 68) dk_29b_1 rfl rfl) (dq_at (j := 69) dk_29b_1 rfl rfl) rfl
theorem dL_law_539 : decode cL_law 539 = .ok (.istore 5, 2) := dq_op54 (dq_at (j := 70) dk_29b_1 rfl rfl) (dq_at (j := 71) dk_29b_1 rfl rfl) rfl
theorem dL_law_541 : decode cL_law 541 = .ok (.aload_n 2, 1) := dq_op44 (dq_at (j := 72) dk_29b_1 rfl rfl)
theorem dL_law_542 : decode cL_law 542 = .ok (.aload_n 0, 1) := dq_op42 (dq_at (j := 73) dk_29b_1 rfl rfl)
theorem dL_law_543 : decode cL_law 543 = .ok (.iload 4, 2) := dq_op21 (dq_at (j := 74) dk_29b_1 rfl rfl) (dq_at (j := 75) dk_29b_1 rfl rfl) rfl
theorem dL_law_545 : decode cL_law 545 = .ok (.iconst 1, 1) := dq_op4 (dq_at (j := 76) dk_29b_1 rfl rfl)
theorem dL_law_546 : decode cL_law 546 = .ok (.iadd, 1) := dq_op96 (dq_at (j := 77) dk_29b_1 rfl rfl)
theorem dL_law_547 : decode cL_law 547 = .ok (.iaload, 1) := dq_op46 (dq_at (j := 78) dk_29b_1 rfl rfl)
theorem dL_law_548 : decode cL_law 548 = .ok (.aload_n 0, 1) := dq_op42 (dq_at (j := 79) dk_29b_1 rfl rfl)
theorem dL_law_549 : decode cL_law 549 = .ok (.iload 4, 2) := dq_op21 (dq_at (j := 80) dk_29b_1 rfl rfl) (dq_at (j := 81) dk_29b_1 rfl rfl) rfl
theorem dL_law_551 : decode cL_law 551 = .ok (.iconst 2, 1) := dq_op5 (dq_at (j := 82) dk_29b_1 rfl rfl)
theorem dL_law_552 : decode cL_law 552 = .ok (.iadd, 1) := dq_op96 (dq_at (j := 83) dk_29b_1 rfl rfl)
theorem dL_law_553 : decode cL_law 553 = .ok (.iaload, 1) := dq_op46 (dq_at (j := 84) dk_29b_1 rfl rfl)
theorem dL_law_554 : decode cL_law 554 = .ok (.aload_n 0, 1) := dq_op42 (dq_at (j := 85) dk_29b_1 rfl rfl)
theorem dL_law_555 : decode cL_law 555 = .ok (.iload 4, 2) := dq_op21 (dq_at (j := 86) dk_29b_1 rfl rfl) (dq_at (j := 87) dk_29b_1 rfl rfl) rfl
theorem dL_law_557 : decode cL_law 557 = .ok (.iconst 3, 1) := dq_op6 (dq_at (j := 88) dk_29b_1 rfl rfl)
theorem dL_law_558 : decode cL_law 558 = .ok (.iadd, 1) := dq_op96 (dq_at (j := 89) dk_29b_1 rfl rfl)
theorem dL_law_559 : decode cL_law 559 = .ok (.iaload, 1) := dq_op46 (dq_at (j := 90) dk_29b_1 rfl rfl)
theorem dL_law_560 : decode cL_law 560 = .ok (.invokevirtual 200, 3) := dq_op182 (dq_at (j := 91) dk_29b_1 rfl rfl) (dq_at (j := 92) dk_29b_1 rfl rfl) (dq_at (j := 93) dk_29b_1 rfl rfl) rfl
theorem dL_law_563 : decode cL_law 563 = .ok (.istore 6, 2) := dq_op54 (dq_at (j := 94) dk_29b_1 rfl rfl) (dq_at (j := 95) dk_29b_1 rfl rfl) rfl
theorem dL_law_565 : decode cL_law 565 = .ok (.goto 1675, 3) := dq_op167 (dq_at (j := 96) dk_29b_1 rfl rfl) (dq_at (j := 97) dk_29b_1 rfl rfl) (dq_at (j := 98) dk_29b_1 rfl rfl) (by decide +kernel)
theorem dL_law_568 : decode cL_law 568 = .ok (.aload_n 1, 1) := dq_op43 (dq_at (j := 99) dk_29b_1 rfl rfl)
theorem dL_law_569 : decode cL_law 569 = .ok (.aload_n 0, 1) := dq_op42 (dq_at (j := 100) dk_29b_1 rfl rfl)
theorem dL_law_570 : decode cL_law 570 = .ok (.iload 4, 2) := dq_op21 (dq_at (j := 101) dk_29b_1 rfl rfl) (dq_at (j := 102) dk_29b_1 rfl rfl) rfl
theorem dL_law_572 : decode cL_law 572 = .ok (.iconst 1, 1) := dq_op4 (dq_at (j := 103) dk_29b_1 rfl rfl)
theorem dL_law_573 : decode cL_law 573 = .ok (.iadd, 1) := dq_op96 (dq_at (j := 104) dk_29b_1 rfl rfl)
theorem dL_law_574 : decode cL_law 574 = .ok (.iaload, 1) := dq_op46 (dq_at (j := 105) dk_29b_1 rfl rfl)
theorem dL_law_575 : decode cL_law 575 = .ok (.aload_n 0, 1) := dq_op42 (dq_at (j := 106) dk_29b_1 rfl rfl)
theorem dL_law_576 : decode cL_law 576 = .ok (.iload 4, 2) := dq_op21 (dq_at (j := 107) dk_29b_1 rfl rfl) (dq_at (j := 108) dk_29b_1 rfl rfl) rfl
theorem dL_law_578 : decode cL_law 578 = .ok (.iconst 2, 1) := dq_op5 (dq_at (j := 109) dk_29b_1 rfl rfl)
theorem dL_law_579 : decode cL_law 579 = .ok (.iadd, 1) := dq_op96 (dq_at (j := 110) dk_29b_1 rfl rfl)
theorem dL_law_580 : decode cL_law 580 = .ok (.iaload, 1) := dq_op46 (dq_at (j := 111) dk_29b_1 rfl rfl)
theorem dL_law_581 : decode cL_law 581 = .ok (.aload_n 0, 1) := dq_op42 (dq_at (j := 112) dk_29b_1 rfl rfl)
theorem dL_law_582 : decode cL_law 582 = .ok (.iload 4, 2) := dq_op21 (dq_at (j := 113) dk_29b_1 rfl rfl) (dq_at (j := 114) dk_29b_1 rfl rfl) rfl
theorem dL_law_584 : decode cL_law 584 = .ok (.iconst 3, 1) := dq_op6 (dq_at (j := 115) dk_29b_1 rfl rfl)
theorem dL_law_585 : decode cL_law 585 = .ok (.iadd, 1) := dq_op96 (dq_at (j := 116) dk_29b_1 rfl rfl)
theorem dL_law_586 : decode cL_law 586 = .ok (.iaload, 1) := dq_op46 (dq_at (j := 117) dk_29b_1 rfl rfl)
theorem dL_law_587 : decode cL_law 587 = .ok (.aload_n 3, 1) := dq_op45 (dq_at (j := 118) dk_29b_1 rfl rfl)
theorem dL_law_588 : decode cL_law 588 = .ok (.invokestatic 201, 3) := dq_op184 (dq_at (j := 119) dk_29b_1 rfl rfl) (dq_at (j := 120) dk_29b_1 rfl rfl) (dq_at (j := 121) dk_29b_1 rfl rfl) rfl
theorem dL_law_591 : decode cL_law 591 = .ok (.istore 5, 2) := dq_op54 (dq_at (j := 122) dk_29b_1 rfl rfl) (dq_at (j := 123) dk_29b_1 rfl rfl) rfl
theorem dL_law_593 : decode cL_law 593 = .ok (.aload_n 2, 1) := dq_op44 (dq_at (j := 124) dk_29b_1 rfl rfl)
theorem dL_law_594 : decode cL_law 594 = .ok (.aload_n 0, 1) := dq_op42 (dq_at (j := 125) dk_29b_1 rfl rfl)
theorem dL_law_595 : decode cL_law 595 = .ok (.iload 4, 2) := dq_op21 (dq_at (j := 126) dk_29b_1 rfl rfl) (dq_at (j := 127) dk_29b_1 rfl rfl) rfl
theorem dL_law_597 : decode cL_law 597 = .ok (.iconst 1, 1) := dq_op4 (dq_at (j := 128) dk_29b_1 rfl rfl)
theorem dL_law_598 : decode cL_law 598 = .ok (.iadd, 1) := dq_op96 (dq_at (j := 129) dk_29b_1 rfl rfl)
theorem dL_law_599 : decode cL_law 599 = .ok (.iaload, 1) := dq_op46 (dq_at (j := 130) dk_29b_1 rfl rfl)
theorem dL_law_600 : decode cL_law 600 = .ok (.aload_n 0, 1) := dq_op42 (dq_at (j := 131) dk_29b_1 rfl rfl)
theorem dL_law_601 : decode cL_law 601 = .ok (.iload 4, 2) := dq_op21 (dq_at (j := 132) dk_29b_1 rfl rfl) (dq_at (j := 133) dk_29b_1 rfl rfl) rfl
theorem dL_law_603 : decode cL_law 603 = .ok (.iconst 2, 1) := dq_op5 (dq_at (j := 134) dk_29b_1 rfl rfl)
theorem dk_29b_2 : (cL_law.data.toList.drop 604).take 123 = [96, 46, 42, 21, 4, 6, 96, 46, 182, 0, 203, 54, 6, 167, 6, 87, 43, 42, 21, 4, 4, 96, 46, 45, 184, 0, 204, 54, 5, 44, 42, 21, 4, 4, 96, 46, 182, 0, 207, 54, 6, 167, 6, 59, 43, 42, 21, 4, 4, 96, 46, 153, 0, 7, 4, 167, 0, 4, 3, 42, 21, 4, 5, 96, 46, 45, 184, 0, 208, 54, 5, 44, 42, 21, 4, 4, 96, 46, 153, 0, 7, 4, 167, 0, 4, 3, 42, 21, 4, 5, 96, 46, 182, 0, 211, 54, 6, 167, 6, 3, 43, 42, 21, 4, 4, 96, 46, 45, 184, 0, 212, 54, 5, 44, 42, 21, 4, 4, 96, 46, 182, 0, 214] := by decide +kernel
theorem dL_law_604 : decode cL_law 604 = .ok (.iadd, 1) := dq_op96 (dq_at (j := 0) dk_29b_2 rfl rfl)
theorem dL_law_605 : decode cL_law 605 = .ok (.iaload, 1) := dq_op46 (dq_at (j := 1) dk_29b_2 rfl rfl)
theorem dL_law_606 : decode cL_law 606 = .ok (.aload_n 0, 1) := dq_op42 (dq_at (j := 2) dk_29b_2 rfl rfl)
theorem dL_law_607 : decode cL_law 607 = .ok (.iload 4, 2) := dq_op21 (dq_at (j := 3) dk_29b_2 rfl rfl) (dq_at (j := 4) dk_29b_2 rfl rfl) rfl
theorem dL_law_609 : decode cL_law 609 = .ok (.iconst 3, 1) := dq_op6 (dq_at (j := 5) dk_29b_2 rfl rfl)
theorem dL_law_610 : decode cL_law 610 = .ok (.iadd, 1) := dq_op96 (dq_at (j := 6) dk_29b_2 rfl rfl)
theorem dL_law_611 : decode cL_law 611 = .ok (.iaload, 1) := dq_op46 (dq_at (j := 7) dk_29b_2 rfl rfl)
theorem dL_law_612 : decode cL_law 612 = .ok (.invokevirtual 203, 3) := dq_op182 (dq_at (j := 8) dk_29b_2 rfl rfl) (dq_at (j := 9) dk_29b_2 rfl rfl) (dq_at (j := 10) dk_29b_2 rfl rfl) rfl
theorem dL_law_615 : decode cL_law 615 = .ok (.istore 6, 2) := dq_op54 (dq_at (j := 11) dk_29b_2 rfl rfl) (dq_at (j := 12) dk_29b_2 rfl rfl) rfl
theorem dL_law_617 : decode cL_law 617 = .ok (.goto 1623, 3) := dq_op167 (dq_at (j := 13) dk_29b_2 rfl rfl) (dq_at (j := 14) dk_29b_2 rfl rfl) (dq_at (j := 15) dk_29b_2 rfl rfl) (by decide +kernel)
theorem dL_law_620 : decode cL_law 620 = .ok (.aload_n 1, 1) := dq_op43 (dq_at (j := 16) dk_29b_2 rfl rfl)
theorem dL_law_621 : decode cL_law 621 = .ok (.aload_n 0, 1) := dq_op42 (dq_at (j := 17) dk_29b_2 rfl rfl)
theorem dL_law_622 : decode cL_law 622 = .ok (.iload 4, 2) := dq_op21 (dq_at (j := 18) dk_29b_2 rfl rfl) (dq_at (j := 19) dk_29b_2 rfl rfl) rfl
theorem dL_law_624 : decode cL_law 624 = .ok (.iconst 1, 1) := dq_op4 (dq_at (j := 20) dk_29b_2 rfl rfl)
theorem dL_law_625 : decode cL_law 625 = .ok (.iadd, 1) := dq_op96 (dq_at (j := 21) dk_29b_2 rfl rfl)
theorem dL_law_626 : decode cL_law 626 = .ok (.iaload, 1) := dq_op46 (dq_at (j := 22) dk_29b_2 rfl rfl)
theorem dL_law_627 : decode cL_law 627 = .ok (.aload_n 3, 1) := dq_op45 (dq_at (j := 23) dk_29b_2 rfl rfl)
theorem dL_law_628 : decode cL_law 628 = .ok (.invokestatic 204, 3) := dq_op184 (dq_at (j := 24) dk_29b_2 rfl rfl) (dq_at (j := 25) dk_29b_2 rfl rfl) (dq_at (j := 26) dk_29b_2 rfl rfl) rfl
theorem dL_law_631 : decode cL_law 631 = .ok (.istore 5, 2) := dq_op54 (dq_at (j := 27) dk_29b_2 rfl rfl) (dq_at (j := 28) dk_29b_2 rfl rfl) rfl
theorem dL_law_633 : decode cL_law 633 = .ok (.aload_n 2, 1) := dq_op44 (dq_at (j := 29) dk_29b_2 rfl rfl)
theorem dL_law_634 : decode cL_law 634 = .ok (.aload_n 0, 1) := dq_op42 (dq_at (j := 30) dk_29b_2 rfl rfl)
theorem dL_law_635 : decode cL_law 635 = .ok (.iload 4, 2) := dq_op21 (dq_at (j := 31) dk_29b_2 rfl rfl) (dq_at (j := 32) dk_29b_2 rfl rfl) rfl
theorem dL_law_637 : decode cL_law 637 = .ok (.iconst 1, 1) := dq_op4 (dq_at (j := 33) dk_29b_2 rfl rfl)
theorem dL_law_638 : decode cL_law 638 = .ok (.iadd, 1) := dq_op96 (dq_at (j := 34) dk_29b_2 rfl rfl)
theorem dL_law_639 : decode cL_law 639 = .ok (.iaload, 1) := dq_op46 (dq_at (j := 35) dk_29b_2 rfl rfl)
theorem dL_law_640 : decode cL_law 640 = .ok (.invokevirtual 207, 3) := dq_op182 (dq_at (j := 36) dk_29b_2 rfl rfl) (dq_at (j := 37) dk_29b_2 rfl rfl) (dq_at (j := 38) dk_29b_2 rfl rfl) rfl
theorem dL_law_643 : decode cL_law 643 = .ok (.istore 6, 2) := dq_op54 (dq_at (j := 39) dk_29b_2 rfl rfl) (dq_at (j := 40) dk_29b_2 rfl rfl) rfl
theorem dL_law_645 : decode cL_law 645 = .ok (.goto 1595, 3) := dq_op167 (dq_at (j := 41) dk_29b_2 rfl rfl) (dq_at (j := 42) dk_29b_2 rfl rfl) (dq_at (j := 43) dk_29b_2 rfl rfl) (by decide +kernel)
theorem dL_law_648 : decode cL_law 648 = .ok (.aload_n 1, 1) := dq_op43 (dq_at (j := 44) dk_29b_2 rfl rfl)
theorem dL_law_649 : decode cL_law 649 = .ok (.aload_n 0, 1) := dq_op42 (dq_at (j := 45) dk_29b_2 rfl rfl)
theorem dL_law_650 : decode cL_law 650 = .ok (.iload 4, 2) := dq_op21 (dq_at (j := 46) dk_29b_2 rfl rfl) (dq_at (j := 47) dk_29b_2 rfl rfl) rfl
theorem dL_law_652 : decode cL_law 652 = .ok (.iconst 1, 1) := dq_op4 (dq_at (j := 48) dk_29b_2 rfl rfl)
theorem dL_law_653 : decode cL_law 653 = .ok (.iadd, 1) := dq_op96 (dq_at (j := 49) dk_29b_2 rfl rfl)
theorem dL_law_654 : decode cL_law 654 = .ok (.iaload, 1) := dq_op46 (dq_at (j := 50) dk_29b_2 rfl rfl)
theorem dL_law_655 : decode cL_law 655 = .ok (.ifCond .eq 7, 3) := dq_op153 (dq_at (j := 51) dk_29b_2 rfl rfl) (dq_at (j := 52) dk_29b_2 rfl rfl) (dq_at (j := 53) dk_29b_2 rfl rfl) (by decide +kernel)
theorem dL_law_658 : decode cL_law 658 = .ok (.iconst 1, 1) := dq_op4 (dq_at (j := 54) dk_29b_2 rfl rfl)
theorem dL_law_659 : decode cL_law 659 = .ok (.goto 4, 3) := dq_op167 (dq_at (j := 55) dk_29b_2 rfl rfl) (dq_at (j := 56) dk_29b_2 rfl rfl) (dq_at (j := 57) dk_29b_2 rfl rfl) (by decide +kernel)
theorem dL_law_662 : decode cL_law 662 = .ok (.iconst 0, 1) := dq_op3 (dq_at (j := 58) dk_29b_2 rfl rfl)
theorem dL_law_663 : decode cL_law 663 = .ok (.aload_n 0, 1) := dq_op42 (dq_at (j := 59) dk_29b_2 rfl rfl)
theorem dL_law_664 : decode cL_law 664 = .ok (.iload 4, 2) := dq_op21 (dq_at (j := 60) dk_29b_2 rfl rfl) (dq_at (j := 61) dk_29b_2 rfl rfl) rfl
theorem dL_law_666 : decode cL_law 666 = .ok (.iconst 2, 1) := dq_op5 (dq_at (j := 62) dk_29b_2 rfl rfl)
theorem dL_law_667 : decode cL_law 667 = .ok (.iadd, 1) := dq_op96 (dq_at (j := 63) dk_29b_2 rfl rfl)
theorem dL_law_668 : decode cL_law 668 = .ok (.iaload, 1) := dq_op46 (dq_at (j := 64) dk_29b_2 rfl rfl)
theorem dL_law_669 : decode cL_law 669 = .ok (.aload_n 3, 1) := dq_op45 (dq_at (j := 65) dk_29b_2 rfl rfl)
theorem dL_law_670 : decode cL_law 670 = .ok (.invokestatic 208, 3) := dq_op184 (dq_at (j := 66) dk_29b_2 rfl rfl) (dq_at (j := 67) dk_29b_2 rfl rfl) (dq_at (j := 68) dk_29b_2 rfl rfl) rfl
theorem dL_law_673 : decode cL_law 673 = .ok (.istore 5, 2) := dq_op54 (dq_at (j := 69) dk_29b_2 rfl rfl) (dq_at (j := 70) dk_29b_2 rfl rfl) rfl
theorem dL_law_675 : decode cL_law 675 = .ok (.aload_n 2, 1) := dq_op44 (dq_at (j := 71) dk_29b_2 rfl rfl)
theorem dL_law_676 : decode cL_law 676 = .ok (.aload_n 0, 1) := dq_op42 (dq_at (j := 72) dk_29b_2 rfl rfl)
theorem dL_law_677 : decode cL_law 677 = .ok (.iload 4, 2) := dq_op21 (dq_at (j := 73) dk_29b_2 rfl rfl) (dq_at (j := 74) dk_29b_2 rfl rfl) rfl
theorem dL_law_679 : decode cL_law 679 = .ok (.iconst 1, 1) := dq_op4 (dq_at (j := 75) dk_29b_2 rfl rfl)
theorem dL_law_680 : decode cL_law 680 = .ok (.iadd, 1) := dq_op96 (dq_at (j := 76) dk_29b_2 rfl rfl)
theorem dL_law_681 : decode cL_law 681 = .ok (.iaload, 1) := dq_op46 (dq_at (j := 77) dk_29b_2 rfl rfl)
theorem dL_law_682 : decode cL_law 682 = .ok (.ifCond .eq 7, 3) := dq_op153 (dq_at (j := 78) dk_29b_2 rfl rfl) (dq_at (j := 79) dk_29b_2 rfl rfl) (dq_at (j := 80) dk_29b_2 rfl rfl) (by decide +kernel)
theorem dL_law_685 : decode cL_law 685 = .ok (.iconst 1, 1) := dq_op4 (dq_at (j := 81) dk_29b_2 rfl rfl)
theorem dL_law_686 : decode cL_law 686 = .ok (.goto 4, 3) := dq_op167 (dq_at (j := 82) dk_29b_2 rfl rfl) (dq_at (j := 83) dk_29b_2 rfl rfl) (dq_at (j := 84) dk_29b_2 rfl rfl) (by decide +kernel)
theorem dL_law_689 : decode cL_law 689 = .ok (.iconst 0, 1) := dq_op3 (dq_at (j := 85) dk_29b_2 rfl rfl)
theorem dL_law_690 : decode cL_law 690 = .ok (.aload_n 0, 1) := dq_op42 (dq_at (j := 86) dk_29b_2 rfl rfl)
theorem dL_law_691 : decode cL_law 691 = .ok (.iload 4, 2) := dq_op21 (dq_at (j := 87) dk_29b_2 rfl rfl) (dq_at (j := 88) dk_29b_2 rfl rfl) rfl
theorem dL_law_693 : decode cL_law 693 = .ok (.iconst 2, 1) := dq_op5 (dq_at (j := 89) dk_29b_2 rfl rfl)
theorem dL_law_694 : decode cL_law 694 = .ok (.iadd, 1) := dq_op96 (dq_at (j := 90) dk_29b_2 rfl rfl)
theorem dL_law_695 : decode cL_law 695 = .ok (.iaload, 1) := dq_op46 (dq_at (j := 91) dk_29b_2 rfl rfl)
theorem dL_law_696 : decode cL_law 696 = .ok (.invokevirtual 211, 3) := dq_op182 (dq_at (j := 92) dk_29b_2 rfl rfl) (dq_at (j := 93) dk_29b_2 rfl rfl) (dq_at (j := 94) dk_29b_2 rfl rfl) rfl
theorem dL_law_699 : decode cL_law 699 = .ok (.istore 6, 2) := dq_op54 (dq_at (j := 95) dk_29b_2 rfl rfl) (dq_at (j := 96) dk_29b_2 rfl rfl) rfl
theorem dL_law_701 : decode cL_law 701 = .ok (.goto 1539, 3) := dq_op167 (dq_at (j := 97) dk_29b_2 rfl rfl) (dq_at (j := 98) dk_29b_2 rfl rfl) (dq_at (j := 99) dk_29b_2 rfl rfl) (by decide +kernel)
theorem dL_law_704 : decode cL_law 704 = .ok (.aload_n 1, 1) := dq_op43 (dq_at (j := 100) dk_29b_2 rfl rfl)
theorem dL_law_705 : decode cL_law 705 = .ok (.aload_n 0, 1) := dq_op42 (dq_at (j := 101) dk_29b_2 rfl rfl)
theorem dL_law_706 : decode cL_law 706 = .ok (.iload 4, 2) := dq_op21 (dq_at (j := 102) dk_29b_2 rfl rfl) (dq_at (j := 103) dk_29b_2 rfl rfl) rfl
theorem dL_law_708 : decode cL_law 708 = .ok (.iconst 1, 1) := dq_op4 (dq_at (j := 104) dk_29b_2 rfl rfl)
theorem dL_law_709 : decode cL_law 709 = .ok (.iadd, 1) := dq_op96 (dq_at (j := 105) dk_29b_2 rfl rfl)
theorem dL_law_710 : decode cL_law 710 = .ok (.iaload, 1) := dq_op46 (dq_at (j := 106) dk_29b_2 rfl rfl)
theorem dL_law_711 : decode cL_law 711 = .ok (.aload_n 3, 1) := dq_op45 (dq_at (j := 107) dk_29b_2 rfl rfl)
theorem dL_law_712 : decode cL_law 712 = .ok (.invokestatic 212, 3) := dq_op184 (dq_at (j := 108) dk_29b_2 rfl rfl) (dq_at (j := 109) dk_29b_2 rfl rfl) (dq_at (j := 110) dk_29b_2 rfl rfl) rfl
theorem dL_law_715 : decode cL_law 715 = .ok (.istore 5, 2) := dq_op54 (dq_at (j := 111) dk_29b_2 rfl rfl) (dq_at (j := 112) dk_29b_2 rfl rfl) rfl
theorem dL_law_717 : decode cL_law 717 = .ok (.aload_n 2, 1) := dq_op44 (dq_at (j := 113) dk_29b_2 rfl rfl)
theorem dL_law_718 : decode cL_law 718 = .ok (.aload_n 0, 1) := dq_op42 (dq_at (j := 114) dk_29b_2 rfl rfl)
theorem dL_law_719 : decode cL_law 719 = .ok (.iload 4, 2) := dq_op21 (dq_at (j := 115) dk_29b_2 rfl rfl) (dq_at (j := 116) dk_29b_2 rfl rfl) rfl
theorem dL_law_721 : decode cL_law 721 = .ok (.iconst 1, 1) := dq_op4 (dq_at (j := 117) dk_29b_2 rfl rfl)
theorem dL_law_722 : decode cL_law 722 = .ok (.iadd, 1) := dq_op96 (dq_at (j := 118) dk_29b_2 rfl rfl)
theorem dL_law_723 : decode cL_law 723 = .ok (.iaload, 1) := dq_op46 (dq_at (j := 119) dk_29b_2 rfl rfl)
theorem dL_law_724 : decode cL_law 724 = .ok (.invokevirtual 214, 3) := dq_op182 (dq_at (j := 120) dk_29b_2 rfl rfl) (dq_at (j := 121) dk_29b_2 rfl rfl) (dq_at (j := 122) dk_29b_2 rfl rfl) rfl
noncomputable def dq_end_29b : Nat := 0
theorem dk_29c_1 : (cL_law.data.toList.drop 727).take 146 = [54, 6, 167, 5, 231, 43, 42, 21, 4, 4, 96, 46, 45, 184, 0, 215, 54, 5, 44, 42, 21, 4, 4, 96, 46, 182, 0, 217, 54, 6, 167, 5, 203, 43, 42, 21, 4, 4, 96, 46, 45, 184, 0, 218, 54, 5, 44, 42, 21, 4, 4, 96, 46, 182, 0, 220, 58, 6, 167, 5, 175, 43, 42, 21, 4, 4, 96, 46, 42, 21, 4, 5, 96, 46, 42, 21, 4, 6, 96, 46, 45, 184, 0, 221, 54, 5, 44, 42, 21, 4, 4, 96, 46, 42, 21, 4, 5, 96, 46, 42, 21, 4, 6, 96, 46, 182, 0, 223, 54, 6, 167, 5, 123, 43, 42, 21, 4, 4, 96, 46, 42, 21, 4, 5, 96, 46, 42, 21, 4, 6, 96, 46, 45, 184, 0, 224, 54, 5, 44, 42, 21, 4, 4, 96, 46, 42] := by decide +kernel
theorem dL_law_727 : decode cL_law 727 = .ok (.istore 6, 2) := dq_op54 (dq_at (j := 0) dk_29c_1 rfl rfl) (dq_at (j := 1) dk_29c_1 rfl rfl) rfl
theorem dL_law_729 : decode cL_law 729 = .ok (.goto 1511, 3) := dq_op167 (dq_at (j := 2) dk_29c_1 rfl rfl) (dq_at (j := 3) dk_29c_1 rfl rfl) (dq_at (j := 4) dk_29c_1 rfl rfl) (by decide +kernel)
theorem dL_law_732 : decode cL_law 732 = .ok (.aload_n 1, 1) := dq_op43 (dq_at (j := 5) dk_29c_1 rfl rfl)
theorem dL_law_733 : decode cL_law 733 = .ok (.aload_n 0, 1) := dq_op42 (dq_at (j := 6) dk_29c_1 rfl rfl)
theorem dL_law_734 : decode cL_law 734 = .ok (.iload 4, 2) := dq_op21 (dq_at (j := 7) dk_29c_1 rfl rfl) (dq_at (j := 8) dk_29c_1 rfl rfl) rfl
theorem dL_law_736 : decode cL_law 736 = .ok (.iconst 1, 1) := dq_op4 (dq_at (j := 9) dk_29c_1 rfl rfl)
theorem dL_law_737 : decode cL_law 737 = .ok (.iadd, 1) := dq_op96 (dq_at (j := 10) dk_29c_1 rfl rfl)
theorem dL_law_738 : decode cL_law 738 = .ok (.iaload, 1) := dq_op46 (dq_at (j := 11) dk_29c_1 rfl rfl)
theorem dL_law_739 : decode cL_law 739 = .ok (.aload_n 3, 1) := dq_op45 (dq_at (j := 12) dk_29c_1 rfl rfl)
theorem dL_law_740 : decode cL_law 740 = .ok (.invokestatic 215, 3) := dq_op184 (dq_at (j := 13) dk_29c_1 rfl rfl) (dq_at (j := 14) dk_29c_1 rfl rfl) (dq_at (j := 15) dk_29c_1 rfl rfl) rfl
theorem dL_law_743 : decode cL_law 743 = .ok (.istore 5, 2) := dq_op54 (dq_at (j := 16) dk_29c_1 rfl rfl) (dq_at (j := 17) dk_29c_1 rfl rfl) rfl
theorem dL_law_745 : decode cL_law 745 = .ok (.aload_n 2, 1) := dq_op44 (dq_at (j := 18) dk_29c_1 rfl rfl)
theorem dL_law_746 : decode cL_law 746 = .ok (.aload_n 0, 1) := dq_op42 (dq_at (j := 19) dk_29c_1 rfl rfl)
theorem dL_law_747 : decode cL_law 747 = .ok (.iload 4, 2) := dq_op21 (dq_at (j := 20) dk_29c_1 rfl rfl) (dq_at (j := 21) dk_29c_1 rfl rfl) rfl
theorem dL_law_749 : decode cL_law 749 = .ok (.iconst 1, 1) := dq_op4 (dq_at (j := 22) dk_29c_1 rfl rfl)
theorem dL_law_750 : decode cL_law 750 = .ok (.iadd, 1) := dq_op96 (dq_at (j := 23) dk_29c_1 rfl rfl)
theorem dL_law_751 : decode cL_law 751 = .ok (.iaload, 1) := dq_op46 (dq_at (j := 24) dk_29c_1 rfl rfl)
theorem dL_law_752 : decode cL_law 752 = .ok (.invokevirtual 217, 3) := dq_op182 (dq_at (j := 25) dk_29c_1 rfl rfl) (dq_at (j := 26) dk_29c_1 rfl rfl) (dq_at (j := 27) dk_29c_1 rfl rfl) rfl
theorem dL_law_755 : decode cL_law 755 = .ok (.istore 6, 2) := dq_op54 (dq_at (j := 28) dk_29c_1 rfl rfl) (dq_at (j := 29) dk_29c_1 rfl rfl) rfl
theorem dL_law_757 : decode cL_law 757 = .ok (.goto 1483, 3) := dq_op167 (dq_at (j := 30) dk_29c_1 rfl rfl) (dq_at (j := 31) dk_29c_1 rfl rfl) (dq_at (j := 32) dk_29c_1 rfl rfl) (by decide +kernel)
theorem dL_law_760 : decode cL_law 760 = .ok (.aload_n 1, 1) := dq_op43 (dq_at (j := 33) dk_29c_1 rfl rfl)
theorem dL_law_761 : decode cL_law 761 = .ok (.aload_n 0, 1) := dq_op42 (dq_at (j := 34) dk_29c_1 rfl rfl)
theorem dL_law_762 : decode cL_law 762 = .ok (.iload 4, 2) := dq_op21 (dq_at (j := 35) dk_29c_1 rfl rfl) (dq_at (j := 36) dk_29c_1 rfl rfl) rfl
theorem dL_law_764 : decode cL_law 764 = .ok (.iconst 1, 1) := dq_op4 (dq_at (j := 37) dk_29c_1 rfl rfl)
theorem dL_law_765 : decode cL_law 765 = .ok (.iadd, 1) := dq_op96 (dq_at (j := 38) dk_29c_1 rfl rfl)
theorem dL_law_766 : decode cL_law 766 = .ok (.iaload, 1) := dq_op46 (dq_at (j := 39) dk_29c_1 rfl rfl)
theorem dL_law_767 : decode cL_law 767 = .ok (.aload_n 3, 1) := dq_op45 (dq_at (j := 40) dk_29c_1 rfl rfl)
theorem dL_law_768 : decode cL_law 768 = .ok (.invokestatic 218, 3) := dq_op184 (dq_at (j := 41) dk_29c_1 rfl rfl) (dq_at (j := 42) dk_29c_1 rfl rfl) (dq_at (j := 43) dk_29c_1 rfl rfl) rfl
theorem dL_law_771 : decode cL_law 771 = .ok (.istore 5, 2) := dq_op54 (dq_at (j := 44) dk_29c_1 rfl rfl) (dq_at (j := 45) dk_29c_1 rfl rfl) rfl
theorem dL_law_773 : decode cL_law 773 = .ok (.aload_n 2, 1) := dq_op44 (dq_at (j := 46) dk_29c_1 rfl rfl)
theorem dL_law_774 : decode cL_law 774 = .ok (.aload_n 0, 1) := dq_op42 (dq_at (j := 47) dk_29c_1 rfl rfl)
theorem dL_law_775 : decode cL_law 775 = .ok (.iload 4, 2) := dq_op21 (dq_at (j := 48) dk_29c_1 rfl rfl) (dq_at (j := 49) dk_29c_1 rfl rfl) rfl
theorem dL_law_777 : decode cL_law 777 = .ok (.iconst 1, 1) := dq_op4 (dq_at (j := 50) dk_29c_1 rfl rfl)
theorem dL_law_778 : decode cL_law 778 = .ok (.iadd, 1) := dq_op96 (dq_at (j := 51) dk_29c_1 rfl rfl)
theorem dL_law_779 : decode cL_law 779 = .ok (.iaload, 1) := dq_op46 (dq_at (j := 52) dk_29c_1 rfl rfl)
theorem dL_law_780 : decode cL_law 780 = .ok (.invokevirtual 220, 3) := dq_op182 (dq_at (j := 53) dk_29c_1 rfl rfl) (dq_at (j := 54) dk_29c_1 rfl rfl) (dq_at (j := 55) dk_29c_1 rfl rfl) rfl
theorem dL_law_783 : decode cL_law 783 = .ok (.astore 6, 2) := dq_op58 (dq_at (j := 56) dk_29c_1 rfl rfl) (dq_at (j := 57) dk_29c_1 rfl rfl) rfl
theorem dL_law_785 : decode cL_law 785 = .ok (.goto 1455, 3) := dq_op167 (dq_at (j := 58) dk_29c_1 rfl rfl) (dq_at (j := 59) dk_29c_1 rfl rfl) (dq_at (j := 60) dk_29c_1 rfl rfl) (by decide +kernel)
theorem dL_law_788 : decode cL_law 788 = .ok (.aload_n 1, 1) := dq_op43 (dq_at (j := 61) dk_29c_1 rfl rfl)
theorem dL_law_789 : decode cL_law 789 = .ok (.aload_n 0, 1) := dq_op42 (dq_at (j := 62) dk_29c_1 rfl rfl)
theorem dL_law_790 : decode cL_law 790 = .ok (.iload 4, 2) := dq_op21 (dq_at (j := 63) dk_29c_1 rfl rfl) (dq_at (j := 64) dk_29c_1 rfl rfl) rfl
theorem dL_law_792 : decode cL_law 792 = .ok (.iconst 1, 1) := dq_op4 (dq_at (j := 65) dk_29c_1 rfl rfl)
theorem dL_law_793 : decode cL_law 793 = .ok (.iadd, 1) := dq_op96 (dq_at (j := 66) dk_29c_1 rfl rfl)
theorem dL_law_794 : decode cL_law 794 = .ok (.iaload, 1) := dq_op46 (dq_at (j := 67) dk_29c_1 rfl rfl)
theorem dL_law_795 : decode cL_law 795 = .ok (.aload_n 0, 1) := dq_op42 (dq_at (j := 68) dk_29c_1 rfl rfl)
theorem dL_law_796 : decode cL_law 796 = .ok (.iload 4, 2) := dq_op21 (dq_at (j := 69) dk_29c_1 rfl rfl) (dq_at (j := 70) dk_29c_1 rfl rfl) rfl
theorem dL_law_798 : decode cL_law 798 = .ok (.iconst 2, 1) := dq_op5 (dq_at (j := 71) dk_29c_1 rfl rfl)
theorem dL_law_799 : decode cL_law 799 = .ok (.iadd, 1) := dq_op96 (dq_at (j := 72) dk_29c_1 rfl rfl)
theorem dL_law_800 : decode cL_law 800 = .ok (.iaload, 1) := dq_op46 (dq_at (j := 73) dk_29c_1 rfl rfl)
theorem dL_law_801 : decode cL_law 801 = .ok (.aload_n 0, 1) := dq_op42 (dq_at (j := 74) dk_29c_1 rfl rfl)
theorem dL_law_802 : decode cL_law 802 = .ok (.iload 4, 2) := dq_op21 (dq_at (j := 75) dk_29c_1 rfl rfl) (dq_at (j := 76) dk_29c_1 rfl rfl) rfl
theorem dL_law_804 : decode cL_law 804 = .ok (.iconst 3, 1) := dq_op6 (dq_at (j := 77) dk_29c_1 rfl rfl)
theorem dL_law_805 : decode cL_law 805 = .ok (.iadd, 1) := dq_op96 (dq_at (j := 78) dk_29c_1 rfl rfl)
theorem dL_law_806 : decode cL_law 806 = .ok (.iaload, 1) := dq_op46 (dq_at (j := 79) dk_29c_1 rfl rfl)
theorem dL_law_807 : decode cL_law 807 = .ok (.aload_n 3, 1) := dq_op45 (dq_at (j := 80) dk_29c_1 rfl rfl)
theorem dL_law_808 : decode cL_law 808 = .ok (.invokestatic 221, 3) := dq_op184 (dq_at (j := 81) dk_29c_1 rfl rfl) (dq_at (j := 82) dk_29c_1 rfl rfl) (dq_at (j := 83) dk_29c_1 rfl rfl) rfl
theorem dL_law_811 : decode cL_law 811 = .ok (.istore 5, 2) := dq_op54 (dq_at (j := 84) dk_29c_1 rfl rfl) (dq_at (j := 85) dk_29c_1 rfl rfl) rfl
theorem dL_law_813 : decode cL_law 813 = .ok (.aload_n 2, 1) := dq_op44 (dq_at (j := 86) dk_29c_1 rfl rfl)
theorem dL_law_814 : decode cL_law 814 = .ok (.aload_n 0, 1) := dq_op42 (dq_at (j := 87) dk_29c_1 rfl rfl)
theorem dL_law_815 : decode cL_law 815 = .ok (.iload 4, 2) := dq_op21 (dq_at (j := 88) dk_29c_1 rfl rfl) (dq_at (j := 89) dk_29c_1 rfl rfl) rfl
theorem dL_law_817 : decode cL_law 817 = .ok (.iconst 1, 1) := dq_op4 (dq_at (j := 90) dk_29c_1 rfl rfl)
theorem dL_law_818 : decode cL_law 818 = .ok (.iadd, 1) := dq_op96 (dq_at (j := 91) dk_29c_1 rfl rfl)
theorem dL_law_819 : decode cL_law 819 = .ok (.iaload, 1) := dq_op46 (dq_at (j := 92) dk_29c_1 rfl rfl)
theorem dL_law_820 : decode cL_law 820 = .ok (.aload_n 0, 1) := dq_op42 (dq_at (j := 93) dk_29c_1 rfl rfl)
theorem dL_law_821 : decode cL_law 821 = .ok (.iload 4, 2) := dq_op21 (dq_at (j := 94) dk_29c_1 rfl rfl) (dq_at (j := 95) dk_29c_1 rfl rfl) rfl
theorem dL_law_823 : decode cL_law 823 = .ok (.iconst 2, 1) := dq_op5 (dq_at (j := 96) dk_29c_1 rfl rfl)
theorem dL_law_824 : decode cL_law 824 = .ok (.iadd, 1) := dq_op96 (dq_at (j := 97) dk_29c_1 rfl rfl)
theorem dL_law_825 : decode cL_law 825 = .ok (.iaload, 1) := dq_op46 (dq_at (j := 98) dk_29c_1 rfl rfl)
theorem dL_law_826 : decode cL_law 826 = .ok (.aload_n 0, 1) := dq_op42 (dq_at (j := 99) dk_29c_1 rfl rfl)
theorem dL_law_827 : decode cL_law 827 = .ok (.iload 4, 2) := dq_op21 (dq_at (j := 100) dk_29c_1 rfl rfl) (dq_at (j := 101) dk_29c_1 rfl rfl) rfl
theorem dL_law_829 : decode cL_law 829 = .ok (.iconst 3, 1) := dq_op6 (dq_at (j := 102) dk_29c_1 rfl rfl)
theorem dL_law_830 : decode cL_law 830 = .ok (.iadd, 1) := dq_op96 (dq_at (j := 103) dk_29c_1 rfl rfl)
theorem dL_law_831 : decode cL_law 831 = .ok (.iaload, 1) := dq_op46 (dq_at (j := 104) dk_29c_1 rfl rfl)
theorem dL_law_832 : decode cL_law 832 = .ok (.invokevirtual 223, 3) := dq_op182 (dq_at (j := 105) dk_29c_1 rfl rfl) (dq_at (j := 106) dk_29c_1 rfl rfl) (dq_at (j := 107) dk_29c_1 rfl rfl) rfl
theorem dL_law_835 : decode cL_law 835 = .ok (.istore 6, 2) := dq_op54 (dq_at (j := 108) dk_29c_1 rfl rfl) (dq_at (j := 109) dk_29c_1 rfl rfl) rfl
theorem dL_law_837 : decode cL_law 837 = .ok (.goto 1403, 3) := dq_op167 (dq_at (j := 110) dk_29c_1 rfl rfl) (dq_at (j := 111) dk_29c_1 rfl rfl) (dq_at (j := 112) dk_29c_1 rfl rfl) (by decide +kernel)
theorem dL_law_840 : decode cL_law 840 = .ok (.aload_n 1, 1) := dq_op43 (dq_at (j := 113) dk_29c_1 rfl rfl)
theorem dL_law_841 : decode cL_law 841 = .ok (.aload_n 0, 1) := dq_op42 (dq_at (j := 114) dk_29c_1 rfl rfl)
theorem dL_law_842 : decode cL_law 842 = .ok (.iload 4, 2) := dq_op21 (dq_at (j := 115) dk_29c_1 rfl rfl) (dq_at (j := 116) dk_29c_1 rfl rfl) rfl
theorem dL_law_844 : decode cL_law 844 = .ok (.iconst 1, 1) := dq_op4 (dq_at (j := 117) dk_29c_1 rfl rfl)
theorem dL_law_845 : decode cL_law 845 = .ok (.iadd, 1) := dq_op96 (dq_at (j := 118) dk_29c_1 rfl rfl)
theorem dL_law_846 : decode cL_law 846 = .ok (.iaload, 1) := dq_op46 (dq_at (j := 119) dk_29c_1 rfl rfl)
theorem dL_law_847 : decode cL_law 847 = .ok (.aload_n 0, 1) := dq_op42 (dq_at (j := 120) dk_29c_1 rfl rfl)
theorem dL_law_848 : decode cL_law 848 = .ok (.iload 4, 2) := dq_op21 (dq_at (j := 121) dk_29c_1 rfl rfl) (dq_at (j := 122) dk_29c_1 rfl rfl) rfl
theorem dL_law_850 : decode cL_law 850 = .ok (.iconst 2, 1) := dq_op5 (dq_at (j := 123) dk_29c_1 rfl rfl)
theorem dL_law_851 : decode cL_law 851 = .ok (.iadd, 1) := dq_op96 (dq_at (j := 124) dk_29c_1 rfl rfl)
theorem dL_law_852 : decode cL_law 852 = .ok (.iaload, 1) := dq_op46 (dq_at (j := 125) dk_29c_1 rfl rfl)
theorem dL_law_853 : decode cL_law 853 = .ok (.aload_n 0, 1) := dq_op42 (dq_at (j := 126) dk_29c_1 rfl rfl)
theorem dL_law_854 : decode cL_law 854 = .ok (.iload 4, 2) := dq_op21 (dq_at (j := 127) dk_29c_1 rfl rfl) (dq_at (j := 128) dk_29c_1 rfl rfl) rfl
theorem dL_law_856 : decode cL_law 856 = .ok (.iconst 3, 1) := dq_op6 (dq_at (j := 129) dk_29c_1 rfl rfl)
theorem dL_law_857 : decode cL_law 857 = .ok (.iadd, 1) := dq_op96 (dq_at (j := 130) dk_29c_1 rfl rfl)
theorem dL_law_858 : decode cL_law 858 = .ok (.iaload, 1) := dq_op46 (dq_at (j := 131) dk_29c_1 rfl rfl)
theorem dL_law_859 : decode cL_law 859 = .ok (.aload_n 3, 1) := dq_op45 (dq_at (j := 132) dk_29c_1 rfl rfl)
theorem dL_law_860 : decode cL_law 860 = .ok (.invokestatic 224, 3) := dq_op184 (dq_at (j := 133) dk_29c_1 rfl rfl) (dq_at (j := 134) dk_29c_1 rfl rfl) (dq_at (j := 135) dk_29c_1 rfl rfl) rfl
theorem dL_law_863 : decode cL_law 863 = .ok (.istore 5, 2) := dq_op54 (dq_at (j := 136) dk_29c_1 rfl rfl) (dq_at (j := 137) dk_29c_1 rfl rfl) rfl
theorem dL_law_865 : decode cL_law 865 = .ok (.aload_n 2, 1) := dq_op44 (dq_at (j := 138) dk_29c_1 rfl rfl)
theorem dL_law_866 : decode cL_law 866 = .ok (.aload_n 0, 1) := dq_op42 (dq_at (j := 139) dk_29c_1 rfl rfl)
theorem dL_law_867 : decode cL_law 867 = .ok (.iload 4, 2) := dq_op21 (dq_at (j := 140) dk_29c_1 rfl rfl) (dq_at (j := 141) dk_29c_1 rfl rfl) rfl
theorem dL_law_869 : decode cL_law 869 = .ok (.iconst 1, 1) := dq_op4 (dq_at (j := 142) dk_29c_1 rfl rfl)
theorem dL_law_870 : decode cL_law 870 = .ok (.iadd, 1) := dq_op96 (dq_at (j := 143) dk_29c_1 rfl rfl)
theorem dk_29c_2 : (cL_law.data.toList.drop 871).take 115 = [46, 42, 21, 4, 5, 96, 46, 42, 21, 4, 6, 96, 46, 182, 0, 226, 54, 6, 167, 5, 71, 43, 42, 21, 4, 4, 96, 46, 42, 21, 4, 5, 96, 46, 45, 184, 0, 227, 54, 5, 44, 42, 21, 4, 4, 96, 46, 42, 21, 4, 5, 96, 46, 182, 0, 229, 54, 6, 167, 5, 31, 43, 42, 21, 4, 4, 96, 46, 42, 21, 4, 5, 96, 46, 45, 184, 0, 230, 54, 5, 44, 42, 21, 4, 4, 96, 46, 42, 21, 4, 5, 96, 46, 182, 0, 232, 54, 6, 167, 4, 247, 43, 42, 21, 4, 4, 96, 46, 42, 21, 4, 5, 96, 46, 42] := by decide +kernel
theorem dL_law_871 : decode cL_law 871 = .ok (.iaload, 1) := dq_op46 (dq_at (j := 0) dk_29c_2 rfl rfl)
theorem dL_law_872 : decode cL_law 872 = .ok (.aload_n 0, 1) := dq_op42 (dq_at (j := 1) dk_29c_2 rfl rfl)
theorem dL_law_873 : decode cL_law 873 = .ok (.iload 4, 2) := dq_op21 (dq_at (j := 2) dk_29c_2 rfl rfl) (dq_at (j := 3) dk_29c_2 rfl rfl) rfl
theorem dL_law_875 : decode cL_law 875 = .ok (.iconst 2, 1) := dq_op5 (dq_at (j := 4) dk_29c_2 rfl rfl)
theorem dL_law_876 : decode cL_law 876 = .ok (.iadd, 1) := dq_op96 (dq_at (j := 5) dk_29c_2 rfl rfl)
theorem dL_law_877 : decode cL_law 877 = .ok (.iaload, 1) := dq_op46 (dq_at (j := 6) dk_29c_2 rfl rfl)
theorem dL_law_878 : decode cL_law 878 = .ok (.aload_n 0, 1) := dq_op42 (dq_at (j := 7) dk_29c_2 rfl rfl)
theorem dL_law_879 : decode cL_law 879 = .ok (.iload 4, 2) := dq_op21 (dq_at (j := 8) dk_29c_2 rfl rfl) (dq_at (j := 9) dk_29c_2 rfl rfl) rfl
theorem dL_law_881 : decode cL_law 881 = .ok (.iconst 3, 1) := dq_op6 (dq_at (j := 10) dk_29c_2 rfl rfl)
theorem dL_law_882 : decode cL_law 882 = .ok (.iadd, 1) := dq_op96 (dq_at (j := 11) dk_29c_2 rfl rfl)
theorem dL_law_883 : decode cL_law 883 = .ok (.iaload, 1) := dq_op46 (dq_at (j := 12) dk_29c_2 rfl rfl)
theorem dL_law_884 : decode cL_law 884 = .ok (.invokevirtual 226, 3) := dq_op182 (dq_at (j := 13) dk_29c_2 rfl rfl) (dq_at (j := 14) dk_29c_2 rfl rfl) (dq_at (j := 15) dk_29c_2 rfl rfl) rfl
theorem dL_law_887 : decode cL_law 887 = .ok (.istore 6, 2) := dq_op54 (dq_at (j := 16) dk_29c_2 rfl rfl) (dq_at (j := 17) dk_29c_2 rfl rfl) rfl
theorem dL_law_889 : decode cL_law 889 = .ok (.goto 1351, 3) := dq_op167 (dq_at (j := 18) dk_29c_2 rfl rfl) (dq_at (j := 19) dk_29c_2 rfl rfl) (dq_at (j := 20) dk_29c_2 rfl rfl) (by decide +kernel)
theorem dL_law_892 : decode cL_law 892 = .ok (.aload_n 1, 1) := dq_op43 (dq_at (j := 21) dk_29c_2 rfl rfl)
theorem dL_law_893 : decode cL_law 893 = .ok (.aload_n 0, 1) := dq_op42 (dq_at (j := 22) dk_29c_2 rfl rfl)
theorem dL_law_894 : decode cL_law 894 = .ok (.iload 4, 2) := dq_op21 (dq_at (j := 23) dk_29c_2 rfl rfl) (dq_at (j := 24) dk_29c_2 rfl rfl) rfl
theorem dL_law_896 : decode cL_law 896 = .ok (.iconst 1, 1) := dq_op4 (dq_at (j := 25) dk_29c_2 rfl rfl)
theorem dL_law_897 : decode cL_law 897 = .ok (.iadd, 1) := dq_op96 (dq_at (j := 26) dk_29c_2 rfl rfl)
theorem dL_law_898 : decode cL_law 898 = .ok (.iaload, 1) := dq_op46 (dq_at (j := 27) dk_29c_2 rfl rfl)
theorem dL_law_899 : decode cL_law 899 = .ok (.aload_n 0, 1) := dq_op42 (dq_at (j := 28) dk_29c_2 rfl rfl)
theorem dL_law_900 : decode cL_law 900 = .ok (.iload 4, 2) := dq_op21 (dq_at (j := 29) dk_29c_2 rfl rfl) (dq_at (j := 30) dk_29c_2 rfl rfl) rfl
theorem dL_law_902 : decode cL_law 902 = .ok (.iconst 2, 1) := dq_op5 (dq_at (j := 31) dk_29c_2 rfl rfl)
theorem dL_law_903 : decode cL_law 903 = .ok (.iadd, 1) := dq_op96 (dq_at (j := 32) dk_29c_2 rfl rfl)
theorem dL_law_904 : decode cL_law 904 = .ok (.iaload, 1) := dq_op46 (dq_at (j := 33) dk_29c_2 rfl rfl)
theorem dL_law_905 : decode cL_law 905 = .ok (.aload_n 3, 1) := dq_op45 (dq_at (j := 34) dk_29c_2 rfl rfl)
theorem dL_law_906 : decode cL_law 906 = .ok (.invokestatic 227, 3) := dq_op184 (dq_at (j := 35) dk_29c_2 rfl rfl) (dq_at (j := 36) dk_29c_2 rfl rfl) (dq_at (j := 37) dk_29c_2 rfl rfl) rfl
theorem dL_law_909 : decode cL_law 909 = .ok (.istore 5, 2) := dq_op54 (dq_at (j := 38) dk_29c_2 rfl rfl) (dq_at (j := 39) dk_29c_2 rfl rfl) rfl
theorem dL_law_911 : decode cL_law 911 = .ok (.aload_n 2, 1) := dq_op44 (dq_at (j := 40) dk_29c_2 rfl rfl)
theorem dL_law_912 : decode cL_law 912 = .ok (.aload_n 0, 1) := dq_op42 (dq_at (j := 41) dk_29c_2 rfl rfl)
theorem dL_law_913 : decode cL_law 913 = .ok (.iload 4, 2) := dq_op21 (dq_at (j := 42) dk_29c_2 rfl rfl) (dq_at (j := 43) dk_29c_2 rfl rfl) rfl
theorem dL_law_915 : decode cL_law 915 = .ok (.iconst 1, 1) := dq_op4 (dq_at (j := 44) dk_29c_2 rfl rfl)
theorem dL_law_916 : decode cL_law 916 = .ok (.iadd, 1) := dq_op96 (dq_at (j := 45) dk_29c_2 rfl rfl)
theorem dL_law_917 : decode cL_law 917 = .ok (.iaload, 1) := dq_op46 (dq_at (j := 46) dk_29c_2 rfl rfl)
theorem dL_law_918 : decode cL_law 918 = .ok (.aload_n 0, 1) := dq_op42 (dq_at (j := 47) dk_29c_2 rfl rfl)
theorem dL_law_919 : decode cL_law 919 = .ok (.iload 4, 2) := dq_op21 (dq_at (j := 48) dk_29c_2 rfl rfl) (dq_at (j := 49) dk_29c_2 rfl rfl) rfl
theorem dL_law_921 : decode cL_law 921 = .ok (.iconst 2, 1) := dq_op5 (dq_at (j := 50) dk_29c_2 rfl rfl)
theorem dL_law_922 : decode cL_law 922 = .ok (.iadd, 1) := dq_op96 (dq_at (j := 51) dk_29c_2 rfl rfl)
theorem dL_law_923 : decode cL_law 923 = .ok (.iaload, 1) := dq_op46 (dq_at (j := 52) dk_29c_2 rfl rfl)
theorem dL_law_924 : decode cL_law 924 = .ok (.invokevirtual 229, 3) := dq_op182 (dq_at (j := 53) dk_29c_2 rfl rfl) (dq_at (j := 54) dk_29c_2 rfl rfl) (dq_at (j := 55) dk_29c_2 rfl rfl) rfl
theorem dL_law_927 : decode cL_law 927 = .ok (.istore 6, 2) := dq_op54 (dq_at (j := 56) dk_29c_2 rfl rfl) (dq_at (j := 57) dk_29c_2 rfl rfl) rfl
theorem dL_law_929 : decode cL_law 929 = .ok (.goto 1311, 3) := dq_op167 (dq_at (j := 58) dk_29c_2 rfl rfl) (dq_at (j := 59) dk_29c_2 rfl rfl) (dq_at (j := 60) dk_29c_2 rfl rfl) (by decide +kernel)
theorem dL_law_932 : decode cL_law 932 = .ok (.aload_n 1, 1) := dq_op43 (dq_at (j := 61) dk_29c_2 rfl rfl)
theorem dL_law_933 : decode cL_law 933 = .ok (.aload_n 0, 1) := dq_op42 (dq_at (j := 62) dk_29c_2 rfl rfl)
theorem dL_law_934 : decode cL_law 934 = .ok (.iload 4, 2) := dq_op21 (dq_at (j := 63) dk_29c_2 rfl rfl) (dq_at (j := 64) dk_29c_2 rfl rfl) rfl
theorem dL_law_936 : decode cL_law 936 = .ok (.iconst 1, 1) := dq_op4 (dq_at (j := 65) dk_29c_2 rfl rfl)
theorem dL_law_937 : decode cL_law 937 = .ok (.iadd, 1) := dq_op96 (dq_at (j := 66) dk_29c_2 rfl rfl)
theorem dL_law_938 : decode cL_law 938 = .ok (.iaload, 1) := dq_op46 (dq_at (j := 67) dk_29c_2 rfl rfl)
theorem dL_law_939 : decode cL_law 939 = .ok (.aload_n 0, 1) := dq_op42 (dq_at (j := 68) dk_29c_2 rfl rfl)
theorem dL_law_940 : decode cL_law 940 = .ok (.iload 4, 2) := dq_op21 (dq_at (j := 69) dk_29c_2 rfl rfl) (dq_at (j := 70) dk_29c_2 rfl rfl) rfl
theorem dL_law_942 : decode cL_law 942 = .ok (.iconst 2, 1) := dq_op5 (dq_at (j := 71) dk_29c_2 rfl rfl)
theorem dL_law_943 : decode cL_law 943 = .ok (.iadd, 1) := dq_op96 (dq_at (j := 72) dk_29c_2 rfl rfl)
theorem dL_law_944 : decode cL_law 944 = .ok (.iaload, 1) := dq_op46 (dq_at (j := 73) dk_29c_2 rfl rfl)
theorem dL_law_945 : decode cL_law 945 = .ok (.aload_n 3, 1) := dq_op45 (dq_at (j := 74) dk_29c_2 rfl rfl)
theorem dL_law_946 : decode cL_law 946 = .ok (.invokestatic 230, 3) := dq_op184 (dq_at (j := 75) dk_29c_2 rfl rfl) (dq_at (j := 76) dk_29c_2 rfl rfl) (dq_at (j := 77) dk_29c_2 rfl rfl) rfl
theorem dL_law_949 : decode cL_law 949 = .ok (.istore 5, 2) := dq_op54 (dq_at (j := 78) dk_29c_2 rfl rfl) (dq_at (j := 79) dk_29c_2 rfl rfl) rfl
theorem dL_law_951 : decode cL_law 951 = .ok (.aload_n 2, 1) := dq_op44 (dq_at (j := 80) dk_29c_2 rfl rfl)
theorem dL_law_952 : decode cL_law 952 = .ok (.aload_n 0, 1) := dq_op42 (dq_at (j := 81) dk_29c_2 rfl rfl)
theorem dL_law_953 : decode cL_law 953 = .ok (.iload 4, 2) := dq_op21 (dq_at (j := 82) dk_29c_2 rfl rfl) (dq_at (j := 83) dk_29c_2 rfl rfl) rfl
theorem dL_law_955 : decode cL_law 955 = .ok (.iconst 1, 1) := dq_op4 (dq_at (j := 84) dk_29c_2 rfl rfl)
theorem dL_law_956 : decode cL_law 956 = .ok (.iadd, 1) := dq_op96 (dq_at (j := 85) dk_29c_2 rfl rfl)
theorem dL_law_957 : decode cL_law 957 = .ok (.iaload, 1) := dq_op46 (dq_at (j := 86) dk_29c_2 rfl rfl)
theorem dL_law_958 : decode cL_law 958 = .ok (.aload_n 0, 1) := dq_op42 (dq_at (j := 87) dk_29c_2 rfl rfl)
theorem dL_law_959 : decode cL_law 959 = .ok (.iload 4, 2) := dq_op21 (dq_at (j := 88) dk_29c_2 rfl rfl) (dq_at (j := 89) dk_29c_2 rfl rfl) rfl
theorem dL_law_961 : decode cL_law 961 = .ok (.iconst 2, 1) := dq_op5 (dq_at (j := 90) dk_29c_2 rfl rfl)
theorem dL_law_962 : decode cL_law 962 = .ok (.iadd, 1) := dq_op96 (dq_at (j := 91) dk_29c_2 rfl rfl)
theorem dL_law_963 : decode cL_law 963 = .ok (.iaload, 1) := dq_op46 (dq_at (j := 92) dk_29c_2 rfl rfl)
theorem dL_law_964 : decode cL_law 964 = .ok (.invokevirtual 232, 3) := dq_op182 (dq_at (j := 93) dk_29c_2 rfl rfl) (dq_at (j := 94) dk_29c_2 rfl rfl) (dq_at (j := 95) dk_29c_2 rfl rfl) rfl
theorem dL_law_967 : decode cL_law 967 = .ok (.istore 6, 2) := dq_op54 (dq_at (j := 96) dk_29c_2 rfl rfl) (dq_at (j := 97) dk_29c_2 rfl rfl) rfl
theorem dL_law_969 : decode cL_law 969 = .ok (.goto 1271, 3) := dq_op167 (dq_at (j := 98) dk_29c_2 rfl rfl) (dq_at (j := 99) dk_29c_2 rfl rfl) (dq_at (j := 100) dk_29c_2 rfl rfl) (by decide +kernel)
theorem dL_law_972 : decode cL_law 972 = .ok (.aload_n 1, 1) := dq_op43 (dq_at (j := 101) dk_29c_2 rfl rfl)
theorem dL_law_973 : decode cL_law 973 = .ok (.aload_n 0, 1) := dq_op42 (dq_at (j := 102) dk_29c_2 rfl rfl)
theorem dL_law_974 : decode cL_law 974 = .ok (.iload 4, 2) := dq_op21 (dq_at (j := 103) dk_29c_2 rfl rfl) (dq_at (j := 104) dk_29c_2 rfl rfl) rfl
theorem dL_law_976 : decode cL_law 976 = .ok (.iconst 1, 1) := dq_op4 (dq_at (j := 105) dk_29c_2 rfl rfl)
theorem dL_law_977 : decode cL_law 977 = .ok (.iadd, 1) := dq_op96 (dq_at (j := 106) dk_29c_2 rfl rfl)
theorem dL_law_978 : decode cL_law 978 = .ok (.iaload, 1) := dq_op46 (dq_at (j := 107) dk_29c_2 rfl rfl)
theorem dL_law_979 : decode cL_law 979 = .ok (.aload_n 0, 1) := dq_op42 (dq_at (j := 108) dk_29c_2 rfl rfl)
theorem dL_law_980 : decode cL_law 980 = .ok (.iload 4, 2) := dq_op21 (dq_at (j := 109) dk_29c_2 rfl rfl) (dq_at (j := 110) dk_29c_2 rfl rfl) rfl
theorem dL_law_982 : decode cL_law 982 = .ok (.iconst 2, 1) := dq_op5 (dq_at (j := 111) dk_29c_2 rfl rfl)
theorem dL_law_983 : decode cL_law 983 = .ok (.iadd, 1) := dq_op96 (dq_at (j := 112) dk_29c_2 rfl rfl)
noncomputable def dq_end_29c : Nat := 0
theorem dk_29d_1 : (cL_law.data.toList.drop 984).take 147 = [46, 42, 21, 4, 6, 96, 46, 153, 0, 7, 4, 167, 0, 4, 3, 45, 184, 0, 233, 54, 5, 44, 42, 21, 4, 4, 96, 46, 42, 21, 4, 5, 96, 46, 42, 21, 4, 6, 96, 46, 153, 0, 7, 4, 167, 0, 4, 3, 182, 0, 236, 54, 6, 167, 4, 179, 43, 42, 21, 4, 4, 96, 46, 42, 21, 4, 5, 96, 46, 45, 184, 0, 237, 54, 5, 44, 42, 21, 4, 4, 96, 46, 42, 21, 4, 5, 96, 46, 182, 0, 239, 54, 6, 167, 4, 139, 43, 42, 21, 4, 4, 96, 46, 42, 21, 4, 5, 96, 46, 45, 184, 0, 240, 54, 5, 44, 42, 21, 4, 4, 96, 46, 42, 21, 4, 5, 96, 46, 182, 0, 242, 54, 6, 167, 4, 99, 43, 42, 21, 4, 4, 96, 46, 45, 184, 0, 243] := by decide +kernel
theorem dL_law_984 : decode cL_law 984 = .ok (.iaload, 1) := dq_op46 (dq_at (j := 0) dk_29d_1 rfl rfl)
theorem dL_law_985 : decode cL_law 985 = .ok (.aload_n 0, 1) := dq_op42 (dq_at (j := 1) dk_29d_1 rfl rfl)
theorem dL_law_986 : decode cL_law 986 = .ok (.iload 4, 2) := dq_op21 (dq_at (j := 2) dk_29d_1 rfl rfl) (dq_at (j := 3) dk_29d_1 rfl rfl) rfl
theorem dL_law_988 : decode cL_law 988 = .ok (.iconst 3, 1) := dq_op6 (dq_at (j := 4) dk_29d_1 rfl rfl)
theorem dL_law_989 : decode cL_law 989 = .ok (.iadd, 1) := dq_op96 (dq_at (j := 5) dk_29d_1 rfl rfl)
theorem dL_law_990 : decode cL_law 990 = .ok (.iaload, 1) := dq_op46 (dq_at (j := 6) dk_29d_1 rfl rfl)
theorem dL_law_991 : decode cL_law 991 = .ok (.ifCond .eq 7, 3) := dq_op153 (dq_at (j := 7) dk_29d_1 rfl rfl) (dq_at (j := 8) dk_29d_1 rfl rfl) (dq_at (j := 9) dk_29d_1 rfl rfl) (by decide +kernel)
theorem dL_law_994 : decode cL_law 994 = .ok (.iconst 1, 1) := dq_op4 (dq_at (j := 10) dk_29d_1 rfl rfl)
theorem dL_law_995 : decode cL_law 995 = .ok (.goto 4, 3) := dq_op167 (dq_at (j := 11) dk_29d_1 rfl rfl) (dq_at (j := 12) dk_29d_1 rfl rfl) (dq_at (j := 13) dk_29d_1 rfl rfl) (by decide +kernel)
theorem dL_law_998 : decode cL_law 998 = .ok (.iconst 0, 1) := dq_op3 (dq_at (j := 14) dk_29d_1 rfl rfl)
theorem dL_law_999 : decode cL_law 999 = .ok (.aload_n 3, 1) := dq_op45 (dq_at (j := 15) dk_29d_1 rfl rfl)
theorem dL_law_1000 : decode cL_law 1000 = .ok (.invokestatic 233, 3) := dq_op184 (dq_at (j := 16) dk_29d_1 rfl rfl) (dq_at (j := 17) dk_29d_1 rfl rfl) (dq_at (j := 18) dk_29d_1 rfl rfl) rfl
theorem dL_law_1003 : decode cL_law 1003 = .ok (.istore 5, 2) := dq_op54 (dq_at (j := 19) dk_29d_1 rfl rfl) (dq_at (j := 20) dk_29d_1 rfl rfl) rfl
theorem dL_law_1005 : decode cL_law 1005 = .ok (.aload_n 2, 1) := dq_op44 (dq_at (j := 21) dk_29d_1 rfl rfl)
theorem dL_law_1006 : decode cL_law 1006 = .ok (.aload_n 0, 1) := dq_op42 (dq_at (j := 22) dk_29d_1 rfl rfl)
theorem dL_law_1007 : decode cL_law 1007 = .ok (.iload 4, 2) := dq_op21 (dq_at (j := 23) dk_29d_1 rfl rfl) (dq_at (j := 24) dk_29d_1 rfl rfl) rfl
theorem dL_law_1009 : decode cL_law 1009 = .ok (.iconst 1, 1) := dq_op4 (dq_at (j := 25) dk_29d_1 rfl rfl)
theorem dL_law_1010 : decode cL_law 1010 = .ok (.iadd, 1) := dq_op96 (dq_at (j := 26) dk_29d_1 rfl rfl)
theorem dL_law_1011 : decode cL_law 1011 = .ok (.iaload, 1) := dq_op46 (dq_at (j := 27) dk_29d_1 rfl rfl)
theorem dL_law_1012 : decode cL_law 1012 = .ok (.aload_n 0, 1) := dq_op42 (dq_at (j := 28) dk_29d_1 rfl rfl)
theorem dL_law_1013 : decode cL_law 1013 = .ok (.iload 4, 2) := dq_op21 (dq_at (j := 29) dk_29d_1 rfl rfl) (dq_at (j := 30) dk_29d_1 rfl rfl) rfl
theorem dL_law_1015 : decode cL_law 1015 = .ok (.iconst 2, 1) := dq_op5 (dq_at (j := 31) dk_29d_1 rfl rfl)
theorem dL_law_1016 : decode cL_law 1016 = .ok (.iadd, 1) := dq_op96 (dq_at (j := 32) dk_29d_1 rfl rfl)
theorem dL_law_1017 : decode cL_law 1017 = .ok (.iaload, 1) := dq_op46 (dq_at (j := 33) dk_29d_1 rfl rfl)
theorem dL_law_1018 : decode cL_law 1018 = .ok (.aload_n 0, 1) := dq_op42 (dq_at (j := 34) dk_29d_1 rfl rfl)
theorem dL_law_1019 : decode cL_law 1019 = .ok (.iload 4, 2) := dq_op21 (dq_at (j := 35) dk_29d_1 rfl rfl) (dq_at (j := 36) dk_29d_1 rfl rfl) rfl
theorem dL_law_1021 : decode cL_law 1021 = .ok (.iconst 3, 1) := dq_op6 (dq_at (j := 37) dk_29d_1 rfl rfl)
theorem dL_law_1022 : decode cL_law 1022 = .ok (.iadd, 1) := dq_op96 (dq_at (j := 38) dk_29d_1 rfl rfl)
theorem dL_law_1023 : decode cL_law 1023 = .ok (.iaload, 1) := dq_op46 (dq_at (j := 39) dk_29d_1 rfl rfl)
theorem dL_law_1024 : decode cL_law 1024 = .ok (.ifCond .eq 7, 3) := dq_op153 (dq_at (j := 40) dk_29d_1 rfl rfl) (dq_at (j := 41) dk_29d_1 rfl rfl) (dq_at (j := 42) dk_29d_1 rfl rfl) (by decide +kernel)
theorem dL_law_1027 : decode cL_law 1027 = .ok (.iconst 1, 1) := dq_op4 (dq_at (j := 43) dk_29d_1 rfl rfl)
theorem dL_law_1028 : decode cL_law 1028 = .ok (.goto 4, 3) := dq_op167 (dq_at (j := 44) dk_29d_1 rfl rfl) (dq_at (j := 45) dk_29d_1 rfl rfl) (dq_at (j := 46) dk_29d_1 rfl rfl) (by decide +kernel)
theorem dL_law_1031 : decode cL_law 1031 = .ok (.iconst 0, 1) := dq_op3 (dq_at (j := 47) dk_29d_1 rfl rfl)
theorem dL_law_1032 : decode cL_law 1032 = .ok (.invokevirtual 236, 3) := dq_op182 (dq_at (j := 48) dk_29d_1 rfl rfl) (dq_at (j := 49) dk_29d_1 rfl rfl) (dq_at (j := 50) dk_29d_1 rfl rfl) rfl
theorem dL_law_1035 : decode cL_law 1035 = .ok (.istore 6, 2) := dq_op54 (dq_at (j := 51) dk_29d_1 rfl rfl) (dq_at (j := 52) dk_29d_1 rfl rfl) rfl
theorem dL_law_1037 : decode cL_law 1037 = .ok (.goto 1203, 3) := dq_op167 (dq_at (j := 53) dk_29d_1 rfl rfl) (dq_at (j := 54) dk_29d_1 rfl rfl) (dq_at (j := 55) dk_29d_1 rfl rfl) (by decide +kernel)
theorem dL_law_1040 : decode cL_law 1040 = .ok (.aload_n 1, 1) := dq_op43 (dq_at (j := 56) dk_29d_1 rfl rfl)
theorem dL_law_1041 : decode cL_law 1041 = .ok (.aload_n 0, 1) := dq_op42 (dq_at (j := 57) dk_29d_1 rfl rfl)
theorem dL_law_1042 : decode cL_law 1042 = .ok (.iload 4, 2) := dq_op21 (dq_at (j := 58) dk_29d_1 rfl rfl) (dq_at (j := 59) dk_29d_1 rfl rfl) rfl
theorem dL_law_1044 : decode cL_law 1044 = .ok (.iconst 1, 1) := dq_op4 (dq_at (j := 60) dk_29d_1 rfl rfl)
theorem dL_law_1045 : decode cL_law 1045 = .ok (.iadd, 1) := dq_op96 (dq_at (j := 61) dk_29d_1 rfl rfl)
theorem dL_law_1046 : decode cL_law 1046 = .ok (.iaload, 1) := dq_op46 (dq_at (j := 62) dk_29d_1 rfl rfl)
theorem dL_law_1047 : decode cL_law 1047 = .ok (.aload_n 0, 1) := dq_op42 (dq_at (j := 63) dk_29d_1 rfl rfl)
theorem dL_law_1048 : decode cL_law 1048 = .ok (.iload 4, 2) := dq_op21 (dq_at (j := 64) dk_29d_1 rfl rfl) (dq_at (j := 65) dk_29d_1 rfl rfl) rfl
theorem dL_law_1050 : decode cL_law 1050 = .ok (.iconst 2, 1) := dq_op5 (dq_at (j := 66) dk_29d_1 rfl rfl)
theorem dL_law_1051 : decode cL_law 1051 = .ok (.iadd, 1) := dq_op96 (dq_at (j := 67) dk_29d_1 rfl rfl)
theorem dL_law_1052 : decode cL_law 1052 = .ok (.iaload, 1) := dq_op46 (dq_at (j := 68) dk_29d_1 rfl rfl)
theorem dL_law_1053 : decode cL_law 1053 = .ok (.aload_n 3, 1) := dq_op45 (dq_at (j := 69) dk_29d_1 rfl rfl)
theorem dL_law_1054 : decode cL_law 1054 = .ok (.invokestatic 237, 3) := dq_op184 (dq_at (j := 70) dk_29d_1 rfl rfl) (dq_at (j := 71) dk_29d_1 rfl rfl) (dq_at (j := 72) dk_29d_1 rfl rfl) rfl
theorem dL_law_1057 : decode cL_law 1057 = .ok (.istore 5, 2) := dq_op54 (dq_at (j := 73) dk_29d_1 rfl rfl) (dq_at (j := 74) dk_29d_1 rfl rfl) rfl
theorem dL_law_1059 : decode cL_law 1059 = .ok (.aload_n 2, 1) := dq_op44 (dq_at (j := 75) dk_29d_1 rfl rfl)
theorem dL_law_1060 : decode cL_law 1060 = .ok (.aload_n 0, 1) := dq_op42 (dq_at (j := 76) dk_29d_1 rfl rfl)
theorem dL_law_1061 : decode cL_law 1061 = .ok (.iload 4, 2) := dq_op21 (dq_at (j := 77) dk_29d_1 rfl rfl) (dq_at (j := 78) dk_29d_1 rfl rfl) rfl
theorem dL_law_1063 : decode cL_law 1063 = .ok (.iconst 1, 1) := dq_op4 (dq_at (j := 79) dk_29d_1 rfl rfl)
theorem dL_law_1064 : decode cL_law 1064 = .ok (.iadd, 1) := dq_op96 (dq_at (j := 80) dk_29d_1 rfl rfl)
theorem dL_law_1065 : decode cL_law 1065 = .ok (.iaload, 1) := dq_op46 (dq_at (j := 81) dk_29d_1 rfl rfl)
theorem dL_law_1066 : decode cL_law 1066 = .ok (.aload_n 0, 1) := dq_op42 (dq_at (j := 82) dk_29d_1 rfl rfl)
theorem dL_law_1067 : decode cL_law 1067 = .ok (.iload 4, 2) := dq_op21 (dq_at (j := 83) dk_29d_1 rfl rfl) (dq_at (j := 84) dk_29d_1 rfl rfl) rfl
theorem dL_law_1069 : decode cL_law 1069 = .ok (.iconst 2, 1) := dq_op5 (dq_at (j := 85) dk_29d_1 rfl rfl)
theorem dL_law_1070 : decode cL_law 1070 = .ok (.iadd, 1) := dq_op96 (dq_at (j := 86) dk_29d_1 rfl rfl)
theorem dL_law_1071 : decode cL_law 1071 = .ok (.iaload, 1) := dq_op46 (dq_at (j := 87) dk_29d_1 rfl rfl)
theorem dL_law_1072 : decode cL_law 1072 = .ok (.invokevirtual 239, 3) := dq_op182 (dq_at (j := 88) dk_29d_1 rfl rfl) (dq_at (j := 89) dk_29d_1 rfl rfl) (dq_at (j := 90) dk_29d_1 rfl rfl) rfl
theorem dL_law_1075 : decode cL_law 1075 = .ok (.istore 6, 2) := dq_op54 (dq_at (j := 91) dk_29d_1 rfl rfl) (dq_at (j := 92) dk_29d_1 rfl rfl) rfl
theorem dL_law_1077 : decode cL_law 1077 = .ok (.goto 1163, 3) := dq_op167 (dq_at (j := 93) dk_29d_1 rfl rfl) (dq_at (j := 94) dk_29d_1 rfl rfl) (dq_at (j := 95) dk_29d_1 rfl rfl) (by decide +kernel)
theorem dL_law_1080 : decode cL_law 1080 = .ok (.aload_n 1, 1) := dq_op43 (dq_at (j := 96) dk_29d_1 rfl rfl)
theorem dL_law_1081 : decode cL_law 1081 = .ok (.aload_n 0, 1) := dq_op42 (dq_at (j := 97) dk_29d_1 rfl rfl)
theorem dL_law_1082 : decode cL_law 1082 = .ok (.iload 4, 2) := dq_op21 (dq_at (j := 98) dk_29d_1 rfl rfl) (dq_at (j := 99) dk_29d_1 rfl rfl) rfl
theorem dL_law_1084 : decode cL_law 1084 = .ok (.iconst 1, 1) := dq_op4 (dq_at (j := 100) dk_29d_1 rfl rfl)
theorem dL_law_1085 : decode cL_law 1085 = .ok (.iadd, 1) := dq_op96 (dq_at (j := 101) dk_29d_1 rfl rfl)
theorem dL_law_1086 : decode cL_law 1086 = .ok (.iaload, 1) := dq_op46 (dq_at (j := 102) dk_29d_1 rfl rfl)
theorem dL_law_1087 : decode cL_law 1087 = .ok (.aload_n 0, 1) := dq_op42 (dq_at (j := 103) dk_29d_1 rfl rfl)
theorem dL_law_1088 : decode cL_law 1088 = .ok (.iload 4, 2) := dq_op21 (dq_at (j := 104) dk_29d_1 rfl rfl) (dq_at (j := 105) dk_29d_1 rfl rfl) rfl
theorem dL_law_1090 : decode cL_law 1090 = .ok (.iconst 2, 1) := dq_op5 (dq_at (j := 106) dk_29d_1 rfl rfl)
theorem dL_law_1091 : decode cL_law 1091 = .ok (.iadd, 1) := dq_op96 (dq_at (j := 107) dk_29d_1 rfl rfl)
theorem dL_law_1092 : decode cL_law 1092 = .ok (.iaload, 1) := dq_op46 (dq_at (j := 108) dk_29d_1 rfl rfl)
theorem dL_law_1093 : decode cL_law 1093 = .ok (.aload_n 3, 1) := dq_op45 (dq_at (j := 109) dk_29d_1 rfl rfl)
theorem dL_law_1094 : decode cL_law 1094 = .ok (.invokestatic 240, 3) := dq_op184 (dq_at (j := 110) dk_29d_1 rfl rfl) (dq_at (j := 111) dk_29d_1 rfl rfl) (dq_at (j := 112) dk_29d_1 rfl rfl) rfl
theorem dL_law_1097 : decode cL_law 1097 = .ok (.istore 5, 2) := dq_op54 (dq_at (j := 113) dk_29d_1 rfl rfl) (dq_at (j := 114) dk_29d_1 rfl rfl) rfl
theorem dL_law_1099 : decode cL_law 1099 = .ok (.aload_n 2, 1) := dq_op44 (dq_at (j := 115) dk_29d_1 rfl rfl)
theorem dL_law_1100 : decode cL_law 1100 = .ok (.aload_n 0, 1) := dq_op42 (dq_at (j := 116) dk_29d_1 rfl rfl)
theorem dL_law_1101 : decode cL_law 1101 = .ok (.iload 4, 2) := dq_op21 (dq_at (j := 117) dk_29d_1 rfl rfl) (dq_at (j := 118) dk_29d_1 rfl rfl) rfl
theorem dL_law_1103 : decode cL_law 1103 = .ok (.iconst 1, 1) := dq_op4 (dq_at (j := 119) dk_29d_1 rfl rfl)
theorem dL_law_1104 : decode cL_law 1104 = .ok (.iadd, 1) := dq_op96 (dq_at (j := 120) dk_29d_1 rfl rfl)
theorem dL_law_1105 : decode cL_law 1105 = .ok (.iaload, 1) := dq_op46 (dq_at (j := 121) dk_29d_1 rfl rfl)
theorem dL_law_1106 : decode cL_law 1106 = .ok (.aload_n 0, 1) := dq_op42 (dq_at (j := 122) dk_29d_1 rfl rfl)
theorem dL_law_1107 : decode cL_law 1107 = .ok (.iload 4, 2) := dq_op21 (dq_at (j := 123) dk_29d_1 rfl rfl) (dq_at (j := 124) dk_29d_1 rfl rfl) rfl
theorem dL_law_1109 : decode cL_law 1109 = .ok (.iconst 2, 1) := dq_op5 (dq_at (j := 125) dk_29d_1 rfl rfl)
theorem dL_law_1110 : decode cL_law 1110 = .ok (.iadd, 1) := dq_op96 (dq_at (j := 126) dk_29d_1 rfl rfl)
theorem dL_law_1111 : decode cL_law 1111 = .ok (.iaload, 1) := dq_op46 (dq_at (j := 127) dk_29d_1 rfl rfl)
theorem dL_law_1112 : decode cL_law 1112 = .ok (.invokevirtual 242, 3) := dq_op182 (dq_at (j := 128) dk_29d_1 rfl rfl) (dq_at (j := 129) dk_29d_1 rfl rfl) (dq_at (j := 130) dk_29d_1 rfl rfl) rfl
theorem dL_law_1115 : decode cL_law 1115 = .ok (.istore 6, 2) := dq_op54 (dq_at (j := 131) dk_29d_1 rfl rfl) (dq_at (j := 132) dk_29d_1 rfl rfl) rfl
theorem dL_law_1117 : decode cL_law 1117 = .ok (.goto 1123, 3) := dq_op167 (dq_at (j := 133) dk_29d_1 rfl rfl) (dq_at (j := 134) dk_29d_1 rfl rfl) (dq_at (j := 135) dk_29d_1 rfl rfl) (by decide +kernel)
theorem dL_law_1120 : decode cL_law 1120 = .ok (.aload_n 1, 1) := dq_op43 (dq_at (j := 136) dk_29d_1 rfl rfl)
theorem dL_law_1121 : decode cL_law 1121 = .ok (.aload_n 0, 1) := dq_op42 (dq_at (j := 137) dk_29d_1 rfl rfl)
theorem dL_law_1122 : decode cL_law 1122 = .ok (.iload 4, 2) := dq_op21 (dq_at (j := 138) dk_29d_1 rfl rfl) (dq_at (j := 139) dk_29d_1 rfl rfl) rfl
theorem dL_law_1124 : decode cL_law 1124 = .ok (.iconst 1, 1) := dq_op4 (dq_at (j := 140) dk_29d_1 rfl rfl)
theorem dL_law_1125 : decode cL_law 1125 = .ok (.iadd, 1) := dq_op96 (dq_at (j := 141) dk_29d_1 rfl rfl)
theorem dL_law_1126 : decode cL_law 1126 = .ok (.iaload, 1) := dq_op46 (dq_at (j := 142) dk_29d_1 rfl rfl)
theorem dL_law_1127 : decode cL_law 1127 = .ok (.aload_n 3, 1) := dq_op45 (dq_at (j := 143) dk_29d_1 rfl rfl)
theorem dL_law_1128 : decode cL_law 1128 = .ok (.invokestatic 243, 3) := dq_op184 (dq_at (j := 144) dk_29d_1 rfl rfl) (dq_at (j := 145) dk_29d_1 rfl rfl) (dq_at (j := 146) dk_29d_1 rfl rfl) rfl
theorem dk_29d_2 : (cL_law.data.toList.drop 1131).take 124 = [54, 5, 44, 42, 21, 4, 4, 96, 46, 182, 0, 245, 54, 6, 167, 4, 71, 43, 42, 21, 4, 4, 96, 46, 42, 21, 4, 5, 96, 46, 153, 0, 7, 4, 167, 0, 4, 3, 45, 184, 0, 246, 54, 5, 44, 42, 21, 4, 4, 96, 46, 42, 21, 4, 5, 96, 46, 153, 0, 7, 4, 167, 0, 4, 3, 182, 0, 249, 54, 6, 167, 4, 15, 43, 42, 21, 4, 4, 96, 46, 45, 184, 0, 250, 54, 5, 44, 42, 21, 4, 4, 96, 46, 182, 0, 252, 54, 6, 167, 3, 243, 43, 42, 21, 4, 4, 96, 46, 42, 21, 4, 5, 96, 46, 45, 184, 0, 253, 54, 5, 44, 42, 21, 4] := by decide +kernel
theorem dL_law_1131 : decode cL_law 1131 = .ok (.istore 5, 2) := dq_op54 (dq_at (j := 0) dk_29d_2 rfl rfl) (dq_at (j := 1) dk_29d_2 rfl rfl) rfl
theorem dL_law_1133 : decode cL_law 1133 = .ok (.aload_n 2, 1) := dq_op44 (dq_at (j := 2) dk_29d_2 rfl rfl)
theorem dL_law_1134 : decode cL_law 1134 = .ok (.aload_n 0, 1) := dq_op42 (dq_at (j := 3) dk_29d_2 rfl rfl)
theorem dL_law_1135 : decode cL_law 1135 = .ok (.iload 4, 2) := dq_op21 (dq_at (j := 4) dk_29d_2 rfl rfl) (dq_at (j := 5) dk_29d_2 rfl rfl) rfl
theorem dL_law_1137 : decode cL_law 1137 = .ok (.iconst 1, 1) := dq_op4 (dq_at (j := 6) dk_29d_2 rfl rfl)
theorem dL_law_1138 : decode cL_law 1138 = .ok (.iadd, 1) := dq_op96 (dq_at (j := 7) dk_29d_2 rfl rfl)
theorem dL_law_1139 : decode cL_law 1139 = .ok (.iaload, 1) := dq_op46 (dq_at (j := 8) dk_29d_2 rfl rfl)
theorem dL_law_1140 : decode cL_law 1140 = .ok (.invokevirtual 245, 3) := dq_op182 (dq_at (j := 9) dk_29d_2 rfl rfl) (dq_at (j := 10) dk_29d_2 rfl rfl) (dq_at (j := 11) dk_29d_2 rfl rfl) rfl
theorem dL_law_1143 : decode cL_law 1143 = .ok (.istore 6, 2) := dq_op54 (dq_at (j := 12) dk_29d_2 rfl rfl) (dq_at (j := 13) dk_29d_2 rfl rfl) rfl
theorem dL_law_1145 : decode cL_law 1145 = .ok (.goto 1095, 3) := dq_op167 (dq_at (j := 14) dk_29d_2 rfl rfl) (dq_at (j := 15) dk_29d_2 rfl rfl) (dq_at (j := 16) dk_29d_2 rfl rfl) (by decide +kernel)
theorem dL_law_1148 : decode cL_law 1148 = .ok (.aload_n 1, 1) := dq_op43 (dq_at (j := 17) dk_29d_2 rfl rfl)
theorem dL_law_1149 : decode cL_law 1149 = .ok (.aload_n 0, 1) := dq_op42 (dq_at (j := 18) dk_29d_2 rfl rfl)
theorem dL_law_1150 : decode cL_law 1150 = .ok (.iload 4, 2) := dq_op21 (dq_at (j := 19) dk_29d_2 rfl rfl) (dq_at (j := 20) dk_29d_2 rfl rfl) rfl
theorem dL_law_1152 : decode cL_law 1152 = .ok (.iconst 1, 1) := dq_op4 (dq_at (j := 21) dk_29d_2 rfl rfl)
theorem dL_law_1153 : decode cL_law 1153 = .ok (.iadd, 1) := dq_op96 (dq_at (j := 22) dk_29d_2 rfl rfl)
theorem dL_law_1154 : decode cL_law 1154 = .ok (.iaload, 1) := dq_op46 (dq_at (j := 23) dk_29d_2 rfl rfl)
theorem dL_law_1155 : decode cL_law 1155 = .ok (.aload_n 0, 1) := dq_op42 (dq_at (j := 24) dk_29d_2 rfl rfl)
theorem dL_law_1156 : decode cL_law 1156 = .ok (.iload 4, 2) := dq_op21 (dq_at (j := 25) dk_29d_2 rfl rfl) (dq_at (j := 26) dk_29d_2 rfl rfl) rfl
theorem dL_law_1158 : decode cL_law 1158 = .ok (.iconst 2, 1) := dq_op5 (dq_at (j := 27) dk_29d_2 rfl rfl)
theorem dL_law_1159 : decode cL_law 1159 = .ok (.iadd, 1) := dq_op96 (dq_at (j := 28) dk_29d_2 rfl rfl)
theorem dL_law_1160 : decode cL_law 1160 = .ok (.iaload, 1) := dq_op46 (dq_at (j := 29) dk_29d_2 rfl rfl)
theorem dL_law_1161 : decode cL_law 1161 = .ok (.ifCond .eq 7, 3) := dq_op153 (dq_at (j := 30) dk_29d_2 rfl rfl) (dq_at (j := 31) dk_29d_2 rfl rfl) (dq_at (j := 32) dk_29d_2 rfl rfl) (by decide +kernel)
theorem dL_law_1164 : decode cL_law 1164 = .ok (.iconst 1, 1) := dq_op4 (dq_at (j := 33) dk_29d_2 rfl rfl)
theorem dL_law_1165 : decode cL_law 1165 = .ok (.goto 4, 3) := dq_op167 (dq_at (j := 34) dk_29d_2 rfl rfl) (dq_at (j := 35) dk_29d_2 rfl rfl) (dq_at (j := 36) dk_29d_2 rfl rfl) (by decide +kernel)
theorem dL_law_1168 : decode cL_law 1168 = .ok (.iconst 0, 1) := dq_op3 (dq_at (j := 37) dk_29d_2 rfl rfl)
theorem dL_law_1169 : decode cL_law 1169 = .ok (.aload_n 3, 1) := dq_op45 (dq_at (j := 38) dk_29d_2 rfl rfl)
theorem dL_law_1170 : decode cL_law 1170 = .ok (.invokestatic 246, 3) := dq_op184 (dq_at (j := 39) dk_29d_2 rfl rfl) (dq_at (j := 40) dk_29d_2 rfl rfl) (dq_at (j := 41) dk_29d_2 rfl rfl) rfl
theorem dL_law_1173 : decode cL_law 1173 = .ok (.istore 5, 2) := dq_op54 (dq_at (j := 42) dk_29d_2 rfl rfl) (dq_at (j := 43) dk_29d_2 rfl rfl) rfl
theorem dL_law_1175 : decode cL_law 1175 = .ok (.aload_n 2, 1) := dq_op44 (dq_at (j := 44) dk_29d_2 rfl rfl)
theorem dL_law_1176 : decode cL_law 1176 = .ok (.aload_n 0, 1) := dq_op42 (dq_at (j := 45) dk_29d_2 rfl rfl)
theorem dL_law_1177 : decode cL_law 1177 = .ok (.iload 4, 2) := dq_op21 (dq_at (j := 46) dk_29d_2 rfl rfl) (dq_at (j := 47) dk_29d_2 rfl rfl) rfl
theorem dL_law_1179 : decode cL_law 1179 = .ok (.iconst 1, 1) := dq_op4 (dq_at (j := 48) dk_29d_2 rfl rfl)
theorem dL_law_1180 : decode cL_law 1180 = .ok (.iadd, 1) := dq_op96 (dq_at (j := 49) dk_29d_2 rfl rfl)
theorem dL_law_1181 : decode cL_law 1181 = .ok (.iaload, 1) := dq_op46 (dq_at (j := 50) dk_29d_2 rfl rfl)
theorem dL_law_1182 : decode cL_law 1182 = .ok (.aload_n 0, 1) := dq_op42 (dq_at (j := 51) dk_29d_2 rfl rfl)
theorem dL_law_1183 : decode cL_law 1183 = .ok (.iload 4, 2) := dq_op21 (dq_at (j := 52) dk_29d_2 rfl rfl) (dq_at (j := 53) dk_29d_2 rfl rfl) rfl
theorem dL_law_1185 : decode cL_law 1185 = .ok (.iconst 2, 1) := dq_op5 (dq_at (j := 54) dk_29d_2 rfl rfl)
theorem dL_law_1186 : decode cL_law 1186 = .ok (.iadd, 1) := dq_op96 (dq_at (j := 55) dk_29d_2 rfl rfl)
theorem dL_law_1187 : decode cL_law 1187 = .ok (.iaload, 1) := dq_op46 (dq_at (j := 56) dk_29d_2 rfl rfl)
theorem dL_law_1188 : decode cL_law 1188 = .ok (.ifCond .eq 7, 3) := dq_op153 (dq_at (j := 57) dk_29d_2 rfl rfl) (dq_at (j := 58) dk_29d_2 rfl rfl) (dq_at (j := 59) dk_29d_2 rfl rfl) (by decide +kernel)
theorem dL_law_1191 : decode cL_law 1191 = .ok (.iconst 1, 1) := dq_op4 (dq_at (j := 60) dk_29d_2 rfl rfl)
theorem dL_law_1192 : decode cL_law 1192 = .ok (.goto 4, 3) := dq_op167 (dq_at (j := 61) dk_29d_2 rfl rfl) (dq_at (j := 62) dk_29d_2 rfl rfl) (dq_at (j := 63) dk_29d_2 rfl rfl) (by decide +kernel)
theorem dL_law_1195 : decode cL_law 1195 = .ok (.iconst 0, 1) := dq_op3 (dq_at (j := 64) dk_29d_2 rfl rfl)
theorem dL_law_1196 : decode cL_law 1196 = .ok (.invokevirtual 249, 3) := dq_op182 (dq_at (j := 65) dk_29d_2 rfl rfl) (dq_at (j := 66) dk_29d_2 rfl rfl) (dq_at (j := 67) dk_29d_2 rfl rfl) rfl
theorem dL_law_1199 : decode cL_law 1199 = .ok (.istore 6, 2) := dq_op54 (dq_at (j := 68) dk_29d_2 rfl rfl) (dq_at (j := 69) dk_29d_2 rfl rfl) rfl
theorem dL_law_1201 : decode cL_law 1201 = .ok (.goto 1039, 3) := dq_op167 (dq_at (j := 70) dk_29d_2 rfl rfl) (dq_at (j := 71) dk_29d_2 rfl rfl) (dq_at (j := 72) dk_29d_2 rfl rfl) (by decide +kernel)
theorem dL_law_1204 : decode cL_law 1204 = .ok (.aload_n 1, 1) := dq_op43 (dq_at (j := 73) dk_29d_2 rfl rfl)
theorem dL_law_1205 : decode cL_law 1205 = .ok (.aload_n 0, 1) := dq_op42 (dq_at (j := 74) dk_29d_2 rfl rfl)
theorem dL_law_1206 : decode cL_law 1206 = .ok (.iload 4, 2) := dq_op21 (dq_at (j := 75) dk_29d_2 rfl rfl) (dq_at (j := 76) dk_29d_2 rfl rfl) rfl
theorem dL_law_1208 : decode cL_law 1208 = .ok (.iconst 1, 1) := dq_op4 (dq_at (j := 77) dk_29d_2 rfl rfl)
theorem dL_law_1209 : decode cL_law 1209 = .ok (.iadd, 1) := dq_op96 (dq_at (j := 78) dk_29d_2 rfl rfl)
theorem dL_law_1210 : decode cL_law 1210 = .ok (.iaload, 1) := dq_op46 (dq_at (j := 79) dk_29d_2 rfl rfl)
theorem dL_law_1211 : decode cL_law 1211 = .ok (.aload_n 3, 1) := dq_op45 (dq_at (j := 80) dk_29d_2 rfl rfl)
theorem dL_law_1212 : decode cL_law 1212 = .ok (.invokestatic 250, 3) := dq_op184 (dq_at (j := 81) dk_29d_2 rfl rfl) (dq_at (j := 82) dk_29d_2 rfl rfl) (dq_at (j := 83) dk_29d_2 rfl rfl) rfl
theorem dL_law_1215 : decode cL_law 1215 = .ok (.istore 5, 2) := dq_op54 (dq_at (j := 84) dk_29d_2 rfl rfl) (dq_at (j := 85) dk_29d_2 rfl rfl) rfl
theorem dL_law_1217 : decode cL_law 1217 = .ok (.aload_n 2, 1) := dq_op44 (dq_at (j := 86) dk_29d_2 rfl rfl)
theorem dL_law_1218 : decode cL_law 1218 = .ok (.aload_n 0, 1) := dq_op42 (dq_at (j := 87) dk_29d_2 rfl rfl)
theorem dL_law_1219 : decode cL_law 1219 = .ok (.iload 4, 2) := dq_op21 (dq_at (j := 88) dk_29d_2 rfl rfl) (dq_at (j := 89) dk_29d_2 rfl rfl) rfl
theorem dL_law_1221 : decode cL_law 1221 = .ok (.iconst 1, 1) := dq_op4 (dq_at (j := 90) dk_29d_2 rfl rfl)
theorem dL_law_1222 : decode cL_law 1222 = .ok (.iadd, 1) := dq_op96 (dq_at (j := 91) dk_29d_2 rfl rfl)
theorem dL_law_1223 : decode cL_law 1223 = .ok (.iaload, 1) := dq_op46 (dq_at (j := 92) dk_29d_2 rfl rfl)
theorem dL_law_1224 : decode cL_law 1224 = .ok (.invokevirtual 252, 3) := dq_op182 (dq_at (j := 93) dk_29d_2 rfl rfl) (dq_at (j := 94) dk_29d_2 rfl rfl) (dq_at (j := 95) dk_29d_2 rfl rfl) rfl
theorem dL_law_1227 : decode cL_law 1227 = .ok (.istore 6, 2) := dq_op54 (dq_at (j := 96) dk_29d_2 rfl rfl) (dq_at (j := 97) dk_29d_2 rfl rfl) rfl
theorem dL_law_1229 : decode cL_law 1229 = .ok (.goto 1011, 3) := dq_op167 (dq_at (j := 98) dk_29d_2 rfl rfl) (dq_at (j := 99) dk_29d_2 rfl rfl) (dq_at (j := 100) dk_29d_2 rfl rfl) (by decide +kernel)
theorem dL_law_1232 : decode cL_law 1232 = .ok (.aload_n 1, 1) := dq_op43 (dq_at (j := 101) dk_29d_2 rfl rfl)
theorem dL_law_1233 : decode cL_law 1233 = .ok (.aload_n 0, 1) := dq_op42 (dq_at (j := 102) dk_29d_2 rfl rfl)
theorem dL_law_1234 : decode cL_law 1234 = .ok (.iload 4, 2) := dq_op21 (dq_at (j := 103) dk_29d_2 rfl rfl) (dq_at (j := 104) dk_29d_2 rfl rfl) rfl
theorem dL_law_1236 : decode cL_law 1236 = .ok (.iconst 1, 1) := dq_op4 (dq_at (j := 105) dk_29d_2 rfl rfl)
theorem dL_law_1237 : decode cL_law 1237 = .ok (.iadd, 1) := dq_op96 (dq_at (j := 106) dk_29d_2 rfl rfl)
theorem dL_law_1238 : decode cL_law 1238 = .ok (.iaload, 1) := dq_op46 (dq_at (j := 107) dk_29d_2 rfl rfl)
theorem dL_law_1239 : decode cL_law 1239 = .ok (.aload_n 0, 1) := dq_op42 (dq_at (j := 108) dk_29d_2 rfl rfl)
theorem dL_law_1240 : decode cL_law 1240 = .ok (.iload 4, 2) := dq_op21 (dq_at (j := 109) dk_29d_2 rfl rfl) (dq_at (j := 110) dk_29d_2 rfl rfl) rfl
theorem dL_law_1242 : decode cL_law 1242 = .ok (.iconst 2, 1) := dq_op5 (dq_at (j := 111) dk_29d_2 rfl rfl)
theorem dL_law_1243 : decode cL_law 1243 = .ok (.iadd, 1) := dq_op96 (dq_at (j := 112) dk_29d_2 rfl rfl)
theorem dL_law_1244 : decode cL_law 1244 = .ok (.iaload, 1) := dq_op46 (dq_at (j := 113) dk_29d_2 rfl rfl)
theorem dL_law_1245 : decode cL_law 1245 = .ok (.aload_n 3, 1) := dq_op45 (dq_at (j := 114) dk_29d_2 rfl rfl)
theorem dL_law_1246 : decode cL_law 1246 = .ok (.invokestatic 253, 3) := dq_op184 (dq_at (j := 115) dk_29d_2 rfl rfl) (dq_at (j := 116) dk_29d_2 rfl rfl) (dq_at (j := 117) dk_29d_2 rfl rfl) rfl
theorem dL_law_1249 : decode cL_law 1249 = .ok (.istore 5, 2) := dq_op54 (dq_at (j := 118) dk_29d_2 rfl rfl) (dq_at (j := 119) dk_29d_2 rfl rfl) rfl
theorem dL_law_1251 : decode cL_law 1251 = .ok (.aload_n 2, 1) := dq_op44 (dq_at (j := 120) dk_29d_2 rfl rfl)
theorem dL_law_1252 : decode cL_law 1252 = .ok (.aload_n 0, 1) := dq_op42 (dq_at (j := 121) dk_29d_2 rfl rfl)
noncomputable def dq_end_29d : Nat := 0
theorem dk_29e_1 : (cL_law.data.toList.drop 1253).take 146 = [21, 4, 4, 96, 46, 42, 21, 4, 5, 96, 46, 182, 0, 255, 54, 6, 167, 3, 203, 43, 42, 21, 4, 4, 96, 46, 42, 21, 4, 5, 96, 46, 45, 184, 1, 0, 54, 5, 44, 42, 21, 4, 4, 96, 46, 42, 21, 4, 5, 96, 46, 182, 1, 2, 54, 6, 167, 3, 163, 43, 42, 21, 4, 4, 96, 46, 42, 21, 4, 5, 96, 46, 45, 184, 1, 3, 54, 5, 44, 42, 21, 4, 4, 96, 46, 42, 21, 4, 5, 96, 46, 182, 1, 5, 54, 6, 167, 3, 123, 43, 42, 21, 4, 4, 96, 46, 42, 21, 4, 5, 96, 46, 45, 184, 1, 6, 54, 5, 44, 42, 21, 4, 4, 96, 46, 42, 21, 4, 5, 96, 46, 182, 1, 8, 54, 6, 167, 3, 83, 43, 42, 21, 4, 4, 96, 46] := by decide +kernel
theorem dL_law_1253 : decode cL_law 1253 = .ok (.iload 4, 2) := dq_op21 (dq_at (j := 0) dk_29e_1 rfl rfl) (dq_at (j := 1) dk_29e_1 rfl rfl) rfl
theorem dL_law_1255 : decode cL_law 1255 = .ok (.iconst 1, 1) := dq_op4 (dq_at (j := 2) dk_29e_1 rfl rfl)
theorem dL_law_1256 : decode cL_law 1256 = .ok (.iadd, 1) := dq_op96 (dq_at (j := 3) dk_29e_1 rfl rfl)
theorem dL_law_1257 : decode cL_law 1257 = .ok (.iaload, 1) := dq_op46 (dq_at (j := 4) dk_29e_1 rfl rfl)
theorem dL_law_1258 : decode cL_law 1258 = .ok (.aload_n 0, 1) := dq_op42 (dq_at (j := 5) dk_29e_1 rfl rfl)
theorem dL_law_1259 : decode cL_law 1259 = .ok (.iload 4, 2) := dq_op21 (dq_at (j := 6) dk_29e_1 rfl rfl) (dq_at (j := 7) dk_29e_1 rfl rfl) rfl
theorem dL_law_1261 : decode cL_law 1261 = .ok (.iconst 2, 1) := dq_op5 (dq_at (j := 8) dk_29e_1 rfl rfl)
theorem dL_law_1262 : decode cL_law 1262 = .ok (.iadd, 1) := dq_op96 (dq_at (j := 9) dk_29e_1 rfl rfl)
theorem dL_law_1263 : decode cL_law 1263 = .ok (.iaload, 1) := dq_op46 (dq_at (j := 10) dk_29e_1 rfl rfl)
theorem dL_law_1264 : decode cL_law 1264 = .ok (.invokevirtual 255, 3) := dq_op182 (dq_at (j := 11) dk_29e_1 rfl rfl) (dq_at (j := 12) dk_29e_1 rfl rfl) (dq_at (j := 13) dk_29e_1 rfl rfl) rfl
theorem dL_law_1267 : decode cL_law 1267 = .ok (.istore 6, 2) := dq_op54 (dq_at (j := 14) dk_29e_1 rfl rfl) (dq_at (j := 15) dk_29e_1 rfl rfl) rfl
theorem dL_law_1269 : decode cL_law 1269 = .ok (.goto 971, 3) := dq_op167 (dq_at (j := 16) dk_29e_1 rfl rfl) (dq_at (j := 17) dk_29e_1 rfl rfl) (dq_at (j := 18) dk_29e_1 rfl rfl) (by decide +kernel)
theorem dL_law_1272 : decode cL_law 1272 = .ok (.aload_n 1, 1) := dq_op43 (dq_at (j := 19) dk_29e_1 rfl rfl)
theorem dL_law_1273 : decode cL_law 1273 = .ok (.aload_n 0, 1) := dq_op42 (dq_at (j := 20) dk_29e_1 rfl rfl)
theorem dL_law_1274 : decode cL_law 1274 = .ok (.iload 4, 2) := dq_op21 (dq_at (j := 21) dk_29e_1 rfl rfl) (dq_at (j := 22) dk_29e_1 rfl rfl) rfl
theorem dL_law_1276 : decode cL_law 1276 = .ok (.iconst 1, 1) := dq_op4 (dq_at (j := 23) dk_29e_1 rfl rfl)
theorem dL_law_1277 : decode cL_law 1277 = .ok (.iadd, 1) := dq_op96 (dq_at (j := 24) dk_29e_1 rfl rfl)
theorem dL_law_1278 : decode cL_law 1278 = .ok (.iaload, 1) := dq_op46 (dq_at (j := 25) dk_29e_1 rfl rfl)
theorem dL_law_1279 : decode cL_law 1279 = .ok (.aload_n 0, 1) := dq_op42 (dq_at (j := 26) dk_29e_1 rfl rfl)
theorem dL_law_1280 : decode cL_law 1280 = .ok (.iload 4, 2) := dq_op21 (dq_at (j := 27) dk_29e_1 rfl rfl) (dq_at (j := 28) dk_29e_1 rfl rfl) rfl
theorem dL_law_1282 : decode cL_law 1282 = .ok (.iconst 2, 1) := dq_op5 (dq_at (j := 29) dk_29e_1 rfl rfl)
theorem dL_law_1283 : decode cL_law 1283 = .ok (.iadd, 1) := dq_op96 (dq_at (j := 30) dk_29e_1 rfl rfl)
theorem dL_law_1284 : decode cL_law 1284 = .ok (.iaload, 1) := dq_op46 (dq_at (j := 31) dk_29e_1 rfl rfl)
theorem dL_law_1285 : decode cL_law 1285 = .ok (.aload_n 3, 1) := dq_op45 (dq_at (j := 32) dk_29e_1 rfl rfl)
theorem dL_law_1286 : decode cL_law 1286 = .ok (.invokestatic 256, 3) := dq_op184 (dq_at (j := 33) dk_29e_1 rfl rfl) (dq_at (j := 34) dk_29e_1 rfl rfl) (dq_at (j := 35) dk_29e_1 rfl rfl) rfl
theorem dL_law_1289 : decode cL_law 1289 = .ok (.istore 5, 2) := dq_op54 (dq_at (j := 36) dk_29e_1 rfl rfl) (dq_at (j := 37) dk_29e_1 rfl rfl) rfl
theorem dL_law_1291 : decode cL_law 1291 = .ok (.aload_n 2, 1) := dq_op44 (dq_at (j := 38) dk_29e_1 rfl rfl)
theorem dL_law_1292 : decode cL_law 1292 = .ok (.aload_n 0, 1) := dq_op42 (dq_at (j := 39) dk_29e_1 rfl rfl)
theorem dL_law_1293 : decode cL_law 1293 = .ok (.iload 4, 2) := dq_op21 (dq_at (j := 40) dk_29e_1 rfl rfl) (dq_at (j := 41) dk_29e_1 rfl rfl) rfl
theorem dL_law_1295 : decode cL_law 1295 = .ok (.iconst 1, 1) := dq_op4 (dq_at (j := 42) dk_29e_1 rfl rfl)
theorem dL_law_1296 : decode cL_law 1296 = .ok (.iadd, 1) := dq_op96 (dq_at (j := 43) dk_29e_1 rfl rfl)
theorem dL_law_1297 : decode cL_law 1297 = .ok (.iaload, 1) := dq_op46 (dq_at (j := 44) dk_29e_1 rfl rfl)
theorem dL_law_1298 : decode cL_law 1298 = .ok (.aload_n 0, 1) := dq_op42 (dq_at (j := 45) dk_29e_1 rfl rfl)
theorem dL_law_1299 : decode cL_law 1299 = .ok (.iload 4, 2) := dq_op21 (dq_at (j := 46) dk_29e_1 rfl rfl) (dq_at (j := 47) dk_29e_1 rfl rfl) rfl
theorem dL_law_1301 : decode cL_law 1301 = .ok (.iconst 2, 1) := dq_op5 (dq_at (j := 48) dk_29e_1 rfl rfl)
theorem dL_law_1302 : decode cL_law 1302 = .ok (.iadd, 1) := dq_op96 (dq_at (j := 49) dk_29e_1 rfl rfl)
theorem dL_law_1303 : decode cL_law 1303 = .ok (.iaload, 1) := dq_op46 (dq_at (j := 50) dk_29e_1 rfl rfl)
theorem dL_law_1304 : decode cL_law 1304 = .ok (.invokevirtual 258, 3) := dq_op182 (dq_at (j := 51) dk_29e_1 rfl rfl) (dq_at (j := 52) dk_29e_1 rfl rfl) (dq_at (j := 53) dk_29e_1 rfl rfl) rfl
theorem dL_law_1307 : decode cL_law 1307 = .ok (.istore 6, 2) := dq_op54 (dq_at (j := 54) dk_29e_1 rfl rfl) (dq_at (j := 55) dk_29e_1 rfl rfl) rfl
theorem dL_law_1309 : decode cL_law 1309 = .ok (.goto 931, 3) := dq_op167 (dq_at (j := 56) dk_29e_1 rfl rfl) (dq_at (j := 57) dk_29e_1 rfl rfl) (dq_at (j := 58) dk_29e_1 rfl rfl) (by decide +kernel)
theorem dL_law_1312 : decode cL_law 1312 = .ok (.aload_n 1, 1) := dq_op43 (dq_at (j := 59) dk_29e_1 rfl rfl)
theorem dL_law_1313 : decode cL_law 1313 = .ok (.aload_n 0, 1) := dq_op42 (dq_at (j := 60) dk_29e_1 rfl rfl)
theorem dL_law_1314 : decode cL_law 1314 = .ok (.iload 4, 2) := dq_op21 (dq_at (j := 61) dk_29e_1 rfl rfl) (dq_at (j := 62) dk_29e_1 rfl rfl) rfl
theorem dL_law_1316 : decode cL_law 1316 = .ok (.iconst 1, 1) := dq_op4 (dq_at (j := 63) dk_29e_1 rfl rfl)
theorem dL_law_1317 : decode cL_law 1317 = .ok (.iadd, 1) := dq_op96 (dq_at (j := 64) dk_29e_1 rfl rfl)
theorem dL_law_1318 : decode cL_law 1318 = .ok (.iaload, 1) := dq_op46 (dq_at (j := 65) dk_29e_1 rfl rfl)
theorem dL_law_1319 : decode cL_law 1319 = .ok (.aload_n 0, 1) := dq_op42 (dq_at (j := 66) dk_29e_1 rfl rfl)
theorem dL_law_1320 : decode cL_law 1320 = .ok (.iload 4, 2) := dq_op21 (dq_at (j := 67) dk_29e_1 rfl rfl) (dq_at (j := 68) dk_29e_1 rfl rfl) rfl
theorem dL_law_1322 : decode cL_law 1322 = .ok (.iconst 2, 1) := dq_op5 (dq_at (j := 69) dk_29e_1 rfl rfl)
theorem dL_law_1323 : decode cL_law 1323 = .ok (.iadd, 1) := dq_op96 (dq_at (j := 70) dk_29e_1 rfl rfl)
theorem dL_law_1324 : decode cL_law 1324 = .ok (.iaload, 1) := dq_op46 (dq_at (j := 71) dk_29e_1 rfl rfl)
theorem dL_law_1325 : decode cL_law 1325 = .ok (.aload_n 3, 1) := dq_op45 (dq_at (j := 72) dk_29e_1 rfl rfl)
theorem dL_law_1326 : decode cL_law 1326 = .ok (.invokestatic 259, 3) := dq_op184 (dq_at (j := 73) dk_29e_1 rfl rfl) (dq_at (j := 74) dk_29e_1 rfl rfl) (dq_at (j := 75) dk_29e_1 rfl rfl) rfl
theorem dL_law_1329 : decode cL_law 1329 = .ok (.istore 5, 2) := dq_op54 (dq_at (j := 76) dk_29e_1 rfl rfl) (dq_at (j := 77) dk_29e_1 rfl rfl) rfl
theorem dL_law_1331 : decode cL_law 1331 = .ok (.aload_n 2, 1) := dq_op44 (dq_at (j := 78) dk_29e_1 rfl rfl)
theorem dL_law_1332 : decode cL_law 1332 = .ok (.aload_n 0, 1) := dq_op42 (dq_at (j := 79) dk_29e_1 rfl rfl)
theorem dL_law_1333 : decode cL_law 1333 = .ok (.iload 4, 2) := dq_op21 (dq_at (j := 80) dk_29e_1 rfl rfl) (dq_at (j := 81) dk_29e_1 rfl rfl) rfl
theorem dL_law_1335 : decode cL_law 1335 = .ok (.iconst 1, 1) := dq_op4 (dq_at (j := 82) dk_29e_1 rfl rfl)
theorem dL_law_1336 : decode cL_law 1336 = .ok (.iadd, 1) := dq_op96 (dq_at (j := 83) dk_29e_1 rfl rfl)
theorem dL_law_1337 : decode cL_law 1337 = .ok (.iaload, 1) := dq_op46 (dq_at (j := 84) dk_29e_1 rfl rfl)
theorem dL_law_1338 : decode cL_law 1338 = .ok (.aload_n 0, 1) := dq_op42 (dq_at (j := 85) dk_29e_1 rfl rfl)
theorem dL_law_1339 : decode cL_law 1339 = .ok (.iload 4, 2) := dq_op21 (dq_at (j := 86) dk_29e_1 rfl rfl) (dq_at (j := 87) dk_29e_1 rfl rfl) rfl
theorem dL_law_1341 : decode cL_law 1341 = .ok (.iconst 2, 1) := dq_op5 (dq_at (j := 88) dk_29e_1 rfl rfl)
theorem dL_law_1342 : decode cL_law 1342 = .ok (.iadd, 1) := dq_op96 (dq_at (j := 89) dk_29e_1 rfl rfl)
theorem dL_law_1343 : decode cL_law 1343 = .ok (.iaload, 1) := dq_op46 (dq_at (j := 90) dk_29e_1 rfl rfl)
theorem dL_law_1344 : decode cL_law 1344 = .ok (.invokevirtual 261, 3) := dq_op182 (dq_at (j := 91) dk_29e_1 rfl rfl) (dq_at (j := 92) dk_29e_1 rfl rfl) (dq_at (j := 93) dk_29e_1 rfl rfl) rfl
theorem dL_law_1347 : decode cL_law 1347 = .ok (.istore 6, 2) := dq_op54 (dq_at (j := 94) dk_29e_1 rfl rfl) (dq_at (j := 95) dk_29e_1 rfl rfl) rfl
theorem dL_law_1349 : decode cL_law 1349 = .ok (.goto 891, 3) := dq_op167 (dq_at (j := 96) dk_29e_1 rfl rfl) (dq_at (j := 97) dk_29e_1 rfl rfl) (dq_at (j := 98) dk_29e_1 rfl rfl) (by decide +kernel)
theorem dL_law_1352 : decode cL_law 1352 = .ok (.aload_n 1, 1) := dq_op43 (dq_at (j := 99) dk_29e_1 rfl rfl)
theorem dL_law_1353 : decode cL_law 1353 = .ok (.aload_n 0, 1) := dq_op42 (dq_at (j := 100) dk_29e_1 rfl rfl)
theorem dL_law_1354 : decode cL_law 1354 = .ok (.iload 4, 2) := dq_op21 (dq_at (j := 101) dk_29e_1 rfl rfl) (dq_at (j := 102) dk_29e_1 rfl rfl) rfl
theorem dL_law_1356 : decode cL_law 1356 = .ok (.iconst 1, 1) := dq_op4 (dq_at (j := 103) dk_29e_1 rfl rfl)
theorem dL_law_1357 : decode cL_law 1357 = .ok (.iadd, 1) := dq_op96 (dq_at (j := 104) dk_29e_1 rfl rfl)
theorem dL_law_1358 : decode cL_law 1358 = .ok (.iaload, 1) := dq_op46 (dq_at (j := 105) dk_29e_1 rfl rfl)
theorem dL_law_1359 : decode cL_law 1359 = .ok (.aload_n 0, 1) := dq_op42 (dq_at (j := 106) dk_29e_1 rfl rfl)
theorem dL_law_1360 : decode cL_law 1360 = .ok (.iload 4, 2) := dq_op21 (dq_at (j := 107) dk_29e_1 rfl rfl) (dq_at (j := 108) dk_29e_1 rfl rfl) rfl
theorem dL_law_1362 : decode cL_law 1362 = .ok (.iconst 2, 1) := dq_op5 (dq_at (j := 109) dk_29e_1 rfl rfl)
theorem dL_law_1363 : decode cL_law 1363 = .ok (.iadd, 1) := dq_op96 (dq_at (j := 110) dk_29e_1 rfl rfl)
theorem dL_law_1364 : decode cL_law 1364 = .ok (.iaload, 1) := dq_op46 (dq_at (j := 111) dk_29e_1 rfl rfl)
theorem dL_law_1365 : decode cL_law 1365 = .ok (.aload_n 3, 1) := dq_op45 (dq_at (j := 112) dk_29e_1 rfl rfl)
theorem dL_law_1366 : decode cL_law 1366 = .ok (.invokestatic 262, 3) := dq_op184 (dq_at (j := 113) dk_29e_1 rfl rfl) (dq_at (j := 114) dk_29e_1 rfl rfl) (dq_at (j := 115) dk_29e_1 rfl rfl) rfl
theorem dL_law_1369 : decode cL_law 1369 = .ok (.istore 5, 2) := dq_op54 (dq_at (j := 116) dk_29e_1 rfl rfl) (dq_at (j := 117) dk_29e_1 rfl rfl) rfl
theorem dL_law_1371 : decode cL_law 1371 = .ok (.aload_n 2, 1) := dq_op44 (dq_at (j := 118) dk_29e_1 rfl rfl)
theorem dL_law_1372 : decode cL_law 1372 = .ok (.aload_n 0, 1) := dq_op42 (dq_at (j := 119) dk_29e_1 rfl rfl)
theorem dL_law_1373 : decode cL_law 1373 = .ok (.iload 4, 2) := dq_op21 (dq_at (j := 120) dk_29e_1 rfl rfl) (dq_at (j := 121) dk_29e_1 rfl rfl) rfl
theorem dL_law_1375 : decode cL_law 1375 = .ok (.iconst 1, 1) := dq_op4 (dq_at (j := 122) dk_29e_1 rfl rfl)
theorem dL_law_1376 : decode cL_law 1376 = .ok (.iadd, 1) := dq_op96 (dq_at (j := 123) dk_29e_1 rfl rfl)
theorem dL_law_1377 : decode cL_law 1377 = .ok (.iaload, 1) := dq_op46 (dq_at (j := 124) dk_29e_1 rfl rfl)
theorem dL_law_1378 : decode cL_law 1378 = .ok (.aload_n 0, 1) := dq_op42 (dq_at (j := 125) dk_29e_1 rfl rfl)
theorem dL_law_1379 : decode cL_law 1379 = .ok (.iload 4, 2) := dq_op21 (dq_at (j := 126) dk_29e_1 rfl rfl) (dq_at (j := 127) dk_29e_1 rfl rfl) rfl
theorem dL_law_1381 : decode cL_law 1381 = .ok (.iconst 2, 1) := dq_op5 (dq_at (j := 128) dk_29e_1 rfl rfl)
theorem dL_law_1382 : decode cL_law 1382 = .ok (.iadd, 1) := dq_op96 (dq_at (j := 129) dk_29e_1 rfl rfl)
theorem dL_law_1383 : decode cL_law 1383 = .ok (.iaload, 1) := dq_op46 (dq_at (j := 130) dk_29e_1 rfl rfl)
theorem dL_law_1384 : decode cL_law 1384 = .ok (.invokevirtual 264, 3) := dq_op182 (dq_at (j := 131) dk_29e_1 rfl rfl) (dq_at (j := 132) dk_29e_1 rfl rfl) (dq_at (j := 133) dk_29e_1 rfl rfl) rfl
theorem dL_law_1387 : decode cL_law 1387 = .ok (.istore 6, 2) := dq_op54 (dq_at (j := 134) dk_29e_1 rfl rfl) (dq_at (j := 135) dk_29e_1 rfl rfl) rfl
theorem dL_law_1389 : decode cL_law 1389 = .ok (.goto 851, 3) := dq_op167 (dq_at (j := 136) dk_29e_1 rfl rfl) (dq_at (j := 137) dk_29e_1 rfl rfl) (dq_at (j := 138) dk_29e_1 rfl rfl) (by decide +kernel)
theorem dL_law_1392 : decode cL_law 1392 = .ok (.aload_n 1, 1) := dq_op43 (dq_at (j := 139) dk_29e_1 rfl rfl)
theorem dL_law_1393 : decode cL_law 1393 = .ok (.aload_n 0, 1) := dq_op42 (dq_at (j := 140) dk_29e_1 rfl rfl)
theorem dL_law_1394 : decode cL_law 1394 = .ok (.iload 4, 2) := dq_op21 (dq_at (j := 141) dk_29e_1 rfl rfl) (dq_at (j := 142) dk_29e_1 rfl rfl) rfl
theorem dL_law_1396 : decode cL_law 1396 = .ok (.iconst 1, 1) := dq_op4 (dq_at (j := 143) dk_29e_1 rfl rfl)
theorem dk_29e_2 : (cL_law.data.toList.drop 1397).take 110 = [96, 46, 42, 21, 4, 5, 96, 46, 45, 184, 1, 9, 54, 5, 44, 42, 21, 4, 4, 96, 46, 42, 21, 4, 5, 96, 46, 182, 1, 11, 54, 6, 167, 3, 43, 43, 42, 21, 4, 4, 96, 46, 42, 21, 4, 5, 96, 46, 42, 21, 4, 6, 96, 46, 45, 184, 1, 12, 54, 5, 44, 42, 21, 4, 4, 96, 46, 42, 21, 4, 5, 96, 46, 42, 21, 4, 6, 96, 46, 182, 1, 14, 54, 6, 167, 2, 247, 43, 42, 21, 4, 4, 96, 46, 42, 21, 4, 5, 96, 46, 42, 21, 4, 6, 96, 46, 45, 184, 1, 15] := by decide +kernel
theorem dL_law_1397 : decode cL_law 1397 = .ok (.iadd, 1) := dq_op96 (dq_at (j := 0) dk_29e_2 rfl rfl)
theorem dL_law_1398 : decode cL_law 1398 = .ok (.iaload, 1) := dq_op46 (dq_at (j := 1) dk_29e_2 rfl rfl)
theorem dL_law_1399 : decode cL_law 1399 = .ok (.aload_n 0, 1) := dq_op42 (dq_at (j := 2) dk_29e_2 rfl rfl)
theorem dL_law_1400 : decode cL_law 1400 = .ok (.iload 4, 2) := dq_op21 (dq_at (j := 3) dk_29e_2 rfl rfl) (dq_at (j := 4) dk_29e_2 rfl rfl) rfl
theorem dL_law_1402 : decode cL_law 1402 = .ok (.iconst 2, 1) := dq_op5 (dq_at (j := 5) dk_29e_2 rfl rfl)
theorem dL_law_1403 : decode cL_law 1403 = .ok (.iadd, 1) := dq_op96 (dq_at (j := 6) dk_29e_2 rfl rfl)
theorem dL_law_1404 : decode cL_law 1404 = .ok (.iaload, 1) := dq_op46 (dq_at (j := 7) dk_29e_2 rfl rfl)
theorem dL_law_1405 : decode cL_law 1405 = .ok (.aload_n 3, 1) := dq_op45 (dq_at (j := 8) dk_29e_2 rfl rfl)
theorem dL_law_1406 : decode cL_law 1406 = .ok (.invokestatic 265, 3) := dq_op184 (dq_at (j := 9) dk_29e_2 rfl rfl) (dq_at (j := 10) dk_29e_2 rfl rfl) (dq_at (j := 11) dk_29e_2 rfl rfl) rfl
theorem dL_law_1409 : decode cL_law 1409 = .ok (.istore 5, 2) := dq_op54 (dq_at (j := 12) dk_29e_2 rfl rfl) (dq_at (j := 13) dk_29e_2 rfl rfl) rfl
theorem dL_law_1411 : decode cL_law 1411 = .ok (.aload_n 2, 1) := dq_op44 (dq_at (j := 14) dk_29e_2 rfl rfl)
theorem dL_law_1412 : decode cL_law 1412 = .ok (.aload_n 0, 1) := dq_op42 (dq_at (j := 15) dk_29e_2 rfl rfl)
theorem dL_law_1413 : decode cL_law 1413 = .ok (.iload 4, 2) := dq_op21 (dq_at (j := 16) dk_29e_2 rfl rfl) (dq_at (j := 17) dk_29e_2 rfl rfl) rfl
theorem dL_law_1415 : decode cL_law 1415 = .ok (.iconst 1, 1) := dq_op4 (dq_at (j := 18) dk_29e_2 rfl rfl)
theorem dL_law_1416 : decode cL_law 1416 = .ok (.iadd, 1) := dq_op96 (dq_at (j := 19) dk_29e_2 rfl rfl)
theorem dL_law_1417 : decode cL_law 1417 = .ok (.iaload, 1) := dq_op46 (dq_at (j := 20) dk_29e_2 rfl rfl)
theorem dL_law_1418 : decode cL_law 1418 = .ok (.aload_n 0, 1) := dq_op42 (dq_at (j := 21) dk_29e_2 rfl rfl)
theorem dL_law_1419 : decode cL_law 1419 = .ok (.iload 4, 2) := dq_op21 (dq_at (j := 22) dk_29e_2 rfl rfl) (dq_at (j := 23) dk_29e_2 rfl rfl) rfl
theorem dL_law_1421 : decode cL_law 1421 = .ok (.iconst 2, 1) := dq_op5 (dq_at (j := 24) dk_29e_2 rfl rfl)
theorem dL_law_1422 : decode cL_law 1422 = .ok (.iadd, 1) := dq_op96 (dq_at (j := 25) dk_29e_2 rfl rfl)
theorem dL_law_1423 : decode cL_law 1423 = .ok (.iaload, 1) := dq_op46 (dq_at (j := 26) dk_29e_2 rfl rfl)
theorem dL_law_1424 : decode cL_law 1424 = .ok (.invokevirtual 267, 3) := dq_op182 (dq_at (j := 27) dk_29e_2 rfl rfl) (dq_at (j := 28) dk_29e_2 rfl rfl) (dq_at (j := 29) dk_29e_2 rfl rfl) rfl
theorem dL_law_1427 : decode cL_law 1427 = .ok (.istore 6, 2) := dq_op54 (dq_at (j := 30) dk_29e_2 rfl rfl) (dq_at (j := 31) dk_29e_2 rfl rfl) rfl
theorem dL_law_1429 : decode cL_law 1429 = .ok (.goto 811, 3) := dq_op167 (dq_at (j := 32) dk_29e_2 rfl rfl) (dq_at (j := 33) dk_29e_2 rfl rfl) (dq_at (j := 34) dk_29e_2 rfl rfl) (by decide +kernel)
theorem dL_law_1432 : decode cL_law 1432 = .ok (.aload_n 1, 1) := dq_op43 (dq_at (j := 35) dk_29e_2 rfl rfl)
theorem dL_law_1433 : decode cL_law 1433 = .ok (.aload_n 0, 1) := dq_op42 (dq_at (j := 36) dk_29e_2 rfl rfl)
theorem dL_law_1434 : decode cL_law 1434 = .ok (.iload 4, 2) := dq_op21 (dq_at (j := 37) dk_29e_2 rfl rfl) (dq_at (j := 38) dk_29e_2 rfl rfl) rfl
theorem dL_law_1436 : decode cL_law 1436 = .ok (.iconst 1, 1) := dq_op4 (dq_at (j := 39) dk_29e_2 rfl rfl)
theorem dL_law_1437 : decode cL_law 1437 = .ok (.iadd, 1) := dq_op96 (dq_at (j := 40) dk_29e_2 rfl rfl)
theorem dL_law_1438 : decode cL_law 1438 = .ok (.iaload, 1) := dq_op46 (dq_at (j := 41) dk_29e_2 rfl rfl)
theorem dL_law_1439 : decode cL_law 1439 = .ok (.aload_n 0, 1) := dq_op42 (dq_at (j := 42) dk_29e_2 rfl rfl)
theorem dL_law_1440 : decode cL_law 1440 = .ok (.iload 4, 2) := dq_op21 (dq_at (j := 43) dk_29e_2 rfl rfl) (dq_at (j := 44) dk_29e_2 rfl rfl) rfl
theorem dL_law_1442 : decode cL_law 1442 = .ok (.iconst 2, 1) := dq_op5 (dq_at (j := 45) dk_29e_2 rfl rfl)
theorem dL_law_1443 : decode cL_law 1443 = .ok (.iadd, 1) := dq_op96 (dq_at (j := 46) dk_29e_2 rfl rfl)
theorem dL_law_1444 : decode cL_law 1444 = .ok (.iaload, 1) := dq_op46 (dq_at (j := 47) dk_29e_2 rfl rfl)
theorem dL_law_1445 : decode cL_law 1445 = .ok (.aload_n 0, 1) := dq_op42 (dq_at (j := 48) dk_29e_2 rfl rfl)
theorem dL_law_1446 : decode cL_law 1446 = .ok (.iload 4, 2) := dq_op21 (dq_at (j := 49) dk_29e_2 rfl rfl) (dq_at (j := 50) dk_29e_2 rfl rfl) rfl
theorem dL_law_1448 : decode cL_law 1448 = .ok (.iconst 3, 1) := dq_op6 (dq_at (j := 51) dk_29e_2 rfl rfl)
theorem dL_law_1449 : decode cL_law 1449 = .ok (.iadd, 1) := dq_op96 (dq_at (j := 52) dk_29e_2 rfl rfl)
theorem dL_law_1450 : decode cL_law 1450 = .ok (.iaload, 1) := dq_op46 (dq_at (j := 53) dk_29e_2 rfl rfl)
theorem dL_law_1451 : decode cL_law 1451 = .ok (.aload_n 3, 1) := dq_op45 (dq_at (j := 54) dk_29e_2 rfl rfl)
theorem dL_law_1452 : decode cL_law 1452 = .ok (.invokestatic 268, 3) := dq_op184 (dq_at (j := 55) dk_29e_2 rfl rfl) (dq_at (j := 56) dk_29e_2 rfl rfl) (dq_at (j := 57) dk_29e_2 rfl rfl) rfl
theorem dL_law_1455 : decode cL_law 1455 = .ok (.istore 5, 2) := dq_op54 (dq_at (j := 58) dk_29e_2 rfl rfl) (dq_at (j := 59) dk_29e_2 rfl rfl) rfl
theorem dL_law_1457 : decode cL_law 1457 = .ok (.aload_n 2, 1) := dq_op44 (dq_at (j := 60) dk_29e_2 rfl rfl)
theorem dL_law_1458 : decode cL_law 1458 = .ok (.aload_n 0, 1) := dq_op42 (dq_at (j := 61) dk_29e_2 rfl rfl)
theorem dL_law_1459 : decode cL_law 1459 = .ok (.iload 4, 2) := dq_op21 (dq_at (j := 62) dk_29e_2 rfl rfl) (dq_at (j := 63) dk_29e_2 rfl rfl) rfl
theorem dL_law_1461 : decode cL_law 1461 = .ok (.iconst 1, 1) := dq_op4 (dq_at (j := 64) dk_29e_2 rfl rfl)
theorem dL_law_1462 : decode cL_law 1462 = .ok (.iadd, 1) := dq_op96 (dq_at (j := 65) dk_29e_2 rfl rfl)
theorem dL_law_1463 : decode cL_law 1463 = .ok (.iaload, 1) := dq_op46 (dq_at (j := 66) dk_29e_2 rfl rfl)
theorem dL_law_1464 : decode cL_law 1464 = .ok (.aload_n 0, 1) := dq_op42 (dq_at (j := 67) dk_29e_2 rfl rfl)
theorem dL_law_1465 : decode cL_law 1465 = .ok (.iload 4, 2) := dq_op21 (dq_at (j := 68) dk_29e_2 rfl rfl) (dq_at (j := 69) dk_29e_2 rfl rfl) rfl
theorem dL_law_1467 : decode cL_law 1467 = .ok (.iconst 2, 1) := dq_op5 (dq_at (j := 70) dk_29e_2 rfl rfl)
theorem dL_law_1468 : decode cL_law 1468 = .ok (.iadd, 1) := dq_op96 (dq_at (j := 71) dk_29e_2 rfl rfl)
theorem dL_law_1469 : decode cL_law 1469 = .ok (.iaload, 1) := dq_op46 (dq_at (j := 72) dk_29e_2 rfl rfl)
theorem dL_law_1470 : decode cL_law 1470 = .ok (.aload_n 0, 1) := dq_op42 (dq_at (j := 73) dk_29e_2 rfl rfl)
theorem dL_law_1471 : decode cL_law 1471 = .ok (.iload 4, 2) := dq_op21 (dq_at (j := 74) dk_29e_2 rfl rfl) (dq_at (j := 75) dk_29e_2 rfl rfl) rfl
theorem dL_law_1473 : decode cL_law 1473 = .ok (.iconst 3, 1) := dq_op6 (dq_at (j := 76) dk_29e_2 rfl rfl)
theorem dL_law_1474 : decode cL_law 1474 = .ok (.iadd, 1) := dq_op96 (dq_at (j := 77) dk_29e_2 rfl rfl)
theorem dL_law_1475 : decode cL_law 1475 = .ok (.iaload, 1) := dq_op46 (dq_at (j := 78) dk_29e_2 rfl rfl)
theorem dL_law_1476 : decode cL_law 1476 = .ok (.invokevirtual 270, 3) := dq_op182 (dq_at (j := 79) dk_29e_2 rfl rfl) (dq_at (j := 80) dk_29e_2 rfl rfl) (dq_at (j := 81) dk_29e_2 rfl rfl) rfl
theorem dL_law_1479 : decode cL_law 1479 = .ok (.istore 6, 2) := dq_op54 (dq_at (j := 82) dk_29e_2 rfl rfl) (dq_at (j := 83) dk_29e_2 rfl rfl) rfl
theorem dL_law_1481 : decode cL_law 1481 = .ok (.goto 759, 3) := dq_op167 (dq_at (j := 84) dk_29e_2 rfl rfl) (dq_at (j := 85) dk_29e_2 rfl rfl) (dq_at (j := 86) dk_29e_2 rfl rfl) (by decide +kernel)
theorem dL_law_1484 : decode cL_law 1484 = .ok (.aload_n 1, 1) := dq_op43 (dq_at (j := 87) dk_29e_2 rfl rfl)
theorem dL_law_1485 : decode cL_law 1485 = .ok (.aload_n 0, 1) := dq_op42 (dq_at (j := 88) dk_29e_2 rfl rfl)
theorem dL_law_1486 : decode cL_law 1486 = .ok (.iload 4, 2) := dq_op21 (dq_at (j := 89) dk_29e_2 rfl rfl) (dq_at (j := 90) dk_29e_2 rfl rfl) rfl
theorem dL_law_1488 : decode cL_law 1488 = .ok (.iconst 1, 1) := dq_op4 (dq_at (j := 91) dk_29e_2 rfl rfl)
theorem dL_law_1489 : decode cL_law 1489 = .ok (.iadd, 1) := dq_op96 (dq_at (j := 92) dk_29e_2 rfl rfl)
theorem dL_law_1490 : decode cL_law 1490 = .ok (.iaload, 1) := dq_op46 (dq_at (j := 93) dk_29e_2 rfl rfl)
theorem dL_law_1491 : decode cL_law 1491 = .ok (.aload_n 0, 1) := dq_op42 (dq_at (j := 94) dk_29e_2 rfl rfl)
theorem dL_law_1492 : decode cL_law 1492 = .ok (.iload 4, 2) := dq_op21 (dq_at (j := 95) dk_29e_2 rfl rfl) (dq_at (j := 96) dk_29e_2 rfl rfl) rfl
theorem dL_law_1494 : decode cL_law 1494 = .ok (.iconst 2, 1) := dq_op5 (dq_at (j := 97) dk_29e_2 rfl rfl)
theorem dL_law_1495 : decode cL_law 1495 = .ok (.iadd, 1) := dq_op96 (dq_at (j := 98) dk_29e_2 rfl rfl)
theorem dL_law_1496 : decode cL_law 1496 = .ok (.iaload, 1) := dq_op46 (dq_at (j := 99) dk_29e_2 rfl rfl)
theorem dL_law_1497 : decode cL_law 1497 = .ok (.aload_n 0, 1) := dq_op42 (dq_at (j := 100) dk_29e_2 rfl rfl)
theorem dL_law_1498 : decode cL_law 1498 = .ok (.iload 4, 2) := dq_op21 (dq_at (j := 101) dk_29e_2 rfl rfl) (dq_at (j := 102) dk_29e_2 rfl rfl) rfl
theorem dL_law_1500 : decode cL_law 1500 = .ok (.iconst 3, 1) := dq_op6 (dq_at (j := 103) dk_29e_2 rfl rfl)
theorem dL_law_1501 : decode cL_law 1501 = .ok (.iadd, 1) := dq_op96 (dq_at (j := 104) dk_29e_2 rfl rfl)
theorem dL_law_1502 : decode cL_law 1502 = .ok (.iaload, 1) := dq_op46 (dq_at (j := 105) dk_29e_2 rfl rfl)
theorem dL_law_1503 : decode cL_law 1503 = .ok (.aload_n 3, 1) := dq_op45 (dq_at (j := 106) dk_29e_2 rfl rfl)
theorem dL_law_1504 : decode cL_law 1504 = .ok (.invokestatic 271, 3) := dq_op184 (dq_at (j := 107) dk_29e_2 rfl rfl) (dq_at (j := 108) dk_29e_2 rfl rfl) (dq_at (j := 109) dk_29e_2 rfl rfl) rfl
noncomputable def dq_end_29e : Nat := 0
theorem dk_29f_1 : (cL_law.data.toList.drop 1507).take 145 = [54, 5, 44, 42, 21, 4, 4, 96, 46, 42, 21, 4, 5, 96, 46, 42, 21, 4, 6, 96, 46, 182, 1, 17, 54, 6, 167, 2, 195, 43, 42, 21, 4, 4, 96, 46, 42, 21, 4, 5, 96, 46, 42, 21, 4, 6, 96, 46, 45, 184, 1, 18, 54, 5, 44, 42, 21, 4, 4, 96, 46, 42, 21, 4, 5, 96, 46, 42, 21, 4, 6, 96, 46, 182, 1, 20, 54, 6, 167, 2, 143, 43, 42, 21, 4, 4, 96, 46, 45, 184, 1, 21, 54, 5, 44, 42, 21, 4, 4, 96, 46, 182, 1, 23, 54, 6, 167, 2, 115, 43, 42, 21, 4, 4, 96, 46, 153, 0, 7, 4, 167, 0, 4, 3, 42, 21, 4, 5, 96, 46, 45, 184, 1, 24, 54, 5, 44, 42, 21, 4, 4, 96, 46, 153, 0] := by decide +kernel
theorem dL_law_1507 : decode cL_law 1507 = .ok (.istore 5, 2) := dq_op54 (dq_at (j := 0) dk_29f_1 rfl rfl) (dq_at (j := 1) dk_29f_1 rfl rfl) rfl
theorem dL_law_1509 : decode cL_law 1509 = .ok (.aload_n 2, 1) := dq_op44 (dq_at (j := 2) dk_29f_1 rfl rfl)
theorem dL_law_1510 : decode cL_law 1510 = .ok (.aload_n 0, 1) := dq_op42 (dq_at (j := 3) dk_29f_1 rfl rfl)
theorem dL_law_1511 : decode cL_law 1511 = .ok (.iload 4, 2) := dq_op21 (dq_at (j := 4) dk_29f_1 rfl rfl) (dq_at (j := 5) dk_29f_1 rfl rfl) rfl
theorem dL_law_1513 : decode cL_law 1513 = .ok (.iconst 1, 1) := dq_op4 (dq_at (j := 6) dk_29f_1 rfl rfl)
theorem dL_law_1514 : decode cL_law 1514 = .ok (.iadd, 1) := dq_op96 (dq_at (j := 7) dk_29f_1 rfl rfl)
theorem dL_law_1515 : decode cL_law 1515 = .ok (.iaload, 1) := dq_op46 (dq_at (j := 8) dk_29f_1 rfl rfl)
theorem dL_law_1516 : decode cL_law 1516 = .ok (.aload_n 0, 1) := dq_op42 (dq_at (j := 9) dk_29f_1 rfl rfl)
theorem dL_law_1517 : decode cL_law 1517 = .ok (.iload 4, 2) := dq_op21 (dq_at (j := 10) dk_29f_1 rfl rfl) (dq_at (j := 11) dk_29f_1 rfl rfl) rfl
theorem dL_law_1519 : decode cL_law 1519 = .ok (.iconst 2, 1) := dq_op5 (dq_at (j := 12) dk_29f_1 rfl rfl)
theorem dL_law_1520 : decode cL_law 1520 = .ok (.iadd, 1) := dq_op96 (dq_at (j := 13) dk_29f_1 rfl rfl)
theorem dL_law_1521 : decode cL_law 1521 = .ok (.iaload, 1) := dq_op46 (dq_at (j := 14) dk_29f_1 rfl rfl)
theorem dL_law_1522 : decode cL_law 1522 = .ok (.aload_n 0, 1) := dq_op42 (dq_at (j := 15) dk_29f_1 rfl rfl)
theorem dL_law_1523 : decode cL_law 1523 = .ok (.iload 4, 2) := dq_op21 (dq_at (j := 16) dk_29f_1 rfl rfl) (dq_at (j := 17) dk_29f_1 rfl rfl) rfl
theorem dL_law_1525 : decode cL_law 1525 = .ok (.iconst 3, 1) := dq_op6 (dq_at (j := 18) dk_29f_1 rfl rfl)
theorem dL_law_1526 : decode cL_law 1526 = .ok (.iadd, 1) := dq_op96 (dq_at (j := 19) dk_29f_1 rfl rfl)
theorem dL_law_1527 : decode cL_law 1527 = .ok (.iaload, 1) := dq_op46 (dq_at (j := 20) dk_29f_1 rfl rfl)
theorem dL_law_1528 : decode cL_law 1528 = .ok (.invokevirtual 273, 3) := dq_op182 (dq_at (j := 21) dk_29f_1 rfl rfl) (dq_at (j := 22) dk_29f_1 rfl rfl) (dq_at (j := 23) dk_29f_1 rfl rfl) rfl
theorem dL_law_1531 : decode cL_law 1531 = .ok (.istore 6, 2) := dq_op54 (dq_at (j := 24) dk_29f_1 rfl rfl) (dq_at (j := 25) dk_29f_1 rfl rfl) rfl
theorem dL_law_1533 : decode cL_law 1533 = .ok (.goto 707, 3) := dq_op167 (dq_at (j := 26) dk_29f_1 rfl rfl) (dq_at (j := 27) dk_29f_1 rfl rfl) (dq_at (j := 28) dk_29f_1 rfl rfl) (by decide +kernel)
theorem dL_law_1536 : decode cL_law 1536 = .ok (.aload_n 1, 1) := dq_op43 (dq_at (j := 29) dk_29f_1 rfl rfl)
theorem dL_law_1537 : decode cL_law 1537 = .ok (.aload_n 0, 1) := dq_op42 (dq_at (j := 30) dk_29f_1 rfl rfl)
theorem dL_law_1538 : decode cL_law 1538 = .ok (.iload 4, 2) := dq_op21 (dq_at (j := 31) dk_29f_1 rfl rfl) (dq_at (j := 32) dk_29f_1 rfl rfl) rfl
theorem dL_law_1540 : decode cL_law 1540 = .ok (.iconst 1, 1) := dq_op4 (dq_at (j := 33) dk_29f_1 rfl rfl)
theorem dL_law_1541 : decode cL_law 1541 = .ok (.iadd, 1) := dq_op96 (dq_at (j := 34) dk_29f_1 rfl rfl)
theorem dL_law_1542 : decode cL_law 1542 = .ok (.iaload, 1) := dq_op46 (dq_at (j := 35) dk_29f_1 rfl rfl)
theorem dL_law_1543 : decode cL_law 1543 = .ok (.aload_n 0, 1) := dq_op42 (dq_at (j := 36) dk_29f_1 rfl rfl)
theorem dL_law_1544 : decode cL_law 1544 = .ok (.iload 4, 2) := dq_op21 (dq_at (j := 37) dk_29f_1 rfl rfl) (dq_at (j := 38) dk_29f_1 rfl rfl) rfl
theorem dL_law_1546 : decode cL_law 1546 = .ok (.iconst 2, 1) := dq_op5 (dq_at (j := 39) dk_29f_1 rfl rfl)
theorem dL_law_1547 : decode cL_law 1547 = .ok (.iadd, 1) := dq_op96 (dq_at (j := 40) dk_29f_1 rfl rfl)
theorem dL_law_1548 : decode cL_law 1548 = .ok (.iaload, 1) := dq_op46 (dq_at (j := 41) dk_29f_1 rfl rfl)
theorem dL_law_1549 : decode cL_law 1549 = .ok (.aload_n 0, 1) := dq_op42 (dq_at (j := 42) dk_29f_1 rfl rfl)
theorem dL_law_1550 : decode cL_law 1550 = .ok (.iload 4, 2) := dq_op21 (dq_at (j := 43) dk_29f_1 rfl rfl) (dq_at (j := 44) dk_29f_1 rfl rfl) rfl
theorem dL_law_1552 : decode cL_law 1552 = .ok (.iconst 3, 1) := dq_op6 (dq_at (j := 45) dk_29f_1 rfl rfl)
theorem dL_law_1553 : decode cL_law 1553 = .ok (.iadd, 1) := dq_op96 (dq_at (j := 46) dk_29f_1 rfl rfl)
theorem dL_law_1554 : decode cL_law 1554 = .ok (.iaload, 1) := dq_op46 (dq_at (j := 47) dk_29f_1 rfl rfl)
theorem dL_law_1555 : decode cL_law 1555 = .ok (.aload_n 3, 1) := dq_op45 (dq_at (j := 48) dk_29f_1 rfl rfl)
theorem dL_law_1556 : decode cL_law 1556 = .ok (.invokestatic 274, 3) := dq_op184 (dq_at (j := 49) dk_29f_1 rfl rfl) (dq_at (j := 50) dk_29f_1 rfl rfl) (dq_at (j := 51) dk_29f_1 rfl rfl) rfl
theorem dL_law_1559 : decode cL_law 1559 = .ok (.istore 5, 2) := dq_op54 (dq_at (j := 52) dk_29f_1 rfl rfl) (dq_at (j := 53) dk_29f_1 rfl rfl) rfl
theorem dL_law_1561 : decode cL_law 1561 = .ok (.aload_n 2, 1) := dq_op44 (dq_at (j := 54) dk_29f_1 rfl rfl)
theorem dL_law_1562 : decode cL_law 1562 = .ok (.aload_n 0, 1) := dq_op42 (dq_at (j := 55) dk_29f_1 rfl rfl)
theorem dL_law_1563 : decode cL_law 1563 = .ok (.iload 4, 2) := dq_op21 (dq_at (j := 56) dk_29f_1 rfl rfl) (dq_at (j := 57) dk_29f_1 rfl rfl) rfl
theorem dL_law_1565 : decode cL_law 1565 = .ok (.iconst 1, 1) := dq_op4 (dq_at (j := 58) dk_29f_1 rfl rfl)
theorem dL_law_1566 : decode cL_law 1566 = .ok (.iadd, 1) := dq_op96 (dq_at (j := 59) dk_29f_1 rfl rfl)
theorem dL_law_1567 : decode cL_law 1567 = .ok (.iaload, 1) := dq_op46 (dq_at (j := 60) dk_29f_1 rfl rfl)
theorem dL_law_1568 : decode cL_law 1568 = .ok (.aload_n 0, 1) := dq_op42 (dq_at (j := 61) dk_29f_1 rfl rfl)
theorem dL_law_1569 : decode cL_law 1569 = .ok (.iload 4, 2) := dq_op21 (dq_at (j := 62) dk_29f_1 rfl rfl) (dq_at (j := 63) dk_29f_1 rfl rfl) rfl
theorem dL_law_1571 : decode cL_law 1571 = .ok (.iconst 2, 1) := dq_op5 (dq_at (j := 64) dk_29f_1 rfl rfl)
theorem dL_law_1572 : decode cL_law 1572 = .ok (.iadd, 1) := dq_op96 (dq_at (j := 65) dk_29f_1 rfl rfl)
theorem dL_law_1573 : decode cL_law 1573 = .ok (.iaload, 1) := dq_op46 (dq_at (j := 66) dk_29f_1 rfl rfl)
theorem dL_law_1574 : decode cL_law 1574 = .ok (.aload_n 0, 1) := dq_op42 (dq_at (j := 67) dk_29f_1 rfl rfl)
theorem dL_law_1575 : decode cL_law 1575 = .ok (.iload 4, 2) := dq_op21 (dq_at (j := 68) dk_29f_1 rfl rfl) (dq_at (j := 69) dk_29f_1 rfl rfl) rfl
theorem dL_law_1577 : decode cL_law 1577 = .ok (.iconst 3, 1) := dq_op6 (dq_at (j := 70) dk_29f_1 rfl rfl)
theorem dL_law_1578 : decode cL_law 1578 = .ok (.iadd, 1) := dq_op96 (dq_at (j := 71) dk_29f_1 rfl rfl)
theorem dL_law_1579 : decode cL_law 1579 = .ok (.iaload, 1) := dq_op46 (dq_at (j := 72) dk_29f_1 rfl rfl)
theorem dL_law_1580 : decode cL_law 1580 = .ok (.invokevirtual 276, 3) := dq_op182 (dq_at (j := 73) dk_29f_1 rfl rfl) (dq_at (j := 74) dk_29f_1 rfl rfl) (dq_at (j := 75) dk_29f_1 rfl rfl) rfl
theorem dL_law_1583 : decode cL_law 1583 = .ok (.istore 6, 2) := dq_op54 (dq_at (j := 76) dk_29f_1 rfl rfl) (dq_at (j := 77) dk_29f_1 rfl rfl) rfl
theorem dL_law_1585 : decode cL_law 1585 = .ok (.goto 655, 3) := dq_op167 (dq_at (j := 78) dk_29f_1 rfl rfl) (dq_at (j := 79) dk_29f_1 rfl rfl) (dq_at (j := 80) dk_29f_1 rfl rfl) (by decide +kernel)
theorem dL_law_1588 : decode cL_law 1588 = .ok (.aload_n 1, 1) := dq_op43 (dq_at (j := 81) dk_29f_1 rfl rfl)
theorem dL_law_1589 : decode cL_law 1589 = .ok (.aload_n 0, 1) := dq_op42 (dq_at (j := 82) dk_29f_1 rfl rfl)
theorem dL_law_1590 : decode cL_law 1590 = .ok (.iload 4, 2) := dq_op21 (dq_at (j := 83) dk_29f_1 rfl rfl) (dq_at (j := 84) dk_29f_1 rfl rfl) rfl
theorem dL_law_1592 : decode cL_law 1592 = .ok (.iconst 1, 1) := dq_op4 (dq_at (j := 85) dk_29f_1 rfl rfl)
theorem dL_law_1593 : decode cL_law 1593 = .ok (.iadd, 1) := dq_op96 (dq_at (j := 86) dk_29f_1 rfl rfl)
theorem dL_law_1594 : decode cL_law 1594 = .ok (.iaload, 1) := dq_op46 (dq_at (j := 87) dk_29f_1 rfl rfl)
theorem dL_law_1595 : decode cL_law 1595 = .ok (.aload_n 3, 1) := dq_op45 (dq_at (j := 88) dk_29f_1 rfl rfl)
theorem dL_law_1596 : decode cL_law 1596 = .ok (.invokestatic 277, 3) := dq_op184 (dq_at (j := 89) dk_29f_1 rfl rfl) (dq_at (j := 90) dk_29f_1 rfl rfl) (dq_at (j := 91) dk_29f_1 rfl rfl) rfl
theorem dL_law_1599 : decode cL_law 1599 = .ok (.istore 5, 2) := dq_op54 (dq_at (j := 92) dk_29f_1 rfl rfl) (dq_at (j := 93) dk_29f_1 rfl rfl) rfl
theorem dL_law_1601 : decode cL_law 1601 = .ok (.aload_n 2, 1) := dq_op44 (dq_at (j := 94) dk_29f_1 rfl rfl)
theorem dL_law_1602 : decode cL_law 1602 = .ok (.aload_n 0, 1) := dq_op42 (dq_at (j := 95) dk_29f_1 rfl rfl)
theorem dL_law_1603 : decode cL_law 1603 = .ok (.iload 4, 2) := dq_op21 (dq_at (j := 96) dk_29f_1 rfl rfl) (dq_at (j := 97) dk_29f_1 rfl rfl) rfl
theorem dL_law_1605 : decode cL_law 1605 = .ok (.iconst 1, 1) := dq_op4 (dq_at (j := 98) dk_29f_1 rfl rfl)
theorem dL_law_1606 : decode cL_law 1606 = .ok (.iadd, 1) := dq_op96 (dq_at (j := 99) dk_29f_1 rfl rfl)
theorem dL_law_1607 : decode cL_law 1607 = .ok (.iaload, 1) := dq_op46 (dq_at (j := 100) dk_29f_1 rfl rfl)
theorem dL_law_1608 : decode cL_law 1608 = .ok (.invokevirtual 279, 3) := dq_op182 (dq_at (j := 101) dk_29f_1 rfl rfl) (dq_at (j := 102) dk_29f_1 rfl rfl) (dq_at (j := 103) dk_29f_1 rfl rfl) rfl
theorem dL_law_1611 : decode cL_law 1611 = .ok (.istore 6, 2) := dq_op54 (dq_at (j := 104) dk_29f_1 rfl rfl) (dq_at (j := 105) dk_29f_1 rfl rfl) rfl
theorem dL_law_1613 : decode cL_law 1613 = .ok (.goto 627, 3) := dq_op167 (dq_at (j := 106) dk_29f_1 rfl rfl) (dq_at (j := 107) dk_29f_1 rfl rfl) (dq_at (j := 108) dk_29f_1 rfl rfl) (by decide +kernel)
theorem dL_law_1616 : decode cL_law 1616 = .ok (.aload_n 1, 1) := dq_op43 (dq_at (j := 109) dk_29f_1 rfl rfl)
theorem dL_law_1617 : decode cL_law 1617 = .ok (.aload_n 0, 1) := dq_op42 (dq_at (j := 110) dk_29f_1 rfl rfl)
theorem dL_law_1618 : decode cL_law 1618 = .ok (.iload 4, 2) := dq_op21 (dq_at (j := 111) dk_29f_1 rfl rfl) (dq_at (j := 112) dk_29f_1 rfl rfl) rfl
theorem dL_law_1620 : decode cL_law 1620 = .ok (.iconst 1, 1) := dq_op4 (dq_at (j := 113) dk_29f_1 rfl rfl)
theorem dL_law_1621 : decode cL_law 1621 = .ok (.iadd, 1) := dq_op96 (dq_at (j := 114) dk_29f_1 rfl rfl)
theorem dL_law_1622 : decode cL_law 1622 = .ok (.iaload, 1) := dq_op46 (dq_at (j := 115) dk_29f_1 rfl rfl)
theorem dL_law_1623 : decode cL_law 1623 = .ok (.ifCond .eq 7, 3) := dq_op153 (dq_at (j := 116) dk_29f_1 rfl rfl) (dq_at (j := 117) dk_29f_1 rfl rfl) (dq_at (j := 118) dk_29f_1 rfl rfl) (by decide +kernel)
theorem dL_law_1626 : decode cL_law 1626 = .ok (.iconst 1, 1) := dq_op4 (dq_at (j := 119) dk_29f_1 rfl rfl)
theorem dL_law_1627 : decode cL_law 1627 = .ok (.goto 4, 3) := dq_op167 (dq_at (j := 120) dk_29f_1 rfl rfl) (dq_at (j := 121) dk_29f_1 rfl rfl) (dq_at (j := 122) dk_29f_1 rfl rfl) (by decide +kernel)
theorem dL_law_1630 : decode cL_law 1630 = .ok (.iconst 0, 1) := dq_op3 (dq_at (j := 123) dk_29f_1 rfl rfl)
theorem dL_law_1631 : decode cL_law 1631 = .ok (.aload_n 0, 1) := dq_op42 (dq_at (j := 124) dk_29f_1 rfl rfl)
theorem dL_law_1632 : decode cL_law 1632 = .ok (.iload 4, 2) := dq_op21 (dq_at (j := 125) dk_29f_1 rfl rfl) (dq_at (j := 126) dk_29f_1 rfl rfl) rfl
theorem dL_law_1634 : decode cL_law 1634 = .ok (.iconst 2, 1) := dq_op5 (dq_at (j := 127) dk_29f_1 rfl rfl)
theorem dL_law_1635 : decode cL_law 1635 = .ok (.iadd, 1) := dq_op96 (dq_at (j := 128) dk_29f_1 rfl rfl)
theorem dL_law_1636 : decode cL_law 1636 = .ok (.iaload, 1) := dq_op46 (dq_at (j := 129) dk_29f_1 rfl rfl)
theorem dL_law_1637 : decode cL_law 1637 = .ok (.aload_n 3, 1) := dq_op45 (dq_at (j := 130) dk_29f_1 rfl rfl)
theorem dL_law_1638 : decode cL_law 1638 = .ok (.invokestatic 280, 3) := dq_op184 (dq_at (j := 131) dk_29f_1 rfl rfl) (dq_at (j := 132) dk_29f_1 rfl rfl) (dq_at (j := 133) dk_29f_1 rfl rfl) rfl
theorem dL_law_1641 : decode cL_law 1641 = .ok (.istore 5, 2) := dq_op54 (dq_at (j := 134) dk_29f_1 rfl rfl) (dq_at (j := 135) dk_29f_1 rfl rfl) rfl
theorem dL_law_1643 : decode cL_law 1643 = .ok (.aload_n 2, 1) := dq_op44 (dq_at (j := 136) dk_29f_1 rfl rfl)
theorem dL_law_1644 : decode cL_law 1644 = .ok (.aload_n 0, 1) := dq_op42 (dq_at (j := 137) dk_29f_1 rfl rfl)
theorem dL_law_1645 : decode cL_law 1645 = .ok (.iload 4, 2) := dq_op21 (dq_at (j := 138) dk_29f_1 rfl rfl) (dq_at (j := 139) dk_29f_1 rfl rfl) rfl
theorem dL_law_1647 : decode cL_law 1647 = .ok (.iconst 1, 1) := dq_op4 (dq_at (j := 140) dk_29f_1 rfl rfl)
theorem dL_law_1648 : decode cL_law 1648 = .ok (.iadd, 1) := dq_op96 (dq_at (j := 141) dk_29f_1 rfl rfl)
theorem dL_law_1649 : decode cL_law 1649 = .ok (.iaload, 1) := dq_op46 (dq_at (j := 142) dk_29f_1 rfl rfl)
theorem dk_29f_2 : (cL_law.data.toList.drop 1650).take 120 = [153, 0, 7, 4, 167, 0, 4, 3, 42, 21, 4, 5, 96, 46, 182, 1, 26, 54, 6, 167, 2, 59, 43, 42, 21, 4, 4, 96, 46, 45, 184, 1, 27, 54, 5, 44, 42, 21, 4, 4, 96, 46, 182, 1, 29, 54, 6, 167, 2, 31, 43, 42, 21, 4, 4, 96, 46, 45, 184, 1, 30, 54, 5, 44, 42, 21, 4, 4, 96, 46, 182, 1, 32, 58, 6, 167, 2, 3, 43, 42, 21, 4, 4, 96, 46, 42, 21, 4, 5, 96, 46, 42, 21, 4, 6, 96, 46, 45, 184, 1, 33, 54, 5, 44, 42, 21, 4, 4, 96, 46, 42, 21, 4, 5, 96, 46, 42, 21, 4, 6] := by decide +kernel
theorem dL_law_1650 : decode cL_law 1650 = .ok (.ifCond .eq 7, 3) := dq_op153 (dq_at (j := 0) dk_29f_2 rfl rfl) (dq_at (j := 1) dk_29f_2 rfl rfl) (dq_at (j := 2) dk_29f_2 rfl rfl) (by decide +kernel)
theorem dL_law_1653 : decode cL_law 1653 = .ok (.iconst 1, 1) := dq_op4 (dq_at (j := 3) dk_29f_2 rfl rfl)
theorem dL_law_1654 : decode cL_law 1654 = .ok (.goto 4, 3) := dq_op167 (dq_at (j := 4) dk_29f_2 rfl rfl) (dq_at (j := 5) dk_29f_2 rfl rfl) (dq_at (j := 6) dk_29f_2 rfl rfl) (by decide +kernel)
theorem dL_law_1657 : decode cL_law 1657 = .ok (.iconst 0, 1) := dq_op3 (dq_at (j := 7) dk_29f_2 rfl rfl)
theorem dL_law_1658 : decode cL_law 1658 = .ok (.aload_n 0, 1) := dq_op42 (dq_at (j := 8) dk_29f_2 rfl rfl)
theorem dL_law_1659 : decode cL_law 1659 = .ok (.iload 4, 2) := dq_op21 (dq_at (j := 9) dk_29f_2 rfl rfl) (dq_at (j := 10) dk_29f_2 rfl rfl) rfl
theorem dL_law_1661 : decode cL_law 1661 = .ok (.iconst 2, 1) := dq_op5 (dq_at (j := 11) dk_29f_2 rfl rfl)
theorem dL_law_1662 : decode cL_law 1662 = .ok (.iadd, 1) := dq_op96 (dq_at (j := 12) dk_29f_2 rfl rfl)
theorem dL_law_1663 : decode cL_law 1663 = .ok (.iaload, 1) := dq_op46 (dq_at (j := 13) dk_29f_2 rfl rfl)
theorem dL_law_1664 : decode cL_law 1664 = .ok (.invokevirtual 282, 3) := dq_op182 (dq_at (j := 14) dk_29f_2 rfl rfl) (dq_at (j := 15) dk_29f_2 rfl rfl) (dq_at (j := 16) dk_29f_2 rfl rfl) rfl
theorem dL_law_1667 : decode cL_law 1667 = .ok (.istore 6, 2) := dq_op54 (dq_at (j := 17) dk_29f_2 rfl rfl) (dq_at (j := 18) dk_29f_2 rfl rfl) rfl
theorem dL_law_1669 : decode cL_law 1669 = .ok (.goto 571, 3) := dq_op167 (dq_at (j := 19) dk_29f_2 rfl rfl) (dq_at (j := 20) dk_29f_2 rfl rfl) (dq_at (j := 21) dk_29f_2 rfl rfl) (by decide +kernel)
theorem dL_law_1672 : decode cL_law 1672 = .ok (.aload_n 1, 1) := dq_op43 (dq_at (j := 22) dk_29f_2 rfl rfl)
theorem dL_law_1673 : decode cL_law 1673 = .ok (.aload_n 0, 1) := dq_op42 (dq_at (j := 23) dk_29f_2 rfl rfl)
theorem dL_law_1674 : decode cL_law 1674 = .ok (.iload 4, 2) := dq_op21 (dq_at (j := 24) dk_29f_2 rfl rfl) (dq_at (j := 25) dk_29f_2 rfl rfl) rfl
theorem dL_law_1676 : decode cL_law 1676 = .ok (.iconst 1, 1) := dq_op4 (dq_at (j := 26) dk_29f_2 rfl rfl)
theorem dL_law_1677 : decode cL_law 1677 = .ok (.iadd, 1) := dq_op96 (dq_at (j := 27) dk_29f_2 rfl rfl)
theorem dL_law_1678 : decode cL_law 1678 = .ok (.iaload, 1) := dq_op46 (dq_at (j := 28) dk_29f_2 rfl rfl)
theorem dL_law_1679 : decode cL_law 1679 = .ok (.aload_n 3, 1) := dq_op45 (dq_at (j := 29) dk_29f_2 rfl rfl)
theorem dL_law_1680 : decode cL_law 1680 = .ok (.invokestatic 283, 3) := dq_op184 (dq_at (j := 30) dk_29f_2 rfl rfl) (dq_at (j := 31) dk_29f_2 rfl rfl) (dq_at (j := 32) dk_29f_2 rfl rfl) rfl
theorem dL_law_1683 : decode cL_law 1683 = .ok (.istore 5, 2) := dq_op54 (dq_at (j := 33) dk_29f_2 rfl rfl) (dq_at (j := 34) dk_29f_2 rfl rfl) rfl
theorem dL_law_1685 : decode cL_law 1685 = .ok (.aload_n 2, 1) := dq_op44 (dq_at (j := 35) dk_29f_2 rfl rfl)
theorem dL_law_1686 : decode cL_law 1686 = .ok (.aload_n 0, 1) := dq_op42 (dq_at (j := 36) dk_29f_2 rfl rfl)
theorem dL_law_1687 : decode cL_law 1687 = .ok (.iload 4, 2) := dq_op21 (dq_at (j := 37) dk_29f_2 rfl rfl) (dq_at (j := 38) dk_29f_2 rfl rfl) rfl
theorem dL_law_1689 : decode cL_law 1689 = .ok (.iconst 1, 1) := dq_op4 (dq_at (j := 39) dk_29f_2 rfl rfl)
theorem dL_law_1690 : decode cL_law 1690 = .ok (.iadd, 1) := dq_op96 (dq_at (j := 40) dk_29f_2 rfl rfl)
theorem dL_law_1691 : decode cL_law 1691 = .ok (.iaload, 1) := dq_op46 (dq_at (j := 41) dk_29f_2 rfl rfl)
theorem dL_law_1692 : decode cL_law 1692 = .ok (.invokevirtual 285, 3) := dq_op182 (dq_at (j := 42) dk_29f_2 rfl rfl) (dq_at (j := 43) dk_29f_2 rfl rfl) (dq_at (j := 44) dk_29f_2 rfl rfl) rfl
theorem dL_law_1695 : decode cL_law 1695 = .ok (.istore 6, 2) := dq_op54 (dq_at (j := 45) dk_29f_2 rfl rfl) (dq_at (j := 46) dk_29f_2 rfl rfl) rfl
theorem dL_law_1697 : decode cL_law 1697 = .ok (.goto 543, 3) := dq_op167 (dq_at (j := 47) dk_29f_2 rfl rfl) (dq_at (j := 48) dk_29f_2 rfl rfl) (dq_at (j := 49) dk_29f_2 rfl rfl) (by decide +kernel)
theorem dL_law_1700 : decode cL_law 1700 = .ok (.aload_n 1, 1) := dq_op43 (dq_at (j := 50) dk_29f_2 rfl rfl)
theorem dL_law_1701 : decode cL_law 1701 = .ok (.aload_n 0, 1) := dq_op42 (dq_at (j := 51) dk_29f_2 rfl rfl)
theorem dL_law_1702 : decode cL_law 1702 = .ok (.iload 4, 2) := dq_op21 (dq_at (j := 52) dk_29f_2 rfl rfl) (dq_at (j := 53) dk_29f_2 rfl rfl) rfl
theorem dL_law_1704 : decode cL_law 1704 = .ok (.iconst 1, 1) := dq_op4 (dq_at (j := 54) dk_29f_2 rfl rfl)
theorem dL_law_1705 : decode cL_law 1705 = .ok (.iadd, 1) := dq_op96 (dq_at (j := 55) dk_29f_2 rfl rfl)
theorem dL_law_1706 : decode cL_law 1706 = .ok (.iaload, 1) := dq_op46 (dq_at (j := 56) dk_29f_2 rfl rfl)
theorem dL_law_1707 : decode cL_law 1707 = .ok (.aload_n 3, 1) := dq_op45 (dq_at (j := 57) dk_29f_2 rfl rfl)
theorem dL_law_1708 : decode cL_law 1708 = .ok (.invokestatic 286, 3) := dq_op184 (dq_at (j := 58) dk_29f_2 rfl rfl) (dq_at (j := 59) dk_29f_2 rfl rfl) (dq_at (j := 60) dk_29f_2 rfl rfl) rfl
theorem dL_law_1711 : decode cL_law 1711 = .ok (.istore 5, 2) := dq_op54 (dq_at (j := 61) dk_29f_2 rfl rfl) (dq_at (j := 62) dk_29f_2 rfl rfl) rfl
theorem dL_law_1713 : decode cL_law 1713 = .ok (.aload_n 2, 1) := dq_op44 (dq_at (j := 63) dk_29f_2 rfl rfl)
theorem dL_law_1714 : decode cL_law 1714 = .ok (.aload_n 0, 1) := dq_op42 (dq_at (j := 64) dk_29f_2 rfl rfl)
theorem dL_law_1715 : decode cL_law 1715 = .ok (.iload 4, 2) := dq_op21 (dq_at (j := 65) dk_29f_2 rfl rfl) (dq_at (j := 66) dk_29f_2 rfl rfl) rfl
theorem dL_law_1717 : decode cL_law 1717 = .ok (.iconst 1, 1) := dq_op4 (dq_at (j := 67) dk_29f_2 rfl rfl)
theorem dL_law_1718 : decode cL_law 1718 = .ok (.iadd, 1) := dq_op96 (dq_at (j := 68) dk_29f_2 rfl rfl)
theorem dL_law_1719 : decode cL_law 1719 = .ok (.iaload, 1) := dq_op46 (dq_at (j := 69) dk_29f_2 rfl rfl)
theorem dL_law_1720 : decode cL_law 1720 = .ok (.invokevirtual 288, 3) := dq_op182 (dq_at (j := 70) dk_29f_2 rfl rfl) (dq_at (j := 71) dk_29f_2 rfl rfl) (dq_at (j := 72) dk_29f_2 rfl rfl) rfl
theorem dL_law_1723 : decode cL_law 1723 = .ok (.astore 6, 2) := dq_op58 (dq_at (j := 73) dk_29f_2 rfl rfl) (dq_at (j := 74) dk_29f_2 rfl rfl) rfl
theorem dL_law_1725 : decode cL_law 1725 = .ok (.goto 515, 3) := dq_op167 (dq_at (j := 75) dk_29f_2 rfl rfl) (dq_at (j := 76) dk_29f_2 rfl rfl) (dq_at (j := 77) dk_29f_2 rfl rfl) (by decide +kernel)
theorem dL_law_1728 : decode cL_law 1728 = .ok (.aload_n 1, 1) := dq_op43 (dq_at (j := 78) dk_29f_2 rfl rfl)
theorem dL_law_1729 : decode cL_law 1729 = .ok (.aload_n 0, 1) := dq_op42 (dq_at (j := 79) dk_29f_2 rfl rfl)
theorem dL_law_1730 : decode cL_law 1730 = .ok (.iload 4, 2) := dq_op21 (dq_at (j := 80) dk_29f_2 rfl rfl) (dq_at (j := 81) dk_29f_2 rfl rfl) rfl
theorem dL_law_1732 : decode cL_law 1732 = .ok (.iconst 1, 1) := dq_op4 (dq_at (j := 82) dk_29f_2 rfl rfl)
theorem dL_law_1733 : decode cL_law 1733 = .ok (.iadd, 1) := dq_op96 (dq_at (j := 83) dk_29f_2 rfl rfl)
theorem dL_law_1734 : decode cL_law 1734 = .ok (.iaload, 1) := dq_op46 (dq_at (j := 84) dk_29f_2 rfl rfl)
theorem dL_law_1735 : decode cL_law 1735 = .ok (.aload_n 0, 1) := dq_op42 (dq_at (j := 85) dk_29f_2 rfl rfl)
theorem dL_law_1736 : decode cL_law 1736 = .ok (.iload 4, 2) := dq_op21 (dq_at (j := 86) dk_29f_2 rfl rfl) (dq_at (j := 87) dk_29f_2 rfl rfl) rfl
theorem dL_law_1738 : decode cL_law 1738 = .ok (.iconst 2, 1) := dq_op5 (dq_at (j := 88) dk_29f_2 rfl rfl)
theorem dL_law_1739 : decode cL_law 1739 = .ok (.iadd, 1) := dq_op96 (dq_at (j := 89) dk_29f_2 rfl rfl)
theorem dL_law_1740 : decode cL_law 1740 = .ok (.iaload, 1) := dq_op46 (dq_at (j := 90) dk_29f_2 rfl rfl)
theorem dL_law_1741 : decode cL_law 1741 = .ok (.aload_n 0, 1) := dq_op42 (dq_at (j := 91) dk_29f_2 rfl rfl)
theorem dL_law_1742 : decode cL_law 1742 = .ok (.iload 4, 2) := dq_op21 (dq_at (j := 92) dk_29f_2 rfl rfl) (dq_at (j := 93) dk_29f_2 rfl rfl) rfl
theorem dL_law_1744 : decode cL_law 1744 = .ok (.iconst 3, 1) := dq_op6 (dq_at (j := 94) dk_29f_2 rfl rfl)
theorem dL_law_1745 : decode cL_law 1745 = .ok (.iadd, 1) := dq_op96 (dq_at (j := 95) dk_29f_2 rfl rfl)
theorem dL_law_1746 : decode cL_law 1746 = .ok (.iaload, 1) := dq_op46 (dq_at (j := 96) dk_29f_2 rfl rfl)
theorem dL_law_1747 : decode cL_law 1747 = .ok (.aload_n 3, 1) := dq_op45 (dq_at (j := 97) dk_29f_2 rfl rfl)
theorem dL_law_1748 : decode cL_law 1748 = .ok (.invokestatic 289, 3) := dq_op184 (dq_at (j := 98) dk_29f_2 rfl rfl) (dq_at (j := 99) dk_29f_2 rfl rfl) (dq_at (j := 100) dk_29f_2 rfl rfl) rfl
theorem dL_law_1751 : decode cL_law 1751 = .ok (.istore 5, 2) := dq_op54 (dq_at (j := 101) dk_29f_2 rfl rfl) (dq_at (j := 102) dk_29f_2 rfl rfl) rfl
theorem dL_law_1753 : decode cL_law 1753 = .ok (.aload_n 2, 1) := dq_op44 (dq_at (j := 103) dk_29f_2 rfl rfl)
theorem dL_law_1754 : decode cL_law 1754 = .ok (.aload_n 0, 1) := dq_op42 (dq_at (j := 104) dk_29f_2 rfl rfl)
theorem dL_law_1755 : decode cL_law 1755 = .ok (.iload 4, 2) := dq_op21 (dq_at (j := 105) dk_29f_2 rfl rfl) (dq_at (j := 106) dk_29f_2 rfl rfl) rfl
theorem dL_law_1757 : decode cL_law 1757 = .ok (.iconst 1, 1) := dq_op4 (dq_at (j := 107) dk_29f_2 rfl rfl)
theorem dL_law_1758 : decode cL_law 1758 = .ok (.iadd, 1) := dq_op96 (dq_at (j := 108) dk_29f_2 rfl rfl)
theorem dL_law_1759 : decode cL_law 1759 = .ok (.iaload, 1) := dq_op46 (dq_at (j := 109) dk_29f_2 rfl rfl)
theorem dL_law_1760 : decode cL_law 1760 = .ok (.aload_n 0, 1) := dq_op42 (dq_at (j := 110) dk_29f_2 rfl rfl)
theorem dL_law_1761 : decode cL_law 1761 = .ok (.iload 4, 2) := dq_op21 (dq_at (j := 111) dk_29f_2 rfl rfl) (dq_at (j := 112) dk_29f_2 rfl rfl) rfl
theorem dL_law_1763 : decode cL_law 1763 = .ok (.iconst 2, 1) := dq_op5 (dq_at (j := 113) dk_29f_2 rfl rfl)
theorem dL_law_1764 : decode cL_law 1764 = .ok (.iadd, 1) := dq_op96 (dq_at (j := 114) dk_29f_2 rfl rfl)
theorem dL_law_1765 : decode cL_law 1765 = .ok (.iaload, 1) := dq_op46 (dq_at (j := 115) dk_29f_2 rfl rfl)
theorem dL_law_1766 : decode cL_law 1766 = .ok (.aload_n 0, 1) := dq_op42 (dq_at (j := 116) dk_29f_2 rfl rfl)
theorem dL_law_1767 : decode cL_law 1767 = .ok (.iload 4, 2) := dq_op21 (dq_at (j := 117) dk_29f_2 rfl rfl) (dq_at (j := 118) dk_29f_2 rfl rfl) rfl
noncomputable def dq_end_29f : Nat := 0
theorem dk_29g_1 : (cL_law.data.toList.drop 1769).take 143 = [6, 96, 46, 182, 1, 35, 54, 6, 167, 1, 207, 43, 42, 21, 4, 4, 96, 46, 42, 21, 4, 5, 96, 46, 42, 21, 4, 6, 96, 46, 45, 184, 1, 36, 54, 5, 44, 42, 21, 4, 4, 96, 46, 42, 21, 4, 5, 96, 46, 42, 21, 4, 6, 96, 46, 182, 1, 38, 54, 6, 167, 1, 155, 43, 42, 21, 4, 4, 96, 46, 42, 21, 4, 5, 96, 46, 45, 184, 1, 39, 54, 5, 44, 42, 21, 4, 4, 96, 46, 42, 21, 4, 5, 96, 46, 182, 1, 41, 54, 6, 167, 1, 115, 43, 42, 21, 4, 4, 96, 46, 42, 21, 4, 5, 96, 46, 45, 184, 1, 42, 54, 5, 44, 42, 21, 4, 4, 96, 46, 42, 21, 4, 5, 96, 46, 182, 1, 44, 54, 6, 167, 1, 75] := by decide +kernel
theorem dL_law_1769 : decode cL_law 1769 = .ok (.iconst 3, 1) := dq_op6 (dq_at (j := 0) dk_29g_1 rfl rfl)
theorem dL_law_1770 : decode cL_law 1770 = .ok (.iadd, 1) := dq_op96 (dq_at (j := 1) dk_29g_1 rfl rfl)
theorem dL_law_1771 : decode cL_law 1771 = .ok (.iaload, 1) := dq_op46 (dq_at (j := 2) dk_29g_1 rfl rfl)
theorem dL_law_1772 : decode cL_law 1772 = .ok (.invokevirtual 291, 3) := dq_op182 (dq_at (j := 3) dk_29g_1 rfl rfl) (dq_at (j := 4) dk_29g_1 rfl rfl) (dq_at (j := 5) dk_29g_1 rfl rfl) rfl
theorem dL_law_1775 : decode cL_law 1775 = .ok (.istore 6, 2) := dq_op54 (dq_at (j := 6) dk_29g_1 rfl rfl) (dq_at (j := 7) dk_29g_1 rfl rfl) rfl
theorem dL_law_1777 : decode cL_law 1777 = .ok (.goto 463, 3) := dq_op167 (dq_at (j := 8) dk_29g_1 rfl rfl) (dq_at (j := 9) dk_29g_1 rfl rfl) (dq_at (j := 10) dk_29g_1 rfl rfl) (by decide +kernel)
theorem dL_law_1780 : decode cL_law 1780 = .ok (.aload_n 1, 1) := dq_op43 (dq_at (j := 11) dk_29g_1 rfl rfl)
theorem dL_law_1781 : decode cL_law 1781 = .ok (.aload_n 0, 1) := dq_op42 (dq_at (j := 12) dk_29g_1 rfl rfl)
theorem dL_law_1782 : decode cL_law 1782 = .ok (.iload 4, 2) := dq_op21 (dq_at (j := 13) dk_29g_1 rfl rfl) (dq_at (j := 14) dk_29g_1 rfl rfl) rfl
theorem dL_law_1784 : decode cL_law 1784 = .ok (.iconst 1, 1) := dq_op4 (dq_at (j := 15) dk_29g_1 rfl rfl)
theorem dL_law_1785 : decode cL_law 1785 = .ok (.iadd, 1) := dq_op96 (dq_at (j := 16) dk_29g_1 rfl rfl)
theorem dL_law_1786 : decode cL_law 1786 = .ok (.iaload, 1) := dq_op46 (dq_at (j := 17) dk_29g_1 rfl rfl)
theorem dL_law_1787 : decode cL_law 1787 = .ok (.aload_n 0, 1) := dq_op42 (dq_at (j := 18) dk_29g_1 rfl rfl)
theorem dL_law_1788 : decode cL_law 1788 = .ok (.iload 4, 2) := dq_op21 (dq_at (j := 19) dk_29g_1 rfl rfl) (dq_at (j := 20) dk_29g_1 rfl rfl) rfl
theorem dL_law_1790 : decode cL_law 1790 = .ok (.iconst 2, 1) := dq_op5 (dq_at (j := 21) dk_29g_1 rfl rfl)
theorem dL_law_1791 : decode cL_law 1791 = .ok (.iadd, 1) := dq_op96 (dq_at (j := 22) dk_29g_1 rfl rfl)
theorem dL_law_1792 : decode cL_law 1792 = .ok (.iaload, 1) := dq_op46 (dq_at (j := 23) dk_29g_1 rfl rfl)
theorem dL_law_1793 : decode cL_law 1793 = .ok (.aload_n 0, 1) := dq_op42 (dq_at (j := 24) dk_29g_1 rfl rfl)
theorem dL_law_1794 : decode cL_law 1794 = .ok (.iload 4, 2) := dq_op21 (dq_at (j := 25) dk_29g_1 rfl rfl) (dq_at (j := 26) dk_29g_1 rfl rfl) rfl
theorem dL_law_1796 : decode cL_law 1796 = .ok (.iconst 3, 1) := dq_op6 (dq_at (j := 27) dk_29g_1 rfl rfl)
theorem dL_law_1797 : decode cL_law 1797 = .ok (.iadd, 1) := dq_op96 (dq_at (j := 28) dk_29g_1 rfl rfl)
theorem dL_law_1798 : decode cL_law 1798 = .ok (.iaload, 1) := dq_op46 (dq_at (j := 29) dk_29g_1 rfl rfl)
theorem dL_law_1799 : decode cL_law 1799 = .ok (.aload_n 3, 1) := dq_op45 (dq_at (j := 30) dk_29g_1 rfl rfl)
theorem dL_law_1800 : decode cL_law 1800 = .ok (.invokestatic 292, 3) := dq_op184 (dq_at (j := 31) dk_29g_1 rfl rfl) (dq_at (j := 32) dk_29g_1 rfl rfl) (dq_at (j := 33) dk_29g_1 rfl rfl) rfl
theorem dL_law_1803 : decode cL_law 1803 = .ok (.istore 5, 2) := dq_op54 (dq_at (j := 34) dk_29g_1 rfl rfl) (dq_at (j := 35) dk_29g_1 rfl rfl) rfl
theorem dL_law_1805 : decode cL_law 1805 = .ok (.aload_n 2, 1) := dq_op44 (dq_at (j := 36) dk_29g_1 rfl rfl)
theorem dL_law_1806 : decode cL_law 1806 = .ok (.aload_n 0, 1) := dq_op42 (dq_at (j := 37) dk_29g_1 rfl rfl)
theorem dL_law_1807 : decode cL_law 1807 = .ok (.iload 4, 2) := dq_op21 (dq_at (j := 38) dk_29g_1 rfl rfl) (dq_at (j := 39) dk_29g_1 rfl rfl) rfl
theorem dL_law_1809 : decode cL_law 1809 = .ok (.iconst 1, 1) := dq_op4 (dq_at (j := 40) dk_29g_1 rfl rfl)
theorem dL_law_1810 : decode cL_law 1810 = .ok (.iadd, 1) := dq_op96 (dq_at (j := 41) dk_29g_1 rfl rfl)
theorem dL_law_1811 : decode cL_law 1811 = .ok (.iaload, 1) := dq_op46 (dq_at (j := 42) dk_29g_1 rfl rfl)
theorem dL_law_1812 : decode cL_law 1812 = .ok (.aload_n 0, 1) := dq_op42 (dq_at (j := 43) dk_29g_1 rfl rfl)
theorem dL_law_1813 : decode cL_law 1813 = .ok (.iload 4, 2) := dq_op21 (dq_at (j := 44) dk_29g_1 rfl rfl) (dq_at (j := 45) dk_29g_1 rfl rfl) rfl
theorem dL_law_1815 : decode cL_law 1815 = .ok (.iconst 2, 1) := dq_op5 (dq_at (j := 46) dk_29g_1 rfl rfl)
theorem dL_law_1816 : decode cL_law 1816 = .ok (.iadd, 1) := dq_op96 (dq_at (j := 47) dk_29g_1 rfl rfl)
theorem dL_law_1817 : decode cL_law 1817 = .ok (.iaload, 1) := dq_op46 (dq_at (j := 48) dk_29g_1 rfl rfl)
theorem dL_law_1818 : decode cL_law 1818 = .ok (.aload_n 0, 1) := dq_op42 (dq_at (j := 49) dk_29g_1 rfl rfl)
theorem dL_law_1819 : decode cL_law 1819 = .ok (.iload 4, 2) := dq_op21 (dq_at (j := 50) dk_29g_1 rfl rfl) (dq_at (j := 51) dk_29g_1 rfl rfl) rfl
theorem dL_law_1821 : decode cL_law 1821 = .ok (.iconst 3, 1) := dq_op6 (dq_at (j := 52) dk_29g_1 rfl rfl)
theorem dL_law_1822 : decode cL_law 1822 = .ok (.iadd, 1) := dq_op96 (dq_at (j := 53) dk_29g_1 rfl rfl)
theorem dL_law_1823 : decode cL_law 1823 = .ok (.iaload, 1) := dq_op46 (dq_at (j := 54) dk_29g_1 rfl rfl)
theorem dL_law_1824 : decode cL_law 1824 = .ok (.invokevirtual 294, 3) := dq_op182 (dq_at (j := 55) dk_29g_1 rfl rfl) (dq_at (j := 56) dk_29g_1 rfl rfl) (dq_at (j := 57) dk_29g_1 rfl rfl) rfl
theorem dL_law_1827 : decode cL_law 1827 = .ok (.istore 6, 2) := dq_op54 (dq_at (j := 58) dk_29g_1 rfl rfl) (dq_at (j := 59) dk_29g_1 rfl rfl) rfl
theorem dL_law_1829 : decode cL_law 1829 = .ok (.goto 411, 3) := dq_op167 (dq_at (j := 60) dk_29g_1 rfl rfl) (dq_at (j := 61) dk_29g_1 rfl rfl) (dq_at (j := 62) dk_29g_1 rfl rfl) (by decide +kernel)
theorem dL_law_1832 : decode cL_law 1832 = .ok (.aload_n 1, 1) := dq_op43 (dq_at (j := 63) dk_29g_1 rfl rfl)
theorem dL_law_1833 : decode cL_law 1833 = .ok (.aload_n 0, 1) := dq_op42 (dq_at (j := 64) dk_29g_1 rfl rfl)
theorem dL_law_1834 : decode cL_law 1834 = .ok (.iload 4, 2) := dq_op21 (dq_at (j := 65) dk_29g_1 rfl rfl) (dq_at (j := 66) dk_29g_1 rfl rfl) rfl
theorem dL_law_1836 : decode cL_law 1836 = .ok (.iconst 1, 1) := dq_op4 (dq_at (j := 67) dk_29g_1 rfl rfl)
theorem dL_law_1837 : decode cL_law 1837 = .ok (.iadd, 1) := dq_op96 (dq_at (j := 68) dk_29g_1 rfl rfl)
theorem dL_law_1838 : decode cL_law 1838 = .ok (.iaload, 1) := dq_op46 (dq_at (j := 69) dk_29g_1 rfl rfl)
theorem dL_law_1839 : decode cL_law 1839 = .ok (.aload_n 0, 1) := dq_op42 (dq_at (j := 70) dk_29g_1 rfl rfl)
theorem dL_law_1840 : decode cL_law 1840 = .ok (.iload 4, 2) := dq_op21 (dq_at (j := 71) dk_29g_1 rfl rfl) (dq_at (j := 72) dk_29g_1 rfl rfl) rfl
theorem dL_law_1842 : decode cL_law 1842 = .ok (.iconst 2, 1) := dq_op5 (dq_at (j := 73) dk_29g_1 rfl rfl)
theorem dL_law_1843 : decode cL_law 1843 = .ok (.iadd, 1) := dq_op96 (dq_at (j := 74) dk_29g_1 rfl rfl)
theorem dL_law_1844 : decode cL_law 1844 = .ok (.iaload, 1) := dq_op46 (dq_at (j := 75) dk_29g_1 rfl rfl)
theorem dL_law_1845 : decode cL_law 1845 = .ok (.aload_n 3, 1) := dq_op45 (dq_at (j := 76) dk_29g_1 rfl rfl)
theorem dL_law_1846 : decode cL_law 1846 = .ok (.invokestatic 295, 3) := dq_op184 (dq_at (j := 77) dk_29g_1 rfl rfl) (dq_at (j := 78) dk_29g_1 rfl rfl) (dq_at (j := 79) dk_29g_1 rfl rfl) rfl
theorem dL_law_1849 : decode cL_law 1849 = .ok (.istore 5, 2) := dq_op54 (dq_at (j := 80) dk_29g_1 rfl rfl) (dq_at (j := 81) dk_29g_1 rfl rfl) rfl
theorem dL_law_1851 : decode cL_law 1851 = .ok (.aload_n 2, 1) := dq_op44 (dq_at (j := 82) dk_29g_1 rfl rfl)
theorem dL_law_1852 : decode cL_law 1852 = .ok (.aload_n 0, 1) := dq_op42 (dq_at (j := 83) dk_29g_1 rfl rfl)
theorem dL_law_1853 : decode cL_law 1853 = .ok (.iload 4, 2) := dq_op21 (dq_at (j := 84) dk_29g_1 rfl rfl) (dq_at (j := 85) dk_29g_1 rfl rfl) rfl
theorem dL_law_1855 : decode cL_law 1855 = .ok (.iconst 1, 1) := dq_op4 (dq_at (j := 86) dk_29g_1 rfl rfl)
theorem dL_law_1856 : decode cL_law 1856 = .ok (.iadd, 1) := dq_op96 (dq_at (j := 87) dk_29g_1 rfl rfl)
theorem dL_law_1857 : decode cL_law 1857 = .ok (.iaload, 1) := dq_op46 (dq_at (j := 88) dk_29g_1 rfl rfl)
theorem dL_law_1858 : decode cL_law 1858 = .ok (.aload_n 0, 1) := dq_op42 (dq_at (j := 89) dk_29g_1 rfl rfl)
theorem dL_law_1859 : decode cL_law 1859 = .ok (.iload 4, 2) := dq_op21 (dq_at (j := 90) dk_29g_1 rfl rfl) (dq_at (j := 91) dk_29g_1 rfl rfl) rfl
theorem dL_law_1861 : decode cL_law 1861 = .ok (.iconst 2, 1) := dq_op5 (dq_at (j := 92) dk_29g_1 rfl rfl)
theorem dL_law_1862 : decode cL_law 1862 = .ok (.iadd, 1) := dq_op96 (dq_at (j := 93) dk_29g_1 rfl rfl)
theorem dL_law_1863 : decode cL_law 1863 = .ok (.iaload, 1) := dq_op46 (dq_at (j := 94) dk_29g_1 rfl rfl)
theorem dL_law_1864 : decode cL_law 1864 = .ok (.invokevirtual 297, 3) := dq_op182 (dq_at (j := 95) dk_29g_1 rfl rfl) (dq_at (j := 96) dk_29g_1 rfl rfl) (dq_at (j := 97) dk_29g_1 rfl rfl) rfl
theorem dL_law_1867 : decode cL_law 1867 = .ok (.istore 6, 2) := dq_op54 (dq_at (j := 98) dk_29g_1 rfl rfl) (dq_at (j := 99) dk_29g_1 rfl rfl) rfl
theorem dL_law_1869 : decode cL_law 1869 = .ok (.goto 371, 3) := dq_op167 (dq_at (j := 100) dk_29g_1 rfl rfl) (dq_at (j := 101) dk_29g_1 rfl rfl) (dq_at (j := 102) dk_29g_1 rfl rfl) (by decide +kernel)
theorem dL_law_1872 : decode cL_law 1872 = .ok (.aload_n 1, 1) := dq_op43 (dq_at (j := 103) dk_29g_1 rfl rfl)
theorem dL_law_1873 : decode cL_law 1873 = .ok (.aload_n 0, 1) := dq_op42 (dq_at (j := 104) dk_29g_1 rfl rfl)
theorem dL_law_1874 : decode cL_law 1874 = .ok (.iload 4, 2) := dq_op21 (dq_at (j := 105) dk_29g_1 rfl rfl) (dq_at (j := 106) dk_29g_1 rfl rfl) rfl
theorem dL_law_1876 : decode cL_law 1876 = .ok (.iconst 1, 1) := dq_op4 (dq_at (j := 107) dk_29g_1 rfl rfl)
theorem dL_law_1877 : decode cL_law 1877 = .ok (.iadd, 1) := dq_op96 (dq_at (j := 108) dk_29g_1 rfl rfl)
theorem dL_law_1878 : decode cL_law 1878 = .ok (.iaload, 1) := dq_op46 (dq_at (j := 109) dk_29g_1 rfl rfl)
theorem dL_law_1879 : decode cL_law 1879 = .ok (.aload_n 0, 1) := dq_op42 (dq_at (j := 110) dk_29g_1 rfl rfl)
theorem dL_law_1880 : decode cL_law 1880 = .ok (.iload 4, 2) := dq_op21 (dq_at (j := 111) dk_29g_1 rfl rfl) (dq_at (j := 112) dk_29g_1 rfl rfl) rfl
theorem dL_law_1882 : decode cL_law 1882 = .ok (.iconst 2, 1) := dq_op5 (dq_at (j := 113) dk_29g_1 rfl rfl)
theorem dL_law_1883 : decode cL_law 1883 = .ok (.iadd, 1) := dq_op96 (dq_at (j := 114) dk_29g_1 rfl rfl)
theorem dL_law_1884 : decode cL_law 1884 = .ok (.iaload, 1) := dq_op46 (dq_at (j := 115) dk_29g_1 rfl rfl)
theorem dL_law_1885 : decode cL_law 1885 = .ok (.aload_n 3, 1) := dq_op45 (dq_at (j := 116) dk_29g_1 rfl rfl)
theorem dL_law_1886 : decode cL_law 1886 = .ok (.invokestatic 298, 3) := dq_op184 (dq_at (j := 117) dk_29g_1 rfl rfl) (dq_at (j := 118) dk_29g_1 rfl rfl) (dq_at (j := 119) dk_29g_1 rfl rfl) rfl
theorem dL_law_1889 : decode cL_law 1889 = .ok (.istore 5, 2) := dq_op54 (dq_at (j := 120) dk_29g_1 rfl rfl) (dq_at (j := 121) dk_29g_1 rfl rfl) rfl
theorem dL_law_1891 : decode cL_law 1891 = .ok (.aload_n 2, 1) := dq_op44 (dq_at (j := 122) dk_29g_1 rfl rfl)
theorem dL_law_1892 : decode cL_law 1892 = .ok (.aload_n 0, 1) := dq_op42 (dq_at (j := 123) dk_29g_1 rfl rfl)
theorem dL_law_1893 : decode cL_law 1893 = .ok (.iload 4, 2) := dq_op21 (dq_at (j := 124) dk_29g_1 rfl rfl) (dq_at (j := 125) dk_29g_1 rfl rfl) rfl
theorem dL_law_1895 : decode cL_law 1895 = .ok (.iconst 1, 1) := dq_op4 (dq_at (j := 126) dk_29g_1 rfl rfl)
theorem dL_law_1896 : decode cL_law 1896 = .ok (.iadd, 1) := dq_op96 (dq_at (j := 127) dk_29g_1 rfl rfl)
theorem dL_law_1897 : decode cL_law 1897 = .ok (.iaload, 1) := dq_op46 (dq_at (j := 128) dk_29g_1 rfl rfl)
theorem dL_law_1898 : decode cL_law 1898 = .ok (.aload_n 0, 1) := dq_op42 (dq_at (j := 129) dk_29g_1 rfl rfl)
theorem dL_law_1899 : decode cL_law 1899 = .ok (.iload 4, 2) := dq_op21 (dq_at (j := 130) dk_29g_1 rfl rfl) (dq_at (j := 131) dk_29g_1 rfl rfl) rfl
theorem dL_law_1901 : decode cL_law 1901 = .ok (.iconst 2, 1) := dq_op5 (dq_at (j := 132) dk_29g_1 rfl rfl)
theorem dL_law_1902 : decode cL_law 1902 = .ok (.iadd, 1) := dq_op96 (dq_at (j := 133) dk_29g_1 rfl rfl)
theorem dL_law_1903 : decode cL_law 1903 = .ok (.iaload, 1) := dq_op46 (dq_at (j := 134) dk_29g_1 rfl rfl)
theorem dL_law_1904 : decode cL_law 1904 = .ok (.invokevirtual 300, 3) := dq_op182 (dq_at (j := 135) dk_29g_1 rfl rfl) (dq_at (j := 136) dk_29g_1 rfl rfl) (dq_at (j := 137) dk_29g_1 rfl rfl) rfl
theorem dL_law_1907 : decode cL_law 1907 = .ok (.istore 6, 2) := dq_op54 (dq_at (j := 138) dk_29g_1 rfl rfl) (dq_at (j := 139) dk_29g_1 rfl rfl) rfl
theorem dL_law_1909 : decode cL_law 1909 = .ok (.goto 331, 3) := dq_op167 (dq_at (j := 140) dk_29g_1 rfl rfl) (dq_at (j := 141) dk_29g_1 rfl rfl) (dq_at (j := 142) dk_29g_1 rfl rfl) (by decide +kernel)
theorem dk_29g_2 : (cL_law.data.toList.drop 1912).take 117 = [43, 42, 21, 4, 4, 96, 46, 42, 21, 4, 5, 96, 46, 42, 21, 4, 6, 96, 46, 153, 0, 7, 4, 167, 0, 4, 3, 45, 184, 1, 45, 54, 5, 44, 42, 21, 4, 4, 96, 46, 42, 21, 4, 5, 96, 46, 42, 21, 4, 6, 96, 46, 153, 0, 7, 4, 167, 0, 4, 3, 182, 1, 47, 54, 6, 167, 1, 7, 43, 42, 21, 4, 4, 96, 46, 42, 21, 4, 5, 96, 46, 45, 184, 1, 48, 54, 5, 44, 42, 21, 4, 4, 96, 46, 42, 21, 4, 5, 96, 46, 182, 1, 50, 54, 6, 167, 0, 223, 43, 42, 21, 4, 4, 96, 46, 42, 21] := by decide +kernel
theorem dL_law_1912 : decode cL_law 1912 = .ok (.aload_n 1, 1) := dq_op43 (dq_at (j := 0) dk_29g_2 rfl rfl)
theorem dL_law_1913 : decode cL_law 1913 = .ok (.aload_n 0, 1) := dq_op42 (dq_at (j := 1) dk_29g_2 rfl rfl)
theorem dL_law_1914 : decode cL_law 1914 = .ok (.iload 4, 2) := dq_op21 (dq_at (j := 2) dk_29g_2 rfl rfl) (dq_at (j := 3) dk_29g_2 rfl rfl) rfl
theorem dL_law_1916 : decode cL_law 1916 = .ok (.iconst 1, 1) := dq_op4 (dq_at (j := 4) dk_29g_2 rfl rfl)
theorem dL_law_1917 : decode cL_law 1917 = .ok (.iadd, 1) := dq_op96 (dq_at (j := 5) dk_29g_2 rfl rfl)
theorem dL_law_1918 : decode cL_law 1918 = .ok (.iaload, 1) := dq_op46 (dq_at (j := 6) dk_29g_2 rfl rfl)
theorem dL_law_1919 : decode cL_law 1919 = .ok (.aload_n 0, 1) := dq_op42 (dq_at (j := 7) dk_29g_2 rfl rfl)
theorem dL_law_1920 : decode cL_law 1920 = .ok (.iload 4, 2) := dq_op21 (dq_at (j := 8) dk_29g_2 rfl rfl) (dq_at (j := 9) dk_29g_2 rfl rfl) rfl
theorem dL_law_1922 : decode cL_law 1922 = .ok (.iconst 2, 1) := dq_op5 (dq_at (j := 10) dk_29g_2 rfl rfl)
theorem dL_law_1923 : decode cL_law 1923 = .ok (.iadd, 1) := dq_op96 (dq_at (j := 11) dk_29g_2 rfl rfl)
theorem dL_law_1924 : decode cL_law 1924 = .ok (.iaload, 1) := dq_op46 (dq_at (j := 12) dk_29g_2 rfl rfl)
theorem dL_law_1925 : decode cL_law 1925 = .ok (.aload_n 0, 1) := dq_op42 (dq_at (j := 13) dk_29g_2 rfl rfl)
theorem dL_law_1926 : decode cL_law 1926 = .ok (.iload 4, 2) := dq_op21 (dq_at (j := 14) dk_29g_2 rfl rfl) (dq_at (j := 15) dk_29g_2 rfl rfl) rfl
theorem dL_law_1928 : decode cL_law 1928 = .ok (.iconst 3, 1) := dq_op6 (dq_at (j := 16) dk_29g_2 rfl rfl)
theorem dL_law_1929 : decode cL_law 1929 = .ok (.iadd, 1) := dq_op96 (dq_at (j := 17) dk_29g_2 rfl rfl)
theorem dL_law_1930 : decode cL_law 1930 = .ok (.iaload, 1) := dq_op46 (dq_at (j := 18) dk_29g_2 rfl rfl)
theorem dL_law_1931 : decode cL_law 1931 = .ok (.ifCond .eq 7, 3) := dq_op153 (dq_at (j := 19) dk_29g_2 rfl rfl) (dq_at (j := 20) dk_29g_2 rfl rfl) (dq_at (j := 21) dk_29g_2 rfl rfl) (by decide +kernel)
theorem dL_law_1934 : decode cL_law 1934 = .ok (.iconst 1, 1) := dq_op4 (dq_at (j := 22) dk_29g_2 rfl rfl)
theorem dL_law_1935 : decode cL_law 1935 = .ok (.goto 4, 3) := dq_op167 (dq_at (j := 23) dk_29g_2 rfl rfl) (dq_at (j := 24) dk_29g_2 rfl rfl) (dq_at (j := 25) dk_29g_2 rfl rfl) (by decide +kernel)
theorem dL_law_1938 : decode cL_law 1938 = .ok (.iconst 0, 1) := dq_op3 (dq_at (j := 26) dk_29g_2 rfl rfl)
theorem dL_law_1939 : decode cL_law 1939 = .ok (.aload_n 3, 1) := dq_op45 (dq_at (j := 27) dk_29g_2 rfl rfl)
theorem dL_law_1940 : decode cL_law 1940 = .ok (.invokestatic 301, 3) := dq_op184 (dq_at (j := 28) dk_29g_2 rfl rfl) (dq_at (j := 29) dk_29g_2 rfl rfl) (dq_at (j := 30) dk_29g_2 rfl rfl) rfl
theorem dL_law_1943 : decode cL_law 1943 = .ok (.istore 5, 2) := dq_op54 (dq_at (j := 31) dk_29g_2 rfl rfl) (dq_at (j := 32) dk_29g_2 rfl rfl) rfl
theorem dL_law_1945 : decode cL_law 1945 = .ok (.aload_n 2, 1) := dq_op44 (dq_at (j := 33) dk_29g_2 rfl rfl)
theorem dL_law_1946 : decode cL_law 1946 = .ok (.aload_n 0, 1) := dq_op42 (dq_at (j := 34) dk_29g_2 rfl rfl)
theorem dL_law_1947 : decode cL_law 1947 = .ok (.iload 4, 2) := dq_op21 (dq_at (j := 35) dk_29g_2 rfl rfl) (dq_at (j := 36) dk_29g_2 rfl rfl) rfl
theorem dL_law_1949 : decode cL_law 1949 = .ok (.iconst 1, 1) := dq_op4 (dq_at (j := 37) dk_29g_2 rfl rfl)
theorem dL_law_1950 : decode cL_law 1950 = .ok (.iadd, 1) := dq_op96 (dq_at (j := 38) dk_29g_2 rfl rfl)
theorem dL_law_1951 : decode cL_law 1951 = .ok (.iaload, 1) := dq_op46 (dq_at (j := 39) dk_29g_2 rfl rfl)
theorem dL_law_1952 : decode cL_law 1952 = .ok (.aload_n 0, 1) := dq_op42 (dq_at (j := 40) dk_29g_2 rfl rfl)
theorem dL_law_1953 : decode cL_law 1953 = .ok (.iload 4, 2) := dq_op21 (dq_at (j := 41) dk_29g_2 rfl rfl) (dq_at (j := 42) dk_29g_2 rfl rfl) rfl
theorem dL_law_1955 : decode cL_law 1955 = .ok (.iconst 2, 1) := dq_op5 (dq_at (j := 43) dk_29g_2 rfl rfl)
theorem dL_law_1956 : decode cL_law 1956 = .ok (.iadd, 1) := dq_op96 (dq_at (j := 44) dk_29g_2 rfl rfl)
theorem dL_law_1957 : decode cL_law 1957 = .ok (.iaload, 1) := dq_op46 (dq_at (j := 45) dk_29g_2 rfl rfl)
theorem dL_law_1958 : decode cL_law 1958 = .ok (.aload_n 0, 1) := dq_op42 (dq_at (j := 46) dk_29g_2 rfl rfl)
theorem dL_law_1959 : decode cL_law 1959 = .ok (.iload 4, 2) := dq_op21 (dq_at (j := 47) dk_29g_2 rfl rfl) (dq_at (j := 48) dk_29g_2 rfl rfl) rfl
theorem dL_law_1961 : decode cL_law 1961 = .ok (.iconst 3, 1) := dq_op6 (dq_at (j := 49) dk_29g_2 rfl rfl)
theorem dL_law_1962 : decode cL_law 1962 = .ok (.iadd, 1) := dq_op96 (dq_at (j := 50) dk_29g_2 rfl rfl)
theorem dL_law_1963 : decode cL_law 1963 = .ok (.iaload, 1) := dq_op46 (dq_at (j := 51) dk_29g_2 rfl rfl)
theorem dL_law_1964 : decode cL_law 1964 = .ok (.ifCond .eq 7, 3) := dq_op153 (dq_at (j := 52) dk_29g_2 rfl rfl) (dq_at (j := 53) dk_29g_2 rfl rfl) (dq_at (j := 54) dk_29g_2 rfl rfl) (by decide +kernel)
theorem dL_law_1967 : decode cL_law 1967 = .ok (.iconst 1, 1) := dq_op4 (dq_at (j := 55) dk_29g_2 rfl rfl)
theorem dL_law_1968 : decode cL_law 1968 = .ok (.goto 4, 3) := dq_op167 (dq_at (j := 56) dk_29g_2 rfl rfl) (dq_at (j := 57) dk_29g_2 rfl rfl) (dq_at (j := 58) dk_29g_2 rfl rfl) (by decide +kernel)
theorem dL_law_1971 : decode cL_law 1971 = .ok (.iconst 0, 1) := dq_op3 (dq_at (j := 59) dk_29g_2 rfl rfl)
theorem dL_law_1972 : decode cL_law 1972 = .ok (.invokevirtual 303, 3) := dq_op182 (dq_at (j := 60) dk_29g_2 rfl rfl) (dq_at (j := 61) dk_29g_2 rfl rfl) (dq_at (j := 62) dk_29g_2 rfl rfl) rfl
theorem dL_law_1975 : decode cL_law 1975 = .ok (.istore 6, 2) := dq_op54 (dq_at (j := 63) dk_29g_2 rfl rfl) (dq_at (j := 64) dk_29g_2 rfl rfl) rfl
theorem dL_law_1977 : decode cL_law 1977 = .ok (.goto 263, 3) := dq_op167 (dq_at (j := 65) dk_29g_2 rfl rfl) (dq_at (j := 66) dk_29g_2 rfl rfl) (dq_at (j := 67) dk_29g_2 rfl rfl) (by decide +kernel)
theorem dL_law_1980 : decode cL_law 1980 = .ok (.aload_n 1, 1) := dq_op43 (dq_at (j := 68) dk_29g_2 rfl rfl)
theorem dL_law_1981 : decode cL_law 1981 = .ok (.aload_n 0, 1) := dq_op42 (dq_at (j := 69) dk_29g_2 rfl rfl)
theorem dL_law_1982 : decode cL_law 1982 = .ok (.iload 4, 2) := dq_op21 (dq_at (j := 70) dk_29g_2 rfl rfl) (dq_at (j := 71) dk_29g_2 rfl rfl) rfl
theorem dL_law_1984 : decode cL_law 1984 = .ok (.iconst 1, 1) := dq_op4 (dq_at (j := 72) dk_29g_2 rfl rfl)
theorem dL_law_1985 : decode cL_law 1985 = .ok (.iadd, 1) := dq_op96 (dq_at (j := 73) dk_29g_2 rfl rfl)
theorem dL_law_1986 : decode cL_law 1986 = .ok (.iaload, 1) := dq_op46 (dq_at (j := 74) dk_29g_2 rfl rfl)
theorem dL_law_1987 : decode cL_law 1987 = .ok (.aload_n 0, 1) := dq_op42 (dq_at (j := 75) dk_29g_2 rfl rfl)
theorem dL_law_1988 : decode cL_law 1988 = .ok (.iload 4, 2) := dq_op21 (dq_at (j := 76) dk_29g_2 rfl rfl) (dq_at (j := 77) dk_29g_2 rfl rfl) rfl
theorem dL_law_1990 : decode cL_law 1990 = .ok (.iconst 2, 1) := dq_op5 (dq_at (j := 78) dk_29g_2 rfl rfl)
theorem dL_law_1991 : decode cL_law 1991 = .ok (.iadd, 1) := dq_op96 (dq_at (j := 79) dk_29g_2 rfl rfl)
theorem dL_law_1992 : decode cL_law 1992 = .ok (.iaload, 1) := dq_op46 (dq_at (j := 80) dk_29g_2 rfl rfl)
theorem dL_law_1993 : decode cL_law 1993 = .ok (.aload_n 3, 1) := dq_op45 (dq_at (j := 81) dk_29g_2 rfl rfl)
theorem dL_law_1994 : decode cL_law 1994 = .ok (.invokestatic 304, 3) := dq_op184 (dq_at (j := 82) dk_29g_2 rfl rfl) (dq_at (j := 83) dk_29g_2 rfl rfl) (dq_at (j := 84) dk_29g_2 rfl rfl) rfl
theorem dL_law_1997 : decode cL_law 1997 = .ok (.istore 5, 2) := dq_op54 (dq_at (j := 85) dk_29g_2 rfl rfl) (dq_at (j := 86) dk_29g_2 rfl rfl) rfl
theorem dL_law_1999 : decode cL_law 1999 = .ok (.aload_n 2, 1) := dq_op44 (dq_at (j := 87) dk_29g_2 rfl rfl)
theorem dL_law_2000 : decode cL_law 2000 = .ok (.aload_n 0, 1) := dq_op42 (dq_at (j := 88) dk_29g_2 rfl rfl)
theorem dL_law_2001 : decode cL_law 2001 = .ok (.iload 4, 2) := dq_op21 (dq_at (j := 89) dk_29g_2 rfl rfl) (dq_at (j := 90) dk_29g_2 rfl rfl) rfl
theorem dL_law_2003 : decode cL_law 2003 = .ok (.iconst 1, 1) := dq_op4 (dq_at (j := 91) dk_29g_2 rfl rfl)
theorem dL_law_2004 : decode cL_law 2004 = .ok (.iadd, 1) := dq_op96 (dq_at (j := 92) dk_29g_2 rfl rfl)
theorem dL_law_2005 : decode cL_law 2005 = .ok (.iaload, 1) := dq_op46 (dq_at (j := 93) dk_29g_2 rfl rfl)
theorem dL_law_2006 : decode cL_law 2006 = .ok (.aload_n 0, 1) := dq_op42 (dq_at (j := 94) dk_29g_2 rfl rfl)
theorem dL_law_2007 : decode cL_law 2007 = .ok (.iload 4, 2) := dq_op21 (dq_at (j := 95) dk_29g_2 rfl rfl) (dq_at (j := 96) dk_29g_2 rfl rfl) rfl
theorem dL_law_2009 : decode cL_law 2009 = .ok (.iconst 2, 1) := dq_op5 (dq_at (j := 97) dk_29g_2 rfl rfl)
theorem dL_law_2010 : decode cL_law 2010 = .ok (.iadd, 1) := dq_op96 (dq_at (j := 98) dk_29g_2 rfl rfl)
theorem dL_law_2011 : decode cL_law 2011 = .ok (.iaload, 1) := dq_op46 (dq_at (j := 99) dk_29g_2 rfl rfl)
theorem dL_law_2012 : decode cL_law 2012 = .ok (.invokevirtual 306, 3) := dq_op182 (dq_at (j := 100) dk_29g_2 rfl rfl) (dq_at (j := 101) dk_29g_2 rfl rfl) (dq_at (j := 102) dk_29g_2 rfl rfl) rfl
theorem dL_law_2015 : decode cL_law 2015 = .ok (.istore 6, 2) := dq_op54 (dq_at (j := 103) dk_29g_2 rfl rfl) (dq_at (j := 104) dk_29g_2 rfl rfl) rfl
theorem dL_law_2017 : decode cL_law 2017 = .ok (.goto 223, 3) := dq_op167 (dq_at (j := 105) dk_29g_2 rfl rfl) (dq_at (j := 106) dk_29g_2 rfl rfl) (dq_at (j := 107) dk_29g_2 rfl rfl) (by decide +kernel)
theorem dL_law_2020 : decode cL_law 2020 = .ok (.aload_n 1, 1) := dq_op43 (dq_at (j := 108) dk_29g_2 rfl rfl)
theorem dL_law_2021 : decode cL_law 2021 = .ok (.aload_n 0, 1) := dq_op42 (dq_at (j := 109) dk_29g_2 rfl rfl)
theorem dL_law_2022 : decode cL_law 2022 = .ok (.iload 4, 2) := dq_op21 (dq_at (j := 110) dk_29g_2 rfl rfl) (dq_at (j := 111) dk_29g_2 rfl rfl) rfl
theorem dL_law_2024 : decode cL_law 2024 = .ok (.iconst 1, 1) := dq_op4 (dq_at (j := 112) dk_29g_2 rfl rfl)
theorem dL_law_2025 : decode cL_law 2025 = .ok (.iadd, 1) := dq_op96 (dq_at (j := 113) dk_29g_2 rfl rfl)
theorem dL_law_2026 : decode cL_law 2026 = .ok (.iaload, 1) := dq_op46 (dq_at (j := 114) dk_29g_2 rfl rfl)
noncomputable def dq_end_29g : Nat := 0
theorem dk_29h_1 : (cL_law.data.toList.drop 2027).take 154 = [42, 21, 4, 5, 96, 46, 45, 184, 1, 51, 54, 5, 44, 42, 21, 4, 4, 96, 46, 42, 21, 4, 5, 96, 46, 182, 1, 53, 54, 6, 167, 0, 183, 43, 42, 21, 4, 4, 96, 46, 45, 184, 1, 54, 54, 5, 44, 42, 21, 4, 4, 96, 46, 182, 1, 56, 54, 6, 167, 0, 155, 43, 42, 21, 4, 4, 96, 46, 42, 21, 4, 5, 96, 46, 153, 0, 7, 4, 167, 0, 4, 3, 45, 184, 1, 57, 54, 5, 44, 42, 21, 4, 4, 96, 46, 42, 21, 4, 5, 96, 46, 153, 0, 7, 4, 167, 0, 4, 3, 182, 1, 59, 54, 6, 167, 0, 99, 43, 42, 21, 4, 4, 96, 46, 45, 184, 1, 60, 54, 5, 44, 42, 21, 4, 4, 96, 46, 182, 1, 62, 54, 6, 167, 0, 71, 43, 42, 21, 4, 4, 96, 46, 45, 184] := by decide +kernel
theorem dL_law_2027 : decode cL_law 2027 = .ok (.aload_n 0, 1) := dq_op42 (dq_at (j := 0) dk_29h_1 rfl rfl)
theorem dL_law_2028 : decode cL_law 2028 = .ok (.iload 4, 2) := dq_op21 (dq_at (j := 1) dk_29h_1 rfl rfl) (dq_at (j := 2) dk_29h_1 rfl rfl) rfl
theorem dL_law_2030 : decode cL_law 2030 = .ok (.iconst 2, 1) := dq_op5 (dq_at (j := 3) dk_29h_1 rfl rfl)
theorem dL_law_2031 : decode cL_law 2031 = .ok (.iadd, 1) := dq_op96 (dq_at (j := 4) dk_29h_1 rfl rfl)
theorem dL_law_2032 : decode cL_law 2032 = .ok (.iaload, 1) := dq_op46 (dq_at (j := 5) dk_29h_1 rfl rfl)
theorem dL_law_2033 : decode cL_law 2033 = .ok (.aload_n 3, 1) := dq_op45 (dq_at (j := 6) dk_29h_1 rfl rfl)
theorem dL_law_2034 : decode cL_law 2034 = .ok (.invokestatic 307, 3) := dq_op184 (dq_at (j := 7) dk_29h_1 rfl rfl) (dq_at (j := 8) dk_29h_1 rfl rfl) (dq_at (j := 9) dk_29h_1 rfl rfl) rfl
theorem dL_law_2037 : decode cL_law 2037 = .ok (.istore 5, 2) := dq_op54 (dq_at (j := 10) dk_29h_1 rfl rfl) (dq_at (j := 11) dk_29h_1 rfl rfl) rfl
theorem dL_law_2039 : decode cL_law 2039 = .ok (.aload_n 2, 1) := dq_op44 (dq_at (j := 12) dk_29h_1 rfl rfl)
theorem dL_law_2040 : decode cL_law 2040 = .ok (.aload_n 0, 1) := dq_op42 (dq_at (j := 13) dk_29h_1 rfl rfl)
theorem dL_law_2041 : decode cL_law 2041 = .ok (.iload 4, 2) := dq_op21 (dq_at (j := 14) dk_29h_1 rfl rfl) (dq_at (j := 15) dk_29h_1 rfl rfl) rfl
theorem dL_law_2043 : decode cL_law 2043 = .ok (.iconst 1, 1) := dq_op4 (dq_at (j := 16) dk_29h_1 rfl rfl)
theorem dL_law_2044 : decode cL_law 2044 = .ok (.iadd, 1) := dq_op96 (dq_at (j := 17) dk_29h_1 rfl rfl)
theorem dL_law_2045 : decode cL_law 2045 = .ok (.iaload, 1) := dq_op46 (dq_at (j := 18) dk_29h_1 rfl rfl)
theorem dL_law_2046 : decode cL_law 2046 = .ok (.aload_n 0, 1) := dq_op42 (dq_at (j := 19) dk_29h_1 rfl rfl)
theorem dL_law_2047 : decode cL_law 2047 = .ok (.iload 4, 2) := dq_op21 (dq_at (j := 20) dk_29h_1 rfl rfl) (dq_at (j := 21) dk_29h_1 rfl rfl) rfl
theorem dL_law_2049 : decode cL_law 2049 = .ok (.iconst 2, 1) := dq_op5 (dq_at (j := 22) dk_29h_1 rfl rfl)
theorem dL_law_2050 : decode cL_law 2050 = .ok (.iadd, 1) := dq_op96 (dq_at (j := 23) dk_29h_1 rfl rfl)
theorem dL_law_2051 : decode cL_law 2051 = .ok (.iaload, 1) := dq_op46 (dq_at (j := 24) dk_29h_1 rfl rfl)
theorem dL_law_2052 : decode cL_law 2052 = .ok (.invokevirtual 309, 3) := dq_op182 (dq_at (j := 25) dk_29h_1 rfl rfl) (dq_at (j := 26) dk_29h_1 rfl rfl) (dq_at (j := 27) dk_29h_1 rfl rfl) rfl
theorem dL_law_2055 : decode cL_law 2055 = .ok (.istore 6, 2) := dq_op54 (dq_at (j := 28) dk_29h_1 rfl rfl) (dq_at (j := 29) dk_29h_1 rfl rfl) rfl
theorem dL_law_2057 : decode cL_law 2057 = .ok (.goto 183, 3) := dq_op167 (dq_at (j := 30) dk_29h_1 rfl rfl) (dq_at (j := 31) dk_29h_1 rfl rfl) (dq_at (j := 32) dk_29h_1 rfl rfl) (by decide +kernel)
theorem dL_law_2060 : decode cL_law 2060 = .ok (.aload_n 1, 1) := dq_op43 (dq_at (j := 33) dk_29h_1 rfl rfl)
theorem dL_law_2061 : decode cL_law 2061 = .ok (.aload_n 0, 1) := dq_op42 (dq_at (j := 34) dk_29h_1 rfl rfl)
theorem dL_law_2062 : decode cL_law 2062 = .ok (.iload 4, 2) := dq_op21 (dq_at (j := 35) dk_29h_1 rfl rfl) (dq_at (j := 36) dk_29h_1 rfl rfl) rfl
theorem dL_law_2064 : decode cL_law 2064 = .ok (.iconst 1, 1) := dq_op4 (dq_at (j := 37) dk_29h_1 rfl rfl)
theorem dL_law_2065 : decode cL_law 2065 = .ok (.iadd, 1) := dq_op96 (dq_at (j := 38) dk_29h_1 rfl rfl)
theorem dL_law_2066 : decode cL_law 2066 = .ok (.iaload, 1) := dq_op46 (dq_at (j := 39) dk_29h_1 rfl rfl)
theorem dL_law_2067 : decode cL_law 2067 = .ok (.aload_n 3, 1) := dq_op45 (dq_at (j := 40) dk_29h_1 rfl rfl)
theorem dL_law_2068 : decode cL_law 2068 = .ok (.invokestatic 310, 3) := dq_op184 (dq_at (j := 41) dk_29h_1 rfl rfl) (dq_at (j := 42) dk_29h_1 rfl rfl) (dq_at (j := 43) dk_29h_1 rfl rfl) rfl
theorem dL_law_2071 : decode cL_law 2071 = .ok (.istore 5, 2) := dq_op54 (dq_at (j := 44) dk_29h_1 rfl rfl) (dq_at (j := 45) dk_29h_1 rfl rfl) rfl
theorem dL_law_2073 : decode cL_law 2073 = .ok (.aload_n 2, 1) := dq_op44 (dq_at (j := 46) dk_29h_1 rfl rfl)
theorem dL_law_2074 : decode cL_law 2074 = .ok (.aload_n 0, 1) := dq_op42 (dq_at (j := 47) dk_29h_1 rfl rfl)
theorem dL_law_2075 : decode cL_law 2075 = .ok (.iload 4, 2) := dq_op21 (dq_at (j := 48) dk_29h_1 rfl rfl) (dq_at (j := 49) dk_29h_1 rfl rfl) rfl
theorem dL_law_2077 : decode cL_law 2077 = .ok (.iconst 1, 1) := dq_op4 (dq_at (j := 50) dk_29h_1 rfl rfl)
theorem dL_law_2078 : decode cL_law 2078 = .ok (.iadd, 1) := dq_op96 (dq_at (j := 51) dk_29h_1 rfl rfl)
theorem dL_law_2079 : decode cL_law 2079 = .ok (.iaload, 1) := dq_op46 (dq_at (j := 52) dk_29h_1 rfl rfl)
theorem dL_law_2080 : decode cL_law 2080 = .ok (.invokevirtual 312, 3) := dq_op182 (dq_at (j := 53) dk_29h_1 rfl rfl) (dq_at (j := 54) dk_29h_1 rfl rfl) (dq_at (j := 55) dk_29h_1 rfl rfl) rfl
theorem dL_law_2083 : decode cL_law 2083 = .ok (.istore 6, 2) := dq_op54 (dq_at (j := 56) dk_29h_1 rfl rfl) (dq_at (j := 57) dk_29h_1 rfl rfl) rfl
theorem dL_law_2085 : decode cL_law 2085 = .ok (.goto 155, 3) := dq_op167 (dq_at (j := 58) dk_29h_1 rfl rfl) (dq_at (j := 59) dk_29h_1 rfl rfl) (dq_at (j := 60) dk_29h_1 rfl rfl) (by decide +kernel)
theorem dL_law_2088 : decode cL_law 2088 = .ok (.aload_n 1, 1) := dq_op43 (dq_at (j := 61) dk_29h_1 rfl rfl)
theorem dL_law_2089 : decode cL_law 2089 = .ok (.aload_n 0, 1) := dq_op42 (dq_at (j := 62) dk_29h_1 rfl rfl)
theorem dL_law_2090 : decode cL_law 2090 = .ok (.iload 4, 2) := dq_op21 (dq_at (j := 63) dk_29h_1 rfl rfl) (dq_at (j := 64) dk_29h_1 rfl rfl) rfl
theorem dL_law_2092 : decode cL_law 2092 = .ok (.iconst 1, 1) := dq_op4 (dq_at (j := 65) dk_29h_1 rfl rfl)
theorem dL_law_2093 : decode cL_law 2093 = .ok (.iadd, 1) := dq_op96 (dq_at (j := 66) dk_29h_1 rfl rfl)
theorem dL_law_2094 : decode cL_law 2094 = .ok (.iaload, 1) := dq_op46 (dq_at (j := 67) dk_29h_1 rfl rfl)
theorem dL_law_2095 : decode cL_law 2095 = .ok (.aload_n 0, 1) := dq_op42 (dq_at (j := 68) dk_29h_1 rfl rfl)
theorem dL_law_2096 : decode cL_law 2096 = .ok (.iload 4, 2) := dq_op21 (dq_at (j := 69) dk_29h_1 rfl rfl) (dq_at (j := 70) dk_29h_1 rfl rfl) rfl
theorem dL_law_2098 : decode cL_law 2098 = .ok (.iconst 2, 1) := dq_op5 (dq_at (j := 71) dk_29h_1 rfl rfl)
theorem dL_law_2099 : decode cL_law 2099 = .ok (.iadd, 1) := dq_op96 (dq_at (j := 72) dk_29h_1 rfl rfl)
theorem dL_law_2100 : decode cL_law 2100 = .ok (.iaload, 1) := dq_op46 (dq_at (j := 73) dk_29h_1 rfl rfl)
theorem dL_law_2101 : decode cL_law 2101 = .ok (.ifCond .eq 7, 3) := dq_op153 (dq_at (j := 74) dk_29h_1 rfl rfl) (dq_at (j := 75) dk_29h_1 rfl rfl) (dq_at (j := 76) dk_29h_1 rfl rfl) (by decide +kernel)
theorem dL_law_2104 : decode cL_law 2104 = .ok (.iconst 1, 1) := dq_op4 (dq_at (j := 77) dk_29h_1 rfl rfl)
theorem dL_law_2105 : decode cL_law 2105 = .ok (.goto 4, 3) := dq_op167 (dq_at (j := 78) dk_29h_1 rfl rfl) (dq_at (j := 79) dk_29h_1 rfl rfl) (dq_at (j := 80) dk_29h_1 rfl rfl) (by decide +kernel)
theorem dL_law_2108 : decode cL_law 2108 = .ok (.iconst 0, 1) := dq_op3 (dq_at (j := 81) dk_29h_1 rfl rfl)
theorem dL_law_2109 : decode cL_law 2109 = .ok (.aload_n 3, 1) := dq_op45 (dq_at (j := 82) dk_29h_1 rfl rfl)
theorem dL_law_2110 : decode cL_law 2110 = .ok (.invokestatic 313, 3) := dq_op184 (dq_at (j := 83) dk_29h_1 rfl rfl) (dq_at (j := 84) dk_29h_1 rfl rfl) (dq_at (j := 85) dk_29h_1 rfl rfl) rfl
theorem dL_law_2113 : decode cL_law 2113 = .ok (.istore 5, 2) := dq_op54 (dq_at (j := 86) dk_29h_1 rfl rfl) (dq_at (j := 87) dk_29h_1 rfl rfl) rfl
theorem dL_law_2115 : decode cL_law 2115 = .ok (.aload_n 2, 1) := dq_op44 (dq_at (j := 88) dk_29h_1 rfl rfl)
theorem dL_law_2116 : decode cL_law 2116 = .ok (.aload_n 0, 1) := dq_op42 (dq_at (j := 89) dk_29h_1 rfl rfl)
theorem dL_law_2117 : decode cL_law 2117 = .ok (.iload 4, 2) := dq_op21 (dq_at (j := 90) dk_29h_1 rfl rfl) (dq_at (j := 91) dk_29h_1 rfl rfl) rfl
theorem dL_law_2119 : decode cL_law 2119 = .ok (.iconst 1, 1) := dq_op4 (dq_at (j := 92) dk_29h_1 rfl rfl)
theorem dL_law_2120 : decode cL_law 2120 = .ok (.iadd, 1) := dq_op96 (dq_at (j := 93) dk_29h_1 rfl rfl)
theorem dL_law_2121 : decode cL_law 2121 = .ok (.iaload, 1) := dq_op46 (dq_at (j := 94) dk_29h_1 rfl rfl)
theorem dL_law_2122 : decode cL_law 2122 = .ok (.aload_n 0, 1) := dq_op42 (dq_at (j := 95) dk_29h_1 rfl rfl)
theorem dL_law_2123 : decode cL_law 2123 = .ok (.iload 4, 2) := dq_op21 (dq_at (j := 96) dk_29h_1 rfl rfl) (dq_at (j := 97) dk_29h_1 rfl rfl) rfl
theorem dL_law_2125 : decode cL_law 2125 = .ok (.iconst 2, 1) := dq_op5 (dq_at (j := 98) dk_29h_1 rfl rfl)
theorem dL_law_2126 : decode cL_law 2126 = .ok (.iadd, 1) := dq_op96 (dq_at (j := 99) dk_29h_1 rfl rfl)
theorem dL_law_2127 : decode cL_law 2127 = .ok (.iaload, 1) := dq_op46 (dq_at (j := 100) dk_29h_1 rfl rfl)
theorem dL_law_2128 : decode cL_law 2128 = .ok (.ifCond .eq 7, 3) := dq_op153 (dq_at (j := 101) dk_29h_1 rfl rfl) (dq_at (j := 102) dk_29h_1 rfl rfl) (dq_at (j := 103) dk_29h_1 rfl rfl) (by decide +kernel)
theorem dL_law_2131 : decode cL_law 2131 = .ok (.iconst 1, 1) := dq_op4 (dq_at (j := 104) dk_29h_1 rfl rfl)
theorem dL_law_2132 : decode cL_law 2132 = .ok (.goto 4, 3) := dq_op167 (dq_at (j := 105) dk_29h_1 rfl rfl) (dq_at (j := 106) dk_29h_1 rfl rfl) (dq_at (j := 107) dk_29h_1 rfl rfl) (by decide +kernel)
theorem dL_law_2135 : decode cL_law 2135 = .ok (.iconst 0, 1) := dq_op3 (dq_at (j := 108) dk_29h_1 rfl rfl)
theorem dL_law_2136 : decode cL_law 2136 = .ok (.invokevirtual 315, 3) := dq_op182 (dq_at (j := 109) dk_29h_1 rfl rfl) (dq_at (j := 110) dk_29h_1 rfl rfl) (dq_at (j := 111) dk_29h_1 rfl rfl) rfl
theorem dL_law_2139 : decode cL_law 2139 = .ok (.istore 6, 2) := dq_op54 (dq_at (j := 112) dk_29h_1 rfl rfl) (dq_at (j := 113) dk_29h_1 rfl rfl) rfl
theorem dL_law_2141 : decode cL_law 2141 = .ok (.goto 99, 3) := dq_op167 (dq_at (j := 114) dk_29h_1 rfl rfl) (dq_at (j := 115) dk_29h_1 rfl rfl) (dq_at (j := 116) dk_29h_1 rfl rfl) (by decide +kernel)
theorem dL_law_2144 : decode cL_law 2144 = .ok (.aload_n 1, 1) := dq_op43 (dq_at (j := 117) dk_29h_1 rfl rfl)
theorem dL_law_2145 : decode cL_law 2145 = .ok (.aload_n 0, 1) := dq_op42 (dq_at (j := 118) dk_29h_1 rfl rfl)
theorem dL_law_2146 : decode cL_law 2146 = .ok (.iload 4, 2) := dq_op21 (dq_at (j := 119) dk_29h_1 rfl rfl) (dq_at (j := 120) dk_29h_1 rfl rfl) rfl
theorem dL_law_2148 : decode cL_law 2148 = .ok (.iconst 1, 1) := dq_op4 (dq_at (j := 121) dk_29h_1 rfl rfl)
theorem dL_law_2149 : decode cL_law 2149 = .ok (.iadd, 1) := dq_op96 (dq_at (j := 122) dk_29h_1 rfl rfl)
theorem dL_law_2150 : decode cL_law 2150 = .ok (.iaload, 1) := dq_op46 (dq_at (j := 123) dk_29h_1 rfl rfl)
theorem dL_law_2151 : decode cL_law 2151 = .ok (.aload_n 3, 1) := dq_op45 (dq_at (j := 124) dk_29h_1 rfl rfl)
theorem dL_law_2152 : decode cL_law 2152 = .ok (.invokestatic 316, 3) := dq_op184 (dq_at (j := 125) dk_29h_1 rfl rfl) (dq_at (j := 126) dk_29h_1 rfl rfl) (dq_at (j := 127) dk_29h_1 rfl rfl) rfl
theorem dL_law_2155 : decode cL_law 2155 = .ok (.istore 5, 2) := dq_op54 (dq_at (j := 128) dk_29h_1 rfl rfl) (dq_at (j := 129) dk_29h_1 rfl rfl) rfl
theorem dL_law_2157 : decode cL_law 2157 = .ok (.aload_n 2, 1) := dq_op44 (dq_at (j := 130) dk_29h_1 rfl rfl)
theorem dL_law_2158 : decode cL_law 2158 = .ok (.aload_n 0, 1) := dq_op42 (dq_at (j := 131) dk_29h_1 rfl rfl)
theorem dL_law_2159 : decode cL_law 2159 = .ok (.iload 4, 2) := dq_op21 (dq_at (j := 132) dk_29h_1 rfl rfl) (dq_at (j := 133) dk_29h_1 rfl rfl) rfl
theorem dL_law_2161 : decode cL_law 2161 = .ok (.iconst 1, 1) := dq_op4 (dq_at (j := 134) dk_29h_1 rfl rfl)
theorem dL_law_2162 : decode cL_law 2162 = .ok (.iadd, 1) := dq_op96 (dq_at (j := 135) dk_29h_1 rfl rfl)
theorem dL_law_2163 : decode cL_law 2163 = .ok (.iaload, 1) := dq_op46 (dq_at (j := 136) dk_29h_1 rfl rfl)
theorem dL_law_2164 : decode cL_law 2164 = .ok (.invokevirtual 318, 3) := dq_op182 (dq_at (j := 137) dk_29h_1 rfl rfl) (dq_at (j := 138) dk_29h_1 rfl rfl) (dq_at (j := 139) dk_29h_1 rfl rfl) rfl
theorem dL_law_2167 : decode cL_law 2167 = .ok (.istore 6, 2) := dq_op54 (dq_at (j := 140) dk_29h_1 rfl rfl) (dq_at (j := 141) dk_29h_1 rfl rfl) rfl
theorem dL_law_2169 : decode cL_law 2169 = .ok (.goto 71, 3) := dq_op167 (dq_at (j := 142) dk_29h_1 rfl rfl) (dq_at (j := 143) dk_29h_1 rfl rfl) (dq_at (j := 144) dk_29h_1 rfl rfl) (by decide +kernel)
theorem dL_law_2172 : decode cL_law 2172 = .ok (.aload_n 1, 1) := dq_op43 (dq_at (j := 145) dk_29h_1 rfl rfl)
theorem dL_law_2173 : decode cL_law 2173 = .ok (.aload_n 0, 1) := dq_op42 (dq_at (j := 146) dk_29h_1 rfl rfl)
theorem dL_law_2174 : decode cL_law 2174 = .ok (.iload 4, 2) := dq_op21 (dq_at (j := 147) dk_29h_1 rfl rfl) (dq_at (j := 148) dk_29h_1 rfl rfl) rfl
theorem dL_law_2176 : decode cL_law 2176 = .ok (.iconst 1, 1) := dq_op4 (dq_at (j := 149) dk_29h_1 rfl rfl)
theorem dL_law_2177 : decode cL_law 2177 = .ok (.iadd, 1) := dq_op96 (dq_at (j := 150) dk_29h_1 rfl rfl)
theorem dL_law_2178 : decode cL_law 2178 = .ok (.iaload, 1) := dq_op46 (dq_at (j := 151) dk_29h_1 rfl rfl)
theorem dk_29h_2 : (cL_law.data.toList.drop 2179).take 69 = [45, 184, 1, 63, 54, 5, 44, 42, 21, 4, 4, 96, 46, 182, 1, 65, 54, 6, 167, 0, 43, 43, 182, 1, 66, 87, 44, 182, 1, 70, 87, 167, 0, 30, 43, 182, 1, 71, 87, 44, 182, 1, 75, 87, 167, 0, 17, 43, 182, 1, 76, 44, 182, 1, 80, 148, 153, 0, 5, 3, 172, 132, 4, 4, 167, 247, 88, 4, 172] := by decide +kernel
theorem dL_law_2179 : decode cL_law 2179 = .ok (.aload_n 3, 1) := dq_op45 (dq_at (j := 0) dk_29h_2 rfl rfl)
theorem dL_law_2180 : decode cL_law 2180 = .ok (.invokestatic 319, 3) := dq_op184 (dq_at (j := 1) dk_29h_2 rfl rfl) (dq_at (j := 2) dk_29h_2 rfl rfl) (dq_at (j := 3) dk_29h_2 rfl rfl) rfl
theorem dL_law_2183 : decode cL_law 2183 = .ok (.istore 5, 2) := dq_op54 (dq_at (j := 4) dk_29h_2 rfl rfl) (dq_at (j := 5) dk_29h_2 rfl rfl) rfl
theorem dL_law_2185 : decode cL_law 2185 = .ok (.aload_n 2, 1) := dq_op44 (dq_at (j := 6) dk_29h_2 rfl rfl)
theorem dL_law_2186 : decode cL_law 2186 = .ok (.aload_n 0, 1) := dq_op42 (dq_at (j := 7) dk_29h_2 rfl rfl)
theorem dL_law_2187 : decode cL_law 2187 = .ok (.iload 4, 2) := dq_op21 (dq_at (j := 8) dk_29h_2 rfl rfl) (dq_at (j := 9) dk_29h_2 rfl rfl) rfl
theorem dL_law_2189 : decode cL_law 2189 = .ok (.iconst 1, 1) := dq_op4 (dq_at (j := 10) dk_29h_2 rfl rfl)
theorem dL_law_2190 : decode cL_law 2190 = .ok (.iadd, 1) := dq_op96 (dq_at (j := 11) dk_29h_2 rfl rfl)
theorem dL_law_2191 : decode cL_law 2191 = .ok (.iaload, 1) := dq_op46 (dq_at (j := 12) dk_29h_2 rfl rfl)
theorem dL_law_2192 : decode cL_law 2192 = .ok (.invokevirtual 321, 3) := dq_op182 (dq_at (j := 13) dk_29h_2 rfl rfl) (dq_at (j := 14) dk_29h_2 rfl rfl) (dq_at (j := 15) dk_29h_2 rfl rfl) rfl
theorem dL_law_2195 : decode cL_law 2195 = .ok (.istore 6, 2) := dq_op54 (dq_at (j := 16) dk_29h_2 rfl rfl) (dq_at (j := 17) dk_29h_2 rfl rfl) rfl
theorem dL_law_2197 : decode cL_law 2197 = .ok (.goto 43, 3) := dq_op167 (dq_at (j := 18) dk_29h_2 rfl rfl) (dq_at (j := 19) dk_29h_2 rfl rfl) (dq_at (j := 20) dk_29h_2 rfl rfl) (by decide +kernel)
theorem dL_law_2200 : decode cL_law 2200 = .ok (.aload_n 1, 1) := dq_op43 (dq_at (j := 21) dk_29h_2 rfl rfl)
theorem dL_law_2201 : decode cL_law 2201 = .ok (.invokevirtual 322, 3) := dq_op182 (dq_at (j := 22) dk_29h_2 rfl rfl) (dq_at (j := 23) dk_29h_2 rfl rfl) (dq_at (j := 24) dk_29h_2 rfl rfl) rfl
theorem dL_law_2204 : decode cL_law 2204 = .ok (.pop, 1) := dq_op87 (dq_at (j := 25) dk_29h_2 rfl rfl)
theorem dL_law_2205 : decode cL_law 2205 = .ok (.aload_n 2, 1) := dq_op44 (dq_at (j := 26) dk_29h_2 rfl rfl)
theorem dL_law_2206 : decode cL_law 2206 = .ok (.invokevirtual 326, 3) := dq_op182 (dq_at (j := 27) dk_29h_2 rfl rfl) (dq_at (j := 28) dk_29h_2 rfl rfl) (dq_at (j := 29) dk_29h_2 rfl rfl) rfl
theorem dL_law_2209 : decode cL_law 2209 = .ok (.pop, 1) := dq_op87 (dq_at (j := 30) dk_29h_2 rfl rfl)
theorem dL_law_2210 : decode cL_law 2210 = .ok (.goto 30, 3) := dq_op167 (dq_at (j := 31) dk_29h_2 rfl rfl) (dq_at (j := 32) dk_29h_2 rfl rfl) (dq_at (j := 33) dk_29h_2 rfl rfl) (by decide +kernel)
theorem dL_law_2213 : decode cL_law 2213 = .ok (.aload_n 1, 1) := dq_op43 (dq_at (j := 34) dk_29h_2 rfl rfl)
theorem dL_law_2214 : decode cL_law 2214 = .ok (.invokevirtual 327, 3) := dq_op182 (dq_at (j := 35) dk_29h_2 rfl rfl) (dq_at (j := 36) dk_29h_2 rfl rfl) (dq_at (j := 37) dk_29h_2 rfl rfl) rfl
theorem dL_law_2217 : decode cL_law 2217 = .ok (.pop, 1) := dq_op87 (dq_at (j := 38) dk_29h_2 rfl rfl)
theorem dL_law_2218 : decode cL_law 2218 = .ok (.aload_n 2, 1) := dq_op44 (dq_at (j := 39) dk_29h_2 rfl rfl)
theorem dL_law_2219 : decode cL_law 2219 = .ok (.invokevirtual 331, 3) := dq_op182 (dq_at (j := 40) dk_29h_2 rfl rfl) (dq_at (j := 41) dk_29h_2 rfl rfl) (dq_at (j := 42) dk_29h_2 rfl rfl) rfl
theorem dL_law_2222 : decode cL_law 2222 = .ok (.pop, 1) := dq_op87 (dq_at (j := 43) dk_29h_2 rfl rfl)
theorem dL_law_2223 : decode cL_law 2223 = .ok (.goto 17, 3) := dq_op167 (dq_at (j := 44) dk_29h_2 rfl rfl) (dq_at (j := 45) dk_29h_2 rfl rfl) (dq_at (j := 46) dk_29h_2 rfl rfl) (by decide +kernel)
theorem dL_law_2226 : decode cL_law 2226 = .ok (.aload_n 1, 1) := dq_op43 (dq_at (j := 47) dk_29h_2 rfl rfl)
theorem dL_law_2227 : decode cL_law 2227 = .ok (.invokevirtual 332, 3) := dq_op182 (dq_at (j := 48) dk_29h_2 rfl rfl) (dq_at (j := 49) dk_29h_2 rfl rfl) (dq_at (j := 50) dk_29h_2 rfl rfl) rfl
theorem dL_law_2230 : decode cL_law 2230 = .ok (.aload_n 2, 1) := dq_op44 (dq_at (j := 51) dk_29h_2 rfl rfl)
theorem dL_law_2231 : decode cL_law 2231 = .ok (.invokevirtual 336, 3) := dq_op182 (dq_at (j := 52) dk_29h_2 rfl rfl) (dq_at (j := 53) dk_29h_2 rfl rfl) (dq_at (j := 54) dk_29h_2 rfl rfl) rfl
theorem dL_law_2234 : decode cL_law 2234 = .ok (.lcmp, 1) := dq_op148 (dq_at (j := 55) dk_29h_2 rfl rfl)
theorem dL_law_2235 : decode cL_law 2235 = .ok (.ifCond .eq 5, 3) := dq_op153 (dq_at (j := 56) dk_29h_2 rfl rfl) (dq_at (j := 57) dk_29h_2 rfl rfl) (dq_at (j := 58) dk_29h_2 rfl rfl) (by decide +kernel)
theorem dL_law_2238 : decode cL_law 2238 = .ok (.iconst 0, 1) := dq_op3 (dq_at (j := 59) dk_29h_2 rfl rfl)
theorem dL_law_2239 : decode cL_law 2239 = .ok (.ireturn, 1) := dq_op172 (dq_at (j := 60) dk_29h_2 rfl rfl)
theorem dL_law_2240 : decode cL_law 2240 = .ok (.iinc 4 4, 3) := dq_op132 (dq_at (j := 61) dk_29h_2 rfl rfl) (dq_at (j := 62) dk_29h_2 rfl rfl) (dq_at (j := 63) dk_29h_2 rfl rfl) rfl (by decide +kernel)
theorem dL_law_2243 : decode cL_law 2243 = .ok (.goto (-2216), 3) := dq_op167 (dq_at (j := 64) dk_29h_2 rfl rfl) (dq_at (j := 65) dk_29h_2 rfl rfl) (dq_at (j := 66) dk_29h_2 rfl rfl) (by decide +kernel)
theorem dL_law_2246 : decode cL_law 2246 = .ok (.iconst 1, 1) := dq_op4 (dq_at (j := 67) dk_29h_2 rfl rfl)
theorem dL_law_2247 : decode cL_law 2247 = .ok (.ireturn, 1) := dq_op172 (dq_at (j := 68) dk_29h_2 rfl rfl)
noncomputable def dq_end_29h : Nat := 0
