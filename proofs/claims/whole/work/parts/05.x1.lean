noncomputable def dz_p05_1 : List (Nat × Instr × Nat) := [(0, (.lload_n 1, 1)), (1, (.aload_n 0, 1)), (2, (.getfield 25, 3)), (5, (.land, 1)), (6, (.lconst 0, 1)), (7, (.lcmp, 1)), (8, (.ifCond .eq 7, 3)), (11, (.iconst 1, 1)), (12, (.goto 4, 3)), (15, (.iconst 0, 1)), (16, (.ireturn, 1))]
theorem dy_p05_1 : dz_ok cX1_hasSign dz_p05_1 = true := by decide +kernel
theorem dX1_hasSign_0 : decode cX1_hasSign 0 = .ok (.lload_n 1, 1) := dz_at (i := 0) dy_p05_1 rfl
theorem dX1_hasSign_1 : decode cX1_hasSign 1 = .ok (.aload_n 0, 1) := dz_at (i := 1) dy_p05_1 rfl
theorem dX1_hasSign_2 : decode cX1_hasSign 2 = .ok (.getfield 25, 3) := dz_at (i := 2) dy_p05_1 rfl
theorem dX1_hasSign_5 : decode cX1_hasSign 5 = .ok (.land, 1) := dz_at (i := 3) dy_p05_1 rfl
theorem dX1_hasSign_6 : decode cX1_hasSign 6 = .ok (.lconst 0, 1) := dz_at (i := 4) dy_p05_1 rfl
theorem dX1_hasSign_7 : decode cX1_hasSign 7 = .ok (.lcmp, 1) := dz_at (i := 5) dy_p05_1 rfl
theorem dX1_hasSign_8 : decode cX1_hasSign 8 = .ok (.ifCond .eq 7, 3) := dz_at (i := 6) dy_p05_1 rfl
theorem dX1_hasSign_11 : decode cX1_hasSign 11 = .ok (.iconst 1, 1) := dz_at (i := 7) dy_p05_1 rfl
theorem dX1_hasSign_12 : decode cX1_hasSign 12 = .ok (.goto 4, 3) := dz_at (i := 8) dy_p05_1 rfl
theorem dX1_hasSign_15 : decode cX1_hasSign 15 = .ok (.iconst 0, 1) := dz_at (i := 9) dy_p05_1 rfl
theorem dX1_hasSign_16 : decode cX1_hasSign 16 = .ok (.ireturn, 1) := dz_at (i := 10) dy_p05_1 rfl
noncomputable def o_X1_hasSign (w : Bool) (p0 : Int64) : Bool :=
  if (p0 &&& (wSg w)) = 0 then false
  else true
set_option maxHeartbeats 4000000 in
set_option maxRecDepth 100000 in
theorem k_X1_hasSign (l : Launch) (dC : Nat → ClassId) (dI : Nat → Nat → Nat) (h0 : Nat) (w : Bool) (sz : Nat) (p0 : Int64) : Met l yX1_hasSign wsX1_hasSign ({ frames := 0, cells := 0, slots := 0, locals := 0 }) (va_Pc [.ref h0, .long p0] (xB (dC, dI) xCl [(h0, eW w)] [] sz)) (va_Qi (fun (r : Int32) (_ : Unit) => r = b2i (o_X1_hasSign w p0)) (fun _ _ => True) (aN sz)) 0 0 (aN sz) := by
  refine Met.ofW (cc := cX1_hasSign) (maxL := 3) (ret := (some .boolean)) (by decide +kernel) rfl ?_
  intro p e s m args below meth c s₁ B hml hv
  obtain ⟨rfl, hsz, hP, hK⟩ := hv
  have hx := B.exec
  have hb := B.bytes
  have hr := B.returns
  have hts := atoms_spec (ws := wsX1_hasSign) B.pre
  have hown : s.vm.findClass RX1 = some m.cls := findClass_of_methodNamed B.named
  have hlocks := B.notSynchronized
  subst hsz
  have hA : ∀ q : Nat, s.heap.size ≤ q → aN s.heap.size q := fun _ h => h
  have hS : va_S (aN s.heap.size) s.heap s.heap [] := va_S.rf
  have hP : va_P (dC, dI) xCl [(h0, eW w)] s.heap := hP
  have hl := lv_entry ([.ref h0, .long p0]) (n := 3) (Nat.le_of_ble_eq_true rfl)
  rw [lg_entry_eq]
  generalize (lg_sl ([.ref h0, .long p0]) ++ List.replicate (3 - (lg_sl ([.ref h0, .long p0])).length) Slot.unset).toArray = ls at hl ⊢
  have hl : lv_has ls 3 [(0, .ref h0), (1, .long p0)] := hl
  refine lv_lload_n hx hb dX1_hasSign_0 rfl (lv_at hl 1 rfl) ?_
  refine lv_aload_n hx hb dX1_hasSign_1 rfl (lv_at hl 0 rfl) ?_
  refine va_get (D := (dC, dI)) (ci := 3) (v := .long (wSg w)) (C := RX1) (T := TX1) (N := 7) hx hb hts (by decide +kernel) hown hK hP 0 rfl rfl 4 (by decide +kernel) (hts (.fieldLink RX1 25 "Edgefloats$Width" "signOne" "J") (by decide +kernel)) (fun _ h9 => h9) rfl dX1_hasSign_2 ?_
  refine lv_land hx hb dX1_hasSign_5 ?_
  refine lv_lconst (v := 0) hx hb dX1_hasSign_6 (by decide +kernel) ?_
  refine xc_eq (tgt := 15) hx hb dX1_hasSign_7 dX1_hasSign_8 (by decide +kernel) (fun c_1 => ?_) (fun c_1 => ?_)
  · skip
    refine lv_iconst (v := 0) hx hb dX1_hasSign_15 (by decide +kernel) ?_
    have he : o_X1_hasSign w p0 = false := by (rw [o_X1_hasSign, if_pos c_1]) <;> rfl
    refine W.widen (k := 0) (n := 0) (by omega) (by omega) ?_
    exact W.zret (v := 0) (ty := .boolean) hx hb hr rfl (fun t ht hW => ⟨⟨_, (), rfl, (by (rw [he]) <;> rfl), trivial⟩, hS.F ht⟩) hS.2.2 dX1_hasSign_16
  · skip
    refine lv_iconst (v := 1) hx hb dX1_hasSign_11 (by decide +kernel) ?_
    refine lv_goto (tgt := 16) hx hb dX1_hasSign_12 (by decide +kernel) ?_
    have he : o_X1_hasSign w p0 = true := by (rw [o_X1_hasSign, if_neg c_1]) <;> rfl
    refine W.widen (k := 0) (n := 0) (by omega) (by omega) ?_
    exact W.zret (v := 1) (ty := .boolean) hx hb hr rfl (fun t ht hW => ⟨⟨_, (), rfl, (by (rw [he]) <;> rfl), trivial⟩, hS.F ht⟩) hS.2.2 dX1_hasSign_16
noncomputable def dz_p05_2 : List (Nat × Instr × Nat) := [(0, (.lload_n 1, 1)), (1, (.aload_n 0, 1)), (2, (.getfield 9, 3)), (5, (.lushr, 1)), (6, (.l2i, 1)), (7, (.aload_n 0, 1)), (8, (.getfield 18, 3)), (11, (.iand, 1)), (12, (.ireturn, 1))]
theorem dy_p05_2 : dz_ok cX1_exponent dz_p05_2 = true := by decide +kernel
theorem dX1_exponent_0 : decode cX1_exponent 0 = .ok (.lload_n 1, 1) := dz_at (i := 0) dy_p05_2 rfl
theorem dX1_exponent_1 : decode cX1_exponent 1 = .ok (.aload_n 0, 1) := dz_at (i := 1) dy_p05_2 rfl
theorem dX1_exponent_2 : decode cX1_exponent 2 = .ok (.getfield 9, 3) := dz_at (i := 2) dy_p05_2 rfl
theorem dX1_exponent_5 : decode cX1_exponent 5 = .ok (.lushr, 1) := dz_at (i := 3) dy_p05_2 rfl
theorem dX1_exponent_6 : decode cX1_exponent 6 = .ok (.l2i, 1) := dz_at (i := 4) dy_p05_2 rfl
theorem dX1_exponent_7 : decode cX1_exponent 7 = .ok (.aload_n 0, 1) := dz_at (i := 5) dy_p05_2 rfl
theorem dX1_exponent_8 : decode cX1_exponent 8 = .ok (.getfield 18, 3) := dz_at (i := 6) dy_p05_2 rfl
theorem dX1_exponent_11 : decode cX1_exponent 11 = .ok (.iand, 1) := dz_at (i := 7) dy_p05_2 rfl
theorem dX1_exponent_12 : decode cX1_exponent 12 = .ok (.ireturn, 1) := dz_at (i := 8) dy_p05_2 rfl
noncomputable def o_X1_exponent (w : Bool) (p0 : Int64) : Int32 :=
  (((jLushr p0 (wFd w)).toInt32) &&& (wEo w))
set_option maxHeartbeats 4000000 in
set_option maxRecDepth 100000 in
theorem k_X1_exponent (l : Launch) (dC : Nat → ClassId) (dI : Nat → Nat → Nat) (h0 : Nat) (w : Bool) (sz : Nat) (p0 : Int64) : Met l yX1_exponent wsX1_exponent ({ frames := 0, cells := 0, slots := 0, locals := 0 }) (va_Pc [.ref h0, .long p0] (xB (dC, dI) xCl [(h0, eW w)] [] sz)) (va_Qi (fun (r : Int32) (_ : Unit) => r = (o_X1_exponent w p0)) (fun _ _ => True) (aN sz)) 0 0 (aN sz) := by
  refine Met.ofW (cc := cX1_exponent) (maxL := 3) (ret := (some .int)) (by decide +kernel) rfl ?_
  intro p e s m args below meth c s₁ B hml hv
  obtain ⟨rfl, hsz, hP, hK⟩ := hv
  have hx := B.exec
  have hb := B.bytes
  have hr := B.returns
  have hts := atoms_spec (ws := wsX1_exponent) B.pre
  have hown : s.vm.findClass RX1 = some m.cls := findClass_of_methodNamed B.named
  have hlocks := B.notSynchronized
  subst hsz
  have hA : ∀ q : Nat, s.heap.size ≤ q → aN s.heap.size q := fun _ h => h
  have hS : va_S (aN s.heap.size) s.heap s.heap [] := va_S.rf
  have hP : va_P (dC, dI) xCl [(h0, eW w)] s.heap := hP
  have hl := lv_entry ([.ref h0, .long p0]) (n := 3) (Nat.le_of_ble_eq_true rfl)
  rw [lg_entry_eq]
  generalize (lg_sl ([.ref h0, .long p0]) ++ List.replicate (3 - (lg_sl ([.ref h0, .long p0])).length) Slot.unset).toArray = ls at hl ⊢
  have hl : lv_has ls 3 [(0, .ref h0), (1, .long p0)] := hl
  refine lv_lload_n hx hb dX1_exponent_0 rfl (lv_at hl 1 rfl) ?_
  refine lv_aload_n hx hb dX1_exponent_1 rfl (lv_at hl 0 rfl) ?_
  refine va_get (D := (dC, dI)) (ci := 3) (v := .int (wFd w)) (C := RX1) (T := TX1) (N := 7) hx hb hts (by decide +kernel) hown hK hP 0 rfl rfl 0 (by decide +kernel) (hts (.fieldLink RX1 9 "Edgefloats$Width" "fractionDigits" "I") (by decide +kernel)) (fun _ h9 => h9) rfl dX1_exponent_2 ?_
  refine lv_lushr (v := (jLushr p0 (wFd w))) hx hb dX1_exponent_5 rfl ?_
  refine lv_l2i (v := ((jLushr p0 (wFd w)).toInt32)) hx hb dX1_exponent_6 rfl ?_
  refine lv_aload_n hx hb dX1_exponent_7 rfl (lv_at hl 0 rfl) ?_
  refine va_get (D := (dC, dI)) (ci := 3) (v := .int (wEo w)) (C := RX1) (T := TX1) (N := 7) hx hb hts (by decide +kernel) hown hK hP 0 rfl rfl 1 (by decide +kernel) (hts (.fieldLink RX1 18 "Edgefloats$Width" "exponentOnes" "I") (by decide +kernel)) (fun _ h9 => h9) rfl dX1_exponent_8 ?_
  refine lv_iand hx hb dX1_exponent_11 ?_
  have he : o_X1_exponent w p0 = (((jLushr p0 (wFd w)).toInt32) &&& (wEo w)) := by (rw [o_X1_exponent]) <;> rfl
  refine W.widen (k := 0) (n := 0) (by omega) (by omega) ?_
  exact W.iret (v := (((jLushr p0 (wFd w)).toInt32) &&& (wEo w))) hx hb hr (fun t ht hW => ⟨⟨_, (), rfl, (by (rw [he]) <;> rfl), trivial⟩, hS.F ht⟩) hS.2.2 dX1_exponent_12
noncomputable def dz_p05_3 : List (Nat × Instr × Nat) := [(0, (.lload_n 1, 1)), (1, (.aload_n 0, 1)), (2, (.getfield 21, 3)), (5, (.land, 1)), (6, (.lreturn, 1))]
theorem dy_p05_3 : dz_ok cX1_fraction dz_p05_3 = true := by decide +kernel
theorem dX1_fraction_0 : decode cX1_fraction 0 = .ok (.lload_n 1, 1) := dz_at (i := 0) dy_p05_3 rfl
theorem dX1_fraction_1 : decode cX1_fraction 1 = .ok (.aload_n 0, 1) := dz_at (i := 1) dy_p05_3 rfl
theorem dX1_fraction_2 : decode cX1_fraction 2 = .ok (.getfield 21, 3) := dz_at (i := 2) dy_p05_3 rfl
theorem dX1_fraction_5 : decode cX1_fraction 5 = .ok (.land, 1) := dz_at (i := 3) dy_p05_3 rfl
theorem dX1_fraction_6 : decode cX1_fraction 6 = .ok (.lreturn, 1) := dz_at (i := 4) dy_p05_3 rfl
noncomputable def o_X1_fraction (w : Bool) (p0 : Int64) : Int64 :=
  (p0 &&& (wFo w))
set_option maxHeartbeats 4000000 in
set_option maxRecDepth 100000 in
theorem k_X1_fraction (l : Launch) (dC : Nat → ClassId) (dI : Nat → Nat → Nat) (h0 : Nat) (w : Bool) (sz : Nat) (p0 : Int64) : Met l yX1_fraction wsX1_fraction ({ frames := 0, cells := 0, slots := 0, locals := 0 }) (va_Pc [.ref h0, .long p0] (xB (dC, dI) xCl [(h0, eW w)] [] sz)) (va_Ql (fun (r : Int64) (_ : Unit) => r = (o_X1_fraction w p0)) (fun _ _ => True) (aN sz)) 0 0 (aN sz) := by
  refine Met.ofW (cc := cX1_fraction) (maxL := 3) (ret := (some .long)) (by decide +kernel) rfl ?_
  intro p e s m args below meth c s₁ B hml hv
  obtain ⟨rfl, hsz, hP, hK⟩ := hv
  have hx := B.exec
  have hb := B.bytes
  have hr := B.returns
  have hts := atoms_spec (ws := wsX1_fraction) B.pre
  have hown : s.vm.findClass RX1 = some m.cls := findClass_of_methodNamed B.named
  have hlocks := B.notSynchronized
  subst hsz
  have hA : ∀ q : Nat, s.heap.size ≤ q → aN s.heap.size q := fun _ h => h
  have hS : va_S (aN s.heap.size) s.heap s.heap [] := va_S.rf
  have hP : va_P (dC, dI) xCl [(h0, eW w)] s.heap := hP
  have hl := lv_entry ([.ref h0, .long p0]) (n := 3) (Nat.le_of_ble_eq_true rfl)
  rw [lg_entry_eq]
  generalize (lg_sl ([.ref h0, .long p0]) ++ List.replicate (3 - (lg_sl ([.ref h0, .long p0])).length) Slot.unset).toArray = ls at hl ⊢
  have hl : lv_has ls 3 [(0, .ref h0), (1, .long p0)] := hl
  refine lv_lload_n hx hb dX1_fraction_0 rfl (lv_at hl 1 rfl) ?_
  refine lv_aload_n hx hb dX1_fraction_1 rfl (lv_at hl 0 rfl) ?_
  refine va_get (D := (dC, dI)) (ci := 3) (v := .long (wFo w)) (C := RX1) (T := TX1) (N := 7) hx hb hts (by decide +kernel) hown hK hP 0 rfl rfl 2 (by decide +kernel) (hts (.fieldLink RX1 21 "Edgefloats$Width" "fractionOnes" "J") (by decide +kernel)) (fun _ h9 => h9) rfl dX1_fraction_2 ?_
  refine lv_land hx hb dX1_fraction_5 ?_
  have he : o_X1_fraction w p0 = (p0 &&& (wFo w)) := by (rw [o_X1_fraction]) <;> rfl
  refine W.widen (k := 0) (n := 0) (by omega) (by omega) ?_
  exact W.lret (v := (p0 &&& (wFo w))) hx hb hr (fun t ht hW => ⟨⟨_, (), rfl, (by (rw [he]) <;> rfl), trivial⟩, hS.F ht⟩) hS.2.2 dX1_fraction_6
noncomputable def dz_p05_4 : List (Nat × Instr × Nat) := [(0, (.lload_n 1, 1)), (1, (.aload_n 0, 1)), (2, (.getfield 28, 3)), (5, (.land, 1)), (6, (.lconst 0, 1)), (7, (.lcmp, 1)), (8, (.ifCond .ne 7, 3)), (11, (.iconst 1, 1)), (12, (.goto 4, 3)), (15, (.iconst 0, 1)), (16, (.ireturn, 1))]
theorem dy_p05_4 : dz_ok cX1_isZero dz_p05_4 = true := by decide +kernel
theorem dX1_isZero_0 : decode cX1_isZero 0 = .ok (.lload_n 1, 1) := dz_at (i := 0) dy_p05_4 rfl
theorem dX1_isZero_1 : decode cX1_isZero 1 = .ok (.aload_n 0, 1) := dz_at (i := 1) dy_p05_4 rfl
theorem dX1_isZero_2 : decode cX1_isZero 2 = .ok (.getfield 28, 3) := dz_at (i := 2) dy_p05_4 rfl
theorem dX1_isZero_5 : decode cX1_isZero 5 = .ok (.land, 1) := dz_at (i := 3) dy_p05_4 rfl
theorem dX1_isZero_6 : decode cX1_isZero 6 = .ok (.lconst 0, 1) := dz_at (i := 4) dy_p05_4 rfl
theorem dX1_isZero_7 : decode cX1_isZero 7 = .ok (.lcmp, 1) := dz_at (i := 5) dy_p05_4 rfl
theorem dX1_isZero_8 : decode cX1_isZero 8 = .ok (.ifCond .ne 7, 3) := dz_at (i := 6) dy_p05_4 rfl
theorem dX1_isZero_11 : decode cX1_isZero 11 = .ok (.iconst 1, 1) := dz_at (i := 7) dy_p05_4 rfl
theorem dX1_isZero_12 : decode cX1_isZero 12 = .ok (.goto 4, 3) := dz_at (i := 8) dy_p05_4 rfl
theorem dX1_isZero_15 : decode cX1_isZero 15 = .ok (.iconst 0, 1) := dz_at (i := 9) dy_p05_4 rfl
theorem dX1_isZero_16 : decode cX1_isZero 16 = .ok (.ireturn, 1) := dz_at (i := 10) dy_p05_4 rfl
noncomputable def o_X1_isZero (w : Bool) (p0 : Int64) : Bool :=
  if (p0 &&& (wSo w)) = 0 then true
  else false
set_option maxHeartbeats 4000000 in
set_option maxRecDepth 100000 in
theorem k_X1_isZero (l : Launch) (dC : Nat → ClassId) (dI : Nat → Nat → Nat) (h0 : Nat) (w : Bool) (sz : Nat) (p0 : Int64) : Met l yX1_isZero wsX1_isZero ({ frames := 0, cells := 0, slots := 0, locals := 0 }) (va_Pc [.ref h0, .long p0] (xB (dC, dI) xCl [(h0, eW w)] [] sz)) (va_Qi (fun (r : Int32) (_ : Unit) => r = b2i (o_X1_isZero w p0)) (fun _ _ => True) (aN sz)) 0 0 (aN sz) := by
  refine Met.ofW (cc := cX1_isZero) (maxL := 3) (ret := (some .boolean)) (by decide +kernel) rfl ?_
  intro p e s m args below meth c s₁ B hml hv
  obtain ⟨rfl, hsz, hP, hK⟩ := hv
  have hx := B.exec
  have hb := B.bytes
  have hr := B.returns
  have hts := atoms_spec (ws := wsX1_isZero) B.pre
  have hown : s.vm.findClass RX1 = some m.cls := findClass_of_methodNamed B.named
  have hlocks := B.notSynchronized
  subst hsz
  have hA : ∀ q : Nat, s.heap.size ≤ q → aN s.heap.size q := fun _ h => h
  have hS : va_S (aN s.heap.size) s.heap s.heap [] := va_S.rf
  have hP : va_P (dC, dI) xCl [(h0, eW w)] s.heap := hP
  have hl := lv_entry ([.ref h0, .long p0]) (n := 3) (Nat.le_of_ble_eq_true rfl)
  rw [lg_entry_eq]
  generalize (lg_sl ([.ref h0, .long p0]) ++ List.replicate (3 - (lg_sl ([.ref h0, .long p0])).length) Slot.unset).toArray = ls at hl ⊢
  have hl : lv_has ls 3 [(0, .ref h0), (1, .long p0)] := hl
  refine lv_lload_n hx hb dX1_isZero_0 rfl (lv_at hl 1 rfl) ?_
  refine lv_aload_n hx hb dX1_isZero_1 rfl (lv_at hl 0 rfl) ?_
  refine va_get (D := (dC, dI)) (ci := 3) (v := .long (wSo w)) (C := RX1) (T := TX1) (N := 7) hx hb hts (by decide +kernel) hown hK hP 0 rfl rfl 3 (by decide +kernel) (hts (.fieldLink RX1 28 "Edgefloats$Width" "sizeOnes" "J") (by decide +kernel)) (fun _ h9 => h9) rfl dX1_isZero_2 ?_
  refine lv_land hx hb dX1_isZero_5 ?_
  refine lv_lconst (v := 0) hx hb dX1_isZero_6 (by decide +kernel) ?_
  refine xc_ne (tgt := 15) hx hb dX1_isZero_7 dX1_isZero_8 (by decide +kernel) (fun c_1 => ?_) (fun c_1 => ?_)
  · skip
    refine lv_iconst (v := 0) hx hb dX1_isZero_15 (by decide +kernel) ?_
    have he : o_X1_isZero w p0 = false := by (rw [o_X1_isZero, if_neg c_1]) <;> rfl
    refine W.widen (k := 0) (n := 0) (by omega) (by omega) ?_
    exact W.zret (v := 0) (ty := .boolean) hx hb hr rfl (fun t ht hW => ⟨⟨_, (), rfl, (by (rw [he]) <;> rfl), trivial⟩, hS.F ht⟩) hS.2.2 dX1_isZero_16
  · skip
    refine lv_iconst (v := 1) hx hb dX1_isZero_11 (by decide +kernel) ?_
    refine lv_goto (tgt := 16) hx hb dX1_isZero_12 (by decide +kernel) ?_
    have he : o_X1_isZero w p0 = true := by (rw [o_X1_isZero, if_pos c_1]) <;> rfl
    refine W.widen (k := 0) (n := 0) (by omega) (by omega) ?_
    exact W.zret (v := 1) (ty := .boolean) hx hb hr rfl (fun t ht hW => ⟨⟨_, (), rfl, (by (rw [he]) <;> rfl), trivial⟩, hS.F ht⟩) hS.2.2 dX1_isZero_16
theorem cl_X1_isEndless_1 : ∀ w ∈ [.fieldLink RX1 18 "Edgefloats$Width" "exponentOnes" "I", .methodLink RX1 34 yX1_exponent, .instanceMethod yX1_exponent, .selects RX1 yX1_exponent yX1_exponent, .initialized RX1, .code yX1_exponent cX1_exponent 3 (some .int), .fieldLink RX1 9 "Edgefloats$Width" "fractionDigits" "I", .methodLink RX1 38 yX1_fraction, .instanceMethod yX1_fraction, .selects RX1 yX1_fraction yX1_fraction, .code yX1_fraction cX1_fraction 3 (some .long), .fieldLink RX1 21 "Edgefloats$Width" "fractionOnes" "J"], w ∈ wsX1_isEndless := fun _ h => (List.mem_cons_of_mem _ (List.mem_append_left _ h))
theorem cl_X1_isEndless_2 : ∀ w ∈ wsX10, w ∈ wsX1_isEndless := fun _ h => (List.mem_cons_of_mem _ (List.mem_append_right _ h))
set_option maxRecDepth 20000 in
theorem ggX1_isEndless_X1_exponent : GoodIn wsX1_isEndless wsX1_exponent := goodIn_sub (List.forall_mem_cons.mpr ⟨(cl_X1_isEndless_1 _ (List.mem_of_getElem? (i := 5) rfl)), fun w h => (List.mem_append.mp h).elim ((List.forall_mem_cons.mpr ⟨(cl_X1_isEndless_1 _ (List.mem_of_getElem? (i := 6) rfl)), List.forall_mem_cons.mpr ⟨(cl_X1_isEndless_1 _ (List.mem_of_getElem? (i := 0) rfl)), fun _ h => absurd h List.not_mem_nil⟩⟩) w) ((cl_X1_isEndless_2) w)⟩) (by decide +kernel)
set_option maxRecDepth 20000 in
theorem gX1_isEndless_X1_exponent : GoodIn wsX1_isEndless (wsV RX1 34 RX1 yX1_exponent wsX1_exponent) := goodIn_app (goodIn_sub (List.forall_mem_cons.mpr ⟨(cl_X1_isEndless_1 _ (List.mem_of_getElem? (i := 1) rfl)), List.forall_mem_cons.mpr ⟨(cl_X1_isEndless_1 _ (List.mem_of_getElem? (i := 2) rfl)), List.forall_mem_cons.mpr ⟨(cl_X1_isEndless_1 _ (List.mem_of_getElem? (i := 3) rfl)), List.forall_mem_cons.mpr ⟨(cl_X1_isEndless_1 _ (List.mem_of_getElem? (i := 4) rfl)), fun _ h => absurd h List.not_mem_nil⟩⟩⟩⟩) (by decide +kernel)) ggX1_isEndless_X1_exponent
set_option maxRecDepth 20000 in
theorem ggX1_isEndless_X1_fraction : GoodIn wsX1_isEndless wsX1_fraction := goodIn_sub (List.forall_mem_cons.mpr ⟨(cl_X1_isEndless_1 _ (List.mem_of_getElem? (i := 10) rfl)), fun w h => (List.mem_append.mp h).elim ((List.forall_mem_cons.mpr ⟨(cl_X1_isEndless_1 _ (List.mem_of_getElem? (i := 11) rfl)), fun _ h => absurd h List.not_mem_nil⟩) w) ((cl_X1_isEndless_2) w)⟩) (by decide +kernel)
set_option maxRecDepth 20000 in
theorem gX1_isEndless_X1_fraction : GoodIn wsX1_isEndless (wsV RX1 38 RX1 yX1_fraction wsX1_fraction) := goodIn_app (goodIn_sub (List.forall_mem_cons.mpr ⟨(cl_X1_isEndless_1 _ (List.mem_of_getElem? (i := 7) rfl)), List.forall_mem_cons.mpr ⟨(cl_X1_isEndless_1 _ (List.mem_of_getElem? (i := 8) rfl)), List.forall_mem_cons.mpr ⟨(cl_X1_isEndless_1 _ (List.mem_of_getElem? (i := 9) rfl)), List.forall_mem_cons.mpr ⟨(cl_X1_isEndless_1 _ (List.mem_of_getElem? (i := 4) rfl)), fun _ h => absurd h List.not_mem_nil⟩⟩⟩⟩) (by decide +kernel)) ggX1_isEndless_X1_fraction
noncomputable def dz_p05_5 : List (Nat × Instr × Nat) := [(0, (.aload_n 0, 1)), (1, (.lload_n 1, 1)), (2, (.invokevirtual 34, 3)), (5, (.aload_n 0, 1)), (6, (.getfield 18, 3)), (9, (.if_icmp .ne 17, 3)), (12, (.aload_n 0, 1)), (13, (.lload_n 1, 1)), (14, (.invokevirtual 38, 3)), (17, (.lconst 0, 1)), (18, (.lcmp, 1)), (19, (.ifCond .ne 7, 3)), (22, (.iconst 1, 1)), (23, (.goto 4, 3)), (26, (.iconst 0, 1)), (27, (.ireturn, 1))]
theorem dy_p05_5 : dz_ok cX1_isEndless dz_p05_5 = true := by decide +kernel
theorem dX1_isEndless_0 : decode cX1_isEndless 0 = .ok (.aload_n 0, 1) := dz_at (i := 0) dy_p05_5 rfl
theorem dX1_isEndless_1 : decode cX1_isEndless 1 = .ok (.lload_n 1, 1) := dz_at (i := 1) dy_p05_5 rfl
theorem dX1_isEndless_2 : decode cX1_isEndless 2 = .ok (.invokevirtual 34, 3) := dz_at (i := 2) dy_p05_5 rfl
theorem dX1_isEndless_5 : decode cX1_isEndless 5 = .ok (.aload_n 0, 1) := dz_at (i := 3) dy_p05_5 rfl
theorem dX1_isEndless_6 : decode cX1_isEndless 6 = .ok (.getfield 18, 3) := dz_at (i := 4) dy_p05_5 rfl
theorem dX1_isEndless_9 : decode cX1_isEndless 9 = .ok (.if_icmp .ne 17, 3) := dz_at (i := 5) dy_p05_5 rfl
theorem dX1_isEndless_12 : decode cX1_isEndless 12 = .ok (.aload_n 0, 1) := dz_at (i := 6) dy_p05_5 rfl
theorem dX1_isEndless_13 : decode cX1_isEndless 13 = .ok (.lload_n 1, 1) := dz_at (i := 7) dy_p05_5 rfl
theorem dX1_isEndless_14 : decode cX1_isEndless 14 = .ok (.invokevirtual 38, 3) := dz_at (i := 8) dy_p05_5 rfl
theorem dX1_isEndless_17 : decode cX1_isEndless 17 = .ok (.lconst 0, 1) := dz_at (i := 9) dy_p05_5 rfl
theorem dX1_isEndless_18 : decode cX1_isEndless 18 = .ok (.lcmp, 1) := dz_at (i := 10) dy_p05_5 rfl
theorem dX1_isEndless_19 : decode cX1_isEndless 19 = .ok (.ifCond .ne 7, 3) := dz_at (i := 11) dy_p05_5 rfl
theorem dX1_isEndless_22 : decode cX1_isEndless 22 = .ok (.iconst 1, 1) := dz_at (i := 12) dy_p05_5 rfl
theorem dX1_isEndless_23 : decode cX1_isEndless 23 = .ok (.goto 4, 3) := dz_at (i := 13) dy_p05_5 rfl
theorem dX1_isEndless_26 : decode cX1_isEndless 26 = .ok (.iconst 0, 1) := dz_at (i := 14) dy_p05_5 rfl
theorem dX1_isEndless_27 : decode cX1_isEndless 27 = .ok (.ireturn, 1) := dz_at (i := 15) dy_p05_5 rfl
noncomputable def o_X1_isEndless (w : Bool) (p0 : Int64) : Bool :=
  if (o_X1_exponent w p0) = (wEo w) then (if (o_X1_fraction w p0) = 0 then true
    else false)
  else false
set_option maxHeartbeats 4000000 in
set_option maxRecDepth 100000 in
theorem k_X1_isEndless (l : Launch) (dC : Nat → ClassId) (dI : Nat → Nat → Nat) (h0 : Nat) (w : Bool) (sz : Nat) (p0 : Int64) : Met l yX1_isEndless wsX1_isEndless ({ frames := 1, cells := 0, slots := 0, locals := 22 }) (va_Pc [.ref h0, .long p0] (xB (dC, dI) xCl [(h0, eW w)] [] sz)) (va_Qi (fun (r : Int32) (_ : Unit) => r = b2i (o_X1_isEndless w p0)) (fun _ _ => True) (aN sz)) 0 0 (aN sz) := by
  refine Met.ofW (cc := cX1_isEndless) (maxL := 3) (ret := (some .boolean)) (by decide +kernel) rfl ?_
  intro p e s m args below meth c s₁ B hml hv
  obtain ⟨rfl, hsz, hP, hK⟩ := hv
  have hx := B.exec
  have hb := B.bytes
  have hr := B.returns
  have hts := atoms_spec (ws := wsX1_isEndless) B.pre
  have hown : s.vm.findClass RX1 = some m.cls := findClass_of_methodNamed B.named
  have hlocks := B.notSynchronized
  subst hsz
  have hA : ∀ q : Nat, s.heap.size ≤ q → aN s.heap.size q := fun _ h => h
  have hS : va_S (aN s.heap.size) s.heap s.heap [] := va_S.rf
  have hP : va_P (dC, dI) xCl [(h0, eW w)] s.heap := hP
  have hl := lv_entry ([.ref h0, .long p0]) (n := 3) (Nat.le_of_ble_eq_true rfl)
  rw [lg_entry_eq]
  generalize (lg_sl ([.ref h0, .long p0]) ++ List.replicate (3 - (lg_sl ([.ref h0, .long p0])).length) Slot.unset).toArray = ls at hl ⊢
  have hl : lv_has ls 3 [(0, .ref h0), (1, .long p0)] := hl
  refine lv_aload_n hx hb dX1_isEndless_0 rfl (lv_at hl 0 rfl) ?_
  refine lv_lload_n hx hb dX1_isEndless_1 rfl (lv_at hl 1 rfl) ?_
  have hPc := hP.sub (ws' := [(h0, eW w)]) [0] rfl
  have hKc := hK.sub (tys' := []) [] rfl
  refine va_calli (va_runV (As := [.long p0]) (rest := []) ⟨hx, hb, hml, hown, hts⟩ (k_X1_exponent l dC dI h0 w s.heap.size p0) (cwV 1 hts gX1_isEndless_X1_exponent rfl rfl rfl (by decide +kernel) ⟨Nat.le_of_ble_eq_true rfl, Nat.le_of_ble_eq_true rfl⟩) (xB.preV hKc hPc (ci := 3) (q0 := 0) rfl rfl) rfl rfl hl.1 rfl (lv_room (Nat.le_of_ble_eq_true rfl)) dX1_isEndless_2 ⟨Nat.le_of_ble_eq_true rfl, Nat.le_of_ble_eq_true rfl⟩) hS xA_old (fun q h => hA q (Nat.le_trans hS.1 h)) (fun r_1 u t H locs ht hvm hw hB hz hk hS => ?_)
  replace hw : r_1 = (o_X1_exponent w p0) := hw
  subst r_1
  have hP := xP_keep hP hk
  refine lv_aload_n hx hb dX1_isEndless_5 rfl (lv_at hl 0 rfl) ?_
  refine va_get (D := (dC, dI)) (ci := 3) (v := .int (wEo w)) (C := RX1) (T := TX1) (N := 7) hx hb hts (by decide +kernel) hown hK hP 0 rfl rfl 1 (by decide +kernel) (hts (.fieldLink RX1 18 "Edgefloats$Width" "exponentOnes" "I") (by decide +kernel)) (fun _ h9 => h9) rfl dX1_isEndless_6 ?_
  refine lv_icmp_ne (tgt := 26) hx hb dX1_isEndless_9 (by decide +kernel) (fun c_2 => ?_) (fun c_2 => ?_)
  · skip
    refine lv_iconst (v := 0) hx hb dX1_isEndless_26 (by decide +kernel) ?_
    have he : o_X1_isEndless w p0 = false := by (rw [o_X1_isEndless, if_neg c_2]) <;> rfl
    refine W.widen (k := 0) (n := 0) (by omega) (by omega) ?_
    exact W.zret (v := 0) (ty := .boolean) hx hb hr rfl (fun t ht hW => ⟨⟨_, (), rfl, (by (rw [he]) <;> rfl), trivial⟩, hS.F ht⟩) hS.2.2 dX1_isEndless_27
  · skip
    refine lv_aload_n hx hb dX1_isEndless_12 rfl (lv_at hl 0 rfl) ?_
    refine lv_lload_n hx hb dX1_isEndless_13 rfl (lv_at hl 1 rfl) ?_
    have hPc := hP.sub (ws' := [(h0, eW w)]) [0] rfl
    have hKc := hK.sub (tys' := []) [] rfl
    refine va_calll (va_runV (As := [.long p0]) (rest := []) ⟨hx, hb, hml, hown, hts⟩ (k_X1_fraction l dC dI h0 w H.size p0) (cwV 1 hts gX1_isEndless_X1_fraction rfl rfl rfl (by decide +kernel) ⟨Nat.le_of_ble_eq_true rfl, Nat.le_of_ble_eq_true rfl⟩) (xB.preV hKc hPc (ci := 3) (q0 := 0) rfl rfl) rfl rfl hl.1 rfl (lv_room (Nat.le_of_ble_eq_true rfl)) dX1_isEndless_14 ⟨Nat.le_of_ble_eq_true rfl, Nat.le_of_ble_eq_true rfl⟩) hS xA_old (fun q h => hA q (Nat.le_trans hS.1 h)) (fun r_3 u t H locs ht hvm hw hB hz hk hS => ?_)
    replace hw : r_3 = (o_X1_fraction w p0) := hw
    subst r_3
    have hP := xP_keep hP hk
    refine lv_lconst (v := 0) hx hb dX1_isEndless_17 (by decide +kernel) ?_
    refine xc_ne (tgt := 26) hx hb dX1_isEndless_18 dX1_isEndless_19 (by decide +kernel) (fun c_4 => ?_) (fun c_4 => ?_)
    · skip
      refine lv_iconst (v := 0) hx hb dX1_isEndless_26 (by decide +kernel) ?_
      have he : o_X1_isEndless w p0 = false := by (rw [o_X1_isEndless, if_pos c_2, if_neg c_4]) <;> rfl
      refine W.widen (k := 0) (n := 0) (by omega) (by omega) ?_
      exact W.zret (v := 0) (ty := .boolean) hx hb hr rfl (fun t ht hW => ⟨⟨_, (), rfl, (by (rw [he]) <;> rfl), trivial⟩, hS.F ht⟩) hS.2.2 dX1_isEndless_27
    · skip
      refine lv_iconst (v := 1) hx hb dX1_isEndless_22 (by decide +kernel) ?_
      refine lv_goto (tgt := 27) hx hb dX1_isEndless_23 (by decide +kernel) ?_
      have he : o_X1_isEndless w p0 = true := by (rw [o_X1_isEndless, if_pos c_2, if_pos c_4]) <;> rfl
      refine W.widen (k := 0) (n := 0) (by omega) (by omega) ?_
      exact W.zret (v := 1) (ty := .boolean) hx hb hr rfl (fun t ht hW => ⟨⟨_, (), rfl, (by (rw [he]) <;> rfl), trivial⟩, hS.F ht⟩) hS.2.2 dX1_isEndless_27
theorem cl_X1_isSpoiled_1 : ∀ w ∈ [.fieldLink RX1 18 "Edgefloats$Width" "exponentOnes" "I", .methodLink RX1 34 yX1_exponent, .instanceMethod yX1_exponent, .selects RX1 yX1_exponent yX1_exponent, .initialized RX1, .code yX1_exponent cX1_exponent 3 (some .int), .fieldLink RX1 9 "Edgefloats$Width" "fractionDigits" "I", .methodLink RX1 38 yX1_fraction, .instanceMethod yX1_fraction, .selects RX1 yX1_fraction yX1_fraction, .code yX1_fraction cX1_fraction 3 (some .long), .fieldLink RX1 21 "Edgefloats$Width" "fractionOnes" "J"], w ∈ wsX1_isSpoiled := fun _ h => (List.mem_cons_of_mem _ (List.mem_append_left _ h))
theorem cl_X1_isSpoiled_2 : ∀ w ∈ wsX10, w ∈ wsX1_isSpoiled := fun _ h => (List.mem_cons_of_mem _ (List.mem_append_right _ h))
set_option maxRecDepth 20000 in
theorem ggX1_isSpoiled_X1_exponent : GoodIn wsX1_isSpoiled wsX1_exponent := goodIn_sub (List.forall_mem_cons.mpr ⟨(cl_X1_isSpoiled_1 _ (List.mem_of_getElem? (i := 5) rfl)), fun w h => (List.mem_append.mp h).elim ((List.forall_mem_cons.mpr ⟨(cl_X1_isSpoiled_1 _ (List.mem_of_getElem? (i := 6) rfl)), List.forall_mem_cons.mpr ⟨(cl_X1_isSpoiled_1 _ (List.mem_of_getElem? (i := 0) rfl)), fun _ h => absurd h List.not_mem_nil⟩⟩) w) ((cl_X1_isSpoiled_2) w)⟩) (by decide +kernel)
set_option maxRecDepth 20000 in
theorem gX1_isSpoiled_X1_exponent : GoodIn wsX1_isSpoiled (wsV RX1 34 RX1 yX1_exponent wsX1_exponent) := goodIn_app (goodIn_sub (List.forall_mem_cons.mpr ⟨(cl_X1_isSpoiled_1 _ (List.mem_of_getElem? (i := 1) rfl)), List.forall_mem_cons.mpr ⟨(cl_X1_isSpoiled_1 _ (List.mem_of_getElem? (i := 2) rfl)), List.forall_mem_cons.mpr ⟨(cl_X1_isSpoiled_1 _ (List.mem_of_getElem? (i := 3) rfl)), List.forall_mem_cons.mpr ⟨(cl_X1_isSpoiled_1 _ (List.mem_of_getElem? (i := 4) rfl)), fun _ h => absurd h List.not_mem_nil⟩⟩⟩⟩) (by decide +kernel)) ggX1_isSpoiled_X1_exponent
set_option maxRecDepth 20000 in
theorem ggX1_isSpoiled_X1_fraction : GoodIn wsX1_isSpoiled wsX1_fraction := goodIn_sub (List.forall_mem_cons.mpr ⟨(cl_X1_isSpoiled_1 _ (List.mem_of_getElem? (i := 10) rfl)), fun w h => (List.mem_append.mp h).elim ((List.forall_mem_cons.mpr ⟨(cl_X1_isSpoiled_1 _ (List.mem_of_getElem? (i := 11) rfl)), fun _ h => absurd h List.not_mem_nil⟩) w) ((cl_X1_isSpoiled_2) w)⟩) (by decide +kernel)
set_option maxRecDepth 20000 in
theorem gX1_isSpoiled_X1_fraction : GoodIn wsX1_isSpoiled (wsV RX1 38 RX1 yX1_fraction wsX1_fraction) := goodIn_app (goodIn_sub (List.forall_mem_cons.mpr ⟨(cl_X1_isSpoiled_1 _ (List.mem_of_getElem? (i := 7) rfl)), List.forall_mem_cons.mpr ⟨(cl_X1_isSpoiled_1 _ (List.mem_of_getElem? (i := 8) rfl)), List.forall_mem_cons.mpr ⟨(cl_X1_isSpoiled_1 _ (List.mem_of_getElem? (i := 9) rfl)), List.forall_mem_cons.mpr ⟨(cl_X1_isSpoiled_1 _ (List.mem_of_getElem? (i := 4) rfl)), fun _ h => absurd h List.not_mem_nil⟩⟩⟩⟩) (by decide +kernel)) ggX1_isSpoiled_X1_fraction
noncomputable def dz_p05_6 : List (Nat × Instr × Nat) := [(0, (.aload_n 0, 1)), (1, (.lload_n 1, 1)), (2, (.invokevirtual 34, 3)), (5, (.aload_n 0, 1)), (6, (.getfield 18, 3)), (9, (.if_icmp .ne 17, 3)), (12, (.aload_n 0, 1)), (13, (.lload_n 1, 1)), (14, (.invokevirtual 38, 3)), (17, (.lconst 0, 1)), (18, (.lcmp, 1)), (19, (.ifCond .eq 7, 3)), (22, (.iconst 1, 1)), (23, (.goto 4, 3)), (26, (.iconst 0, 1)), (27, (.ireturn, 1))]
theorem dy_p05_6 : dz_ok cX1_isSpoiled dz_p05_6 = true := by decide +kernel
theorem dX1_isSpoiled_0 : decode cX1_isSpoiled 0 = .ok (.aload_n 0, 1) := dz_at (i := 0) dy_p05_6 rfl
theorem dX1_isSpoiled_1 : decode cX1_isSpoiled 1 = .ok (.lload_n 1, 1) := dz_at (i := 1) dy_p05_6 rfl
theorem dX1_isSpoiled_2 : decode cX1_isSpoiled 2 = .ok (.invokevirtual 34, 3) := dz_at (i := 2) dy_p05_6 rfl
theorem dX1_isSpoiled_5 : decode cX1_isSpoiled 5 = .ok (.aload_n 0, 1) := dz_at (i := 3) dy_p05_6 rfl
theorem dX1_isSpoiled_6 : decode cX1_isSpoiled 6 = .ok (.getfield 18, 3) := dz_at (i := 4) dy_p05_6 rfl
theorem dX1_isSpoiled_9 : decode cX1_isSpoiled 9 = .ok (.if_icmp .ne 17, 3) := dz_at (i := 5) dy_p05_6 rfl
theorem dX1_isSpoiled_12 : decode cX1_isSpoiled 12 = .ok (.aload_n 0, 1) := dz_at (i := 6) dy_p05_6 rfl
theorem dX1_isSpoiled_13 : decode cX1_isSpoiled 13 = .ok (.lload_n 1, 1) := dz_at (i := 7) dy_p05_6 rfl
theorem dX1_isSpoiled_14 : decode cX1_isSpoiled 14 = .ok (.invokevirtual 38, 3) := dz_at (i := 8) dy_p05_6 rfl
theorem dX1_isSpoiled_17 : decode cX1_isSpoiled 17 = .ok (.lconst 0, 1) := dz_at (i := 9) dy_p05_6 rfl
theorem dX1_isSpoiled_18 : decode cX1_isSpoiled 18 = .ok (.lcmp, 1) := dz_at (i := 10) dy_p05_6 rfl
theorem dX1_isSpoiled_19 : decode cX1_isSpoiled 19 = .ok (.ifCond .eq 7, 3) := dz_at (i := 11) dy_p05_6 rfl
theorem dX1_isSpoiled_22 : decode cX1_isSpoiled 22 = .ok (.iconst 1, 1) := dz_at (i := 12) dy_p05_6 rfl
theorem dX1_isSpoiled_23 : decode cX1_isSpoiled 23 = .ok (.goto 4, 3) := dz_at (i := 13) dy_p05_6 rfl
theorem dX1_isSpoiled_26 : decode cX1_isSpoiled 26 = .ok (.iconst 0, 1) := dz_at (i := 14) dy_p05_6 rfl
theorem dX1_isSpoiled_27 : decode cX1_isSpoiled 27 = .ok (.ireturn, 1) := dz_at (i := 15) dy_p05_6 rfl
noncomputable def o_X1_isSpoiled (w : Bool) (p0 : Int64) : Bool :=
  if (o_X1_exponent w p0) = (wEo w) then (if (o_X1_fraction w p0) = 0 then false
    else true)
  else false
set_option maxHeartbeats 4000000 in
set_option maxRecDepth 100000 in
theorem k_X1_isSpoiled (l : Launch) (dC : Nat → ClassId) (dI : Nat → Nat → Nat) (h0 : Nat) (w : Bool) (sz : Nat) (p0 : Int64) : Met l yX1_isSpoiled wsX1_isSpoiled ({ frames := 1, cells := 0, slots := 0, locals := 22 }) (va_Pc [.ref h0, .long p0] (xB (dC, dI) xCl [(h0, eW w)] [] sz)) (va_Qi (fun (r : Int32) (_ : Unit) => r = b2i (o_X1_isSpoiled w p0)) (fun _ _ => True) (aN sz)) 0 0 (aN sz) := by
  refine Met.ofW (cc := cX1_isSpoiled) (maxL := 3) (ret := (some .boolean)) (by decide +kernel) rfl ?_
  intro p e s m args below meth c s₁ B hml hv
  obtain ⟨rfl, hsz, hP, hK⟩ := hv
  have hx := B.exec
  have hb := B.bytes
  have hr := B.returns
  have hts := atoms_spec (ws := wsX1_isSpoiled) B.pre
  have hown : s.vm.findClass RX1 = some m.cls := findClass_of_methodNamed B.named
  have hlocks := B.notSynchronized
  subst hsz
  have hA : ∀ q : Nat, s.heap.size ≤ q → aN s.heap.size q := fun _ h => h
  have hS : va_S (aN s.heap.size) s.heap s.heap [] := va_S.rf
  have hP : va_P (dC, dI) xCl [(h0, eW w)] s.heap := hP
  have hl := lv_entry ([.ref h0, .long p0]) (n := 3) (Nat.le_of_ble_eq_true rfl)
  rw [lg_entry_eq]
  generalize (lg_sl ([.ref h0, .long p0]) ++ List.replicate (3 - (lg_sl ([.ref h0, .long p0])).length) Slot.unset).toArray = ls at hl ⊢
  have hl : lv_has ls 3 [(0, .ref h0), (1, .long p0)] := hl
  refine lv_aload_n hx hb dX1_isSpoiled_0 rfl (lv_at hl 0 rfl) ?_
  refine lv_lload_n hx hb dX1_isSpoiled_1 rfl (lv_at hl 1 rfl) ?_
  have hPc := hP.sub (ws' := [(h0, eW w)]) [0] rfl
  have hKc := hK.sub (tys' := []) [] rfl
  refine va_calli (va_runV (As := [.long p0]) (rest := []) ⟨hx, hb, hml, hown, hts⟩ (k_X1_exponent l dC dI h0 w s.heap.size p0) (cwV 1 hts gX1_isSpoiled_X1_exponent rfl rfl rfl (by decide +kernel) ⟨Nat.le_of_ble_eq_true rfl, Nat.le_of_ble_eq_true rfl⟩) (xB.preV hKc hPc (ci := 3) (q0 := 0) rfl rfl) rfl rfl hl.1 rfl (lv_room (Nat.le_of_ble_eq_true rfl)) dX1_isSpoiled_2 ⟨Nat.le_of_ble_eq_true rfl, Nat.le_of_ble_eq_true rfl⟩) hS xA_old (fun q h => hA q (Nat.le_trans hS.1 h)) (fun r_1 u t H locs ht hvm hw hB hz hk hS => ?_)
  replace hw : r_1 = (o_X1_exponent w p0) := hw
  subst r_1
  have hP := xP_keep hP hk
  refine lv_aload_n hx hb dX1_isSpoiled_5 rfl (lv_at hl 0 rfl) ?_
  refine va_get (D := (dC, dI)) (ci := 3) (v := .int (wEo w)) (C := RX1) (T := TX1) (N := 7) hx hb hts (by decide +kernel) hown hK hP 0 rfl rfl 1 (by decide +kernel) (hts (.fieldLink RX1 18 "Edgefloats$Width" "exponentOnes" "I") (by decide +kernel)) (fun _ h9 => h9) rfl dX1_isSpoiled_6 ?_
  refine lv_icmp_ne (tgt := 26) hx hb dX1_isSpoiled_9 (by decide +kernel) (fun c_2 => ?_) (fun c_2 => ?_)
  · skip
    refine lv_iconst (v := 0) hx hb dX1_isSpoiled_26 (by decide +kernel) ?_
    have he : o_X1_isSpoiled w p0 = false := by (rw [o_X1_isSpoiled, if_neg c_2]) <;> rfl
    refine W.widen (k := 0) (n := 0) (by omega) (by omega) ?_
    exact W.zret (v := 0) (ty := .boolean) hx hb hr rfl (fun t ht hW => ⟨⟨_, (), rfl, (by (rw [he]) <;> rfl), trivial⟩, hS.F ht⟩) hS.2.2 dX1_isSpoiled_27
  · skip
    refine lv_aload_n hx hb dX1_isSpoiled_12 rfl (lv_at hl 0 rfl) ?_
    refine lv_lload_n hx hb dX1_isSpoiled_13 rfl (lv_at hl 1 rfl) ?_
    have hPc := hP.sub (ws' := [(h0, eW w)]) [0] rfl
    have hKc := hK.sub (tys' := []) [] rfl
    refine va_calll (va_runV (As := [.long p0]) (rest := []) ⟨hx, hb, hml, hown, hts⟩ (k_X1_fraction l dC dI h0 w H.size p0) (cwV 1 hts gX1_isSpoiled_X1_fraction rfl rfl rfl (by decide +kernel) ⟨Nat.le_of_ble_eq_true rfl, Nat.le_of_ble_eq_true rfl⟩) (xB.preV hKc hPc (ci := 3) (q0 := 0) rfl rfl) rfl rfl hl.1 rfl (lv_room (Nat.le_of_ble_eq_true rfl)) dX1_isSpoiled_14 ⟨Nat.le_of_ble_eq_true rfl, Nat.le_of_ble_eq_true rfl⟩) hS xA_old (fun q h => hA q (Nat.le_trans hS.1 h)) (fun r_3 u t H locs ht hvm hw hB hz hk hS => ?_)
    replace hw : r_3 = (o_X1_fraction w p0) := hw
    subst r_3
    have hP := xP_keep hP hk
    refine lv_lconst (v := 0) hx hb dX1_isSpoiled_17 (by decide +kernel) ?_
    refine xc_eq (tgt := 26) hx hb dX1_isSpoiled_18 dX1_isSpoiled_19 (by decide +kernel) (fun c_4 => ?_) (fun c_4 => ?_)
    · skip
      refine lv_iconst (v := 0) hx hb dX1_isSpoiled_26 (by decide +kernel) ?_
      have he : o_X1_isSpoiled w p0 = false := by (rw [o_X1_isSpoiled, if_pos c_2, if_pos c_4]) <;> rfl
      refine W.widen (k := 0) (n := 0) (by omega) (by omega) ?_
      exact W.zret (v := 0) (ty := .boolean) hx hb hr rfl (fun t ht hW => ⟨⟨_, (), rfl, (by (rw [he]) <;> rfl), trivial⟩, hS.F ht⟩) hS.2.2 dX1_isSpoiled_27
    · skip
      refine lv_iconst (v := 1) hx hb dX1_isSpoiled_22 (by decide +kernel) ?_
      refine lv_goto (tgt := 27) hx hb dX1_isSpoiled_23 (by decide +kernel) ?_
      have he : o_X1_isSpoiled w p0 = true := by (rw [o_X1_isSpoiled, if_pos c_2, if_neg c_4]) <;> rfl
      refine W.widen (k := 0) (n := 0) (by omega) (by omega) ?_
      exact W.zret (v := 1) (ty := .boolean) hx hb hr rfl (fun t ht hW => ⟨⟨_, (), rfl, (by (rw [he]) <;> rfl), trivial⟩, hS.F ht⟩) hS.2.2 dX1_isSpoiled_27
noncomputable def dz_p05_7 : List (Nat × Instr × Nat) := [(0, (.lload_n 1, 1)), (1, (.aload_n 0, 1)), (2, (.getfield 28, 3)), (5, (.land, 1)), (6, (.lstore_n 3, 1)), (7, (.lload_n 1, 1)), (8, (.aload_n 0, 1)), (9, (.getfield 25, 3)), (12, (.land, 1)), (13, (.lconst 0, 1)), (14, (.lcmp, 1)), (15, (.ifCond .eq 8, 3)), (18, (.lload_n 3, 1)), (19, (.lneg, 1)), (20, (.goto 4, 3)), (23, (.lload_n 3, 1)), (24, (.lreturn, 1))]
theorem dy_p05_7 : dz_ok cX1_rank dz_p05_7 = true := by decide +kernel
theorem dX1_rank_0 : decode cX1_rank 0 = .ok (.lload_n 1, 1) := dz_at (i := 0) dy_p05_7 rfl
theorem dX1_rank_1 : decode cX1_rank 1 = .ok (.aload_n 0, 1) := dz_at (i := 1) dy_p05_7 rfl
theorem dX1_rank_2 : decode cX1_rank 2 = .ok (.getfield 28, 3) := dz_at (i := 2) dy_p05_7 rfl
theorem dX1_rank_5 : decode cX1_rank 5 = .ok (.land, 1) := dz_at (i := 3) dy_p05_7 rfl
theorem dX1_rank_6 : decode cX1_rank 6 = .ok (.lstore_n 3, 1) := dz_at (i := 4) dy_p05_7 rfl
theorem dX1_rank_7 : decode cX1_rank 7 = .ok (.lload_n 1, 1) := dz_at (i := 5) dy_p05_7 rfl
theorem dX1_rank_8 : decode cX1_rank 8 = .ok (.aload_n 0, 1) := dz_at (i := 6) dy_p05_7 rfl
theorem dX1_rank_9 : decode cX1_rank 9 = .ok (.getfield 25, 3) := dz_at (i := 7) dy_p05_7 rfl
theorem dX1_rank_12 : decode cX1_rank 12 = .ok (.land, 1) := dz_at (i := 8) dy_p05_7 rfl
theorem dX1_rank_13 : decode cX1_rank 13 = .ok (.lconst 0, 1) := dz_at (i := 9) dy_p05_7 rfl
theorem dX1_rank_14 : decode cX1_rank 14 = .ok (.lcmp, 1) := dz_at (i := 10) dy_p05_7 rfl
theorem dX1_rank_15 : decode cX1_rank 15 = .ok (.ifCond .eq 8, 3) := dz_at (i := 11) dy_p05_7 rfl
theorem dX1_rank_18 : decode cX1_rank 18 = .ok (.lload_n 3, 1) := dz_at (i := 12) dy_p05_7 rfl
theorem dX1_rank_19 : decode cX1_rank 19 = .ok (.lneg, 1) := dz_at (i := 13) dy_p05_7 rfl
theorem dX1_rank_20 : decode cX1_rank 20 = .ok (.goto 4, 3) := dz_at (i := 14) dy_p05_7 rfl
theorem dX1_rank_23 : decode cX1_rank 23 = .ok (.lload_n 3, 1) := dz_at (i := 15) dy_p05_7 rfl
theorem dX1_rank_24 : decode cX1_rank 24 = .ok (.lreturn, 1) := dz_at (i := 16) dy_p05_7 rfl
noncomputable def o_X1_rank (w : Bool) (p0 : Int64) : Int64 :=
  if (p0 &&& (wSg w)) = 0 then (p0 &&& (wSo w))
  else (-(p0 &&& (wSo w)))
set_option maxHeartbeats 4000000 in
set_option maxRecDepth 100000 in
theorem k_X1_rank (l : Launch) (dC : Nat → ClassId) (dI : Nat → Nat → Nat) (h0 : Nat) (w : Bool) (sz : Nat) (p0 : Int64) : Met l yX1_rank wsX1_rank ({ frames := 0, cells := 0, slots := 0, locals := 0 }) (va_Pc [.ref h0, .long p0] (xB (dC, dI) xCl [(h0, eW w)] [] sz)) (va_Ql (fun (r : Int64) (_ : Unit) => r = (o_X1_rank w p0)) (fun _ _ => True) (aN sz)) 0 0 (aN sz) := by
  refine Met.ofW (cc := cX1_rank) (maxL := 5) (ret := (some .long)) (by decide +kernel) rfl ?_
  intro p e s m args below meth c s₁ B hml hv
  obtain ⟨rfl, hsz, hP, hK⟩ := hv
  have hx := B.exec
  have hb := B.bytes
  have hr := B.returns
  have hts := atoms_spec (ws := wsX1_rank) B.pre
  have hown : s.vm.findClass RX1 = some m.cls := findClass_of_methodNamed B.named
  have hlocks := B.notSynchronized
  subst hsz
  have hA : ∀ q : Nat, s.heap.size ≤ q → aN s.heap.size q := fun _ h => h
  have hS : va_S (aN s.heap.size) s.heap s.heap [] := va_S.rf
  have hP : va_P (dC, dI) xCl [(h0, eW w)] s.heap := hP
  have hl := lv_entry ([.ref h0, .long p0]) (n := 5) (Nat.le_of_ble_eq_true rfl)
  rw [lg_entry_eq]
  generalize (lg_sl ([.ref h0, .long p0]) ++ List.replicate (5 - (lg_sl ([.ref h0, .long p0])).length) Slot.unset).toArray = ls at hl ⊢
  have hl : lv_has ls 5 [(0, .ref h0), (1, .long p0)] := hl
  refine lv_lload_n hx hb dX1_rank_0 rfl (lv_at hl 1 rfl) ?_
  refine lv_aload_n hx hb dX1_rank_1 rfl (lv_at hl 0 rfl) ?_
  refine va_get (D := (dC, dI)) (ci := 3) (v := .long (wSo w)) (C := RX1) (T := TX1) (N := 7) hx hb hts (by decide +kernel) hown hK hP 0 rfl rfl 3 (by decide +kernel) (hts (.fieldLink RX1 28 "Edgefloats$Width" "sizeOnes" "J") (by decide +kernel)) (fun _ h9 => h9) rfl dX1_rank_2 ?_
  refine lv_land hx hb dX1_rank_5 ?_
  refine lv_lstore_n (lv' := [(3, .long (p0 &&& (wSo w))), (0, .ref h0), (1, .long p0)]) hx hb dX1_rank_6 rfl hl (by decide +kernel) rfl (fun ls hl => ?_)
  refine lv_lload_n hx hb dX1_rank_7 rfl (lv_at hl 2 rfl) ?_
  refine lv_aload_n hx hb dX1_rank_8 rfl (lv_at hl 1 rfl) ?_
  refine va_get (D := (dC, dI)) (ci := 3) (v := .long (wSg w)) (C := RX1) (T := TX1) (N := 7) hx hb hts (by decide +kernel) hown hK hP 0 rfl rfl 4 (by decide +kernel) (hts (.fieldLink RX1 25 "Edgefloats$Width" "signOne" "J") (by decide +kernel)) (fun _ h9 => h9) rfl dX1_rank_9 ?_
  refine lv_land hx hb dX1_rank_12 ?_
  refine lv_lconst (v := 0) hx hb dX1_rank_13 (by decide +kernel) ?_
  refine xc_eq (tgt := 23) hx hb dX1_rank_14 dX1_rank_15 (by decide +kernel) (fun c_1 => ?_) (fun c_1 => ?_)
  · skip
    refine lv_lload_n hx hb dX1_rank_23 rfl (lv_at hl 0 rfl) ?_
    have he : o_X1_rank w p0 = (p0 &&& (wSo w)) := by (rw [o_X1_rank, if_pos c_1]) <;> rfl
    refine W.widen (k := 0) (n := 0) (by omega) (by omega) ?_
    exact W.lret (v := (p0 &&& (wSo w))) hx hb hr (fun t ht hW => ⟨⟨_, (), rfl, (by (rw [he]) <;> rfl), trivial⟩, hS.F ht⟩) hS.2.2 dX1_rank_24
  · skip
    refine lv_lload_n hx hb dX1_rank_18 rfl (lv_at hl 0 rfl) ?_
    refine lv_lneg hx hb dX1_rank_19 ?_
    refine lv_goto (tgt := 24) hx hb dX1_rank_20 (by decide +kernel) ?_
    have he : o_X1_rank w p0 = (-(p0 &&& (wSo w))) := by (rw [o_X1_rank, if_neg c_1]) <;> rfl
    refine W.widen (k := 0) (n := 0) (by omega) (by omega) ?_
    exact W.lret (v := (-(p0 &&& (wSo w)))) hx hb hr (fun t ht hW => ⟨⟨_, (), rfl, (by (rw [he]) <;> rfl), trivial⟩, hS.F ht⟩) hS.2.2 dX1_rank_24
noncomputable def dz_p05_8 : List (Nat × Instr × Nat) := [(0, (.lload_n 1, 1)), (1, (.aload_n 0, 1)), (2, (.getfield 28, 3)), (5, (.land, 1)), (6, (.lstore_n 3, 1)), (7, (.lload_n 1, 1)), (8, (.aload_n 0, 1)), (9, (.getfield 25, 3)), (12, (.land, 1)), (13, (.lconst 0, 1)), (14, (.lcmp, 1)), (15, (.ifCond .eq 10, 3)), (18, (.lload_n 3, 1)), (19, (.lneg, 1)), (20, (.lconst 1, 1)), (21, (.lsub, 1)), (22, (.goto 4, 3)), (25, (.lload_n 3, 1)), (26, (.lreturn, 1))]
theorem dy_p05_8 : dz_ok cX1_standing dz_p05_8 = true := by decide +kernel
theorem dX1_standing_0 : decode cX1_standing 0 = .ok (.lload_n 1, 1) := dz_at (i := 0) dy_p05_8 rfl
theorem dX1_standing_1 : decode cX1_standing 1 = .ok (.aload_n 0, 1) := dz_at (i := 1) dy_p05_8 rfl
theorem dX1_standing_2 : decode cX1_standing 2 = .ok (.getfield 28, 3) := dz_at (i := 2) dy_p05_8 rfl
theorem dX1_standing_5 : decode cX1_standing 5 = .ok (.land, 1) := dz_at (i := 3) dy_p05_8 rfl
theorem dX1_standing_6 : decode cX1_standing 6 = .ok (.lstore_n 3, 1) := dz_at (i := 4) dy_p05_8 rfl
theorem dX1_standing_7 : decode cX1_standing 7 = .ok (.lload_n 1, 1) := dz_at (i := 5) dy_p05_8 rfl
theorem dX1_standing_8 : decode cX1_standing 8 = .ok (.aload_n 0, 1) := dz_at (i := 6) dy_p05_8 rfl
theorem dX1_standing_9 : decode cX1_standing 9 = .ok (.getfield 25, 3) := dz_at (i := 7) dy_p05_8 rfl
theorem dX1_standing_12 : decode cX1_standing 12 = .ok (.land, 1) := dz_at (i := 8) dy_p05_8 rfl
theorem dX1_standing_13 : decode cX1_standing 13 = .ok (.lconst 0, 1) := dz_at (i := 9) dy_p05_8 rfl
theorem dX1_standing_14 : decode cX1_standing 14 = .ok (.lcmp, 1) := dz_at (i := 10) dy_p05_8 rfl
theorem dX1_standing_15 : decode cX1_standing 15 = .ok (.ifCond .eq 10, 3) := dz_at (i := 11) dy_p05_8 rfl
theorem dX1_standing_18 : decode cX1_standing 18 = .ok (.lload_n 3, 1) := dz_at (i := 12) dy_p05_8 rfl
theorem dX1_standing_19 : decode cX1_standing 19 = .ok (.lneg, 1) := dz_at (i := 13) dy_p05_8 rfl
theorem dX1_standing_20 : decode cX1_standing 20 = .ok (.lconst 1, 1) := dz_at (i := 14) dy_p05_8 rfl
theorem dX1_standing_21 : decode cX1_standing 21 = .ok (.lsub, 1) := dz_at (i := 15) dy_p05_8 rfl
theorem dX1_standing_22 : decode cX1_standing 22 = .ok (.goto 4, 3) := dz_at (i := 16) dy_p05_8 rfl
theorem dX1_standing_25 : decode cX1_standing 25 = .ok (.lload_n 3, 1) := dz_at (i := 17) dy_p05_8 rfl
theorem dX1_standing_26 : decode cX1_standing 26 = .ok (.lreturn, 1) := dz_at (i := 18) dy_p05_8 rfl
noncomputable def o_X1_standing (w : Bool) (p0 : Int64) : Int64 :=
  if (p0 &&& (wSg w)) = 0 then (p0 &&& (wSo w))
  else ((-(p0 &&& (wSo w))) - 1)
set_option maxHeartbeats 4000000 in
set_option maxRecDepth 100000 in
theorem k_X1_standing (l : Launch) (dC : Nat → ClassId) (dI : Nat → Nat → Nat) (h0 : Nat) (w : Bool) (sz : Nat) (p0 : Int64) : Met l yX1_standing wsX1_standing ({ frames := 0, cells := 0, slots := 0, locals := 0 }) (va_Pc [.ref h0, .long p0] (xB (dC, dI) xCl [(h0, eW w)] [] sz)) (va_Ql (fun (r : Int64) (_ : Unit) => r = (o_X1_standing w p0)) (fun _ _ => True) (aN sz)) 0 0 (aN sz) := by
  refine Met.ofW (cc := cX1_standing) (maxL := 5) (ret := (some .long)) (by decide +kernel) rfl ?_
  intro p e s m args below meth c s₁ B hml hv
  obtain ⟨rfl, hsz, hP, hK⟩ := hv
  have hx := B.exec
  have hb := B.bytes
  have hr := B.returns
  have hts := atoms_spec (ws := wsX1_standing) B.pre
  have hown : s.vm.findClass RX1 = some m.cls := findClass_of_methodNamed B.named
  have hlocks := B.notSynchronized
  subst hsz
  have hA : ∀ q : Nat, s.heap.size ≤ q → aN s.heap.size q := fun _ h => h
  have hS : va_S (aN s.heap.size) s.heap s.heap [] := va_S.rf
  have hP : va_P (dC, dI) xCl [(h0, eW w)] s.heap := hP
  have hl := lv_entry ([.ref h0, .long p0]) (n := 5) (Nat.le_of_ble_eq_true rfl)
  rw [lg_entry_eq]
  generalize (lg_sl ([.ref h0, .long p0]) ++ List.replicate (5 - (lg_sl ([.ref h0, .long p0])).length) Slot.unset).toArray = ls at hl ⊢
  have hl : lv_has ls 5 [(0, .ref h0), (1, .long p0)] := hl
  refine lv_lload_n hx hb dX1_standing_0 rfl (lv_at hl 1 rfl) ?_
  refine lv_aload_n hx hb dX1_standing_1 rfl (lv_at hl 0 rfl) ?_
  refine va_get (D := (dC, dI)) (ci := 3) (v := .long (wSo w)) (C := RX1) (T := TX1) (N := 7) hx hb hts (by decide +kernel) hown hK hP 0 rfl rfl 3 (by decide +kernel) (hts (.fieldLink RX1 28 "Edgefloats$Width" "sizeOnes" "J") (by decide +kernel)) (fun _ h9 => h9) rfl dX1_standing_2 ?_
  refine lv_land hx hb dX1_standing_5 ?_
  refine lv_lstore_n (lv' := [(3, .long (p0 &&& (wSo w))), (0, .ref h0), (1, .long p0)]) hx hb dX1_standing_6 rfl hl (by decide +kernel) rfl (fun ls hl => ?_)
  refine lv_lload_n hx hb dX1_standing_7 rfl (lv_at hl 2 rfl) ?_
  refine lv_aload_n hx hb dX1_standing_8 rfl (lv_at hl 1 rfl) ?_
  refine va_get (D := (dC, dI)) (ci := 3) (v := .long (wSg w)) (C := RX1) (T := TX1) (N := 7) hx hb hts (by decide +kernel) hown hK hP 0 rfl rfl 4 (by decide +kernel) (hts (.fieldLink RX1 25 "Edgefloats$Width" "signOne" "J") (by decide +kernel)) (fun _ h9 => h9) rfl dX1_standing_9 ?_
  refine lv_land hx hb dX1_standing_12 ?_
  refine lv_lconst (v := 0) hx hb dX1_standing_13 (by decide +kernel) ?_
  refine xc_eq (tgt := 25) hx hb dX1_standing_14 dX1_standing_15 (by decide +kernel) (fun c_1 => ?_) (fun c_1 => ?_)
  · skip
    refine lv_lload_n hx hb dX1_standing_25 rfl (lv_at hl 0 rfl) ?_
    have he : o_X1_standing w p0 = (p0 &&& (wSo w)) := by (rw [o_X1_standing, if_pos c_1]) <;> rfl
    refine W.widen (k := 0) (n := 0) (by omega) (by omega) ?_
    exact W.lret (v := (p0 &&& (wSo w))) hx hb hr (fun t ht hW => ⟨⟨_, (), rfl, (by (rw [he]) <;> rfl), trivial⟩, hS.F ht⟩) hS.2.2 dX1_standing_26
  · skip
    refine lv_lload_n hx hb dX1_standing_18 rfl (lv_at hl 0 rfl) ?_
    refine lv_lneg hx hb dX1_standing_19 ?_
    refine lv_lconst (v := 1) hx hb dX1_standing_20 (by decide +kernel) ?_
    refine lv_lsub hx hb dX1_standing_21 ?_
    refine lv_goto (tgt := 26) hx hb dX1_standing_22 (by decide +kernel) ?_
    have he : o_X1_standing w p0 = ((-(p0 &&& (wSo w))) - 1) := by (rw [o_X1_standing, if_neg c_1]) <;> rfl
    refine W.widen (k := 0) (n := 0) (by omega) (by omega) ?_
    exact W.lret (v := ((-(p0 &&& (wSo w))) - 1)) hx hb hr (fun t ht hW => ⟨⟨_, (), rfl, (by (rw [he]) <;> rfl), trivial⟩, hS.F ht⟩) hS.2.2 dX1_standing_26
theorem cl_X1_order_1 : ∀ w ∈ [.methodLink RX1 42 yX1_standing, .instanceMethod yX1_standing, .selects RX1 yX1_standing yX1_standing, .initialized RX1, .code yX1_standing cX1_standing 5 (some .long), .fieldLink RX1 28 "Edgefloats$Width" "sizeOnes" "J", .fieldLink RX1 25 "Edgefloats$Width" "signOne" "J"], w ∈ wsX1_order := fun _ h => (List.mem_cons_of_mem _ (List.mem_append_left _ h))
theorem cl_X1_order_2 : ∀ w ∈ wsX10, w ∈ wsX1_order := fun _ h => (List.mem_cons_of_mem _ (List.mem_append_right _ h))
set_option maxRecDepth 20000 in
theorem ggX1_order_X1_standing : GoodIn wsX1_order wsX1_standing := goodIn_sub (List.forall_mem_cons.mpr ⟨(cl_X1_order_1 _ (List.mem_of_getElem? (i := 4) rfl)), fun w h => (List.mem_append.mp h).elim ((List.forall_mem_cons.mpr ⟨(cl_X1_order_1 _ (List.mem_of_getElem? (i := 5) rfl)), List.forall_mem_cons.mpr ⟨(cl_X1_order_1 _ (List.mem_of_getElem? (i := 6) rfl)), fun _ h => absurd h List.not_mem_nil⟩⟩) w) ((cl_X1_order_2) w)⟩) (by decide +kernel)
set_option maxRecDepth 20000 in
theorem gX1_order_X1_standing : GoodIn wsX1_order (wsV RX1 42 RX1 yX1_standing wsX1_standing) := goodIn_app (goodIn_sub (List.forall_mem_cons.mpr ⟨(cl_X1_order_1 _ (List.mem_of_getElem? (i := 0) rfl)), List.forall_mem_cons.mpr ⟨(cl_X1_order_1 _ (List.mem_of_getElem? (i := 1) rfl)), List.forall_mem_cons.mpr ⟨(cl_X1_order_1 _ (List.mem_of_getElem? (i := 2) rfl)), List.forall_mem_cons.mpr ⟨(cl_X1_order_1 _ (List.mem_of_getElem? (i := 3) rfl)), fun _ h => absurd h List.not_mem_nil⟩⟩⟩⟩) (by decide +kernel)) ggX1_order_X1_standing
noncomputable def dz_p05_9 : List (Nat × Instr × Nat) := [(0, (.aload_n 0, 1)), (1, (.lload_n 1, 1)), (2, (.invokevirtual 42, 3)), (5, (.lstore 5, 2)), (7, (.aload_n 0, 1)), (8, (.lload_n 3, 1)), (9, (.invokevirtual 42, 3)), (12, (.lstore 7, 2)), (14, (.lload 5, 2)), (16, (.lload 7, 2)), (18, (.lcmp, 1)), (19, (.ifCond .ge 5, 3)), (22, (.iconst (-1), 1)), (23, (.ireturn, 1)), (24, (.lload 5, 2)), (26, (.lload 7, 2)), (28, (.lcmp, 1)), (29, (.ifCond .le 7, 3)), (32, (.iconst 1, 1)), (33, (.goto 4, 3)), (36, (.iconst 0, 1)), (37, (.ireturn, 1))]
theorem dy_p05_9 : dz_ok cX1_order dz_p05_9 = true := by decide +kernel
theorem dX1_order_0 : decode cX1_order 0 = .ok (.aload_n 0, 1) := dz_at (i := 0) dy_p05_9 rfl
theorem dX1_order_1 : decode cX1_order 1 = .ok (.lload_n 1, 1) := dz_at (i := 1) dy_p05_9 rfl
theorem dX1_order_2 : decode cX1_order 2 = .ok (.invokevirtual 42, 3) := dz_at (i := 2) dy_p05_9 rfl
theorem dX1_order_5 : decode cX1_order 5 = .ok (.lstore 5, 2) := dz_at (i := 3) dy_p05_9 rfl
theorem dX1_order_7 : decode cX1_order 7 = .ok (.aload_n 0, 1) := dz_at (i := 4) dy_p05_9 rfl
theorem dX1_order_8 : decode cX1_order 8 = .ok (.lload_n 3, 1) := dz_at (i := 5) dy_p05_9 rfl
theorem dX1_order_9 : decode cX1_order 9 = .ok (.invokevirtual 42, 3) := dz_at (i := 6) dy_p05_9 rfl
theorem dX1_order_12 : decode cX1_order 12 = .ok (.lstore 7, 2) := dz_at (i := 7) dy_p05_9 rfl
theorem dX1_order_14 : decode cX1_order 14 = .ok (.lload 5, 2) := dz_at (i := 8) dy_p05_9 rfl
theorem dX1_order_16 : decode cX1_order 16 = .ok (.lload 7, 2) := dz_at (i := 9) dy_p05_9 rfl
theorem dX1_order_18 : decode cX1_order 18 = .ok (.lcmp, 1) := dz_at (i := 10) dy_p05_9 rfl
theorem dX1_order_19 : decode cX1_order 19 = .ok (.ifCond .ge 5, 3) := dz_at (i := 11) dy_p05_9 rfl
theorem dX1_order_22 : decode cX1_order 22 = .ok (.iconst (-1), 1) := dz_at (i := 12) dy_p05_9 rfl
theorem dX1_order_23 : decode cX1_order 23 = .ok (.ireturn, 1) := dz_at (i := 13) dy_p05_9 rfl
theorem dX1_order_24 : decode cX1_order 24 = .ok (.lload 5, 2) := dz_at (i := 14) dy_p05_9 rfl
theorem dX1_order_26 : decode cX1_order 26 = .ok (.lload 7, 2) := dz_at (i := 15) dy_p05_9 rfl
theorem dX1_order_28 : decode cX1_order 28 = .ok (.lcmp, 1) := dz_at (i := 16) dy_p05_9 rfl
theorem dX1_order_29 : decode cX1_order 29 = .ok (.ifCond .le 7, 3) := dz_at (i := 17) dy_p05_9 rfl
theorem dX1_order_32 : decode cX1_order 32 = .ok (.iconst 1, 1) := dz_at (i := 18) dy_p05_9 rfl
theorem dX1_order_33 : decode cX1_order 33 = .ok (.goto 4, 3) := dz_at (i := 19) dy_p05_9 rfl
theorem dX1_order_36 : decode cX1_order 36 = .ok (.iconst 0, 1) := dz_at (i := 20) dy_p05_9 rfl
theorem dX1_order_37 : decode cX1_order 37 = .ok (.ireturn, 1) := dz_at (i := 21) dy_p05_9 rfl
noncomputable def o_X1_order (w : Bool) (p0 : Int64) (p1 : Int64) : Int32 :=
  if (o_X1_standing w p1) ≤ (o_X1_standing w p0) then (if (o_X1_standing w p0) ≤ (o_X1_standing w p1) then 0
    else 1)
  else (-1)
set_option maxHeartbeats 4000000 in
set_option maxRecDepth 100000 in
theorem k_X1_order (l : Launch) (dC : Nat → ClassId) (dI : Nat → Nat → Nat) (h0 : Nat) (w : Bool) (sz : Nat) (p0 : Int64) (p1 : Int64) : Met l yX1_order wsX1_order ({ frames := 1, cells := 0, slots := 0, locals := 24 }) (va_Pc [.ref h0, .long p0, .long p1] (xB (dC, dI) xCl [(h0, eW w)] [] sz)) (va_Qi (fun (r : Int32) (_ : Unit) => r = (o_X1_order w p0 p1)) (fun _ _ => True) (aN sz)) 0 0 (aN sz) := by
  refine Met.ofW (cc := cX1_order) (maxL := 9) (ret := (some .int)) (by decide +kernel) rfl ?_
  intro p e s m args below meth c s₁ B hml hv
  obtain ⟨rfl, hsz, hP, hK⟩ := hv
  have hx := B.exec
  have hb := B.bytes
  have hr := B.returns
  have hts := atoms_spec (ws := wsX1_order) B.pre
  have hown : s.vm.findClass RX1 = some m.cls := findClass_of_methodNamed B.named
  have hlocks := B.notSynchronized
  subst hsz
  have hA : ∀ q : Nat, s.heap.size ≤ q → aN s.heap.size q := fun _ h => h
  have hS : va_S (aN s.heap.size) s.heap s.heap [] := va_S.rf
  have hP : va_P (dC, dI) xCl [(h0, eW w)] s.heap := hP
  have hl := lv_entry ([.ref h0, .long p0, .long p1]) (n := 9) (Nat.le_of_ble_eq_true rfl)
  rw [lg_entry_eq]
  generalize (lg_sl ([.ref h0, .long p0, .long p1]) ++ List.replicate (9 - (lg_sl ([.ref h0, .long p0, .long p1])).length) Slot.unset).toArray = ls at hl ⊢
  have hl : lv_has ls 9 [(0, .ref h0), (1, .long p0), (3, .long p1)] := hl
  refine lv_aload_n hx hb dX1_order_0 rfl (lv_at hl 0 rfl) ?_
  refine lv_lload_n hx hb dX1_order_1 rfl (lv_at hl 1 rfl) ?_
  have hPc := hP.sub (ws' := [(h0, eW w)]) [0] rfl
  have hKc := hK.sub (tys' := []) [] rfl
  refine va_calll (va_runV (As := [.long p0]) (rest := []) ⟨hx, hb, hml, hown, hts⟩ (k_X1_standing l dC dI h0 w s.heap.size p0) (cwV 1 hts gX1_order_X1_standing rfl rfl rfl (by decide +kernel) ⟨Nat.le_of_ble_eq_true rfl, Nat.le_of_ble_eq_true rfl⟩) (xB.preV hKc hPc (ci := 3) (q0 := 0) rfl rfl) rfl rfl hl.1 rfl (lv_room (Nat.le_of_ble_eq_true rfl)) dX1_order_2 ⟨Nat.le_of_ble_eq_true rfl, Nat.le_of_ble_eq_true rfl⟩) hS xA_old (fun q h => hA q (Nat.le_trans hS.1 h)) (fun r_1 u t H locs ht hvm hw hB hz hk hS => ?_)
  replace hw : r_1 = (o_X1_standing w p0) := hw
  subst r_1
  have hP := xP_keep hP hk
  refine lv_lstore (lv' := [(5, .long (o_X1_standing w p0)), (0, .ref h0), (1, .long p0), (3, .long p1)]) hx hb dX1_order_5 hl (by decide +kernel) rfl (fun ls hl => ?_)
  refine lv_aload_n hx hb dX1_order_7 rfl (lv_at hl 1 rfl) ?_
  refine lv_lload_n hx hb dX1_order_8 rfl (lv_at hl 3 rfl) ?_
  have hPc := hP.sub (ws' := [(h0, eW w)]) [0] rfl
  have hKc := hK.sub (tys' := []) [] rfl
  refine va_calll (va_runV (As := [.long p1]) (rest := []) ⟨hx, hb, hml, hown, hts⟩ (k_X1_standing l dC dI h0 w H.size p1) (cwV 1 hts gX1_order_X1_standing rfl rfl rfl (by decide +kernel) ⟨Nat.le_of_ble_eq_true rfl, Nat.le_of_ble_eq_true rfl⟩) (xB.preV hKc hPc (ci := 3) (q0 := 0) rfl rfl) rfl rfl hl.1 rfl (lv_room (Nat.le_of_ble_eq_true rfl)) dX1_order_9 ⟨Nat.le_of_ble_eq_true rfl, Nat.le_of_ble_eq_true rfl⟩) hS xA_old (fun q h => hA q (Nat.le_trans hS.1 h)) (fun r_2 u t H locs ht hvm hw hB hz hk hS => ?_)
  replace hw : r_2 = (o_X1_standing w p1) := hw
  subst r_2
  have hP := xP_keep hP hk
  refine lv_lstore (lv' := [(7, .long (o_X1_standing w p1)), (5, .long (o_X1_standing w p0)), (0, .ref h0), (1, .long p0), (3, .long p1)]) hx hb dX1_order_12 hl (by decide +kernel) rfl (fun ls hl => ?_)
  refine lv_lload hx hb dX1_order_14 (lv_at hl 1 rfl) ?_
  refine lv_lload hx hb dX1_order_16 (lv_at hl 0 rfl) ?_
  refine xc_ge (tgt := 24) hx hb dX1_order_18 dX1_order_19 (by decide +kernel) (fun c_3 => ?_) (fun c_3 => ?_)
  · skip
    refine lv_lload hx hb dX1_order_24 (lv_at hl 1 rfl) ?_
    refine lv_lload hx hb dX1_order_26 (lv_at hl 0 rfl) ?_
    refine xc_le (tgt := 36) hx hb dX1_order_28 dX1_order_29 (by decide +kernel) (fun c_4 => ?_) (fun c_4 => ?_)
    · skip
      refine lv_iconst (v := 0) hx hb dX1_order_36 (by decide +kernel) ?_
      have he : o_X1_order w p0 p1 = 0 := by (rw [o_X1_order, if_pos c_3, if_pos c_4]) <;> rfl
      refine W.widen (k := 0) (n := 0) (by omega) (by omega) ?_
      exact W.iret (v := 0) hx hb hr (fun t ht hW => ⟨⟨_, (), rfl, (by (rw [he]) <;> rfl), trivial⟩, hS.F ht⟩) hS.2.2 dX1_order_37
    · skip
      refine lv_iconst (v := 1) hx hb dX1_order_32 (by decide +kernel) ?_
      refine lv_goto (tgt := 37) hx hb dX1_order_33 (by decide +kernel) ?_
      have he : o_X1_order w p0 p1 = 1 := by (rw [o_X1_order, if_pos c_3, if_neg c_4]) <;> rfl
      refine W.widen (k := 0) (n := 0) (by omega) (by omega) ?_
      exact W.iret (v := 1) hx hb hr (fun t ht hW => ⟨⟨_, (), rfl, (by (rw [he]) <;> rfl), trivial⟩, hS.F ht⟩) hS.2.2 dX1_order_37
  · skip
    refine lv_iconst (v := (-1)) hx hb dX1_order_22 (by decide +kernel) ?_
    have he : o_X1_order w p0 p1 = (-1) := by (rw [o_X1_order, if_neg c_3]) <;> rfl
    refine W.widen (k := 0) (n := 0) (by omega) (by omega) ?_
    exact W.iret (v := (-1)) hx hb hr (fun t ht hW => ⟨⟨_, (), rfl, (by (rw [he]) <;> rfl), trivial⟩, hS.F ht⟩) hS.2.2 dX1_order_23
theorem cl_X1_areLike_1 : ∀ w ∈ [.methodLink RX1 45 yX1_rank, .instanceMethod yX1_rank, .selects RX1 yX1_rank yX1_rank, .initialized RX1, .code yX1_rank cX1_rank 5 (some .long), .fieldLink RX1 28 "Edgefloats$Width" "sizeOnes" "J", .fieldLink RX1 25 "Edgefloats$Width" "signOne" "J"], w ∈ wsX1_areLike := fun _ h => (List.mem_cons_of_mem _ (List.mem_append_left _ h))
theorem cl_X1_areLike_2 : ∀ w ∈ wsX10, w ∈ wsX1_areLike := fun _ h => (List.mem_cons_of_mem _ (List.mem_append_right _ h))
set_option maxRecDepth 20000 in
theorem ggX1_areLike_X1_rank : GoodIn wsX1_areLike wsX1_rank := goodIn_sub (List.forall_mem_cons.mpr ⟨(cl_X1_areLike_1 _ (List.mem_of_getElem? (i := 4) rfl)), fun w h => (List.mem_append.mp h).elim ((List.forall_mem_cons.mpr ⟨(cl_X1_areLike_1 _ (List.mem_of_getElem? (i := 5) rfl)), List.forall_mem_cons.mpr ⟨(cl_X1_areLike_1 _ (List.mem_of_getElem? (i := 6) rfl)), fun _ h => absurd h List.not_mem_nil⟩⟩) w) ((cl_X1_areLike_2) w)⟩) (by decide +kernel)
set_option maxRecDepth 20000 in
theorem gX1_areLike_X1_rank : GoodIn wsX1_areLike (wsV RX1 45 RX1 yX1_rank wsX1_rank) := goodIn_app (goodIn_sub (List.forall_mem_cons.mpr ⟨(cl_X1_areLike_1 _ (List.mem_of_getElem? (i := 0) rfl)), List.forall_mem_cons.mpr ⟨(cl_X1_areLike_1 _ (List.mem_of_getElem? (i := 1) rfl)), List.forall_mem_cons.mpr ⟨(cl_X1_areLike_1 _ (List.mem_of_getElem? (i := 2) rfl)), List.forall_mem_cons.mpr ⟨(cl_X1_areLike_1 _ (List.mem_of_getElem? (i := 3) rfl)), fun _ h => absurd h List.not_mem_nil⟩⟩⟩⟩) (by decide +kernel)) ggX1_areLike_X1_rank
noncomputable def dz_p05_10 : List (Nat × Instr × Nat) := [(0, (.aload_n 0, 1)), (1, (.lload_n 1, 1)), (2, (.invokevirtual 45, 3)), (5, (.aload_n 0, 1)), (6, (.lload_n 3, 1)), (7, (.invokevirtual 45, 3)), (10, (.lcmp, 1)), (11, (.ifCond .ne 7, 3)), (14, (.iconst 1, 1)), (15, (.goto 4, 3)), (18, (.iconst 0, 1)), (19, (.ireturn, 1))]
theorem dy_p05_10 : dz_ok cX1_areLike dz_p05_10 = true := by decide +kernel
theorem dX1_areLike_0 : decode cX1_areLike 0 = .ok (.aload_n 0, 1) := dz_at (i := 0) dy_p05_10 rfl
theorem dX1_areLike_1 : decode cX1_areLike 1 = .ok (.lload_n 1, 1) := dz_at (i := 1) dy_p05_10 rfl
theorem dX1_areLike_2 : decode cX1_areLike 2 = .ok (.invokevirtual 45, 3) := dz_at (i := 2) dy_p05_10 rfl
theorem dX1_areLike_5 : decode cX1_areLike 5 = .ok (.aload_n 0, 1) := dz_at (i := 3) dy_p05_10 rfl
theorem dX1_areLike_6 : decode cX1_areLike 6 = .ok (.lload_n 3, 1) := dz_at (i := 4) dy_p05_10 rfl
theorem dX1_areLike_7 : decode cX1_areLike 7 = .ok (.invokevirtual 45, 3) := dz_at (i := 5) dy_p05_10 rfl
theorem dX1_areLike_10 : decode cX1_areLike 10 = .ok (.lcmp, 1) := dz_at (i := 6) dy_p05_10 rfl
theorem dX1_areLike_11 : decode cX1_areLike 11 = .ok (.ifCond .ne 7, 3) := dz_at (i := 7) dy_p05_10 rfl
theorem dX1_areLike_14 : decode cX1_areLike 14 = .ok (.iconst 1, 1) := dz_at (i := 8) dy_p05_10 rfl
theorem dX1_areLike_15 : decode cX1_areLike 15 = .ok (.goto 4, 3) := dz_at (i := 9) dy_p05_10 rfl
theorem dX1_areLike_18 : decode cX1_areLike 18 = .ok (.iconst 0, 1) := dz_at (i := 10) dy_p05_10 rfl
theorem dX1_areLike_19 : decode cX1_areLike 19 = .ok (.ireturn, 1) := dz_at (i := 11) dy_p05_10 rfl
noncomputable def o_X1_areLike (w : Bool) (p0 : Int64) (p1 : Int64) : Bool :=
  if (o_X1_rank w p0) = (o_X1_rank w p1) then true
  else false
set_option maxHeartbeats 4000000 in
set_option maxRecDepth 100000 in
theorem k_X1_areLike (l : Launch) (dC : Nat → ClassId) (dI : Nat → Nat → Nat) (h0 : Nat) (w : Bool) (sz : Nat) (p0 : Int64) (p1 : Int64) : Met l yX1_areLike wsX1_areLike ({ frames := 1, cells := 0, slots := 0, locals := 24 }) (va_Pc [.ref h0, .long p0, .long p1] (xB (dC, dI) xCl [(h0, eW w)] [] sz)) (va_Qi (fun (r : Int32) (_ : Unit) => r = b2i (o_X1_areLike w p0 p1)) (fun _ _ => True) (aN sz)) 0 0 (aN sz) := by
  refine Met.ofW (cc := cX1_areLike) (maxL := 5) (ret := (some .boolean)) (by decide +kernel) rfl ?_
  intro p e s m args below meth c s₁ B hml hv
  obtain ⟨rfl, hsz, hP, hK⟩ := hv
  have hx := B.exec
  have hb := B.bytes
  have hr := B.returns
  have hts := atoms_spec (ws := wsX1_areLike) B.pre
  have hown : s.vm.findClass RX1 = some m.cls := findClass_of_methodNamed B.named
  have hlocks := B.notSynchronized
  subst hsz
  have hA : ∀ q : Nat, s.heap.size ≤ q → aN s.heap.size q := fun _ h => h
  have hS : va_S (aN s.heap.size) s.heap s.heap [] := va_S.rf
  have hP : va_P (dC, dI) xCl [(h0, eW w)] s.heap := hP
  have hl := lv_entry ([.ref h0, .long p0, .long p1]) (n := 5) (Nat.le_of_ble_eq_true rfl)
  rw [lg_entry_eq]
  generalize (lg_sl ([.ref h0, .long p0, .long p1]) ++ List.replicate (5 - (lg_sl ([.ref h0, .long p0, .long p1])).length) Slot.unset).toArray = ls at hl ⊢
  have hl : lv_has ls 5 [(0, .ref h0), (1, .long p0), (3, .long p1)] := hl
  refine lv_aload_n hx hb dX1_areLike_0 rfl (lv_at hl 0 rfl) ?_
  refine lv_lload_n hx hb dX1_areLike_1 rfl (lv_at hl 1 rfl) ?_
  have hPc := hP.sub (ws' := [(h0, eW w)]) [0] rfl
  have hKc := hK.sub (tys' := []) [] rfl
  refine va_calll (va_runV (As := [.long p0]) (rest := []) ⟨hx, hb, hml, hown, hts⟩ (k_X1_rank l dC dI h0 w s.heap.size p0) (cwV 1 hts gX1_areLike_X1_rank rfl rfl rfl (by decide +kernel) ⟨Nat.le_of_ble_eq_true rfl, Nat.le_of_ble_eq_true rfl⟩) (xB.preV hKc hPc (ci := 3) (q0 := 0) rfl rfl) rfl rfl hl.1 rfl (lv_room (Nat.le_of_ble_eq_true rfl)) dX1_areLike_2 ⟨Nat.le_of_ble_eq_true rfl, Nat.le_of_ble_eq_true rfl⟩) hS xA_old (fun q h => hA q (Nat.le_trans hS.1 h)) (fun r_1 u t H locs ht hvm hw hB hz hk hS => ?_)
  replace hw : r_1 = (o_X1_rank w p0) := hw
  subst r_1
  have hP := xP_keep hP hk
  refine lv_aload_n hx hb dX1_areLike_5 rfl (lv_at hl 0 rfl) ?_
  refine lv_lload_n hx hb dX1_areLike_6 rfl (lv_at hl 2 rfl) ?_
  have hPc := hP.sub (ws' := [(h0, eW w)]) [0] rfl
  have hKc := hK.sub (tys' := []) [] rfl
  refine va_calll (va_runV (As := [.long p1]) (rest := [.long (o_X1_rank w p0)]) ⟨hx, hb, hml, hown, hts⟩ (k_X1_rank l dC dI h0 w H.size p1) (cwV 1 hts gX1_areLike_X1_rank rfl rfl rfl (by decide +kernel) ⟨Nat.le_of_ble_eq_true rfl, Nat.le_of_ble_eq_true rfl⟩) (xB.preV hKc hPc (ci := 3) (q0 := 0) rfl rfl) rfl rfl hl.1 rfl (lv_room (Nat.le_of_ble_eq_true rfl)) dX1_areLike_7 ⟨Nat.le_of_ble_eq_true rfl, Nat.le_of_ble_eq_true rfl⟩) hS xA_old (fun q h => hA q (Nat.le_trans hS.1 h)) (fun r_2 u t H locs ht hvm hw hB hz hk hS => ?_)
  replace hw : r_2 = (o_X1_rank w p1) := hw
  subst r_2
  have hP := xP_keep hP hk
  refine xc_ne (tgt := 18) hx hb dX1_areLike_10 dX1_areLike_11 (by decide +kernel) (fun c_3 => ?_) (fun c_3 => ?_)
  · skip
    refine lv_iconst (v := 0) hx hb dX1_areLike_18 (by decide +kernel) ?_
    have he : o_X1_areLike w p0 p1 = false := by (rw [o_X1_areLike, if_neg c_3]) <;> rfl
    refine W.widen (k := 0) (n := 0) (by omega) (by omega) ?_
    exact W.zret (v := 0) (ty := .boolean) hx hb hr rfl (fun t ht hW => ⟨⟨_, (), rfl, (by (rw [he]) <;> rfl), trivial⟩, hS.F ht⟩) hS.2.2 dX1_areLike_19
  · skip
    refine lv_iconst (v := 1) hx hb dX1_areLike_14 (by decide +kernel) ?_
    refine lv_goto (tgt := 19) hx hb dX1_areLike_15 (by decide +kernel) ?_
    have he : o_X1_areLike w p0 p1 = true := by (rw [o_X1_areLike, if_pos c_3]) <;> rfl
    refine W.widen (k := 0) (n := 0) (by omega) (by omega) ?_
    exact W.zret (v := 1) (ty := .boolean) hx hb hr rfl (fun t ht hW => ⟨⟨_, (), rfl, (by (rw [he]) <;> rfl), trivial⟩, hS.F ht⟩) hS.2.2 dX1_areLike_19
theorem cl_X1_isBelow_1 : ∀ w ∈ [.methodLink RX1 45 yX1_rank, .instanceMethod yX1_rank, .selects RX1 yX1_rank yX1_rank, .initialized RX1, .code yX1_rank cX1_rank 5 (some .long), .fieldLink RX1 28 "Edgefloats$Width" "sizeOnes" "J", .fieldLink RX1 25 "Edgefloats$Width" "signOne" "J"], w ∈ wsX1_isBelow := fun _ h => (List.mem_cons_of_mem _ (List.mem_append_left _ h))
theorem cl_X1_isBelow_2 : ∀ w ∈ wsX10, w ∈ wsX1_isBelow := fun _ h => (List.mem_cons_of_mem _ (List.mem_append_right _ h))
set_option maxRecDepth 20000 in
theorem ggX1_isBelow_X1_rank : GoodIn wsX1_isBelow wsX1_rank := goodIn_sub (List.forall_mem_cons.mpr ⟨(cl_X1_isBelow_1 _ (List.mem_of_getElem? (i := 4) rfl)), fun w h => (List.mem_append.mp h).elim ((List.forall_mem_cons.mpr ⟨(cl_X1_isBelow_1 _ (List.mem_of_getElem? (i := 5) rfl)), List.forall_mem_cons.mpr ⟨(cl_X1_isBelow_1 _ (List.mem_of_getElem? (i := 6) rfl)), fun _ h => absurd h List.not_mem_nil⟩⟩) w) ((cl_X1_isBelow_2) w)⟩) (by decide +kernel)
set_option maxRecDepth 20000 in
theorem gX1_isBelow_X1_rank : GoodIn wsX1_isBelow (wsV RX1 45 RX1 yX1_rank wsX1_rank) := goodIn_app (goodIn_sub (List.forall_mem_cons.mpr ⟨(cl_X1_isBelow_1 _ (List.mem_of_getElem? (i := 0) rfl)), List.forall_mem_cons.mpr ⟨(cl_X1_isBelow_1 _ (List.mem_of_getElem? (i := 1) rfl)), List.forall_mem_cons.mpr ⟨(cl_X1_isBelow_1 _ (List.mem_of_getElem? (i := 2) rfl)), List.forall_mem_cons.mpr ⟨(cl_X1_isBelow_1 _ (List.mem_of_getElem? (i := 3) rfl)), fun _ h => absurd h List.not_mem_nil⟩⟩⟩⟩) (by decide +kernel)) ggX1_isBelow_X1_rank
noncomputable def dz_p05_11 : List (Nat × Instr × Nat) := [(0, (.aload_n 0, 1)), (1, (.lload_n 1, 1)), (2, (.invokevirtual 45, 3)), (5, (.aload_n 0, 1)), (6, (.lload_n 3, 1)), (7, (.invokevirtual 45, 3)), (10, (.lcmp, 1)), (11, (.ifCond .ge 7, 3)), (14, (.iconst 1, 1)), (15, (.goto 4, 3)), (18, (.iconst 0, 1)), (19, (.ireturn, 1))]
theorem dy_p05_11 : dz_ok cX1_isBelow dz_p05_11 = true := by decide +kernel
theorem dX1_isBelow_0 : decode cX1_isBelow 0 = .ok (.aload_n 0, 1) := dz_at (i := 0) dy_p05_11 rfl
theorem dX1_isBelow_1 : decode cX1_isBelow 1 = .ok (.lload_n 1, 1) := dz_at (i := 1) dy_p05_11 rfl
theorem dX1_isBelow_2 : decode cX1_isBelow 2 = .ok (.invokevirtual 45, 3) := dz_at (i := 2) dy_p05_11 rfl
theorem dX1_isBelow_5 : decode cX1_isBelow 5 = .ok (.aload_n 0, 1) := dz_at (i := 3) dy_p05_11 rfl
theorem dX1_isBelow_6 : decode cX1_isBelow 6 = .ok (.lload_n 3, 1) := dz_at (i := 4) dy_p05_11 rfl
theorem dX1_isBelow_7 : decode cX1_isBelow 7 = .ok (.invokevirtual 45, 3) := dz_at (i := 5) dy_p05_11 rfl
theorem dX1_isBelow_10 : decode cX1_isBelow 10 = .ok (.lcmp, 1) := dz_at (i := 6) dy_p05_11 rfl
theorem dX1_isBelow_11 : decode cX1_isBelow 11 = .ok (.ifCond .ge 7, 3) := dz_at (i := 7) dy_p05_11 rfl
theorem dX1_isBelow_14 : decode cX1_isBelow 14 = .ok (.iconst 1, 1) := dz_at (i := 8) dy_p05_11 rfl
theorem dX1_isBelow_15 : decode cX1_isBelow 15 = .ok (.goto 4, 3) := dz_at (i := 9) dy_p05_11 rfl
theorem dX1_isBelow_18 : decode cX1_isBelow 18 = .ok (.iconst 0, 1) := dz_at (i := 10) dy_p05_11 rfl
theorem dX1_isBelow_19 : decode cX1_isBelow 19 = .ok (.ireturn, 1) := dz_at (i := 11) dy_p05_11 rfl
noncomputable def o_X1_isBelow (w : Bool) (p0 : Int64) (p1 : Int64) : Bool :=
  if (o_X1_rank w p1) ≤ (o_X1_rank w p0) then false
  else true
set_option maxHeartbeats 4000000 in
set_option maxRecDepth 100000 in
theorem k_X1_isBelow (l : Launch) (dC : Nat → ClassId) (dI : Nat → Nat → Nat) (h0 : Nat) (w : Bool) (sz : Nat) (p0 : Int64) (p1 : Int64) : Met l yX1_isBelow wsX1_isBelow ({ frames := 1, cells := 0, slots := 0, locals := 24 }) (va_Pc [.ref h0, .long p0, .long p1] (xB (dC, dI) xCl [(h0, eW w)] [] sz)) (va_Qi (fun (r : Int32) (_ : Unit) => r = b2i (o_X1_isBelow w p0 p1)) (fun _ _ => True) (aN sz)) 0 0 (aN sz) := by
  refine Met.ofW (cc := cX1_isBelow) (maxL := 5) (ret := (some .boolean)) (by decide +kernel) rfl ?_
  intro p e s m args below meth c s₁ B hml hv
  obtain ⟨rfl, hsz, hP, hK⟩ := hv
  have hx := B.exec
  have hb := B.bytes
  have hr := B.returns
  have hts := atoms_spec (ws := wsX1_isBelow) B.pre
  have hown : s.vm.findClass RX1 = some m.cls := findClass_of_methodNamed B.named
  have hlocks := B.notSynchronized
  subst hsz
  have hA : ∀ q : Nat, s.heap.size ≤ q → aN s.heap.size q := fun _ h => h
  have hS : va_S (aN s.heap.size) s.heap s.heap [] := va_S.rf
  have hP : va_P (dC, dI) xCl [(h0, eW w)] s.heap := hP
  have hl := lv_entry ([.ref h0, .long p0, .long p1]) (n := 5) (Nat.le_of_ble_eq_true rfl)
  rw [lg_entry_eq]
  generalize (lg_sl ([.ref h0, .long p0, .long p1]) ++ List.replicate (5 - (lg_sl ([.ref h0, .long p0, .long p1])).length) Slot.unset).toArray = ls at hl ⊢
  have hl : lv_has ls 5 [(0, .ref h0), (1, .long p0), (3, .long p1)] := hl
  refine lv_aload_n hx hb dX1_isBelow_0 rfl (lv_at hl 0 rfl) ?_
  refine lv_lload_n hx hb dX1_isBelow_1 rfl (lv_at hl 1 rfl) ?_
  have hPc := hP.sub (ws' := [(h0, eW w)]) [0] rfl
  have hKc := hK.sub (tys' := []) [] rfl
  refine va_calll (va_runV (As := [.long p0]) (rest := []) ⟨hx, hb, hml, hown, hts⟩ (k_X1_rank l dC dI h0 w s.heap.size p0) (cwV 1 hts gX1_isBelow_X1_rank rfl rfl rfl (by decide +kernel) ⟨Nat.le_of_ble_eq_true rfl, Nat.le_of_ble_eq_true rfl⟩) (xB.preV hKc hPc (ci := 3) (q0 := 0) rfl rfl) rfl rfl hl.1 rfl (lv_room (Nat.le_of_ble_eq_true rfl)) dX1_isBelow_2 ⟨Nat.le_of_ble_eq_true rfl, Nat.le_of_ble_eq_true rfl⟩) hS xA_old (fun q h => hA q (Nat.le_trans hS.1 h)) (fun r_1 u t H locs ht hvm hw hB hz hk hS => ?_)
  replace hw : r_1 = (o_X1_rank w p0) := hw
  subst r_1
  have hP := xP_keep hP hk
  refine lv_aload_n hx hb dX1_isBelow_5 rfl (lv_at hl 0 rfl) ?_
  refine lv_lload_n hx hb dX1_isBelow_6 rfl (lv_at hl 2 rfl) ?_
  have hPc := hP.sub (ws' := [(h0, eW w)]) [0] rfl
  have hKc := hK.sub (tys' := []) [] rfl
  refine va_calll (va_runV (As := [.long p1]) (rest := [.long (o_X1_rank w p0)]) ⟨hx, hb, hml, hown, hts⟩ (k_X1_rank l dC dI h0 w H.size p1) (cwV 1 hts gX1_isBelow_X1_rank rfl rfl rfl (by decide +kernel) ⟨Nat.le_of_ble_eq_true rfl, Nat.le_of_ble_eq_true rfl⟩) (xB.preV hKc hPc (ci := 3) (q0 := 0) rfl rfl) rfl rfl hl.1 rfl (lv_room (Nat.le_of_ble_eq_true rfl)) dX1_isBelow_7 ⟨Nat.le_of_ble_eq_true rfl, Nat.le_of_ble_eq_true rfl⟩) hS xA_old (fun q h => hA q (Nat.le_trans hS.1 h)) (fun r_2 u t H locs ht hvm hw hB hz hk hS => ?_)
  replace hw : r_2 = (o_X1_rank w p1) := hw
  subst r_2
  have hP := xP_keep hP hk
  refine xc_ge (tgt := 18) hx hb dX1_isBelow_10 dX1_isBelow_11 (by decide +kernel) (fun c_3 => ?_) (fun c_3 => ?_)
  · skip
    refine lv_iconst (v := 0) hx hb dX1_isBelow_18 (by decide +kernel) ?_
    have he : o_X1_isBelow w p0 p1 = false := by (rw [o_X1_isBelow, if_pos c_3]) <;> rfl
    refine W.widen (k := 0) (n := 0) (by omega) (by omega) ?_
    exact W.zret (v := 0) (ty := .boolean) hx hb hr rfl (fun t ht hW => ⟨⟨_, (), rfl, (by (rw [he]) <;> rfl), trivial⟩, hS.F ht⟩) hS.2.2 dX1_isBelow_19
  · skip
    refine lv_iconst (v := 1) hx hb dX1_isBelow_14 (by decide +kernel) ?_
    refine lv_goto (tgt := 19) hx hb dX1_isBelow_15 (by decide +kernel) ?_
    have he : o_X1_isBelow w p0 p1 = true := by (rw [o_X1_isBelow, if_neg c_3]) <;> rfl
    refine W.widen (k := 0) (n := 0) (by omega) (by omega) ?_
    exact W.zret (v := 1) (ty := .boolean) hx hb hr rfl (fun t ht hW => ⟨⟨_, (), rfl, (by (rw [he]) <;> rfl), trivial⟩, hS.F ht⟩) hS.2.2 dX1_isBelow_19
theorem cl_X1_greater_1 : ∀ w ∈ [.methodLink RX1 48 yX1_order, .instanceMethod yX1_order, .selects RX1 yX1_order yX1_order, .initialized RX1, .code yX1_order cX1_order 9 (some .int), .methodLink RX1 42 yX1_standing, .instanceMethod yX1_standing, .selects RX1 yX1_standing yX1_standing, .code yX1_standing cX1_standing 5 (some .long), .fieldLink RX1 28 "Edgefloats$Width" "sizeOnes" "J", .fieldLink RX1 25 "Edgefloats$Width" "signOne" "J"], w ∈ wsX1_greater := fun _ h => (List.mem_cons_of_mem _ (List.mem_append_left _ h))
theorem cl_X1_greater_2 : ∀ w ∈ wsX10, w ∈ wsX1_greater := fun _ h => (List.mem_cons_of_mem _ (List.mem_append_right _ h))
set_option maxRecDepth 20000 in
theorem ggX1_greater_X1_order : GoodIn wsX1_greater wsX1_order := goodIn_sub (List.forall_mem_cons.mpr ⟨(cl_X1_greater_1 _ (List.mem_of_getElem? (i := 4) rfl)), fun w h => (List.mem_append.mp h).elim ((List.forall_mem_cons.mpr ⟨(cl_X1_greater_1 _ (List.mem_of_getElem? (i := 5) rfl)), List.forall_mem_cons.mpr ⟨(cl_X1_greater_1 _ (List.mem_of_getElem? (i := 6) rfl)), List.forall_mem_cons.mpr ⟨(cl_X1_greater_1 _ (List.mem_of_getElem? (i := 7) rfl)), List.forall_mem_cons.mpr ⟨(cl_X1_greater_1 _ (List.mem_of_getElem? (i := 3) rfl)), List.forall_mem_cons.mpr ⟨(cl_X1_greater_1 _ (List.mem_of_getElem? (i := 8) rfl)), List.forall_mem_cons.mpr ⟨(cl_X1_greater_1 _ (List.mem_of_getElem? (i := 9) rfl)), List.forall_mem_cons.mpr ⟨(cl_X1_greater_1 _ (List.mem_of_getElem? (i := 10) rfl)), fun _ h => absurd h List.not_mem_nil⟩⟩⟩⟩⟩⟩⟩) w) ((cl_X1_greater_2) w)⟩) (by decide +kernel)
set_option maxRecDepth 20000 in
theorem gX1_greater_X1_order : GoodIn wsX1_greater (wsV RX1 48 RX1 yX1_order wsX1_order) := goodIn_app (goodIn_sub (List.forall_mem_cons.mpr ⟨(cl_X1_greater_1 _ (List.mem_of_getElem? (i := 0) rfl)), List.forall_mem_cons.mpr ⟨(cl_X1_greater_1 _ (List.mem_of_getElem? (i := 1) rfl)), List.forall_mem_cons.mpr ⟨(cl_X1_greater_1 _ (List.mem_of_getElem? (i := 2) rfl)), List.forall_mem_cons.mpr ⟨(cl_X1_greater_1 _ (List.mem_of_getElem? (i := 3) rfl)), fun _ h => absurd h List.not_mem_nil⟩⟩⟩⟩) (by decide +kernel)) ggX1_greater_X1_order
noncomputable def dz_p05_12 : List (Nat × Instr × Nat) := [(0, (.aload_n 0, 1)), (1, (.lload_n 1, 1)), (2, (.lload_n 3, 1)), (3, (.invokevirtual 48, 3)), (6, (.ifCond .ge 7, 3)), (9, (.lload_n 3, 1)), (10, (.goto 4, 3)), (13, (.lload_n 1, 1)), (14, (.lreturn, 1))]
theorem dy_p05_12 : dz_ok cX1_greater dz_p05_12 = true := by decide +kernel
theorem dX1_greater_0 : decode cX1_greater 0 = .ok (.aload_n 0, 1) := dz_at (i := 0) dy_p05_12 rfl
theorem dX1_greater_1 : decode cX1_greater 1 = .ok (.lload_n 1, 1) := dz_at (i := 1) dy_p05_12 rfl
theorem dX1_greater_2 : decode cX1_greater 2 = .ok (.lload_n 3, 1) := dz_at (i := 2) dy_p05_12 rfl
theorem dX1_greater_3 : decode cX1_greater 3 = .ok (.invokevirtual 48, 3) := dz_at (i := 3) dy_p05_12 rfl
theorem dX1_greater_6 : decode cX1_greater 6 = .ok (.ifCond .ge 7, 3) := dz_at (i := 4) dy_p05_12 rfl
theorem dX1_greater_9 : decode cX1_greater 9 = .ok (.lload_n 3, 1) := dz_at (i := 5) dy_p05_12 rfl
theorem dX1_greater_10 : decode cX1_greater 10 = .ok (.goto 4, 3) := dz_at (i := 6) dy_p05_12 rfl
theorem dX1_greater_13 : decode cX1_greater 13 = .ok (.lload_n 1, 1) := dz_at (i := 7) dy_p05_12 rfl
theorem dX1_greater_14 : decode cX1_greater 14 = .ok (.lreturn, 1) := dz_at (i := 8) dy_p05_12 rfl
noncomputable def o_X1_greater (w : Bool) (p0 : Int64) (p1 : Int64) : Int64 :=
  if 0 ≤ (o_X1_order w p0 p1) then p0
  else p1
set_option maxHeartbeats 4000000 in
set_option maxRecDepth 100000 in
theorem k_X1_greater (l : Launch) (dC : Nat → ClassId) (dI : Nat → Nat → Nat) (h0 : Nat) (w : Bool) (sz : Nat) (p0 : Int64) (p1 : Int64) : Met l yX1_greater wsX1_greater ({ frames := 2, cells := 0, slots := 0, locals := 52 }) (va_Pc [.ref h0, .long p0, .long p1] (xB (dC, dI) xCl [(h0, eW w)] [] sz)) (va_Ql (fun (r : Int64) (_ : Unit) => r = (o_X1_greater w p0 p1)) (fun _ _ => True) (aN sz)) 0 0 (aN sz) := by
  refine Met.ofW (cc := cX1_greater) (maxL := 5) (ret := (some .long)) (by decide +kernel) rfl ?_
  intro p e s m args below meth c s₁ B hml hv
  obtain ⟨rfl, hsz, hP, hK⟩ := hv
  have hx := B.exec
  have hb := B.bytes
  have hr := B.returns
  have hts := atoms_spec (ws := wsX1_greater) B.pre
  have hown : s.vm.findClass RX1 = some m.cls := findClass_of_methodNamed B.named
  have hlocks := B.notSynchronized
  subst hsz
  have hA : ∀ q : Nat, s.heap.size ≤ q → aN s.heap.size q := fun _ h => h
  have hS : va_S (aN s.heap.size) s.heap s.heap [] := va_S.rf
  have hP : va_P (dC, dI) xCl [(h0, eW w)] s.heap := hP
  have hl := lv_entry ([.ref h0, .long p0, .long p1]) (n := 5) (Nat.le_of_ble_eq_true rfl)
  rw [lg_entry_eq]
  generalize (lg_sl ([.ref h0, .long p0, .long p1]) ++ List.replicate (5 - (lg_sl ([.ref h0, .long p0, .long p1])).length) Slot.unset).toArray = ls at hl ⊢
  have hl : lv_has ls 5 [(0, .ref h0), (1, .long p0), (3, .long p1)] := hl
  refine lv_aload_n hx hb dX1_greater_0 rfl (lv_at hl 0 rfl) ?_
  refine lv_lload_n hx hb dX1_greater_1 rfl (lv_at hl 1 rfl) ?_
  refine lv_lload_n hx hb dX1_greater_2 rfl (lv_at hl 2 rfl) ?_
  have hPc := hP.sub (ws' := [(h0, eW w)]) [0] rfl
  have hKc := hK.sub (tys' := []) [] rfl
  refine va_calli (va_runV (As := [.long p0, .long p1]) (rest := []) ⟨hx, hb, hml, hown, hts⟩ (k_X1_order l dC dI h0 w s.heap.size p0 p1) (cwV 2 hts gX1_greater_X1_order rfl rfl rfl (by decide +kernel) ⟨Nat.le_of_ble_eq_true rfl, Nat.le_of_ble_eq_true rfl⟩) (xB.preV hKc hPc (ci := 3) (q0 := 0) rfl rfl) rfl rfl hl.1 rfl (lv_room (Nat.le_of_ble_eq_true rfl)) dX1_greater_3 ⟨Nat.le_of_ble_eq_true rfl, Nat.le_of_ble_eq_true rfl⟩) hS xA_old (fun q h => hA q (Nat.le_trans hS.1 h)) (fun r_1 u t H locs ht hvm hw hB hz hk hS => ?_)
  replace hw : r_1 = (o_X1_order w p0 p1) := hw
  subst r_1
  have hP := xP_keep hP hk
  refine lv_if_ge (tgt := 13) hx hb dX1_greater_6 (by decide +kernel) (fun c_2 => ?_) (fun c_2 => ?_)
  · skip
    refine lv_lload_n hx hb dX1_greater_13 rfl (lv_at hl 1 rfl) ?_
    have he : o_X1_greater w p0 p1 = p0 := by (rw [o_X1_greater, if_pos c_2]) <;> rfl
    refine W.widen (k := 0) (n := 0) (by omega) (by omega) ?_
    exact W.lret (v := p0) hx hb hr (fun t ht hW => ⟨⟨_, (), rfl, (by (rw [he]) <;> rfl), trivial⟩, hS.F ht⟩) hS.2.2 dX1_greater_14
  · skip
    refine lv_lload_n hx hb dX1_greater_9 rfl (lv_at hl 2 rfl) ?_
    refine lv_goto (tgt := 14) hx hb dX1_greater_10 (by decide +kernel) ?_
    have he : o_X1_greater w p0 p1 = p1 := by (rw [o_X1_greater, if_neg c_2]) <;> rfl
    refine W.widen (k := 0) (n := 0) (by omega) (by omega) ?_
    exact W.lret (v := p1) hx hb hr (fun t ht hW => ⟨⟨_, (), rfl, (by (rw [he]) <;> rfl), trivial⟩, hS.F ht⟩) hS.2.2 dX1_greater_14
theorem cl_X1_lesser_1 : ∀ w ∈ [.methodLink RX1 48 yX1_order, .instanceMethod yX1_order, .selects RX1 yX1_order yX1_order, .initialized RX1, .code yX1_order cX1_order 9 (some .int), .methodLink RX1 42 yX1_standing, .instanceMethod yX1_standing, .selects RX1 yX1_standing yX1_standing, .code yX1_standing cX1_standing 5 (some .long), .fieldLink RX1 28 "Edgefloats$Width" "sizeOnes" "J", .fieldLink RX1 25 "Edgefloats$Width" "signOne" "J"], w ∈ wsX1_lesser := fun _ h => (List.mem_cons_of_mem _ (List.mem_append_left _ h))
theorem cl_X1_lesser_2 : ∀ w ∈ wsX10, w ∈ wsX1_lesser := fun _ h => (List.mem_cons_of_mem _ (List.mem_append_right _ h))
set_option maxRecDepth 20000 in
theorem ggX1_lesser_X1_order : GoodIn wsX1_lesser wsX1_order := goodIn_sub (List.forall_mem_cons.mpr ⟨(cl_X1_lesser_1 _ (List.mem_of_getElem? (i := 4) rfl)), fun w h => (List.mem_append.mp h).elim ((List.forall_mem_cons.mpr ⟨(cl_X1_lesser_1 _ (List.mem_of_getElem? (i := 5) rfl)), List.forall_mem_cons.mpr ⟨(cl_X1_lesser_1 _ (List.mem_of_getElem? (i := 6) rfl)), List.forall_mem_cons.mpr ⟨(cl_X1_lesser_1 _ (List.mem_of_getElem? (i := 7) rfl)), List.forall_mem_cons.mpr ⟨(cl_X1_lesser_1 _ (List.mem_of_getElem? (i := 3) rfl)), List.forall_mem_cons.mpr ⟨(cl_X1_lesser_1 _ (List.mem_of_getElem? (i := 8) rfl)), List.forall_mem_cons.mpr ⟨(cl_X1_lesser_1 _ (List.mem_of_getElem? (i := 9) rfl)), List.forall_mem_cons.mpr ⟨(cl_X1_lesser_1 _ (List.mem_of_getElem? (i := 10) rfl)), fun _ h => absurd h List.not_mem_nil⟩⟩⟩⟩⟩⟩⟩) w) ((cl_X1_lesser_2) w)⟩) (by decide +kernel)
set_option maxRecDepth 20000 in
theorem gX1_lesser_X1_order : GoodIn wsX1_lesser (wsV RX1 48 RX1 yX1_order wsX1_order) := goodIn_app (goodIn_sub (List.forall_mem_cons.mpr ⟨(cl_X1_lesser_1 _ (List.mem_of_getElem? (i := 0) rfl)), List.forall_mem_cons.mpr ⟨(cl_X1_lesser_1 _ (List.mem_of_getElem? (i := 1) rfl)), List.forall_mem_cons.mpr ⟨(cl_X1_lesser_1 _ (List.mem_of_getElem? (i := 2) rfl)), List.forall_mem_cons.mpr ⟨(cl_X1_lesser_1 _ (List.mem_of_getElem? (i := 3) rfl)), fun _ h => absurd h List.not_mem_nil⟩⟩⟩⟩) (by decide +kernel)) ggX1_lesser_X1_order
noncomputable def dz_p05_13 : List (Nat × Instr × Nat) := [(0, (.aload_n 0, 1)), (1, (.lload_n 1, 1)), (2, (.lload_n 3, 1)), (3, (.invokevirtual 48, 3)), (6, (.ifCond .le 7, 3)), (9, (.lload_n 3, 1)), (10, (.goto 4, 3)), (13, (.lload_n 1, 1)), (14, (.lreturn, 1))]
theorem dy_p05_13 : dz_ok cX1_lesser dz_p05_13 = true := by decide +kernel
theorem dX1_lesser_0 : decode cX1_lesser 0 = .ok (.aload_n 0, 1) := dz_at (i := 0) dy_p05_13 rfl
theorem dX1_lesser_1 : decode cX1_lesser 1 = .ok (.lload_n 1, 1) := dz_at (i := 1) dy_p05_13 rfl
theorem dX1_lesser_2 : decode cX1_lesser 2 = .ok (.lload_n 3, 1) := dz_at (i := 2) dy_p05_13 rfl
theorem dX1_lesser_3 : decode cX1_lesser 3 = .ok (.invokevirtual 48, 3) := dz_at (i := 3) dy_p05_13 rfl
theorem dX1_lesser_6 : decode cX1_lesser 6 = .ok (.ifCond .le 7, 3) := dz_at (i := 4) dy_p05_13 rfl
theorem dX1_lesser_9 : decode cX1_lesser 9 = .ok (.lload_n 3, 1) := dz_at (i := 5) dy_p05_13 rfl
theorem dX1_lesser_10 : decode cX1_lesser 10 = .ok (.goto 4, 3) := dz_at (i := 6) dy_p05_13 rfl
theorem dX1_lesser_13 : decode cX1_lesser 13 = .ok (.lload_n 1, 1) := dz_at (i := 7) dy_p05_13 rfl
theorem dX1_lesser_14 : decode cX1_lesser 14 = .ok (.lreturn, 1) := dz_at (i := 8) dy_p05_13 rfl
noncomputable def o_X1_lesser (w : Bool) (p0 : Int64) (p1 : Int64) : Int64 :=
  if (o_X1_order w p0 p1) ≤ 0 then p0
  else p1
set_option maxHeartbeats 4000000 in
set_option maxRecDepth 100000 in
theorem k_X1_lesser (l : Launch) (dC : Nat → ClassId) (dI : Nat → Nat → Nat) (h0 : Nat) (w : Bool) (sz : Nat) (p0 : Int64) (p1 : Int64) : Met l yX1_lesser wsX1_lesser ({ frames := 2, cells := 0, slots := 0, locals := 52 }) (va_Pc [.ref h0, .long p0, .long p1] (xB (dC, dI) xCl [(h0, eW w)] [] sz)) (va_Ql (fun (r : Int64) (_ : Unit) => r = (o_X1_lesser w p0 p1)) (fun _ _ => True) (aN sz)) 0 0 (aN sz) := by
  refine Met.ofW (cc := cX1_lesser) (maxL := 5) (ret := (some .long)) (by decide +kernel) rfl ?_
  intro p e s m args below meth c s₁ B hml hv
  obtain ⟨rfl, hsz, hP, hK⟩ := hv
  have hx := B.exec
  have hb := B.bytes
  have hr := B.returns
  have hts := atoms_spec (ws := wsX1_lesser) B.pre
  have hown : s.vm.findClass RX1 = some m.cls := findClass_of_methodNamed B.named
  have hlocks := B.notSynchronized
  subst hsz
  have hA : ∀ q : Nat, s.heap.size ≤ q → aN s.heap.size q := fun _ h => h
  have hS : va_S (aN s.heap.size) s.heap s.heap [] := va_S.rf
  have hP : va_P (dC, dI) xCl [(h0, eW w)] s.heap := hP
  have hl := lv_entry ([.ref h0, .long p0, .long p1]) (n := 5) (Nat.le_of_ble_eq_true rfl)
  rw [lg_entry_eq]
  generalize (lg_sl ([.ref h0, .long p0, .long p1]) ++ List.replicate (5 - (lg_sl ([.ref h0, .long p0, .long p1])).length) Slot.unset).toArray = ls at hl ⊢
  have hl : lv_has ls 5 [(0, .ref h0), (1, .long p0), (3, .long p1)] := hl
  refine lv_aload_n hx hb dX1_lesser_0 rfl (lv_at hl 0 rfl) ?_
  refine lv_lload_n hx hb dX1_lesser_1 rfl (lv_at hl 1 rfl) ?_
  refine lv_lload_n hx hb dX1_lesser_2 rfl (lv_at hl 2 rfl) ?_
  have hPc := hP.sub (ws' := [(h0, eW w)]) [0] rfl
  have hKc := hK.sub (tys' := []) [] rfl
  refine va_calli (va_runV (As := [.long p0, .long p1]) (rest := []) ⟨hx, hb, hml, hown, hts⟩ (k_X1_order l dC dI h0 w s.heap.size p0 p1) (cwV 2 hts gX1_lesser_X1_order rfl rfl rfl (by decide +kernel) ⟨Nat.le_of_ble_eq_true rfl, Nat.le_of_ble_eq_true rfl⟩) (xB.preV hKc hPc (ci := 3) (q0 := 0) rfl rfl) rfl rfl hl.1 rfl (lv_room (Nat.le_of_ble_eq_true rfl)) dX1_lesser_3 ⟨Nat.le_of_ble_eq_true rfl, Nat.le_of_ble_eq_true rfl⟩) hS xA_old (fun q h => hA q (Nat.le_trans hS.1 h)) (fun r_1 u t H locs ht hvm hw hB hz hk hS => ?_)
  replace hw : r_1 = (o_X1_order w p0 p1) := hw
  subst r_1
  have hP := xP_keep hP hk
  refine lv_if_le (tgt := 13) hx hb dX1_lesser_6 (by decide +kernel) (fun c_2 => ?_) (fun c_2 => ?_)
  · skip
    refine lv_lload_n hx hb dX1_lesser_13 rfl (lv_at hl 1 rfl) ?_
    have he : o_X1_lesser w p0 p1 = p0 := by (rw [o_X1_lesser, if_pos c_2]) <;> rfl
    refine W.widen (k := 0) (n := 0) (by omega) (by omega) ?_
    exact W.lret (v := p0) hx hb hr (fun t ht hW => ⟨⟨_, (), rfl, (by (rw [he]) <;> rfl), trivial⟩, hS.F ht⟩) hS.2.2 dX1_lesser_14
  · skip
    refine lv_lload_n hx hb dX1_lesser_9 rfl (lv_at hl 2 rfl) ?_
    refine lv_goto (tgt := 14) hx hb dX1_lesser_10 (by decide +kernel) ?_
    have he : o_X1_lesser w p0 p1 = p1 := by (rw [o_X1_lesser, if_neg c_2]) <;> rfl
    refine W.widen (k := 0) (n := 0) (by omega) (by omega) ?_
    exact W.lret (v := p1) hx hb hr (fun t ht hW => ⟨⟨_, (), rfl, (by (rw [he]) <;> rfl), trivial⟩, hS.F ht⟩) hS.2.2 dX1_lesser_14
noncomputable def dz_p05_14 : List (Nat × Instr × Nat) := [(0, (.lload_n 1, 1)), (1, (.bipush 32, 2)), (3, (.lushr, 1)), (4, (.l2i, 1)), (5, (.lload_n 1, 1)), (6, (.l2i, 1)), (7, (.ixor, 1)), (8, (.ireturn, 1))]
theorem dy_p05_14 : dz_ok cX1_hash dz_p05_14 = true := by decide +kernel
theorem dX1_hash_0 : decode cX1_hash 0 = .ok (.lload_n 1, 1) := dz_at (i := 0) dy_p05_14 rfl
theorem dX1_hash_1 : decode cX1_hash 1 = .ok (.bipush 32, 2) := dz_at (i := 1) dy_p05_14 rfl
theorem dX1_hash_3 : decode cX1_hash 3 = .ok (.lushr, 1) := dz_at (i := 2) dy_p05_14 rfl
theorem dX1_hash_4 : decode cX1_hash 4 = .ok (.l2i, 1) := dz_at (i := 3) dy_p05_14 rfl
theorem dX1_hash_5 : decode cX1_hash 5 = .ok (.lload_n 1, 1) := dz_at (i := 4) dy_p05_14 rfl
theorem dX1_hash_6 : decode cX1_hash 6 = .ok (.l2i, 1) := dz_at (i := 5) dy_p05_14 rfl
theorem dX1_hash_7 : decode cX1_hash 7 = .ok (.ixor, 1) := dz_at (i := 6) dy_p05_14 rfl
theorem dX1_hash_8 : decode cX1_hash 8 = .ok (.ireturn, 1) := dz_at (i := 7) dy_p05_14 rfl
noncomputable def o_X1_hash  (p0 : Int64) : Int32 :=
  (((jLushr p0 32).toInt32) ^^^ p0.toInt32)
set_option maxHeartbeats 4000000 in
set_option maxRecDepth 100000 in
theorem k_X1_hash (l : Launch) (dC : Nat → ClassId) (dI : Nat → Nat → Nat) (h0 : Nat) (w : Bool) (sz : Nat) (p0 : Int64) : Met l yX1_hash wsX1_hash ({ frames := 0, cells := 0, slots := 0, locals := 0 }) (va_Pc [.ref h0, .long p0] (xB (dC, dI) xCl [(h0, eW w)] [] sz)) (va_Qi (fun (r : Int32) (_ : Unit) => r = (o_X1_hash p0)) (fun _ _ => True) (aN sz)) 0 0 (aN sz) := by
  refine Met.ofW (cc := cX1_hash) (maxL := 3) (ret := (some .int)) (by decide +kernel) rfl ?_
  intro p e s m args below meth c s₁ B hml hv
  obtain ⟨rfl, hsz, hP, hK⟩ := hv
  have hx := B.exec
  have hb := B.bytes
  have hr := B.returns
  have hts := atoms_spec (ws := wsX1_hash) B.pre
  have hown : s.vm.findClass RX1 = some m.cls := findClass_of_methodNamed B.named
  have hlocks := B.notSynchronized
  subst hsz
  have hA : ∀ q : Nat, s.heap.size ≤ q → aN s.heap.size q := fun _ h => h
  have hS : va_S (aN s.heap.size) s.heap s.heap [] := va_S.rf
  have hP : va_P (dC, dI) xCl [(h0, eW w)] s.heap := hP
  have hl := lv_entry ([.ref h0, .long p0]) (n := 3) (Nat.le_of_ble_eq_true rfl)
  rw [lg_entry_eq]
  generalize (lg_sl ([.ref h0, .long p0]) ++ List.replicate (3 - (lg_sl ([.ref h0, .long p0])).length) Slot.unset).toArray = ls at hl ⊢
  have hl : lv_has ls 3 [(0, .ref h0), (1, .long p0)] := hl
  refine lv_lload_n hx hb dX1_hash_0 rfl (lv_at hl 1 rfl) ?_
  refine lv_bipush (v := 32) hx hb dX1_hash_1 (by decide +kernel) ?_
  refine lv_lushr (v := (jLushr p0 32)) hx hb dX1_hash_3 rfl ?_
  refine lv_l2i (v := ((jLushr p0 32).toInt32)) hx hb dX1_hash_4 rfl ?_
  refine lv_lload_n hx hb dX1_hash_5 rfl (lv_at hl 1 rfl) ?_
  refine lv_l2i (v := p0.toInt32) hx hb dX1_hash_6 rfl ?_
  refine lv_ixor hx hb dX1_hash_7 ?_
  have he : o_X1_hash p0 = (((jLushr p0 32).toInt32) ^^^ p0.toInt32) := by (rw [o_X1_hash]) <;> rfl
  refine W.widen (k := 0) (n := 0) (by omega) (by omega) ?_
  exact W.iret (v := (((jLushr p0 32).toInt32) ^^^ p0.toInt32)) hx hb hr (fun t ht hW => ⟨⟨_, (), rfl, (by (rw [he]) <;> rfl), trivial⟩, hS.F ht⟩) hS.2.2 dX1_hash_8
