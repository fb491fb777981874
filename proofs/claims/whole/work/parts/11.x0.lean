
theorem xfl {l : Launch} (h : l.flags = flags0) : l.stackTraces = false := by
  unfold Launch.stackTraces
  rw [h]
  decide +kernel
theorem xF_t {A : Nat → Prop} {s t : State} {H : Heap} {locs : List Loc} (hS : va_S A s.heap H locs) (h1 : H.size ≤ t.heap.size) (h2 : ∀ q : Nat, q < H.size → t.heap[q]? = H[q]?) : va_F A s t := ⟨Nat.le_trans hS.1 h1, fun q hq hA => (h2 q (Nat.lt_of_lt_of_le hq hS.1)).trans (hS.2.1 q hq hA)⟩

noncomputable def dz_p11_1 : List (Nat × Instr × Nat) := [(0, (.iload_n 0, 1)), (1, (.ifCond .lt 9, 3)), (4, (.iload_n 0, 1)), (5, (.bipush 8, 2)), (7, (.if_icmp .lt 13, 3)), (10, (.new 148, 3)), (13, (.dup, 1)), (14, (.ldc 150, 2)), (16, (.invokespecial 152, 3)), (19, (.athrow, 1)), (20, (.return_, 1))]
theorem dy_p11_1 : dz_ok cX2_checkCell dz_p11_1 = true := by decide +kernel
theorem dX2_checkCell_0 : decode cX2_checkCell 0 = .ok (.iload_n 0, 1) := dz_at (i := 0) dy_p11_1 rfl
theorem dX2_checkCell_1 : decode cX2_checkCell 1 = .ok (.ifCond .lt 9, 3) := dz_at (i := 1) dy_p11_1 rfl
theorem dX2_checkCell_4 : decode cX2_checkCell 4 = .ok (.iload_n 0, 1) := dz_at (i := 2) dy_p11_1 rfl
theorem dX2_checkCell_5 : decode cX2_checkCell 5 = .ok (.bipush 8, 2) := dz_at (i := 3) dy_p11_1 rfl
theorem dX2_checkCell_7 : decode cX2_checkCell 7 = .ok (.if_icmp .lt 13, 3) := dz_at (i := 4) dy_p11_1 rfl
theorem dX2_checkCell_10 : decode cX2_checkCell 10 = .ok (.new 148, 3) := dz_at (i := 5) dy_p11_1 rfl
theorem dX2_checkCell_13 : decode cX2_checkCell 13 = .ok (.dup, 1) := dz_at (i := 6) dy_p11_1 rfl
theorem dX2_checkCell_14 : decode cX2_checkCell 14 = .ok (.ldc 150, 2) := dz_at (i := 7) dy_p11_1 rfl
theorem dX2_checkCell_16 : decode cX2_checkCell 16 = .ok (.invokespecial 152, 3) := dz_at (i := 8) dy_p11_1 rfl
theorem dX2_checkCell_19 : decode cX2_checkCell 19 = .ok (.athrow, 1) := dz_at (i := 9) dy_p11_1 rfl
theorem dX2_checkCell_20 : decode cX2_checkCell 20 = .ok (.return_, 1) := dz_at (i := 10) dy_p11_1 rfl
noncomputable def o_X2_checkCell  (p0 : Int32) : Int32 :=
  if p0 < 0 then 1
  else if p0 < 8 then 0
  else 1
set_option maxHeartbeats 4000000 in
set_option maxRecDepth 100000 in
theorem k_X2_checkCell (l : Launch) (hfl : l.flags = flags0) (dC : Nat → ClassId) (dI : Nat → Nat → Nat)  (sz : Nat) (N : Nat) (p0 : Int32) : vx_Met l yX2_checkCell wsX2_checkCell ({ frames := 6, cells := 1, slots := 6, locals := 100 }) (va_Pc [.int p0] (xM (dC, dI) xCl [] [] sz N)) (va_Qv (fun (_ : Unit) => (o_X2_checkCell p0) = 0) (fun _ _ => True) (aN sz)) (vx_X (fun _ : Unit => ¬ (o_X2_checkCell p0) = 0) (fun E _ _ => E = xE (o_X2_checkCell p0)) (aN sz)) 1 6 (aN sz) := by
  refine vx_ofW (cc := cX2_checkCell) (maxL := 1) (ret := none) (by decide +kernel) rfl ?_
  intro p e s m args below meth c s₁ B hml hno hv
  obtain ⟨rfl, hsz, hP, hK, hD0, hN, hG⟩ := hv
  have hx := B.exec
  have hb := B.bytes
  have hr := B.returns
  have hts := atoms_spec (ws := wsX2_checkCell) B.pre
  have hown : s.vm.findClass RX2 = some m.cls := findClass_of_methodNamed B.named
  have hlocks := B.notSynchronized
  subst hsz
  have hA : ∀ q : Nat, s.heap.size ≤ q → aN s.heap.size q := fun _ h => h
  have hD := hD0
  have hAN : ∀ q, aN s.heap.size q → N ≤ q := fun q h => Nat.le_trans hN h
  have hS : va_S (aN s.heap.size) s.heap s.heap [] := va_S.rf
  have hP : va_P (dC, dI) xCl [] s.heap := hP
  have hl := lv_entry ([.int p0]) (n := 1) (Nat.le_of_ble_eq_true rfl)
  rw [lg_entry_eq]
  generalize (lg_sl ([.int p0]) ++ List.replicate (1 - (lg_sl ([.int p0])).length) Slot.unset).toArray = ls at hl ⊢
  have hl : lv_has ls 1 [(0, .int p0)] := hl
  refine lv_iload_n hx hb dX2_checkCell_0 rfl (lv_at hl 0 rfl) ?_
  refine lv_if_lt (tgt := 10) hx hb dX2_checkCell_1 (by decide +kernel) (fun c_1 => ?_) (fun c_1 => ?_)
  · skip
    have he : o_X2_checkCell p0 = 1 := by (rw [o_X2_checkCell, if_pos c_1]) <;> rfl
    obtain ⟨sa, hsa⟩ := hG.2.1
    have hxat : ∀ w ∈ (vx_atS RX2 152 "java/lang/IndexOutOfBoundsException" ["java/lang/RuntimeException", "java/lang/Exception"]).filter goodWord, w ∈ wsX2_checkCell := fun w hw => (by first | exact List.mem_cons_of_mem _ (List.mem_append_right _ hw) | exact List.mem_cons_of_mem _ (List.mem_append_left _ (List.mem_append_right _ hw)))
    have hxbad : ∀ w ∈ (vx_atS RX2 152 "java/lang/IndexOutOfBoundsException" ["java/lang/RuntimeException", "java/lang/Exception"]).filter (fun w => !goodWord w), w ∈ [Cond.declares (Bundle.initS "java/lang/RuntimeException"), .declares (Bundle.initS "java/lang/Exception"), .declares (Bundle.initS "java/lang/Throwable"), .castable "java/lang/IndexOutOfBoundsException" "java/lang/IndexOutOfBoundsException"] := by decide +kernel
    exact vx_throwS hx hb (xfl hfl) (own := RX2) (cls := "java/lang/IndexOutOfBoundsException") (text := "a cell is not 0 to 7") (names := ["java/lang/RuntimeException", "java/lang/Exception"]) (ik := 148) (is := 150) (ic := 152) (sa := sa) hown (by decide +kernel) (by decide +kernel) (hts (.classLink RX2 148 "java/lang/IndexOutOfBoundsException") (by decide +kernel)) (hts (.initialized "java/lang/IndexOutOfBoundsException") (by decide +kernel)) hsa (vx_hat (L := vx_atS RX2 152 "java/lang/IndexOutOfBoundsException" ["java/lang/RuntimeException", "java/lang/Exception"]) (B := [.declares (Bundle.initS "java/lang/RuntimeException"), .declares (Bundle.initS "java/lang/Exception"), .declares (Bundle.initS "java/lang/Throwable"), .castable "java/lang/IndexOutOfBoundsException" "java/lang/IndexOutOfBoundsException"]) (fun w hw => hts w (hxat w hw)) hxbad (vx_c (va_Nw.use rfl (hG.1 _ (by decide +kernel))) (vx_c (va_Nw.use rfl (hG.1 _ (by decide +kernel))) (vx_c (va_Nw.use rfl (hG.1 _ (by decide +kernel))) (vx_c (va_Nw.use rfl (hG.1 _ (by decide +kernel))) vx_n))))) (by decide +kernel) (vx_Zq.narrow hG.2.2.2.2.1 hAN) (vx_Zq.narrow hG.2.2.2.2.2 hAN) hS (hl.1.trans hml.symm) dX2_checkCell_10 dX2_checkCell_13 dX2_checkCell_14 dX2_checkCell_16 dX2_checkCell_19 (fun x hx => (hno x hx).elim) (by decide +kernel) (by decide +kernel) (by decide +kernel) (by decide +kernel) hlocks (fun t _ h1 h2 => ⟨(), by rw [he]; exact (by decide : ¬ (1 : Int32) = 0), by rw [he]; rfl, xF_t hS h1 h2⟩) hS.2.2 (by omega) (by omega)
  · skip
    refine lv_iload_n hx hb dX2_checkCell_4 rfl (lv_at hl 0 rfl) ?_
    refine lv_bipush (v := 8) hx hb dX2_checkCell_5 (by decide +kernel) ?_
    refine lv_icmp_lt (tgt := 20) hx hb dX2_checkCell_7 (by decide +kernel) (fun c_2 => ?_) (fun c_2 => ?_)
    · skip
      have he : o_X2_checkCell p0 = 0 := by (rw [o_X2_checkCell, if_neg c_1, if_pos c_2]) <;> rfl
      refine W.widen (k := 1) (n := 6) (by omega) (by omega) ?_
      refine vx_ret ?_
      exact W.vret hx hb hr (fun t ht hW => ⟨⟨(), rfl, (by (rw [he]) <;> rfl), trivial⟩, hS.F ht⟩) hS.2.2 dX2_checkCell_20
    · skip
      have he : o_X2_checkCell p0 = 1 := by (rw [o_X2_checkCell, if_neg c_1, if_neg c_2]) <;> rfl
      obtain ⟨sa, hsa⟩ := hG.2.1
      have hxat : ∀ w ∈ (vx_atS RX2 152 "java/lang/IndexOutOfBoundsException" ["java/lang/RuntimeException", "java/lang/Exception"]).filter goodWord, w ∈ wsX2_checkCell := fun w hw => (by first | exact List.mem_cons_of_mem _ (List.mem_append_right _ hw) | exact List.mem_cons_of_mem _ (List.mem_append_left _ (List.mem_append_right _ hw)))
      have hxbad : ∀ w ∈ (vx_atS RX2 152 "java/lang/IndexOutOfBoundsException" ["java/lang/RuntimeException", "java/lang/Exception"]).filter (fun w => !goodWord w), w ∈ [Cond.declares (Bundle.initS "java/lang/RuntimeException"), .declares (Bundle.initS "java/lang/Exception"), .declares (Bundle.initS "java/lang/Throwable"), .castable "java/lang/IndexOutOfBoundsException" "java/lang/IndexOutOfBoundsException"] := by decide +kernel
      exact vx_throwS hx hb (xfl hfl) (own := RX2) (cls := "java/lang/IndexOutOfBoundsException") (text := "a cell is not 0 to 7") (names := ["java/lang/RuntimeException", "java/lang/Exception"]) (ik := 148) (is := 150) (ic := 152) (sa := sa) hown (by decide +kernel) (by decide +kernel) (hts (.classLink RX2 148 "java/lang/IndexOutOfBoundsException") (by decide +kernel)) (hts (.initialized "java/lang/IndexOutOfBoundsException") (by decide +kernel)) hsa (vx_hat (L := vx_atS RX2 152 "java/lang/IndexOutOfBoundsException" ["java/lang/RuntimeException", "java/lang/Exception"]) (B := [.declares (Bundle.initS "java/lang/RuntimeException"), .declares (Bundle.initS "java/lang/Exception"), .declares (Bundle.initS "java/lang/Throwable"), .castable "java/lang/IndexOutOfBoundsException" "java/lang/IndexOutOfBoundsException"]) (fun w hw => hts w (hxat w hw)) hxbad (vx_c (va_Nw.use rfl (hG.1 _ (by decide +kernel))) (vx_c (va_Nw.use rfl (hG.1 _ (by decide +kernel))) (vx_c (va_Nw.use rfl (hG.1 _ (by decide +kernel))) (vx_c (va_Nw.use rfl (hG.1 _ (by decide +kernel))) vx_n))))) (by decide +kernel) (vx_Zq.narrow hG.2.2.2.2.1 hAN) (vx_Zq.narrow hG.2.2.2.2.2 hAN) hS (hl.1.trans hml.symm) dX2_checkCell_10 dX2_checkCell_13 dX2_checkCell_14 dX2_checkCell_16 dX2_checkCell_19 (fun x hx => (hno x hx).elim) (by decide +kernel) (by decide +kernel) (by decide +kernel) (by decide +kernel) hlocks (fun t _ h1 h2 => ⟨(), by rw [he]; exact (by decide : ¬ (1 : Int32) = 0), by rw [he]; rfl, xF_t hS h1 h2⟩) hS.2.2 (by omega) (by omega)
noncomputable def dz_p11_2 : List (Nat × Instr × Nat) := [(0, (.iload_n 0, 1)), (1, (.ifCond .lt 8, 3)), (4, (.iload_n 0, 1)), (5, (.iload_n 1, 1)), (6, (.if_icmp .le 13, 3)), (9, (.new 155, 3)), (12, (.dup, 1)), (13, (.ldc 157, 2)), (15, (.invokespecial 159, 3)), (18, (.athrow, 1)), (19, (.return_, 1))]
theorem dy_p11_2 : dz_ok cX2_checkChoice dz_p11_2 = true := by decide +kernel
theorem dX2_checkChoice_0 : decode cX2_checkChoice 0 = .ok (.iload_n 0, 1) := dz_at (i := 0) dy_p11_2 rfl
theorem dX2_checkChoice_1 : decode cX2_checkChoice 1 = .ok (.ifCond .lt 8, 3) := dz_at (i := 1) dy_p11_2 rfl
theorem dX2_checkChoice_4 : decode cX2_checkChoice 4 = .ok (.iload_n 0, 1) := dz_at (i := 2) dy_p11_2 rfl
theorem dX2_checkChoice_5 : decode cX2_checkChoice 5 = .ok (.iload_n 1, 1) := dz_at (i := 3) dy_p11_2 rfl
theorem dX2_checkChoice_6 : decode cX2_checkChoice 6 = .ok (.if_icmp .le 13, 3) := dz_at (i := 4) dy_p11_2 rfl
theorem dX2_checkChoice_9 : decode cX2_checkChoice 9 = .ok (.new 155, 3) := dz_at (i := 5) dy_p11_2 rfl
theorem dX2_checkChoice_12 : decode cX2_checkChoice 12 = .ok (.dup, 1) := dz_at (i := 6) dy_p11_2 rfl
theorem dX2_checkChoice_13 : decode cX2_checkChoice 13 = .ok (.ldc 157, 2) := dz_at (i := 7) dy_p11_2 rfl
theorem dX2_checkChoice_15 : decode cX2_checkChoice 15 = .ok (.invokespecial 159, 3) := dz_at (i := 8) dy_p11_2 rfl
theorem dX2_checkChoice_18 : decode cX2_checkChoice 18 = .ok (.athrow, 1) := dz_at (i := 9) dy_p11_2 rfl
theorem dX2_checkChoice_19 : decode cX2_checkChoice 19 = .ok (.return_, 1) := dz_at (i := 10) dy_p11_2 rfl
noncomputable def o_X2_checkChoice  (p0 : Int32) (p1 : Int32) : Int32 :=
  if p0 < 0 then 2
  else if p0 ≤ p1 then 0
  else 2
set_option maxHeartbeats 4000000 in
set_option maxRecDepth 100000 in
theorem k_X2_checkChoice (l : Launch) (hfl : l.flags = flags0) (dC : Nat → ClassId) (dI : Nat → Nat → Nat)  (sz : Nat) (N : Nat) (p0 : Int32) (p1 : Int32) : vx_Met l yX2_checkChoice wsX2_checkChoice ({ frames := 6, cells := 1, slots := 6, locals := 100 }) (va_Pc [.int p0, .int p1] (xM (dC, dI) xCl [] [] sz N)) (va_Qv (fun (_ : Unit) => (o_X2_checkChoice p0 p1) = 0) (fun _ _ => True) (aN sz)) (vx_X (fun _ : Unit => ¬ (o_X2_checkChoice p0 p1) = 0) (fun E _ _ => E = xE (o_X2_checkChoice p0 p1)) (aN sz)) 1 6 (aN sz) := by
  refine vx_ofW (cc := cX2_checkChoice) (maxL := 2) (ret := none) (by decide +kernel) rfl ?_
  intro p e s m args below meth c s₁ B hml hno hv
  obtain ⟨rfl, hsz, hP, hK, hD0, hN, hG⟩ := hv
  have hx := B.exec
  have hb := B.bytes
  have hr := B.returns
  have hts := atoms_spec (ws := wsX2_checkChoice) B.pre
  have hown : s.vm.findClass RX2 = some m.cls := findClass_of_methodNamed B.named
  have hlocks := B.notSynchronized
  subst hsz
  have hA : ∀ q : Nat, s.heap.size ≤ q → aN s.heap.size q := fun _ h => h
  have hD := hD0
  have hAN : ∀ q, aN s.heap.size q → N ≤ q := fun q h => Nat.le_trans hN h
  have hS : va_S (aN s.heap.size) s.heap s.heap [] := va_S.rf
  have hP : va_P (dC, dI) xCl [] s.heap := hP
  have hl := lv_entry ([.int p0, .int p1]) (n := 2) (Nat.le_of_ble_eq_true rfl)
  rw [lg_entry_eq]
  generalize (lg_sl ([.int p0, .int p1]) ++ List.replicate (2 - (lg_sl ([.int p0, .int p1])).length) Slot.unset).toArray = ls at hl ⊢
  have hl : lv_has ls 2 [(0, .int p0), (1, .int p1)] := hl
  refine lv_iload_n hx hb dX2_checkChoice_0 rfl (lv_at hl 0 rfl) ?_
  refine lv_if_lt (tgt := 9) hx hb dX2_checkChoice_1 (by decide +kernel) (fun c_1 => ?_) (fun c_1 => ?_)
  · skip
    have he : o_X2_checkChoice p0 p1 = 2 := by (rw [o_X2_checkChoice, if_pos c_1]) <;> rfl
    obtain ⟨sa, hsa⟩ := hG.2.2.1
    have hxat : ∀ w ∈ (vx_atS RX2 159 "java/lang/IllegalArgumentException" ["java/lang/RuntimeException", "java/lang/Exception"]).filter goodWord, w ∈ wsX2_checkChoice := fun w hw => (by first | exact List.mem_cons_of_mem _ (List.mem_append_right _ hw) | exact List.mem_cons_of_mem _ (List.mem_append_left _ (List.mem_append_right _ hw)))
    have hxbad : ∀ w ∈ (vx_atS RX2 159 "java/lang/IllegalArgumentException" ["java/lang/RuntimeException", "java/lang/Exception"]).filter (fun w => !goodWord w), w ∈ [Cond.declares (Bundle.initS "java/lang/RuntimeException"), .declares (Bundle.initS "java/lang/Exception"), .declares (Bundle.initS "java/lang/Throwable"), .castable "java/lang/IllegalArgumentException" "java/lang/IllegalArgumentException"] := by decide +kernel
    exact vx_throwS hx hb (xfl hfl) (own := RX2) (cls := "java/lang/IllegalArgumentException") (text := "there is no such choice") (names := ["java/lang/RuntimeException", "java/lang/Exception"]) (ik := 155) (is := 157) (ic := 159) (sa := sa) hown (by decide +kernel) (by decide +kernel) (hts (.classLink RX2 155 "java/lang/IllegalArgumentException") (by decide +kernel)) (hts (.initialized "java/lang/IllegalArgumentException") (by decide +kernel)) hsa (vx_hat (L := vx_atS RX2 159 "java/lang/IllegalArgumentException" ["java/lang/RuntimeException", "java/lang/Exception"]) (B := [.declares (Bundle.initS "java/lang/RuntimeException"), .declares (Bundle.initS "java/lang/Exception"), .declares (Bundle.initS "java/lang/Throwable"), .castable "java/lang/IllegalArgumentException" "java/lang/IllegalArgumentException"]) (fun w hw => hts w (hxat w hw)) hxbad (vx_c (va_Nw.use rfl (hG.1 _ (by decide +kernel))) (vx_c (va_Nw.use rfl (hG.1 _ (by decide +kernel))) (vx_c (va_Nw.use rfl (hG.1 _ (by decide +kernel))) (vx_c (va_Nw.use rfl (hG.1 _ (by decide +kernel))) vx_n))))) (by decide +kernel) (vx_Zq.narrow hG.2.2.2.2.1 hAN) (vx_Zq.narrow hG.2.2.2.2.2 hAN) hS (hl.1.trans hml.symm) dX2_checkChoice_9 dX2_checkChoice_12 dX2_checkChoice_13 dX2_checkChoice_15 dX2_checkChoice_18 (fun x hx => (hno x hx).elim) (by decide +kernel) (by decide +kernel) (by decide +kernel) (by decide +kernel) hlocks (fun t _ h1 h2 => ⟨(), by rw [he]; exact (by decide : ¬ (2 : Int32) = 0), by rw [he]; rfl, xF_t hS h1 h2⟩) hS.2.2 (by omega) (by omega)
  · skip
    refine lv_iload_n hx hb dX2_checkChoice_4 rfl (lv_at hl 0 rfl) ?_
    refine lv_iload_n hx hb dX2_checkChoice_5 rfl (lv_at hl 1 rfl) ?_
    refine lv_icmp_le (tgt := 19) hx hb dX2_checkChoice_6 (by decide +kernel) (fun c_2 => ?_) (fun c_2 => ?_)
    · skip
      have he : o_X2_checkChoice p0 p1 = 0 := by (rw [o_X2_checkChoice, if_neg c_1, if_pos c_2]) <;> rfl
      refine W.widen (k := 1) (n := 6) (by omega) (by omega) ?_
      refine vx_ret ?_
      exact W.vret hx hb hr (fun t ht hW => ⟨⟨(), rfl, (by (rw [he]) <;> rfl), trivial⟩, hS.F ht⟩) hS.2.2 dX2_checkChoice_19
    · skip
      have he : o_X2_checkChoice p0 p1 = 2 := by (rw [o_X2_checkChoice, if_neg c_1, if_neg c_2]) <;> rfl
      obtain ⟨sa, hsa⟩ := hG.2.2.1
      have hxat : ∀ w ∈ (vx_atS RX2 159 "java/lang/IllegalArgumentException" ["java/lang/RuntimeException", "java/lang/Exception"]).filter goodWord, w ∈ wsX2_checkChoice := fun w hw => (by first | exact List.mem_cons_of_mem _ (List.mem_append_right _ hw) | exact List.mem_cons_of_mem _ (List.mem_append_left _ (List.mem_append_right _ hw)))
      have hxbad : ∀ w ∈ (vx_atS RX2 159 "java/lang/IllegalArgumentException" ["java/lang/RuntimeException", "java/lang/Exception"]).filter (fun w => !goodWord w), w ∈ [Cond.declares (Bundle.initS "java/lang/RuntimeException"), .declares (Bundle.initS "java/lang/Exception"), .declares (Bundle.initS "java/lang/Throwable"), .castable "java/lang/IllegalArgumentException" "java/lang/IllegalArgumentException"] := by decide +kernel
      exact vx_throwS hx hb (xfl hfl) (own := RX2) (cls := "java/lang/IllegalArgumentException") (text := "there is no such choice") (names := ["java/lang/RuntimeException", "java/lang/Exception"]) (ik := 155) (is := 157) (ic := 159) (sa := sa) hown (by decide +kernel) (by decide +kernel) (hts (.classLink RX2 155 "java/lang/IllegalArgumentException") (by decide +kernel)) (hts (.initialized "java/lang/IllegalArgumentException") (by decide +kernel)) hsa (vx_hat (L := vx_atS RX2 159 "java/lang/IllegalArgumentException" ["java/lang/RuntimeException", "java/lang/Exception"]) (B := [.declares (Bundle.initS "java/lang/RuntimeException"), .declares (Bundle.initS "java/lang/Exception"), .declares (Bundle.initS "java/lang/Throwable"), .castable "java/lang/IllegalArgumentException" "java/lang/IllegalArgumentException"]) (fun w hw => hts w (hxat w hw)) hxbad (vx_c (va_Nw.use rfl (hG.1 _ (by decide +kernel))) (vx_c (va_Nw.use rfl (hG.1 _ (by decide +kernel))) (vx_c (va_Nw.use rfl (hG.1 _ (by decide +kernel))) (vx_c (va_Nw.use rfl (hG.1 _ (by decide +kernel))) vx_n))))) (by decide +kernel) (vx_Zq.narrow hG.2.2.2.2.1 hAN) (vx_Zq.narrow hG.2.2.2.2.2 hAN) hS (hl.1.trans hml.symm) dX2_checkChoice_9 dX2_checkChoice_12 dX2_checkChoice_13 dX2_checkChoice_15 dX2_checkChoice_18 (fun x hx => (hno x hx).elim) (by decide +kernel) (by decide +kernel) (by decide +kernel) (by decide +kernel) hlocks (fun t _ h1 h2 => ⟨(), by rw [he]; exact (by decide : ¬ (2 : Int32) = 0), by rw [he]; rfl, xF_t hS h1 h2⟩) hS.2.2 (by omega) (by omega)

theorem xm_cc {p : Int32} (h : o_X2_checkCell p = 0) : vp_in p 8 := by
  rw [o_X2_checkCell] at h
  by_cases c1 : p < 0
  · rw [if_pos c1] at h
    exact absurd h (by decide +kernel)
  · rw [if_neg c1] at h
    by_cases c2 : p < 8
    · have a1 : ¬ p.toInt < (0 : Int32).toInt := fun z => c1 (Int32.lt_iff_toInt_lt.mpr z)
      have a2 := Int32.lt_iff_toInt_lt.mp c2
      have z0 : (0 : Int32).toInt = 0 := by decide
      have z8 : (8 : Int32).toInt = 8 := by decide
      exact vp_in_iff.mpr ⟨by omega, by omega⟩
    · rw [if_neg c2] at h
      exact absurd h (by decide +kernel)

theorem cl_X0_checkCells_1 : ∀ w ∈ [.static yX2_checkCell, .initialized RX2, .code yX2_checkCell cX2_checkCell 1 none, .classLink RX2 148 "java/lang/IndexOutOfBoundsException", .initialized "java/lang/IndexOutOfBoundsException"], w ∈ wsX0_checkCells := fun _ h => (List.mem_cons_of_mem _ (List.mem_append_left _ h))
theorem cl_X0_checkCells_2 : ∀ w ∈ (vx_atS RX2 152 "java/lang/IndexOutOfBoundsException" ["java/lang/RuntimeException", "java/lang/Exception"]).filter goodWord, w ∈ wsX0_checkCells := fun _ h => (List.mem_cons_of_mem _ (List.mem_append_right _ h))
set_option maxRecDepth 20000 in
theorem ggX0_checkCells_X2_checkCell : GoodIn wsX0_checkCells wsX2_checkCell := goodIn_sub (List.forall_mem_cons.mpr ⟨(cl_X0_checkCells_1 _ (List.mem_of_getElem? (i := 2) rfl)), fun w h => (List.mem_append.mp h).elim ((List.forall_mem_cons.mpr ⟨(cl_X0_checkCells_1 _ (List.mem_of_getElem? (i := 3) rfl)), List.forall_mem_cons.mpr ⟨(cl_X0_checkCells_1 _ (List.mem_of_getElem? (i := 4) rfl)), fun _ h => absurd h List.not_mem_nil⟩⟩) w) ((cl_X0_checkCells_2) w)⟩) (by decide +kernel)
set_option maxRecDepth 20000 in
theorem gX0_checkCells_X2_checkCell_n22 : GoodIn wsX0_checkCells (wsX2_checkCell) := ggX0_checkCells_X2_checkCell
noncomputable def dz_p11_3 : List (Nat × Instr × Nat) := [(0, (.iload_n 0, 1)), (1, (.invokestatic 22, 3)), (4, (.iload_n 1, 1)), (5, (.invokestatic 22, 3)), (8, (.iload_n 2, 1)), (9, (.invokestatic 22, 3)), (12, (.return_, 1))]
theorem dy_p11_3 : dz_ok cX0_checkCells dz_p11_3 = true := by decide +kernel
theorem dX0_checkCells_0 : decode cX0_checkCells 0 = .ok (.iload_n 0, 1) := dz_at (i := 0) dy_p11_3 rfl
theorem dX0_checkCells_1 : decode cX0_checkCells 1 = .ok (.invokestatic 22, 3) := dz_at (i := 1) dy_p11_3 rfl
theorem dX0_checkCells_4 : decode cX0_checkCells 4 = .ok (.iload_n 1, 1) := dz_at (i := 2) dy_p11_3 rfl
theorem dX0_checkCells_5 : decode cX0_checkCells 5 = .ok (.invokestatic 22, 3) := dz_at (i := 3) dy_p11_3 rfl
theorem dX0_checkCells_8 : decode cX0_checkCells 8 = .ok (.iload_n 2, 1) := dz_at (i := 4) dy_p11_3 rfl
theorem dX0_checkCells_9 : decode cX0_checkCells 9 = .ok (.invokestatic 22, 3) := dz_at (i := 5) dy_p11_3 rfl
theorem dX0_checkCells_12 : decode cX0_checkCells 12 = .ok (.return_, 1) := dz_at (i := 6) dy_p11_3 rfl
noncomputable def o_X0_checkCells  (p0 : Int32) (p1 : Int32) (p2 : Int32) : Int32 :=
  if (o_X2_checkCell p0) = 0 then (if (o_X2_checkCell p1) = 0 then (if (o_X2_checkCell p2) = 0 then 0
      else (o_X2_checkCell p2))
    else (o_X2_checkCell p1))
  else (o_X2_checkCell p0)
set_option maxHeartbeats 4000000 in
set_option maxRecDepth 100000 in
theorem k_X0_checkCells (l : Launch) (hfl : l.flags = flags0) (dC : Nat → ClassId) (dI : Nat → Nat → Nat)  (sz : Nat) (N : Nat) (p0 : Int32) (p1 : Int32) (p2 : Int32) : vx_Met l yX0_checkCells wsX0_checkCells ({ frames := 7, cells := 3, slots := 18, locals := 120 }) (va_Pc [.int p0, .int p1, .int p2] (xM (dC, dI) xCl [] [] sz N)) (va_Qv (fun (_ : Unit) => (o_X0_checkCells p0 p1 p2) = 0) (fun _ _ => True) (aN sz)) (vx_X (fun _ : Unit => ¬ (o_X0_checkCells p0 p1 p2) = 0) (fun E _ _ => E = xE (o_X0_checkCells p0 p1 p2)) (aN sz)) 3 18 (aN sz) := by
  refine vx_ofW (cc := cX0_checkCells) (maxL := 3) (ret := none) (by decide +kernel) rfl ?_
  intro p e s m args below meth c s₁ B hml hno hv
  obtain ⟨rfl, hsz, hP, hK, hD0, hN, hG⟩ := hv
  have hx := B.exec
  have hb := B.bytes
  have hr := B.returns
  have hts := atoms_spec (ws := wsX0_checkCells) B.pre
  have hown : s.vm.findClass RX0 = some m.cls := findClass_of_methodNamed B.named
  have hlocks := B.notSynchronized
  subst hsz
  have hA : ∀ q : Nat, s.heap.size ≤ q → aN s.heap.size q := fun _ h => h
  have hD := hD0
  have hAN : ∀ q, aN s.heap.size q → N ≤ q := fun q h => Nat.le_trans hN h
  have hS : va_S (aN s.heap.size) s.heap s.heap [] := va_S.rf
  have hP : va_P (dC, dI) xCl [] s.heap := hP
  have hl := lv_entry ([.int p0, .int p1, .int p2]) (n := 3) (Nat.le_of_ble_eq_true rfl)
  rw [lg_entry_eq]
  generalize (lg_sl ([.int p0, .int p1, .int p2]) ++ List.replicate (3 - (lg_sl ([.int p0, .int p1, .int p2])).length) Slot.unset).toArray = ls at hl ⊢
  have hl : lv_has ls 3 [(0, .int p0), (1, .int p1), (2, .int p2)] := hl
  refine lv_iload_n hx hb dX0_checkCells_0 rfl (lv_at hl 0 rfl) ?_
  have hPc := xP_nil (D := (dC, dI)) (cl := xCl) (H := s.heap)
  have hDc := xD_nil (A := aN N)
  have hKc := hK.sub (tys' := []) [] rfl
  refine vx_callv (vx_runSN (As := [.int p0]) (rest := []) ⟨hx, hb, hml, hown, hts⟩ (k_X2_checkCell l hfl dC dI s.heap.size N p0) ⟨va_cnB 1 hts gX0_checkCells_X2_checkCell_n22 rfl rfl rfl (hG.1 (.methodLinkNest RX0 22 yX2_checkCell RX2) (List.mem_of_getElem? (i := 0) rfl)) (hts (.initialized RX2) (by decide +kernel)) (by decide +kernel) ⟨Nat.le_of_ble_eq_true rfl, Nat.le_of_ble_eq_true rfl⟩, hts (.static yX2_checkCell) (by decide +kernel), trivial⟩ (xM.preS hKc hPc hDc (fun _ h => h) (Nat.le_trans hN hS.1) (hG.kept hS hAN)) rfl rfl hl.1 rfl (lv_room (Nat.le_of_ble_eq_true rfl)) dX0_checkCells_1 ⟨Nat.le_of_ble_eq_true rfl, Nat.le_of_ble_eq_true rfl⟩) hS xA_old (fun q h => hA q (Nat.le_trans hS.1 h)) xA_old (fun E ce q9 u9 t H locs ht hvm hpx hbx hz hk hS hce hcv hcl => ?_) (fun u t H locs ht hvm hw hB hz hk hS => ?_)
  · have c_2 : ¬ (o_X2_checkCell p0) = 0 := hpx
    have hbe := hbx
    have hP := xP_keep hP hk
    have he : o_X0_checkCells p0 p1 p2 = (o_X2_checkCell p0) := by (rw [o_X0_checkCells, if_neg c_2]) <;> rfl
    exact vx_out (fun x hx => (hno x hx).elim) hlocks hce hcv hcl (fun t ht hvm => ⟨(), by rw [he]; exact c_2, by rw [he]; exact hbe, hS.F ht⟩) hS.2.2 (by omega) (by omega)
  · skip
    have c_3 := hw
    have c_3 : (o_X2_checkCell p0) = 0 := c_3
    have hP := xP_keep hP hk
    refine lv_iload_n hx hb dX0_checkCells_4 rfl (lv_at hl 1 rfl) ?_
    have hPc := xP_nil (D := (dC, dI)) (cl := xCl) (H := H)
    have hDc := xD_nil (A := aN N)
    have hKc := hK.sub (tys' := []) [] rfl
    refine vx_callv (vx_runSN (As := [.int p1]) (rest := []) ⟨hx, hb, hml, hown, hts⟩ (k_X2_checkCell l hfl dC dI H.size N p1) ⟨va_cnB 1 hts gX0_checkCells_X2_checkCell_n22 rfl rfl rfl (hG.1 (.methodLinkNest RX0 22 yX2_checkCell RX2) (List.mem_of_getElem? (i := 0) rfl)) (hts (.initialized RX2) (by decide +kernel)) (by decide +kernel) ⟨Nat.le_of_ble_eq_true rfl, Nat.le_of_ble_eq_true rfl⟩, hts (.static yX2_checkCell) (by decide +kernel), trivial⟩ (xM.preS hKc hPc hDc (fun _ h => h) (Nat.le_trans hN hS.1) (hG.kept hS hAN)) rfl rfl hl.1 rfl (lv_room (Nat.le_of_ble_eq_true rfl)) dX0_checkCells_5 ⟨Nat.le_of_ble_eq_true rfl, Nat.le_of_ble_eq_true rfl⟩) hS xA_old (fun q h => hA q (Nat.le_trans hS.1 h)) xA_old (fun E ce q9 u9 t H locs ht hvm hpx hbx hz hk hS hce hcv hcl => ?_) (fun u t H locs ht hvm hw hB hz hk hS => ?_)
    · have c_5 : ¬ (o_X2_checkCell p1) = 0 := hpx
      have hbe := hbx
      have hP := xP_keep hP hk
      have he : o_X0_checkCells p0 p1 p2 = (o_X2_checkCell p1) := by (rw [o_X0_checkCells, if_pos c_3, if_neg c_5]) <;> rfl
      exact vx_out (fun x hx => (hno x hx).elim) hlocks hce hcv hcl (fun t ht hvm => ⟨(), by rw [he]; exact c_5, by rw [he]; exact hbe, hS.F ht⟩) hS.2.2 (by omega) (by omega)
    · skip
      have c_6 := hw
      have c_6 : (o_X2_checkCell p1) = 0 := c_6
      have hP := xP_keep hP hk
      refine lv_iload_n hx hb dX0_checkCells_8 rfl (lv_at hl 2 rfl) ?_
      have hPc := xP_nil (D := (dC, dI)) (cl := xCl) (H := H)
      have hDc := xD_nil (A := aN N)
      have hKc := hK.sub (tys' := []) [] rfl
      refine vx_callv (vx_runSN (As := [.int p2]) (rest := []) ⟨hx, hb, hml, hown, hts⟩ (k_X2_checkCell l hfl dC dI H.size N p2) ⟨va_cnB 1 hts gX0_checkCells_X2_checkCell_n22 rfl rfl rfl (hG.1 (.methodLinkNest RX0 22 yX2_checkCell RX2) (List.mem_of_getElem? (i := 0) rfl)) (hts (.initialized RX2) (by decide +kernel)) (by decide +kernel) ⟨Nat.le_of_ble_eq_true rfl, Nat.le_of_ble_eq_true rfl⟩, hts (.static yX2_checkCell) (by decide +kernel), trivial⟩ (xM.preS hKc hPc hDc (fun _ h => h) (Nat.le_trans hN hS.1) (hG.kept hS hAN)) rfl rfl hl.1 rfl (lv_room (Nat.le_of_ble_eq_true rfl)) dX0_checkCells_9 ⟨Nat.le_of_ble_eq_true rfl, Nat.le_of_ble_eq_true rfl⟩) hS xA_old (fun q h => hA q (Nat.le_trans hS.1 h)) xA_old (fun E ce q9 u9 t H locs ht hvm hpx hbx hz hk hS hce hcv hcl => ?_) (fun u t H locs ht hvm hw hB hz hk hS => ?_)
      · have c_8 : ¬ (o_X2_checkCell p2) = 0 := hpx
        have hbe := hbx
        have hP := xP_keep hP hk
        have he : o_X0_checkCells p0 p1 p2 = (o_X2_checkCell p2) := by (rw [o_X0_checkCells, if_pos c_3, if_pos c_6, if_neg c_8]) <;> rfl
        exact vx_out (fun x hx => (hno x hx).elim) hlocks hce hcv hcl (fun t ht hvm => ⟨(), by rw [he]; exact c_8, by rw [he]; exact hbe, hS.F ht⟩) hS.2.2 (by omega) (by omega)
      · skip
        have c_9 := hw
        have c_9 : (o_X2_checkCell p2) = 0 := c_9
        have hP := xP_keep hP hk
        have he : o_X0_checkCells p0 p1 p2 = 0 := by (rw [o_X0_checkCells, if_pos c_3, if_pos c_6, if_pos c_9]) <;> rfl
        refine W.widen (k := 3) (n := 18) (by omega) (by omega) ?_
        refine vx_ret ?_
        exact W.vret hx hb hr (fun t ht hW => ⟨⟨(), rfl, (by (rw [he]) <;> rfl), trivial⟩, hS.F ht⟩) hS.2.2 dX0_checkCells_12

theorem xm_ccs {p q r : Int32} (h : o_X0_checkCells p q r = 0) : vp_in p 8 ∧ vp_in q 8 ∧ vp_in r 8 := by
  rw [o_X0_checkCells] at h
  by_cases c1 : o_X2_checkCell p = 0
  · rw [if_pos c1] at h
    by_cases c2 : o_X2_checkCell q = 0
    · rw [if_pos c2] at h
      by_cases c3 : o_X2_checkCell r = 0
      · exact ⟨xm_cc c1, xm_cc c2, xm_cc c3⟩
      · rw [if_neg c3] at h
        exact absurd h c3
    · rw [if_neg c2] at h
      exact absurd h c2
  · rw [if_neg c1] at h
    exact absurd h c1
theorem xm_nI {p : Int32} (h : vp_in p 8) : p = nI p.toNatClampNeg ∧ p.toNatClampNeg < 8 := by
  obtain ⟨j, hj, rfl⟩ := vp_in_of h (by decide +kernel)
  rw [nI_clamp (by omega)]
  exact ⟨rfl, hj⟩
theorem xm_in0 {v : Int32} {n : Nat} (h : v = nI n ∧ n < 8) : vp_in v 8 := by
  rw [h.1]
  exact vp_in_nI h.2 (by decide +kernel)
theorem xm_in1 {v : Int32} {n : Nat} (h : v = nI (n + 1) ∧ n + 1 < 8) : vp_in (v - 1) 8 := by
  rw [h.1, nI_pred]
  exact vp_in_nI (by omega) (by decide +kernel)

noncomputable def dz_p11_4 : List (Nat × Instr × Nat) := [(0, (.aload_n 0, 1)), (1, (.dup, 1)), (2, (.getfield 129, 3)), (5, (.iconst 1, 1)), (6, (.iadd, 1)), (7, (.putfield 129, 3)), (10, (.bipush (-9), 2)), (12, (.ireturn, 1))]
theorem dy_p11_4 : dz_ok cX0_refuse dz_p11_4 = true := by decide +kernel
theorem dX0_refuse_0 : decode cX0_refuse 0 = .ok (.aload_n 0, 1) := dz_at (i := 0) dy_p11_4 rfl
theorem dX0_refuse_1 : decode cX0_refuse 1 = .ok (.dup, 1) := dz_at (i := 1) dy_p11_4 rfl
theorem dX0_refuse_2 : decode cX0_refuse 2 = .ok (.getfield 129, 3) := dz_at (i := 2) dy_p11_4 rfl
theorem dX0_refuse_5 : decode cX0_refuse 5 = .ok (.iconst 1, 1) := dz_at (i := 3) dy_p11_4 rfl
theorem dX0_refuse_6 : decode cX0_refuse 6 = .ok (.iadd, 1) := dz_at (i := 4) dy_p11_4 rfl
theorem dX0_refuse_7 : decode cX0_refuse 7 = .ok (.putfield 129, 3) := dz_at (i := 5) dy_p11_4 rfl
theorem dX0_refuse_10 : decode cX0_refuse 10 = .ok (.bipush (-9), 2) := dz_at (i := 6) dy_p11_4 rfl
theorem dX0_refuse_12 : decode cX0_refuse 12 = .ok (.ireturn, 1) := dz_at (i := 7) dy_p11_4 rfl
noncomputable def o_X0_refuse (rv : Int32)  : Int32 × Int32 :=
  ((-9), (rv + 1))
set_option maxHeartbeats 4000000 in
set_option maxRecDepth 100000 in
theorem k_X0_refuse (l : Launch) (dC : Nat → ClassId) (dI : Nat → Nat → Nat) (cy : ClassId) (h0 : Nat) (aw : Nat) (ac : Nat) (ab : Nat) (w : Bool) (a : Int32) (rv : Int32) (f : Nat → Int64) (g : Nat → Int64) (sz : Nat) (N : Nat)  : Met l yX0_refuse wsX0_refuse ({ frames := 0, cells := 0, slots := 0, locals := 0 }) (va_Pc [.ref h0] (xM (dC, dI) xCl [(h0, eR aw ac ab a rv), (aw, eW w), (ac, eA cy f), (ab, eA cy g)] [(cy, .long)] sz N)) (va_Qi (fun (r : Int32) (_ : Unit) => r = (o_X0_refuse rv).1) (fun _ t => xW (dC, dI) xCl [(h0, eR aw ac ab a (o_X0_refuse rv).2), (aw, eW w), (ac, eA cy f), (ab, eA cy g)] (va_A [(h0, eR aw ac ab a rv), (aw, eW w), (ac, eA cy f), (ab, eA cy g)] sz) t) (va_A [(h0, eR aw ac ab a rv), (aw, eW w), (ac, eA cy f), (ab, eA cy g)] sz)) 0 0 (va_A [(h0, eR aw ac ab a rv), (aw, eW w), (ac, eA cy f), (ab, eA cy g)] sz) := by
  refine Met.ofW (cc := cX0_refuse) (maxL := 1) (ret := (some .int)) (by decide +kernel) rfl ?_
  intro p e s m args below meth c s₁ B hml hv
  obtain ⟨rfl, hsz, hP, hK, hD0, hN, hG⟩ := hv
  have hx := B.exec
  have hb := B.bytes
  have hr := B.returns
  have hts := atoms_spec (ws := wsX0_refuse) B.pre
  have hown : s.vm.findClass RX0 = some m.cls := findClass_of_methodNamed B.named
  have hlocks := B.notSynchronized
  subst hsz
  have hAN : ∀ q, va_A [(h0, eR aw ac ab a rv), (aw, eW w), (ac, eA cy f), (ab, eA cy g)] s.heap.size q → N ≤ q := xA_N hD0 hN
  have hD := hD0.self (sz := s.heap.size)
  generalize hAe : va_A [(h0, eR aw ac ab a rv), (aw, eW w), (ac, eA cy f), (ab, eA cy g)] s.heap.size = A at hD hAN ⊢
  have hA : ∀ q : Nat, s.heap.size ≤ q → A q := fun q h => by rw [← hAe]; exact Or.inr h
  have hS : va_S A s.heap s.heap [] := va_S.rf
  have hP : va_P (dC, dI) xCl [(h0, eR aw ac ab a rv), (aw, eW w), (ac, eA cy f), (ab, eA cy g)] s.heap := hP
  have hl := lv_entry ([.ref h0]) (n := 1) (Nat.le_of_ble_eq_true rfl)
  rw [lg_entry_eq]
  generalize (lg_sl ([.ref h0]) ++ List.replicate (1 - (lg_sl ([.ref h0])).length) Slot.unset).toArray = ls at hl ⊢
  have hl : lv_has ls 1 [(0, .ref h0)] := hl
  refine lv_aload_n hx hb dX0_refuse_0 rfl (lv_at hl 0 rfl) ?_
  refine lv_dup hx hb dX0_refuse_1 rfl ?_
  refine va_get (D := (dC, dI)) (ci := 2) (v := .int rv) (C := RX0) (T := TX0) (N := 5) hx hb hts (by decide +kernel) hown hK hP 0 rfl rfl 4 (by decide +kernel) (hts (.fieldLink RX0 129 "Edgefloats$Row" "refusals" "I") (by decide +kernel)) (fun _ h9 => h9) rfl dX0_refuse_2 ?_
  refine lv_iconst (v := 1) hx hb dX0_refuse_5 (by decide +kernel) ?_
  refine lv_iadd hx hb dX0_refuse_6 ?_
  refine va_put (D := (dC, dI)) (ci := 2) (v := .int (rv + 1)) (ty := .int) (C := RX0) (T := TX0) (N := 5) hx hb hts (by decide +kernel) tyX0 tyX0_ok nmX0 hown hK hP hD hS 0 rfl rfl 4 (by decide +kernel) (hts (.fieldLink RX0 129 "Edgefloats$Row" "refusals" "I") (by decide +kernel)) (fun _ h9 => h9) rfl (by decide +kernel) rfl rfl (Nat.le_of_ble_eq_true rfl) dX0_refuse_7 (fun H locs hP hD hS => ?_)
  have hP : va_P (dC, dI) xCl [(h0, eR aw ac ab a (rv + 1)), (aw, eW w), (ac, eA cy f), (ab, eA cy g)] H := hP
  have hD : va_D A [(h0, eR aw ac ab a (rv + 1)), (aw, eW w), (ac, eA cy f), (ab, eA cy g)] := hD
  refine lv_bipush (v := (-9)) hx hb dX0_refuse_10 (by decide +kernel) ?_
  have he : o_X0_refuse rv = ((-9), (rv + 1)) := by (rw [o_X0_refuse]) <;> rfl
  refine W.widen (k := 0) (n := 0) (by omega) (by omega) ?_
  exact W.iret (v := (-9)) hx hb hr (fun t ht hW => ⟨⟨_, (), rfl, (by (rw [he]) <;> rfl), (by rw [he]; exact ⟨by rw [ht]; exact hP, hD⟩)⟩, hS.F ht⟩) hS.2.2 dX0_refuse_12
noncomputable def dz_p11_5 : List (Nat × Instr × Nat) := [(0, (.aload_n 0, 1)), (1, (.dup, 1)), (2, (.getfield 80, 3)), (5, (.iconst 1, 1)), (6, (.iadd, 1)), (7, (.putfield 80, 3)), (10, (.aload_n 0, 1)), (11, (.getfield 15, 3)), (14, (.iload_n 1, 1)), (15, (.laload, 1)), (16, (.lload_n 2, 1)), (17, (.lcmp, 1)), (18, (.ifCond .ne 7, 3)), (21, (.iconst 0, 1)), (22, (.goto 4, 3)), (25, (.iconst 1, 1)), (26, (.istore 4, 2)), (28, (.aload_n 0, 1)), (29, (.getfield 15, 3)), (32, (.iload_n 1, 1)), (33, (.lload_n 2, 1)), (34, (.lastore, 1)), (35, (.iload 4, 2)), (37, (.ireturn, 1))]
theorem dy_p11_5 : dz_ok cX0_place dz_p11_5 = true := by decide +kernel
theorem dX0_place_0 : decode cX0_place 0 = .ok (.aload_n 0, 1) := dz_at (i := 0) dy_p11_5 rfl
theorem dX0_place_1 : decode cX0_place 1 = .ok (.dup, 1) := dz_at (i := 1) dy_p11_5 rfl
theorem dX0_place_2 : decode cX0_place 2 = .ok (.getfield 80, 3) := dz_at (i := 2) dy_p11_5 rfl
theorem dX0_place_5 : decode cX0_place 5 = .ok (.iconst 1, 1) := dz_at (i := 3) dy_p11_5 rfl
theorem dX0_place_6 : decode cX0_place 6 = .ok (.iadd, 1) := dz_at (i := 4) dy_p11_5 rfl
theorem dX0_place_7 : decode cX0_place 7 = .ok (.putfield 80, 3) := dz_at (i := 5) dy_p11_5 rfl
theorem dX0_place_10 : decode cX0_place 10 = .ok (.aload_n 0, 1) := dz_at (i := 6) dy_p11_5 rfl
theorem dX0_place_11 : decode cX0_place 11 = .ok (.getfield 15, 3) := dz_at (i := 7) dy_p11_5 rfl
theorem dX0_place_14 : decode cX0_place 14 = .ok (.iload_n 1, 1) := dz_at (i := 8) dy_p11_5 rfl
theorem dX0_place_15 : decode cX0_place 15 = .ok (.laload, 1) := dz_at (i := 9) dy_p11_5 rfl
theorem dX0_place_16 : decode cX0_place 16 = .ok (.lload_n 2, 1) := dz_at (i := 10) dy_p11_5 rfl
theorem dX0_place_17 : decode cX0_place 17 = .ok (.lcmp, 1) := dz_at (i := 11) dy_p11_5 rfl
theorem dX0_place_18 : decode cX0_place 18 = .ok (.ifCond .ne 7, 3) := dz_at (i := 12) dy_p11_5 rfl
theorem dX0_place_21 : decode cX0_place 21 = .ok (.iconst 0, 1) := dz_at (i := 13) dy_p11_5 rfl
theorem dX0_place_22 : decode cX0_place 22 = .ok (.goto 4, 3) := dz_at (i := 14) dy_p11_5 rfl
theorem dX0_place_25 : decode cX0_place 25 = .ok (.iconst 1, 1) := dz_at (i := 15) dy_p11_5 rfl
theorem dX0_place_26 : decode cX0_place 26 = .ok (.istore 4, 2) := dz_at (i := 16) dy_p11_5 rfl
theorem dX0_place_28 : decode cX0_place 28 = .ok (.aload_n 0, 1) := dz_at (i := 17) dy_p11_5 rfl
theorem dX0_place_29 : decode cX0_place 29 = .ok (.getfield 15, 3) := dz_at (i := 18) dy_p11_5 rfl
theorem dX0_place_32 : decode cX0_place 32 = .ok (.iload_n 1, 1) := dz_at (i := 19) dy_p11_5 rfl
theorem dX0_place_33 : decode cX0_place 33 = .ok (.lload_n 2, 1) := dz_at (i := 20) dy_p11_5 rfl
theorem dX0_place_34 : decode cX0_place 34 = .ok (.lastore, 1) := dz_at (i := 21) dy_p11_5 rfl
theorem dX0_place_35 : decode cX0_place 35 = .ok (.iload 4, 2) := dz_at (i := 22) dy_p11_5 rfl
theorem dX0_place_37 : decode cX0_place 37 = .ok (.ireturn, 1) := dz_at (i := 23) dy_p11_5 rfl
noncomputable def o_X0_place (a : Int32) (f : Nat → Int64) (p0 : Int32) (p1 : Int64) : Int32 × Int32 × (Nat → Int64) :=
  if (f p0.toNatClampNeg) = p1 then (0, (a + 1), (vp_updL f p0.toNatClampNeg p1))
  else (1, (a + 1), (vp_updL f p0.toNatClampNeg p1))
set_option maxHeartbeats 4000000 in
set_option maxRecDepth 100000 in
theorem k_X0_place (l : Launch) (dC : Nat → ClassId) (dI : Nat → Nat → Nat) (cy : ClassId) (h0 : Nat) (aw : Nat) (ac : Nat) (ab : Nat) (w : Bool) (a : Int32) (rv : Int32) (f : Nat → Int64) (g : Nat → Int64) (sz : Nat) (N : Nat) (p0 : Int32) (p1 : Int64) (hin_p0 : vp_in p0 8) : Met l yX0_place wsX0_place ({ frames := 0, cells := 0, slots := 0, locals := 0 }) (va_Pc [.ref h0, .int p0, .long p1] (xM (dC, dI) xCl [(h0, eR aw ac ab a rv), (aw, eW w), (ac, eA cy f), (ab, eA cy g)] [(cy, .long)] sz N)) (va_Qi (fun (r : Int32) (_ : Unit) => r = (o_X0_place a f p0 p1).1) (fun _ t => xW (dC, dI) xCl [(h0, eR aw ac ab (o_X0_place a f p0 p1).2.1 rv), (aw, eW w), (ac, eA cy (o_X0_place a f p0 p1).2.2), (ab, eA cy g)] (va_A [(h0, eR aw ac ab a rv), (aw, eW w), (ac, eA cy f), (ab, eA cy g)] sz) t) (va_A [(h0, eR aw ac ab a rv), (aw, eW w), (ac, eA cy f), (ab, eA cy g)] sz)) 0 0 (va_A [(h0, eR aw ac ab a rv), (aw, eW w), (ac, eA cy f), (ab, eA cy g)] sz) := by
  refine Met.ofW (cc := cX0_place) (maxL := 5) (ret := (some .int)) (by decide +kernel) rfl ?_
  intro p e s m args below meth c s₁ B hml hv
  obtain ⟨rfl, hsz, hP, hK, hD0, hN, hG⟩ := hv
  have hx := B.exec
  have hb := B.bytes
  have hr := B.returns
  have hts := atoms_spec (ws := wsX0_place) B.pre
  have hown : s.vm.findClass RX0 = some m.cls := findClass_of_methodNamed B.named
  have hlocks := B.notSynchronized
  subst hsz
  have hAN : ∀ q, va_A [(h0, eR aw ac ab a rv), (aw, eW w), (ac, eA cy f), (ab, eA cy g)] s.heap.size q → N ≤ q := xA_N hD0 hN
  have hD := hD0.self (sz := s.heap.size)
  generalize hAe : va_A [(h0, eR aw ac ab a rv), (aw, eW w), (ac, eA cy f), (ab, eA cy g)] s.heap.size = A at hD hAN ⊢
  have hA : ∀ q : Nat, s.heap.size ≤ q → A q := fun q h => by rw [← hAe]; exact Or.inr h
  have hS : va_S A s.heap s.heap [] := va_S.rf
  have hP : va_P (dC, dI) xCl [(h0, eR aw ac ab a rv), (aw, eW w), (ac, eA cy f), (ab, eA cy g)] s.heap := hP
  have hl := lv_entry ([.ref h0, .int p0, .long p1]) (n := 5) (Nat.le_of_ble_eq_true rfl)
  rw [lg_entry_eq]
  generalize (lg_sl ([.ref h0, .int p0, .long p1]) ++ List.replicate (5 - (lg_sl ([.ref h0, .int p0, .long p1])).length) Slot.unset).toArray = ls at hl ⊢
  have hl : lv_has ls 5 [(0, .ref h0), (1, .int p0), (2, .long p1)] := hl
  refine lv_aload_n hx hb dX0_place_0 rfl (lv_at hl 0 rfl) ?_
  refine lv_dup hx hb dX0_place_1 rfl ?_
  refine va_get (D := (dC, dI)) (ci := 2) (v := .int a) (C := RX0) (T := TX0) (N := 5) hx hb hts (by decide +kernel) hown hK hP 0 rfl rfl 3 (by decide +kernel) (hts (.fieldLink RX0 80 "Edgefloats$Row" "acts" "I") (by decide +kernel)) (fun _ h9 => h9) rfl dX0_place_2 ?_
  refine lv_iconst (v := 1) hx hb dX0_place_5 (by decide +kernel) ?_
  refine lv_iadd hx hb dX0_place_6 ?_
  refine va_put (D := (dC, dI)) (ci := 2) (v := .int (a + 1)) (ty := .int) (C := RX0) (T := TX0) (N := 5) hx hb hts (by decide +kernel) tyX0 tyX0_ok nmX0 hown hK hP hD hS 0 rfl rfl 3 (by decide +kernel) (hts (.fieldLink RX0 80 "Edgefloats$Row" "acts" "I") (by decide +kernel)) (fun _ h9 => h9) rfl (by decide +kernel) rfl rfl (Nat.le_of_ble_eq_true rfl) dX0_place_7 (fun H locs hP hD hS => ?_)
  have hP : va_P (dC, dI) xCl [(h0, eR aw ac ab (a + 1) rv), (aw, eW w), (ac, eA cy f), (ab, eA cy g)] H := hP
  have hD : va_D A [(h0, eR aw ac ab (a + 1) rv), (aw, eW w), (ac, eA cy f), (ab, eA cy g)] := hD
  refine lv_aload_n hx hb dX0_place_10 rfl (lv_at hl 0 rfl) ?_
  refine va_get (D := (dC, dI)) (ci := 2) (v := .ref ac) (C := RX0) (T := TX0) (N := 5) hx hb hts (by decide +kernel) hown hK hP 0 rfl rfl 1 (by decide +kernel) (hts (.fieldLink RX0 15 "Edgefloats$Row" "cells" "[J") (by decide +kernel)) (fun _ h9 => h9) rfl dX0_place_11 ?_
  refine lv_iload_n hx hb dX0_place_14 rfl (lv_at hl 1 rfl) ?_
  refine xa_lald hx hb hK hP 2 0 (f := f) rfl rfl (k := p0.toNatClampNeg) hin_p0 rfl dX0_place_15 ?_
  refine lv_lload_n hx hb dX0_place_16 rfl (lv_at hl 2 rfl) ?_
  refine xc_ne (tgt := 25) hx hb dX0_place_17 dX0_place_18 (by decide +kernel) (fun c_1 => ?_) (fun c_1 => ?_)
  · skip
    refine lv_iconst (v := 1) hx hb dX0_place_25 (by decide +kernel) ?_
    refine lv_istore (lv' := [(4, .int 1), (0, .ref h0), (1, .int p0), (2, .long p1)]) hx hb dX0_place_26 hl (by decide +kernel) rfl (fun ls hl => ?_)
    refine lv_aload_n hx hb dX0_place_28 rfl (lv_at hl 1 rfl) ?_
    refine va_get (D := (dC, dI)) (ci := 2) (v := .ref ac) (C := RX0) (T := TX0) (N := 5) hx hb hts (by decide +kernel) hown hK hP 0 rfl rfl 1 (by decide +kernel) (hts (.fieldLink RX0 15 "Edgefloats$Row" "cells" "[J") (by decide +kernel)) (fun _ h9 => h9) rfl dX0_place_29 ?_
    refine lv_iload_n hx hb dX0_place_32 rfl (lv_at hl 2 rfl) ?_
    refine lv_lload_n hx hb dX0_place_33 rfl (lv_at hl 3 rfl) ?_
    refine xa_last hx hb hK hP hD hS 2 0 (f := f) rfl rfl (k := p0.toNatClampNeg) hin_p0 rfl dX0_place_34 (fun H locs hP hD hS => ?_)
    have hP : va_P (dC, dI) xCl [(h0, eR aw ac ab (a + 1) rv), (aw, eW w), (ac, eA cy (vp_updL f p0.toNatClampNeg p1)), (ab, eA cy g)] H := hP
    have hD : va_D A [(h0, eR aw ac ab (a + 1) rv), (aw, eW w), (ac, eA cy (vp_updL f p0.toNatClampNeg p1)), (ab, eA cy g)] := hD
    refine lv_iload hx hb dX0_place_35 (lv_at hl 0 rfl) ?_
    have he : o_X0_place a f p0 p1 = (1, (a + 1), (vp_updL f p0.toNatClampNeg p1)) := by (rw [o_X0_place, if_neg c_1]) <;> rfl
    refine W.widen (k := 0) (n := 0) (by omega) (by omega) ?_
    exact W.iret (v := 1) hx hb hr (fun t ht hW => ⟨⟨_, (), rfl, (by (rw [he]) <;> rfl), (by rw [he]; exact ⟨by rw [ht]; exact hP, hD⟩)⟩, hS.F ht⟩) hS.2.2 dX0_place_37
  · skip
    refine lv_iconst (v := 0) hx hb dX0_place_21 (by decide +kernel) ?_
    refine lv_goto (tgt := 26) hx hb dX0_place_22 (by decide +kernel) ?_
    refine lv_istore (lv' := [(4, .int 0), (0, .ref h0), (1, .int p0), (2, .long p1)]) hx hb dX0_place_26 hl (by decide +kernel) rfl (fun ls hl => ?_)
    refine lv_aload_n hx hb dX0_place_28 rfl (lv_at hl 1 rfl) ?_
    refine va_get (D := (dC, dI)) (ci := 2) (v := .ref ac) (C := RX0) (T := TX0) (N := 5) hx hb hts (by decide +kernel) hown hK hP 0 rfl rfl 1 (by decide +kernel) (hts (.fieldLink RX0 15 "Edgefloats$Row" "cells" "[J") (by decide +kernel)) (fun _ h9 => h9) rfl dX0_place_29 ?_
    refine lv_iload_n hx hb dX0_place_32 rfl (lv_at hl 2 rfl) ?_
    refine lv_lload_n hx hb dX0_place_33 rfl (lv_at hl 3 rfl) ?_
    refine xa_last hx hb hK hP hD hS 2 0 (f := f) rfl rfl (k := p0.toNatClampNeg) hin_p0 rfl dX0_place_34 (fun H locs hP hD hS => ?_)
    have hP : va_P (dC, dI) xCl [(h0, eR aw ac ab (a + 1) rv), (aw, eW w), (ac, eA cy (vp_updL f p0.toNatClampNeg p1)), (ab, eA cy g)] H := hP
    have hD : va_D A [(h0, eR aw ac ab (a + 1) rv), (aw, eW w), (ac, eA cy (vp_updL f p0.toNatClampNeg p1)), (ab, eA cy g)] := hD
    refine lv_iload hx hb dX0_place_35 (lv_at hl 0 rfl) ?_
    have he : o_X0_place a f p0 p1 = (0, (a + 1), (vp_updL f p0.toNatClampNeg p1)) := by (rw [o_X0_place, if_pos c_1]) <;> rfl
    refine W.widen (k := 0) (n := 0) (by omega) (by omega) ?_
    exact W.iret (v := 0) hx hb hr (fun t ht hW => ⟨⟨_, (), rfl, (by (rw [he]) <;> rfl), (by rw [he]; exact ⟨by rw [ht]; exact hP, hD⟩)⟩, hS.F ht⟩) hS.2.2 dX0_place_37
theorem cl_X0_put_1 : ∀ w ∈ wsX0_put_r1, w ∈ wsX0_put := fun _ h => (List.mem_cons_of_mem _ (List.mem_append_left _ (List.mem_append_left _ (List.mem_append_left _ (List.mem_append_left _ h)))))
theorem cl_X0_put_2 : ∀ w ∈ wsX0_put_r2, w ∈ wsX0_put := fun _ h => (List.mem_cons_of_mem _ (List.mem_append_left _ (List.mem_append_left _ (List.mem_append_left _ (List.mem_append_right _ h)))))
theorem cl_X0_put_3 : ∀ w ∈ wsX00, w ∈ wsX0_put := fun _ h => (List.mem_cons_of_mem _ (List.mem_append_left _ (List.mem_append_left _ (List.mem_append_right _ h))))
theorem cl_X0_put_4 : ∀ w ∈ wsX10, w ∈ wsX0_put := fun _ h => (List.mem_cons_of_mem _ (List.mem_append_left _ (List.mem_append_right _ h)))
theorem cl_X0_put_5 : ∀ w ∈ (vx_atS RX2 152 "java/lang/IndexOutOfBoundsException" ["java/lang/RuntimeException", "java/lang/Exception"]).filter goodWord, w ∈ wsX0_put := fun _ h => (List.mem_cons_of_mem _ (List.mem_append_right _ h))
set_option maxRecDepth 20000 in
theorem ggX0_put_X2_checkCell : GoodIn wsX0_put wsX2_checkCell := goodIn_sub (List.forall_mem_cons.mpr ⟨(cl_X0_put_1 _ (List.mem_of_getElem? (i := 3) rfl)), fun w h => (List.mem_append.mp h).elim ((List.forall_mem_cons.mpr ⟨(cl_X0_put_1 _ (List.mem_of_getElem? (i := 4) rfl)), List.forall_mem_cons.mpr ⟨(cl_X0_put_1 _ (List.mem_of_getElem? (i := 5) rfl)), fun _ h => absurd h List.not_mem_nil⟩⟩) w) ((cl_X0_put_5) w)⟩) (by decide +kernel)
set_option maxRecDepth 20000 in
theorem gX0_put_X2_checkCell_n22 : GoodIn wsX0_put (wsX2_checkCell) := ggX0_put_X2_checkCell
set_option maxRecDepth 20000 in
theorem ggX0_put_X1_isSpoiled : GoodIn wsX0_put wsX1_isSpoiled := goodIn_sub (List.forall_mem_cons.mpr ⟨(cl_X0_put_1 _ (List.mem_of_getElem? (i := 10) rfl)), fun w h => (List.mem_append.mp h).elim ((List.forall_mem_cons.mpr ⟨(cl_X0_put_1 _ (List.mem_of_getElem? (i := 11) rfl)), List.forall_mem_cons.mpr ⟨(cl_X0_put_1 _ (List.mem_of_getElem? (i := 12) rfl)), List.forall_mem_cons.mpr ⟨(cl_X0_put_1 _ (List.mem_of_getElem? (i := 13) rfl)), List.forall_mem_cons.mpr ⟨(cl_X0_put_1 _ (List.mem_of_getElem? (i := 14) rfl)), List.forall_mem_cons.mpr ⟨(cl_X0_put_1 _ (List.mem_of_getElem? (i := 9) rfl)), List.forall_mem_cons.mpr ⟨(cl_X0_put_1 _ (List.mem_of_getElem? (i := 15) rfl)), List.forall_mem_cons.mpr ⟨(cl_X0_put_1 _ (List.mem_of_getElem? (i := 16) rfl)), List.forall_mem_cons.mpr ⟨(cl_X0_put_1 _ (List.mem_of_getElem? (i := 17) rfl)), List.forall_mem_cons.mpr ⟨(cl_X0_put_1 _ (List.mem_of_getElem? (i := 18) rfl)), List.forall_mem_cons.mpr ⟨(cl_X0_put_1 _ (List.mem_of_getElem? (i := 19) rfl)), List.forall_mem_cons.mpr ⟨(cl_X0_put_1 _ (List.mem_of_getElem? (i := 20) rfl)), List.forall_mem_cons.mpr ⟨(cl_X0_put_1 _ (List.mem_of_getElem? (i := 21) rfl)), fun _ h => absurd h List.not_mem_nil⟩⟩⟩⟩⟩⟩⟩⟩⟩⟩⟩⟩) w) ((cl_X0_put_4) w)⟩) (by decide +kernel)
set_option maxRecDepth 20000 in
theorem gX0_put_X1_isSpoiled : GoodIn wsX0_put (wsV RX0 26 RX1 yX1_isSpoiled wsX1_isSpoiled) := goodIn_app (goodIn_sub (List.forall_mem_cons.mpr ⟨(cl_X0_put_1 _ (List.mem_of_getElem? (i := 6) rfl)), List.forall_mem_cons.mpr ⟨(cl_X0_put_1 _ (List.mem_of_getElem? (i := 7) rfl)), List.forall_mem_cons.mpr ⟨(cl_X0_put_1 _ (List.mem_of_getElem? (i := 8) rfl)), List.forall_mem_cons.mpr ⟨(cl_X0_put_1 _ (List.mem_of_getElem? (i := 9) rfl)), fun _ h => absurd h List.not_mem_nil⟩⟩⟩⟩) (by decide +kernel)) ggX0_put_X1_isSpoiled
set_option maxRecDepth 20000 in
theorem ggX0_put_X0_refuse : GoodIn wsX0_put wsX0_refuse := goodIn_sub (List.forall_mem_cons.mpr ⟨(cl_X0_put_2 _ (List.mem_of_getElem? (i := 2) rfl)), fun w h => (List.mem_append.mp h).elim ((List.forall_mem_cons.mpr ⟨(cl_X0_put_2 _ (List.mem_of_getElem? (i := 3) rfl)), fun _ h => absurd h List.not_mem_nil⟩) w) ((cl_X0_put_3) w)⟩) (by decide +kernel)
set_option maxRecDepth 20000 in
theorem gX0_put_X0_refuse : GoodIn wsX0_put (wsV RX0 32 RX0 yX0_refuse wsX0_refuse) := goodIn_app (goodIn_sub (List.forall_mem_cons.mpr ⟨(cl_X0_put_1 _ (List.mem_of_getElem? (i := 22) rfl)), List.forall_mem_cons.mpr ⟨(cl_X0_put_1 _ (List.mem_of_getElem? (i := 23) rfl)), List.forall_mem_cons.mpr ⟨(cl_X0_put_2 _ (List.mem_of_getElem? (i := 0) rfl)), List.forall_mem_cons.mpr ⟨(cl_X0_put_2 _ (List.mem_of_getElem? (i := 1) rfl)), fun _ h => absurd h List.not_mem_nil⟩⟩⟩⟩) (by decide +kernel)) ggX0_put_X0_refuse
set_option maxRecDepth 20000 in
theorem ggX0_put_X0_place : GoodIn wsX0_put wsX0_place := goodIn_sub (List.forall_mem_cons.mpr ⟨(cl_X0_put_2 _ (List.mem_of_getElem? (i := 7) rfl)), fun w h => (List.mem_append.mp h).elim ((List.forall_mem_cons.mpr ⟨(cl_X0_put_2 _ (List.mem_of_getElem? (i := 8) rfl)), List.forall_mem_cons.mpr ⟨(cl_X0_put_2 _ (List.mem_of_getElem? (i := 9) rfl)), fun _ h => absurd h List.not_mem_nil⟩⟩) w) ((cl_X0_put_3) w)⟩) (by decide +kernel)
set_option maxRecDepth 20000 in
theorem gX0_put_X0_place : GoodIn wsX0_put (wsV RX0 36 RX0 yX0_place wsX0_place) := goodIn_app (goodIn_sub (List.forall_mem_cons.mpr ⟨(cl_X0_put_2 _ (List.mem_of_getElem? (i := 4) rfl)), List.forall_mem_cons.mpr ⟨(cl_X0_put_2 _ (List.mem_of_getElem? (i := 5) rfl)), List.forall_mem_cons.mpr ⟨(cl_X0_put_2 _ (List.mem_of_getElem? (i := 6) rfl)), List.forall_mem_cons.mpr ⟨(cl_X0_put_2 _ (List.mem_of_getElem? (i := 1) rfl)), fun _ h => absurd h List.not_mem_nil⟩⟩⟩⟩) (by decide +kernel)) ggX0_put_X0_place
noncomputable def dz_p11_6 : List (Nat × Instr × Nat) := [(0, (.iload_n 1, 1)), (1, (.invokestatic 22, 3)), (4, (.aload_n 0, 1)), (5, (.getfield 9, 3)), (8, (.lload_n 2, 1)), (9, (.invokevirtual 26, 3)), (12, (.ifCond .eq 8, 3)), (15, (.aload_n 0, 1)), (16, (.invokevirtual 32, 3)), (19, (.ireturn, 1)), (20, (.aload_n 0, 1)), (21, (.iload_n 1, 1)), (22, (.lload_n 2, 1)), (23, (.invokevirtual 36, 3)), (26, (.ireturn, 1))]
theorem dy_p11_6 : dz_ok cX0_put dz_p11_6 = true := by decide +kernel
theorem dX0_put_0 : decode cX0_put 0 = .ok (.iload_n 1, 1) := dz_at (i := 0) dy_p11_6 rfl
theorem dX0_put_1 : decode cX0_put 1 = .ok (.invokestatic 22, 3) := dz_at (i := 1) dy_p11_6 rfl
theorem dX0_put_4 : decode cX0_put 4 = .ok (.aload_n 0, 1) := dz_at (i := 2) dy_p11_6 rfl
theorem dX0_put_5 : decode cX0_put 5 = .ok (.getfield 9, 3) := dz_at (i := 3) dy_p11_6 rfl
theorem dX0_put_8 : decode cX0_put 8 = .ok (.lload_n 2, 1) := dz_at (i := 4) dy_p11_6 rfl
theorem dX0_put_9 : decode cX0_put 9 = .ok (.invokevirtual 26, 3) := dz_at (i := 5) dy_p11_6 rfl
theorem dX0_put_12 : decode cX0_put 12 = .ok (.ifCond .eq 8, 3) := dz_at (i := 6) dy_p11_6 rfl
theorem dX0_put_15 : decode cX0_put 15 = .ok (.aload_n 0, 1) := dz_at (i := 7) dy_p11_6 rfl
theorem dX0_put_16 : decode cX0_put 16 = .ok (.invokevirtual 32, 3) := dz_at (i := 8) dy_p11_6 rfl
theorem dX0_put_19 : decode cX0_put 19 = .ok (.ireturn, 1) := dz_at (i := 9) dy_p11_6 rfl
theorem dX0_put_20 : decode cX0_put 20 = .ok (.aload_n 0, 1) := dz_at (i := 10) dy_p11_6 rfl
theorem dX0_put_21 : decode cX0_put 21 = .ok (.iload_n 1, 1) := dz_at (i := 11) dy_p11_6 rfl
theorem dX0_put_22 : decode cX0_put 22 = .ok (.lload_n 2, 1) := dz_at (i := 12) dy_p11_6 rfl
theorem dX0_put_23 : decode cX0_put 23 = .ok (.invokevirtual 36, 3) := dz_at (i := 13) dy_p11_6 rfl
theorem dX0_put_26 : decode cX0_put 26 = .ok (.ireturn, 1) := dz_at (i := 14) dy_p11_6 rfl
noncomputable def o_X0_put (w : Bool) (a : Int32) (rv : Int32) (f : Nat → Int64) (p0 : Int32) (p1 : Int64) : Int32 × Int32 × Int32 × Int32 × (Nat → Int64) :=
  if (o_X2_checkCell p0) = 0 then (if (o_X1_isSpoiled w p1) = true then (0, (o_X0_refuse rv).1, a, (o_X0_refuse rv).2, f)
    else (0, (o_X0_place a f p0 p1).1, (o_X0_place a f p0 p1).2.1, rv, (o_X0_place a f p0 p1).2.2))
  else ((o_X2_checkCell p0), 0, a, rv, f)
set_option maxHeartbeats 4000000 in
set_option maxRecDepth 100000 in
theorem k_X0_put (l : Launch) (hfl : l.flags = flags0) (dC : Nat → ClassId) (dI : Nat → Nat → Nat) (cy : ClassId) (h0 : Nat) (aw : Nat) (ac : Nat) (ab : Nat) (w : Bool) (a : Int32) (rv : Int32) (f : Nat → Int64) (g : Nat → Int64) (sz : Nat) (N : Nat) (p0 : Int32) (p1 : Int64) : vx_Met l yX0_put wsX0_put ({ frames := 7, cells := 1, slots := 6, locals := 120 }) (va_Pc [.ref h0, .int p0, .long p1] (xM (dC, dI) xCl [(h0, eR aw ac ab a rv), (aw, eW w), (ac, eA cy f), (ab, eA cy g)] [(cy, .long)] sz N)) (va_Qi (fun (r : Int32) (_ : Unit) => (o_X0_put w a rv f p0 p1).1 = 0 ∧ r = (o_X0_put w a rv f p0 p1).2.1) (fun _ t => xW (dC, dI) xCl [(h0, eR aw ac ab (o_X0_put w a rv f p0 p1).2.2.1 (o_X0_put w a rv f p0 p1).2.2.2.1), (aw, eW w), (ac, eA cy (o_X0_put w a rv f p0 p1).2.2.2.2), (ab, eA cy g)] (va_A [(h0, eR aw ac ab a rv), (aw, eW w), (ac, eA cy f), (ab, eA cy g)] sz) t) (va_A [(h0, eR aw ac ab a rv), (aw, eW w), (ac, eA cy f), (ab, eA cy g)] sz)) (vx_X (fun _ : Unit => ¬ (o_X0_put w a rv f p0 p1).1 = 0) (fun E _ t => E = xE (o_X0_put w a rv f p0 p1).1 ∧ xW (dC, dI) xCl [(h0, eR aw ac ab a rv), (aw, eW w), (ac, eA cy f), (ab, eA cy g)] (va_A [(h0, eR aw ac ab a rv), (aw, eW w), (ac, eA cy f), (ab, eA cy g)] sz) t) (va_A [(h0, eR aw ac ab a rv), (aw, eW w), (ac, eA cy f), (ab, eA cy g)] sz)) 1 6 (va_A [(h0, eR aw ac ab a rv), (aw, eW w), (ac, eA cy f), (ab, eA cy g)] sz) := by
  refine vx_ofW (cc := cX0_put) (maxL := 4) (ret := (some .int)) (by decide +kernel) rfl ?_
  intro p e s m args below meth c s₁ B hml hno hv
  obtain ⟨rfl, hsz, hP, hK, hD0, hN, hG⟩ := hv
  have hx := B.exec
  have hb := B.bytes
  have hr := B.returns
  have hts := atoms_spec (ws := wsX0_put) B.pre
  have hown : s.vm.findClass RX0 = some m.cls := findClass_of_methodNamed B.named
  have hlocks := B.notSynchronized
  subst hsz
  have hAN : ∀ q, va_A [(h0, eR aw ac ab a rv), (aw, eW w), (ac, eA cy f), (ab, eA cy g)] s.heap.size q → N ≤ q := xA_N hD0 hN
  have hD := hD0.self (sz := s.heap.size)
  generalize hAe : va_A [(h0, eR aw ac ab a rv), (aw, eW w), (ac, eA cy f), (ab, eA cy g)] s.heap.size = A at hD hAN ⊢
  have hA : ∀ q : Nat, s.heap.size ≤ q → A q := fun q h => by rw [← hAe]; exact Or.inr h
  have hS : va_S A s.heap s.heap [] := va_S.rf
  have hP : va_P (dC, dI) xCl [(h0, eR aw ac ab a rv), (aw, eW w), (ac, eA cy f), (ab, eA cy g)] s.heap := hP
  have hl := lv_entry ([.ref h0, .int p0, .long p1]) (n := 4) (Nat.le_of_ble_eq_true rfl)
  rw [lg_entry_eq]
  generalize (lg_sl ([.ref h0, .int p0, .long p1]) ++ List.replicate (4 - (lg_sl ([.ref h0, .int p0, .long p1])).length) Slot.unset).toArray = ls at hl ⊢
  have hl : lv_has ls 4 [(0, .ref h0), (1, .int p0), (2, .long p1)] := hl
  refine lv_iload_n hx hb dX0_put_0 rfl (lv_at hl 1 rfl) ?_
  have hPc := hP.sub (ws' := []) [] rfl
  have hDc := hD.sub (ws' := []) [] (by decide +kernel) rfl
  have hKc := hK.sub (tys' := []) [] rfl
  refine vx_callv (vx_runSN (As := [.int p0]) (rest := []) ⟨hx, hb, hml, hown, hts⟩ (k_X2_checkCell l hfl dC dI s.heap.size N p0) ⟨va_cnB 1 hts gX0_put_X2_checkCell_n22 rfl rfl rfl (hG.1 (.methodLinkNest RX0 22 yX2_checkCell RX2) (List.mem_of_getElem? (i := 0) rfl)) (hts (.initialized RX2) (by decide +kernel)) (by decide +kernel) ⟨Nat.le_of_ble_eq_true rfl, Nat.le_of_ble_eq_true rfl⟩, hts (.static yX2_checkCell) (by decide +kernel), trivial⟩ (xM.preS hKc hPc hDc hAN (Nat.le_trans hN hS.1) (hG.kept hS hAN)) rfl rfl hl.1 rfl (lv_room (Nat.le_of_ble_eq_true rfl)) dX0_put_1 ⟨Nat.le_of_ble_eq_true rfl, Nat.le_of_ble_eq_true rfl⟩) hS xA_old (fun q h => hA q (Nat.le_trans hS.1 h)) xA_old (fun E ce q9 u9 t H locs ht hvm hpx hbx hz hk hS hce hcv hcl => ?_) (fun u t H locs ht hvm hw hB hz hk hS => ?_)
  · have c_2 : ¬ (o_X2_checkCell p0) = 0 := hpx
    have hbe := hbx
    have hP := xP_keep hP hk
    have he : o_X0_put w a rv f p0 p1 = ((o_X2_checkCell p0), 0, a, rv, f) := by (rw [o_X0_put, if_neg c_2]) <;> rfl
    exact vx_out (fun x hx => (hno x hx).elim) hlocks hce hcv hcl (fun t ht hvm => ⟨(), by rw [he]; exact c_2, ⟨by rw [he]; exact hbe, by rw [ht]; exact hP, hD⟩, hS.F ht⟩) hS.2.2 (by omega) (by omega)
  · skip
    have c_3 := hw
    have c_3 : (o_X2_checkCell p0) = 0 := c_3
    have hP := xP_keep hP hk
    refine lv_aload_n hx hb dX0_put_4 rfl (lv_at hl 0 rfl) ?_
    refine va_get (D := (dC, dI)) (ci := 2) (v := .ref aw) (C := RX0) (T := TX0) (N := 5) hx hb hts (by decide +kernel) hown hK hP 0 rfl rfl 0 (by decide +kernel) (hts (.fieldLink RX0 9 "Edgefloats$Row" "width" "LEdgefloats$Width;") (by decide +kernel)) (fun _ h9 => h9) rfl dX0_put_5 ?_
    refine lv_lload_n hx hb dX0_put_8 rfl (lv_at hl 2 rfl) ?_
    have hPc := hP.sub (ws' := [(aw, eW w)]) [1] rfl
    have hKc := hK.sub (tys' := []) [] rfl
    refine va_calli (va_runV (As := [.long p1]) (rest := []) ⟨hx, hb, hml, hown, hts⟩ (k_X1_isSpoiled l dC dI aw w H.size p1) (cwV 1 hts gX0_put_X1_isSpoiled rfl rfl rfl (by decide +kernel) ⟨Nat.le_of_ble_eq_true rfl, Nat.le_of_ble_eq_true rfl⟩) (xB.preV hKc hPc (ci := 3) (q0 := 0) rfl rfl) rfl rfl hl.1 rfl (lv_room (Nat.le_of_ble_eq_true rfl)) dX0_put_9 ⟨Nat.le_of_ble_eq_true rfl, Nat.le_of_ble_eq_true rfl⟩) hS xA_old (fun q h => hA q (Nat.le_trans hS.1 h)) (fun r_4 u t H locs ht hvm hw hB hz hk hS => ?_)
    replace hw : r_4 = b2i (o_X1_isSpoiled w p1) := hw
    subst r_4
    have hP := xP_keep hP hk
    refine xz_eq (tgt := 20) hx hb dX0_put_12 (by decide +kernel) (fun c_5 => ?_) (fun c_5 => ?_)
    · skip
      refine lv_aload_n hx hb dX0_put_20 rfl (lv_at hl 0 rfl) ?_
      refine lv_iload_n hx hb dX0_put_21 rfl (lv_at hl 1 rfl) ?_
      refine lv_lload_n hx hb dX0_put_22 rfl (lv_at hl 2 rfl) ?_
      have hPc := hP.sub (ws' := [(h0, eR aw ac ab a rv), (aw, eW w), (ac, eA cy f), (ab, eA cy g)]) [0, 1, 2, 3] rfl
      have hDc := hD.sub (ws' := [(h0, eR aw ac ab a rv), (aw, eW w), (ac, eA cy f), (ab, eA cy g)]) [0, 1, 2, 3] (by decide +kernel) rfl
      have hKc := hK.sub (tys' := [(cy, .long)]) [0] rfl
      have hFc := va_free (wc := [(h0, eR aw ac ab a rv), (aw, eW w), (ac, eA cy f), (ab, eA cy g)]) hD hS hA [0, 1, 2, 3] rfl
      refine va_calli (va_runV (As := [.int p0, .long p1]) (rest := []) ⟨hx, hb, hml, hown, hts⟩ (k_X0_place l dC dI cy h0 aw ac ab w a rv f g H.size N p0 p1 (xm_cc c_3)) (cwV 2 hts gX0_put_X0_place rfl rfl rfl (by decide +kernel) ⟨Nat.le_of_ble_eq_true rfl, Nat.le_of_ble_eq_true rfl⟩) (xM.preV hKc hPc hDc hAN (Nat.le_trans hN hS.1) (hG.kept hS hAN) (ci := 2) (q0 := 0) rfl rfl) rfl rfl hl.1 rfl (lv_room (Nat.le_of_ble_eq_true rfl)) dX0_put_23 ⟨Nat.le_of_ble_eq_true rfl, Nat.le_of_ble_eq_true rfl⟩) hS (fun q _ h => hFc q h) hFc (fun r_6 u t H locs ht hvm hw hB hz hk hS => ?_)
      replace hw : r_6 = (o_X0_place a f p0 p1).1 := hw
      subst r_6
      obtain ⟨hP1, hD1⟩ := hB
      rw [ht] at hP1
      obtain ⟨hP, hD⟩ := va_join (wr := []) (w1 := [(h0, eR aw ac ab (o_X0_place a f p0 p1).2.1 rv), (aw, eW w), (ac, eA cy (o_X0_place a f p0 p1).2.2), (ab, eA cy g)]) hP hD [0, 1, 2, 3] [] rfl rfl (by decide +kernel) (by decide +kernel) hk hFc hP1 hD1
      have hP := hP.sub (ws' := [(h0, eR aw ac ab (o_X0_place a f p0 p1).2.1 rv), (aw, eW w), (ac, eA cy (o_X0_place a f p0 p1).2.2), (ab, eA cy g)]) [0, 1, 2, 3] rfl
      have hD := hD.sub (ws' := [(h0, eR aw ac ab (o_X0_place a f p0 p1).2.1 rv), (aw, eW w), (ac, eA cy (o_X0_place a f p0 p1).2.2), (ab, eA cy g)]) [0, 1, 2, 3] (by decide +kernel) rfl
      have he : o_X0_put w a rv f p0 p1 = (0, (o_X0_place a f p0 p1).1, (o_X0_place a f p0 p1).2.1, rv, (o_X0_place a f p0 p1).2.2) := by (rw [o_X0_put, if_pos c_3, if_neg c_5]) <;> rfl
      refine W.widen (k := 1) (n := 6) (by omega) (by omega) ?_
      refine vx_ret ?_
      exact W.iret (v := ((o_X0_place a f p0 p1).1)) hx hb hr (fun t ht hW => ⟨⟨_, (), rfl, ⟨(by (rw [he]) <;> rfl), (by (rw [he]) <;> rfl)⟩, (by rw [he]; exact ⟨by rw [ht]; exact hP, hD⟩)⟩, hS.F ht⟩) hS.2.2 dX0_put_26
    · skip
      refine lv_aload_n hx hb dX0_put_15 rfl (lv_at hl 0 rfl) ?_
      have hPc := hP.sub (ws' := [(h0, eR aw ac ab a rv), (aw, eW w), (ac, eA cy f), (ab, eA cy g)]) [0, 1, 2, 3] rfl
      have hDc := hD.sub (ws' := [(h0, eR aw ac ab a rv), (aw, eW w), (ac, eA cy f), (ab, eA cy g)]) [0, 1, 2, 3] (by decide +kernel) rfl
      have hKc := hK.sub (tys' := [(cy, .long)]) [0] rfl
      have hFc := va_free (wc := [(h0, eR aw ac ab a rv), (aw, eW w), (ac, eA cy f), (ab, eA cy g)]) hD hS hA [0, 1, 2, 3] rfl
      refine va_calli (va_runV (As := []) (rest := []) ⟨hx, hb, hml, hown, hts⟩ (k_X0_refuse l dC dI cy h0 aw ac ab w a rv f g H.size N) (cwV 0 hts gX0_put_X0_refuse rfl rfl rfl (by decide +kernel) ⟨Nat.le_of_ble_eq_true rfl, Nat.le_of_ble_eq_true rfl⟩) (xM.preV hKc hPc hDc hAN (Nat.le_trans hN hS.1) (hG.kept hS hAN) (ci := 2) (q0 := 0) rfl rfl) rfl rfl hl.1 rfl (lv_room (Nat.le_of_ble_eq_true rfl)) dX0_put_16 ⟨Nat.le_of_ble_eq_true rfl, Nat.le_of_ble_eq_true rfl⟩) hS (fun q _ h => hFc q h) hFc (fun r_7 u t H locs ht hvm hw hB hz hk hS => ?_)
      replace hw : r_7 = (o_X0_refuse rv).1 := hw
      subst r_7
      obtain ⟨hP1, hD1⟩ := hB
      rw [ht] at hP1
      obtain ⟨hP, hD⟩ := va_join (wr := []) (w1 := [(h0, eR aw ac ab a (o_X0_refuse rv).2), (aw, eW w), (ac, eA cy f), (ab, eA cy g)]) hP hD [0, 1, 2, 3] [] rfl rfl (by decide +kernel) (by decide +kernel) hk hFc hP1 hD1
      have hP := hP.sub (ws' := [(h0, eR aw ac ab a (o_X0_refuse rv).2), (aw, eW w), (ac, eA cy f), (ab, eA cy g)]) [0, 1, 2, 3] rfl
      have hD := hD.sub (ws' := [(h0, eR aw ac ab a (o_X0_refuse rv).2), (aw, eW w), (ac, eA cy f), (ab, eA cy g)]) [0, 1, 2, 3] (by decide +kernel) rfl
      have he : o_X0_put w a rv f p0 p1 = (0, (o_X0_refuse rv).1, a, (o_X0_refuse rv).2, f) := by (rw [o_X0_put, if_pos c_3, if_pos c_5]) <;> rfl
      refine W.widen (k := 1) (n := 6) (by omega) (by omega) ?_
      refine vx_ret ?_
      exact W.iret (v := ((o_X0_refuse rv).1)) hx hb hr (fun t ht hW => ⟨⟨_, (), rfl, ⟨(by (rw [he]) <;> rfl), (by (rw [he]) <;> rfl)⟩, (by rw [he]; exact ⟨by rw [ht]; exact hP, hD⟩)⟩, hS.F ht⟩) hS.2.2 dX0_put_19
theorem cl_X0_putQuarters_1 : ∀ w ∈ wsX0_putQuarters_r1, w ∈ wsX0_putQuarters := fun _ h => (List.mem_cons_of_mem _ (List.mem_append_left _ (List.mem_append_left _ (List.mem_append_left _ (List.mem_append_left _ (List.mem_append_left _ h))))))
theorem cl_X0_putQuarters_2 : ∀ w ∈ wsX0_putQuarters_r2, w ∈ wsX0_putQuarters := fun _ h => (List.mem_cons_of_mem _ (List.mem_append_left _ (List.mem_append_left _ (List.mem_append_left _ (List.mem_append_left _ (List.mem_append_right _ h))))))
theorem cl_X0_putQuarters_3 : ∀ w ∈ wsX00, w ∈ wsX0_putQuarters := fun _ h => (List.mem_cons_of_mem _ (List.mem_append_left _ (List.mem_append_left _ (List.mem_append_left _ (List.mem_append_right _ h)))))
theorem cl_X0_putQuarters_4 : ∀ w ∈ wsX10, w ∈ wsX0_putQuarters := fun _ h => (List.mem_cons_of_mem _ (List.mem_append_left _ (List.mem_append_left _ (List.mem_append_right _ h))))
theorem cl_X0_putQuarters_5 : ∀ w ∈ (vx_atS RX0 48 "java/lang/IllegalArgumentException" ["java/lang/RuntimeException", "java/lang/Exception"]).filter goodWord, w ∈ wsX0_putQuarters := fun _ h => (List.mem_cons_of_mem _ (List.mem_append_left _ (List.mem_append_right _ h)))
theorem cl_X0_putQuarters_6 : ∀ w ∈ (vx_atS RX2 152 "java/lang/IndexOutOfBoundsException" ["java/lang/RuntimeException", "java/lang/Exception"]).filter goodWord, w ∈ wsX0_putQuarters := fun _ h => (List.mem_cons_of_mem _ (List.mem_append_right _ h))
set_option maxRecDepth 20000 in
theorem ggX0_putQuarters_X2_checkCell : GoodIn wsX0_putQuarters wsX2_checkCell := goodIn_sub (List.forall_mem_cons.mpr ⟨(cl_X0_putQuarters_1 _ (List.mem_of_getElem? (i := 5) rfl)), fun w h => (List.mem_append.mp h).elim ((List.forall_mem_cons.mpr ⟨(cl_X0_putQuarters_1 _ (List.mem_of_getElem? (i := 6) rfl)), List.forall_mem_cons.mpr ⟨(cl_X0_putQuarters_1 _ (List.mem_of_getElem? (i := 7) rfl)), fun _ h => absurd h List.not_mem_nil⟩⟩) w) ((cl_X0_putQuarters_6) w)⟩) (by decide +kernel)
set_option maxRecDepth 20000 in
theorem gX0_putQuarters_X2_checkCell_n22 : GoodIn wsX0_putQuarters (wsX2_checkCell) := ggX0_putQuarters_X2_checkCell
set_option maxRecDepth 20000 in
theorem ggX0_putQuarters_X1_ofQuarters : GoodIn wsX0_putQuarters wsX1_ofQuarters := goodIn_sub (List.forall_mem_cons.mpr ⟨(cl_X0_putQuarters_1 _ (List.mem_of_getElem? (i := 12) rfl)), fun w h => (List.mem_append.mp h).elim ((List.forall_mem_cons.mpr ⟨(cl_X0_putQuarters_1 _ (List.mem_of_getElem? (i := 13) rfl)), List.forall_mem_cons.mpr ⟨(cl_X0_putQuarters_1 _ (List.mem_of_getElem? (i := 14) rfl)), List.forall_mem_cons.mpr ⟨(cl_X0_putQuarters_1 _ (List.mem_of_getElem? (i := 15) rfl)), List.forall_mem_cons.mpr ⟨(cl_X0_putQuarters_1 _ (List.mem_of_getElem? (i := 16) rfl)), List.forall_mem_cons.mpr ⟨(cl_X0_putQuarters_1 _ (List.mem_of_getElem? (i := 17) rfl)), List.forall_mem_cons.mpr ⟨(cl_X0_putQuarters_1 _ (List.mem_of_getElem? (i := 18) rfl)), List.forall_mem_cons.mpr ⟨(cl_X0_putQuarters_1 _ (List.mem_of_getElem? (i := 19) rfl)), List.forall_mem_cons.mpr ⟨(cl_X0_putQuarters_1 _ (List.mem_of_getElem? (i := 11) rfl)), List.forall_mem_cons.mpr ⟨(cl_X0_putQuarters_1 _ (List.mem_of_getElem? (i := 20) rfl)), fun _ h => absurd h List.not_mem_nil⟩⟩⟩⟩⟩⟩⟩⟩⟩) w) ((cl_X0_putQuarters_4) w)⟩) (by decide +kernel)
set_option maxRecDepth 20000 in
theorem gX0_putQuarters_X1_ofQuarters : GoodIn wsX0_putQuarters (wsV RX0 51 RX1 yX1_ofQuarters wsX1_ofQuarters) := goodIn_app (goodIn_sub (List.forall_mem_cons.mpr ⟨(cl_X0_putQuarters_1 _ (List.mem_of_getElem? (i := 8) rfl)), List.forall_mem_cons.mpr ⟨(cl_X0_putQuarters_1 _ (List.mem_of_getElem? (i := 9) rfl)), List.forall_mem_cons.mpr ⟨(cl_X0_putQuarters_1 _ (List.mem_of_getElem? (i := 10) rfl)), List.forall_mem_cons.mpr ⟨(cl_X0_putQuarters_1 _ (List.mem_of_getElem? (i := 11) rfl)), fun _ h => absurd h List.not_mem_nil⟩⟩⟩⟩) (by decide +kernel)) ggX0_putQuarters_X1_ofQuarters
set_option maxRecDepth 20000 in
theorem ggX0_putQuarters_X0_place : GoodIn wsX0_putQuarters wsX0_place := goodIn_sub (List.forall_mem_cons.mpr ⟨(cl_X0_putQuarters_2 _ (List.mem_of_getElem? (i := 1) rfl)), fun w h => (List.mem_append.mp h).elim ((List.forall_mem_cons.mpr ⟨(cl_X0_putQuarters_2 _ (List.mem_of_getElem? (i := 2) rfl)), List.forall_mem_cons.mpr ⟨(cl_X0_putQuarters_2 _ (List.mem_of_getElem? (i := 3) rfl)), fun _ h => absurd h List.not_mem_nil⟩⟩) w) ((cl_X0_putQuarters_3) w)⟩) (by decide +kernel)
set_option maxRecDepth 20000 in
theorem gX0_putQuarters_X0_place : GoodIn wsX0_putQuarters (wsV RX0 36 RX0 yX0_place wsX0_place) := goodIn_app (goodIn_sub (List.forall_mem_cons.mpr ⟨(cl_X0_putQuarters_1 _ (List.mem_of_getElem? (i := 21) rfl)), List.forall_mem_cons.mpr ⟨(cl_X0_putQuarters_1 _ (List.mem_of_getElem? (i := 22) rfl)), List.forall_mem_cons.mpr ⟨(cl_X0_putQuarters_1 _ (List.mem_of_getElem? (i := 23) rfl)), List.forall_mem_cons.mpr ⟨(cl_X0_putQuarters_2 _ (List.mem_of_getElem? (i := 0) rfl)), fun _ h => absurd h List.not_mem_nil⟩⟩⟩⟩) (by decide +kernel)) ggX0_putQuarters_X0_place
noncomputable def dz_p11_7 : List (Nat × Instr × Nat) := [(0, (.iload_n 1, 1)), (1, (.invokestatic 22, 3)), (4, (.iload_n 2, 1)), (5, (.aload_n 0, 1)), (6, (.getfield 9, 3)), (9, (.getfield 40, 3)), (12, (.ineg, 1)), (13, (.if_icmp .lt 14, 3)), (16, (.iload_n 2, 1)), (17, (.aload_n 0, 1)), (18, (.getfield 9, 3)), (21, (.getfield 40, 3)), (24, (.if_icmp .le 13, 3)), (27, (.new 44, 3)), (30, (.dup, 1)), (31, (.ldc 46, 2)), (33, (.invokespecial 48, 3)), (36, (.athrow, 1)), (37, (.aload_n 0, 1)), (38, (.iload_n 1, 1)), (39, (.aload_n 0, 1)), (40, (.getfield 9, 3)), (43, (.iload_n 2, 1)), (44, (.invokevirtual 51, 3)), (47, (.invokevirtual 36, 3)), (50, (.ireturn, 1))]
theorem dy_p11_7 : dz_ok cX0_putQuarters dz_p11_7 = true := by decide +kernel
theorem dX0_putQuarters_0 : decode cX0_putQuarters 0 = .ok (.iload_n 1, 1) := dz_at (i := 0) dy_p11_7 rfl
theorem dX0_putQuarters_1 : decode cX0_putQuarters 1 = .ok (.invokestatic 22, 3) := dz_at (i := 1) dy_p11_7 rfl
theorem dX0_putQuarters_4 : decode cX0_putQuarters 4 = .ok (.iload_n 2, 1) := dz_at (i := 2) dy_p11_7 rfl
theorem dX0_putQuarters_5 : decode cX0_putQuarters 5 = .ok (.aload_n 0, 1) := dz_at (i := 3) dy_p11_7 rfl
theorem dX0_putQuarters_6 : decode cX0_putQuarters 6 = .ok (.getfield 9, 3) := dz_at (i := 4) dy_p11_7 rfl
theorem dX0_putQuarters_9 : decode cX0_putQuarters 9 = .ok (.getfield 40, 3) := dz_at (i := 5) dy_p11_7 rfl
theorem dX0_putQuarters_12 : decode cX0_putQuarters 12 = .ok (.ineg, 1) := dz_at (i := 6) dy_p11_7 rfl
theorem dX0_putQuarters_13 : decode cX0_putQuarters 13 = .ok (.if_icmp .lt 14, 3) := dz_at (i := 7) dy_p11_7 rfl
theorem dX0_putQuarters_16 : decode cX0_putQuarters 16 = .ok (.iload_n 2, 1) := dz_at (i := 8) dy_p11_7 rfl
theorem dX0_putQuarters_17 : decode cX0_putQuarters 17 = .ok (.aload_n 0, 1) := dz_at (i := 9) dy_p11_7 rfl
theorem dX0_putQuarters_18 : decode cX0_putQuarters 18 = .ok (.getfield 9, 3) := dz_at (i := 10) dy_p11_7 rfl
theorem dX0_putQuarters_21 : decode cX0_putQuarters 21 = .ok (.getfield 40, 3) := dz_at (i := 11) dy_p11_7 rfl
theorem dX0_putQuarters_24 : decode cX0_putQuarters 24 = .ok (.if_icmp .le 13, 3) := dz_at (i := 12) dy_p11_7 rfl
theorem dX0_putQuarters_27 : decode cX0_putQuarters 27 = .ok (.new 44, 3) := dz_at (i := 13) dy_p11_7 rfl
theorem dX0_putQuarters_30 : decode cX0_putQuarters 30 = .ok (.dup, 1) := dz_at (i := 14) dy_p11_7 rfl
theorem dX0_putQuarters_31 : decode cX0_putQuarters 31 = .ok (.ldc 46, 2) := dz_at (i := 15) dy_p11_7 rfl
theorem dX0_putQuarters_33 : decode cX0_putQuarters 33 = .ok (.invokespecial 48, 3) := dz_at (i := 16) dy_p11_7 rfl
theorem dX0_putQuarters_36 : decode cX0_putQuarters 36 = .ok (.athrow, 1) := dz_at (i := 17) dy_p11_7 rfl
theorem dX0_putQuarters_37 : decode cX0_putQuarters 37 = .ok (.aload_n 0, 1) := dz_at (i := 18) dy_p11_7 rfl
theorem dX0_putQuarters_38 : decode cX0_putQuarters 38 = .ok (.iload_n 1, 1) := dz_at (i := 19) dy_p11_7 rfl
theorem dX0_putQuarters_39 : decode cX0_putQuarters 39 = .ok (.aload_n 0, 1) := dz_at (i := 20) dy_p11_7 rfl
theorem dX0_putQuarters_40 : decode cX0_putQuarters 40 = .ok (.getfield 9, 3) := dz_at (i := 21) dy_p11_7 rfl
theorem dX0_putQuarters_43 : decode cX0_putQuarters 43 = .ok (.iload_n 2, 1) := dz_at (i := 22) dy_p11_7 rfl
theorem dX0_putQuarters_44 : decode cX0_putQuarters 44 = .ok (.invokevirtual 51, 3) := dz_at (i := 23) dy_p11_7 rfl
theorem dX0_putQuarters_47 : decode cX0_putQuarters 47 = .ok (.invokevirtual 36, 3) := dz_at (i := 24) dy_p11_7 rfl
theorem dX0_putQuarters_50 : decode cX0_putQuarters 50 = .ok (.ireturn, 1) := dz_at (i := 25) dy_p11_7 rfl
noncomputable def o_X0_putQuarters (w : Bool) (a : Int32) (f : Nat → Int64) (p0 : Int32) (p1 : Int32) : Int32 × Int32 × Int32 × (Nat → Int64) :=
  if (o_X2_checkCell p0) = 0 then (if p1 < (-(wQb w)) then (2, 0, a, f)
    else if p1 ≤ (wQb w) then (0, (o_X0_place a f p0 (o_X1_ofQuarters w p1)).1, (o_X0_place a f p0 (o_X1_ofQuarters w p1)).2.1, (o_X0_place a f p0 (o_X1_ofQuarters w p1)).2.2)
    else (2, 0, a, f))
  else ((o_X2_checkCell p0), 0, a, f)
set_option maxHeartbeats 4000000 in
set_option maxRecDepth 100000 in
theorem k_X0_putQuarters (l : Launch) (hfl : l.flags = flags0) (dC : Nat → ClassId) (dI : Nat → Nat → Nat) (cy : ClassId) (h0 : Nat) (aw : Nat) (ac : Nat) (ab : Nat) (w : Bool) (a : Int32) (rv : Int32) (f : Nat → Int64) (g : Nat → Int64) (sz : Nat) (N : Nat) (p0 : Int32) (p1 : Int32) : vx_Met l yX0_putQuarters wsX0_putQuarters ({ frames := 7, cells := 2, slots := 12, locals := 120 }) (va_Pc [.ref h0, .int p0, .int p1] (xM (dC, dI) xCl [(h0, eR aw ac ab a rv), (aw, eW w), (ac, eA cy f), (ab, eA cy g)] [(cy, .long)] sz N)) (va_Qi (fun (r : Int32) (_ : Unit) => (o_X0_putQuarters w a f p0 p1).1 = 0 ∧ r = (o_X0_putQuarters w a f p0 p1).2.1) (fun _ t => xW (dC, dI) xCl [(h0, eR aw ac ab (o_X0_putQuarters w a f p0 p1).2.2.1 rv), (aw, eW w), (ac, eA cy (o_X0_putQuarters w a f p0 p1).2.2.2), (ab, eA cy g)] (va_A [(h0, eR aw ac ab a rv), (aw, eW w), (ac, eA cy f), (ab, eA cy g)] sz) t) (va_A [(h0, eR aw ac ab a rv), (aw, eW w), (ac, eA cy f), (ab, eA cy g)] sz)) (vx_X (fun _ : Unit => ¬ (o_X0_putQuarters w a f p0 p1).1 = 0) (fun E _ t => E = xE (o_X0_putQuarters w a f p0 p1).1 ∧ xW (dC, dI) xCl [(h0, eR aw ac ab a rv), (aw, eW w), (ac, eA cy f), (ab, eA cy g)] (va_A [(h0, eR aw ac ab a rv), (aw, eW w), (ac, eA cy f), (ab, eA cy g)] sz) t) (va_A [(h0, eR aw ac ab a rv), (aw, eW w), (ac, eA cy f), (ab, eA cy g)] sz)) 2 12 (va_A [(h0, eR aw ac ab a rv), (aw, eW w), (ac, eA cy f), (ab, eA cy g)] sz) := by
  refine vx_ofW (cc := cX0_putQuarters) (maxL := 3) (ret := (some .int)) (by decide +kernel) rfl ?_
  intro p e s m args below meth c s₁ B hml hno hv
  obtain ⟨rfl, hsz, hP, hK, hD0, hN, hG⟩ := hv
  have hx := B.exec
  have hb := B.bytes
  have hr := B.returns
  have hts := atoms_spec (ws := wsX0_putQuarters) B.pre
  have hown : s.vm.findClass RX0 = some m.cls := findClass_of_methodNamed B.named
  have hlocks := B.notSynchronized
  subst hsz
  have hAN : ∀ q, va_A [(h0, eR aw ac ab a rv), (aw, eW w), (ac, eA cy f), (ab, eA cy g)] s.heap.size q → N ≤ q := xA_N hD0 hN
  have hD := hD0.self (sz := s.heap.size)
  generalize hAe : va_A [(h0, eR aw ac ab a rv), (aw, eW w), (ac, eA cy f), (ab, eA cy g)] s.heap.size = A at hD hAN ⊢
  have hA : ∀ q : Nat, s.heap.size ≤ q → A q := fun q h => by rw [← hAe]; exact Or.inr h
  have hS : va_S A s.heap s.heap [] := va_S.rf
  have hP : va_P (dC, dI) xCl [(h0, eR aw ac ab a rv), (aw, eW w), (ac, eA cy f), (ab, eA cy g)] s.heap := hP
  have hl := lv_entry ([.ref h0, .int p0, .int p1]) (n := 3) (Nat.le_of_ble_eq_true rfl)
  rw [lg_entry_eq]
  generalize (lg_sl ([.ref h0, .int p0, .int p1]) ++ List.replicate (3 - (lg_sl ([.ref h0, .int p0, .int p1])).length) Slot.unset).toArray = ls at hl ⊢
  have hl : lv_has ls 3 [(0, .ref h0), (1, .int p0), (2, .int p1)] := hl
  refine lv_iload_n hx hb dX0_putQuarters_0 rfl (lv_at hl 1 rfl) ?_
  have hPc := hP.sub (ws' := []) [] rfl
  have hDc := hD.sub (ws' := []) [] (by decide +kernel) rfl
  have hKc := hK.sub (tys' := []) [] rfl
  refine vx_callv (vx_runSN (As := [.int p0]) (rest := []) ⟨hx, hb, hml, hown, hts⟩ (k_X2_checkCell l hfl dC dI s.heap.size N p0) ⟨va_cnB 1 hts gX0_putQuarters_X2_checkCell_n22 rfl rfl rfl (hG.1 (.methodLinkNest RX0 22 yX2_checkCell RX2) (List.mem_of_getElem? (i := 0) rfl)) (hts (.initialized RX2) (by decide +kernel)) (by decide +kernel) ⟨Nat.le_of_ble_eq_true rfl, Nat.le_of_ble_eq_true rfl⟩, hts (.static yX2_checkCell) (by decide +kernel), trivial⟩ (xM.preS hKc hPc hDc hAN (Nat.le_trans hN hS.1) (hG.kept hS hAN)) rfl rfl hl.1 rfl (lv_room (Nat.le_of_ble_eq_true rfl)) dX0_putQuarters_1 ⟨Nat.le_of_ble_eq_true rfl, Nat.le_of_ble_eq_true rfl⟩) hS xA_old (fun q h => hA q (Nat.le_trans hS.1 h)) xA_old (fun E ce q9 u9 t H locs ht hvm hpx hbx hz hk hS hce hcv hcl => ?_) (fun u t H locs ht hvm hw hB hz hk hS => ?_)
  · have c_2 : ¬ (o_X2_checkCell p0) = 0 := hpx
    have hbe := hbx
    have hP := xP_keep hP hk
    have he : o_X0_putQuarters w a f p0 p1 = ((o_X2_checkCell p0), 0, a, f) := by (rw [o_X0_putQuarters, if_neg c_2]) <;> rfl
    exact vx_out (fun x hx => (hno x hx).elim) hlocks hce hcv hcl (fun t ht hvm => ⟨(), by rw [he]; exact c_2, ⟨by rw [he]; exact hbe, by rw [ht]; exact hP, hD⟩, hS.F ht⟩) hS.2.2 (by omega) (by omega)
  · skip
    have c_3 := hw
    have c_3 : (o_X2_checkCell p0) = 0 := c_3
    have hP := xP_keep hP hk
    refine lv_iload_n hx hb dX0_putQuarters_4 rfl (lv_at hl 2 rfl) ?_
    refine lv_aload_n hx hb dX0_putQuarters_5 rfl (lv_at hl 0 rfl) ?_
    refine va_get (D := (dC, dI)) (ci := 2) (v := .ref aw) (C := RX0) (T := TX0) (N := 5) hx hb hts (by decide +kernel) hown hK hP 0 rfl rfl 0 (by decide +kernel) (hts (.fieldLink RX0 9 "Edgefloats$Row" "width" "LEdgefloats$Width;") (by decide +kernel)) (fun _ h9 => h9) rfl dX0_putQuarters_6 ?_
    refine va_getN (D := (dC, dI)) (ci := 3) (v := .int (wQb w)) (C := RX1) (T := TX1) (N := 7) hx hb hts (by decide +kernel) hown hK hP 1 rfl rfl 6 (by decide +kernel) (va_Nw.use rfl (hG.1 (.fieldLinkNest RX0 40 "Edgefloats$Width" "quarterBound" "I" RX2) (List.mem_of_getElem? (i := 3) rfl))) (fun _ h9 => h9) rfl dX0_putQuarters_9 ?_
    refine lv_ineg hx hb dX0_putQuarters_12 ?_
    refine lv_icmp_lt (tgt := 27) hx hb dX0_putQuarters_13 (by decide +kernel) (fun c_4 => ?_) (fun c_4 => ?_)
    · skip
      have he : o_X0_putQuarters w a f p0 p1 = (2, 0, a, f) := by (rw [o_X0_putQuarters, if_pos c_3, if_pos c_4]) <;> rfl
      obtain ⟨sa, hsa⟩ := hG.2.2.2.1
      have hxat : ∀ w ∈ (vx_atS RX0 48 "java/lang/IllegalArgumentException" ["java/lang/RuntimeException", "java/lang/Exception"]).filter goodWord, w ∈ wsX0_putQuarters := fun w hw => (by first | exact List.mem_cons_of_mem _ (List.mem_append_right _ hw) | exact List.mem_cons_of_mem _ (List.mem_append_left _ (List.mem_append_right _ hw)))
      have hxbad : ∀ w ∈ (vx_atS RX0 48 "java/lang/IllegalArgumentException" ["java/lang/RuntimeException", "java/lang/Exception"]).filter (fun w => !goodWord w), w ∈ [Cond.declares (Bundle.initS "java/lang/RuntimeException"), .declares (Bundle.initS "java/lang/Exception"), .declares (Bundle.initS "java/lang/Throwable"), .castable "java/lang/IllegalArgumentException" "java/lang/IllegalArgumentException"] := by decide +kernel
      exact vx_throwS hx hb (xfl hfl) (own := RX0) (cls := "java/lang/IllegalArgumentException") (text := "there is no such QUARTER") (names := ["java/lang/RuntimeException", "java/lang/Exception"]) (ik := 44) (is := 46) (ic := 48) (sa := sa) hown (by decide +kernel) (by decide +kernel) (hts (.classLink RX0 44 "java/lang/IllegalArgumentException") (by decide +kernel)) (hts (.initialized "java/lang/IllegalArgumentException") (by decide +kernel)) hsa (vx_hat (L := vx_atS RX0 48 "java/lang/IllegalArgumentException" ["java/lang/RuntimeException", "java/lang/Exception"]) (B := [.declares (Bundle.initS "java/lang/RuntimeException"), .declares (Bundle.initS "java/lang/Exception"), .declares (Bundle.initS "java/lang/Throwable"), .castable "java/lang/IllegalArgumentException" "java/lang/IllegalArgumentException"]) (fun w hw => hts w (hxat w hw)) hxbad (vx_c (va_Nw.use rfl (hG.1 _ (by decide +kernel))) (vx_c (va_Nw.use rfl (hG.1 _ (by decide +kernel))) (vx_c (va_Nw.use rfl (hG.1 _ (by decide +kernel))) (vx_c (va_Nw.use rfl (hG.1 _ (by decide +kernel))) vx_n))))) (by decide +kernel) (vx_Zq.narrow hG.2.2.2.2.1 hAN) (vx_Zq.narrow hG.2.2.2.2.2 hAN) hS (hl.1.trans hml.symm) dX0_putQuarters_27 dX0_putQuarters_30 dX0_putQuarters_31 dX0_putQuarters_33 dX0_putQuarters_36 (fun x hx => (hno x hx).elim) (by decide +kernel) (by decide +kernel) (by decide +kernel) (by decide +kernel) hlocks (fun t _ h1 h2 => ⟨(), by rw [he]; exact (by decide : ¬ (2 : Int32) = 0), ⟨by rw [he]; rfl, hP.kept (fun k q hk => h2 q.1 (hP k q hk).lt), hD⟩, xF_t hS h1 h2⟩) hS.2.2 (by omega) (by omega)
    · skip
      refine lv_iload_n hx hb dX0_putQuarters_16 rfl (lv_at hl 2 rfl) ?_
      refine lv_aload_n hx hb dX0_putQuarters_17 rfl (lv_at hl 0 rfl) ?_
      refine va_get (D := (dC, dI)) (ci := 2) (v := .ref aw) (C := RX0) (T := TX0) (N := 5) hx hb hts (by decide +kernel) hown hK hP 0 rfl rfl 0 (by decide +kernel) (hts (.fieldLink RX0 9 "Edgefloats$Row" "width" "LEdgefloats$Width;") (by decide +kernel)) (fun _ h9 => h9) rfl dX0_putQuarters_18 ?_
      refine va_getN (D := (dC, dI)) (ci := 3) (v := .int (wQb w)) (C := RX1) (T := TX1) (N := 7) hx hb hts (by decide +kernel) hown hK hP 1 rfl rfl 6 (by decide +kernel) (va_Nw.use rfl (hG.1 (.fieldLinkNest RX0 40 "Edgefloats$Width" "quarterBound" "I" RX2) (List.mem_of_getElem? (i := 3) rfl))) (fun _ h9 => h9) rfl dX0_putQuarters_21 ?_
      refine lv_icmp_le (tgt := 37) hx hb dX0_putQuarters_24 (by decide +kernel) (fun c_5 => ?_) (fun c_5 => ?_)
      · skip
        refine lv_aload_n hx hb dX0_putQuarters_37 rfl (lv_at hl 0 rfl) ?_
        refine lv_iload_n hx hb dX0_putQuarters_38 rfl (lv_at hl 1 rfl) ?_
        refine lv_aload_n hx hb dX0_putQuarters_39 rfl (lv_at hl 0 rfl) ?_
        refine va_get (D := (dC, dI)) (ci := 2) (v := .ref aw) (C := RX0) (T := TX0) (N := 5) hx hb hts (by decide +kernel) hown hK hP 0 rfl rfl 0 (by decide +kernel) (hts (.fieldLink RX0 9 "Edgefloats$Row" "width" "LEdgefloats$Width;") (by decide +kernel)) (fun _ h9 => h9) rfl dX0_putQuarters_40 ?_
        refine lv_iload_n hx hb dX0_putQuarters_43 rfl (lv_at hl 2 rfl) ?_
        have hPc := hP.sub (ws' := [(aw, eW w)]) [1] rfl
        have hKc := hK.sub (tys' := []) [] rfl
        refine va_calll (va_runV (As := [.int p1]) (rest := [.int p0, .ref h0]) ⟨hx, hb, hml, hown, hts⟩ (k_X1_ofQuarters l dC dI aw w H.size p1) (cwV 1 hts gX0_putQuarters_X1_ofQuarters rfl rfl rfl (by decide +kernel) ⟨Nat.le_of_ble_eq_true rfl, Nat.le_of_ble_eq_true rfl⟩) (xB.preV hKc hPc (ci := 3) (q0 := 0) rfl rfl) rfl rfl hl.1 rfl (lv_room (Nat.le_of_ble_eq_true rfl)) dX0_putQuarters_44 ⟨Nat.le_of_ble_eq_true rfl, Nat.le_of_ble_eq_true rfl⟩) hS xA_old (fun q h => hA q (Nat.le_trans hS.1 h)) (fun r_6 u t H locs ht hvm hw hB hz hk hS => ?_)
        replace hw : r_6 = (o_X1_ofQuarters w p1) := hw
        subst r_6
        have hP := xP_keep hP hk
        have hPc := hP.sub (ws' := [(h0, eR aw ac ab a rv), (aw, eW w), (ac, eA cy f), (ab, eA cy g)]) [0, 1, 2, 3] rfl
        have hDc := hD.sub (ws' := [(h0, eR aw ac ab a rv), (aw, eW w), (ac, eA cy f), (ab, eA cy g)]) [0, 1, 2, 3] (by decide +kernel) rfl
        have hKc := hK.sub (tys' := [(cy, .long)]) [0] rfl
        have hFc := va_free (wc := [(h0, eR aw ac ab a rv), (aw, eW w), (ac, eA cy f), (ab, eA cy g)]) hD hS hA [0, 1, 2, 3] rfl
        refine va_calli (va_runV (As := [.int p0, .long (o_X1_ofQuarters w p1)]) (rest := []) ⟨hx, hb, hml, hown, hts⟩ (k_X0_place l dC dI cy h0 aw ac ab w a rv f g H.size N p0 (o_X1_ofQuarters w p1) (xm_cc c_3)) (cwV 2 hts gX0_putQuarters_X0_place rfl rfl rfl (by decide +kernel) ⟨Nat.le_of_ble_eq_true rfl, Nat.le_of_ble_eq_true rfl⟩) (xM.preV hKc hPc hDc hAN (Nat.le_trans hN hS.1) (hG.kept hS hAN) (ci := 2) (q0 := 0) rfl rfl) rfl rfl hl.1 rfl (lv_room (Nat.le_of_ble_eq_true rfl)) dX0_putQuarters_47 ⟨Nat.le_of_ble_eq_true rfl, Nat.le_of_ble_eq_true rfl⟩) hS (fun q _ h => hFc q h) hFc (fun r_7 u t H locs ht hvm hw hB hz hk hS => ?_)
        replace hw : r_7 = (o_X0_place a f p0 (o_X1_ofQuarters w p1)).1 := hw
        subst r_7
        obtain ⟨hP1, hD1⟩ := hB
        rw [ht] at hP1
        obtain ⟨hP, hD⟩ := va_join (wr := []) (w1 := [(h0, eR aw ac ab (o_X0_place a f p0 (o_X1_ofQuarters w p1)).2.1 rv), (aw, eW w), (ac, eA cy (o_X0_place a f p0 (o_X1_ofQuarters w p1)).2.2), (ab, eA cy g)]) hP hD [0, 1, 2, 3] [] rfl rfl (by decide +kernel) (by decide +kernel) hk hFc hP1 hD1
        have hP := hP.sub (ws' := [(h0, eR aw ac ab (o_X0_place a f p0 (o_X1_ofQuarters w p1)).2.1 rv), (aw, eW w), (ac, eA cy (o_X0_place a f p0 (o_X1_ofQuarters w p1)).2.2), (ab, eA cy g)]) [0, 1, 2, 3] rfl
        have hD := hD.sub (ws' := [(h0, eR aw ac ab (o_X0_place a f p0 (o_X1_ofQuarters w p1)).2.1 rv), (aw, eW w), (ac, eA cy (o_X0_place a f p0 (o_X1_ofQuarters w p1)).2.2), (ab, eA cy g)]) [0, 1, 2, 3] (by decide +kernel) rfl
        have he : o_X0_putQuarters w a f p0 p1 = (0, (o_X0_place a f p0 (o_X1_ofQuarters w p1)).1, (o_X0_place a f p0 (o_X1_ofQuarters w p1)).2.1, (o_X0_place a f p0 (o_X1_ofQuarters w p1)).2.2) := by (rw [o_X0_putQuarters, if_pos c_3, if_neg c_4, if_pos c_5]) <;> rfl
        refine W.widen (k := 2) (n := 12) (by omega) (by omega) ?_
        refine vx_ret ?_
        exact W.iret (v := ((o_X0_place a f p0 (o_X1_ofQuarters w p1)).1)) hx hb hr (fun t ht hW => ⟨⟨_, (), rfl, ⟨(by (rw [he]) <;> rfl), (by (rw [he]) <;> rfl)⟩, (by rw [he]; exact ⟨by rw [ht]; exact hP, hD⟩)⟩, hS.F ht⟩) hS.2.2 dX0_putQuarters_50
      · skip
        have he : o_X0_putQuarters w a f p0 p1 = (2, 0, a, f) := by (rw [o_X0_putQuarters, if_pos c_3, if_neg c_4, if_neg c_5]) <;> rfl
        obtain ⟨sa, hsa⟩ := hG.2.2.2.1
        have hxat : ∀ w ∈ (vx_atS RX0 48 "java/lang/IllegalArgumentException" ["java/lang/RuntimeException", "java/lang/Exception"]).filter goodWord, w ∈ wsX0_putQuarters := fun w hw => (by first | exact List.mem_cons_of_mem _ (List.mem_append_right _ hw) | exact List.mem_cons_of_mem _ (List.mem_append_left _ (List.mem_append_right _ hw)))
        have hxbad : ∀ w ∈ (vx_atS RX0 48 "java/lang/IllegalArgumentException" ["java/lang/RuntimeException", "java/lang/Exception"]).filter (fun w => !goodWord w), w ∈ [Cond.declares (Bundle.initS "java/lang/RuntimeException"), .declares (Bundle.initS "java/lang/Exception"), .declares (Bundle.initS "java/lang/Throwable"), .castable "java/lang/IllegalArgumentException" "java/lang/IllegalArgumentException"] := by decide +kernel
        exact vx_throwS hx hb (xfl hfl) (own := RX0) (cls := "java/lang/IllegalArgumentException") (text := "there is no such QUARTER") (names := ["java/lang/RuntimeException", "java/lang/Exception"]) (ik := 44) (is := 46) (ic := 48) (sa := sa) hown (by decide +kernel) (by decide +kernel) (hts (.classLink RX0 44 "java/lang/IllegalArgumentException") (by decide +kernel)) (hts (.initialized "java/lang/IllegalArgumentException") (by decide +kernel)) hsa (vx_hat (L := vx_atS RX0 48 "java/lang/IllegalArgumentException" ["java/lang/RuntimeException", "java/lang/Exception"]) (B := [.declares (Bundle.initS "java/lang/RuntimeException"), .declares (Bundle.initS "java/lang/Exception"), .declares (Bundle.initS "java/lang/Throwable"), .castable "java/lang/IllegalArgumentException" "java/lang/IllegalArgumentException"]) (fun w hw => hts w (hxat w hw)) hxbad (vx_c (va_Nw.use rfl (hG.1 _ (by decide +kernel))) (vx_c (va_Nw.use rfl (hG.1 _ (by decide +kernel))) (vx_c (va_Nw.use rfl (hG.1 _ (by decide +kernel))) (vx_c (va_Nw.use rfl (hG.1 _ (by decide +kernel))) vx_n))))) (by decide +kernel) (vx_Zq.narrow hG.2.2.2.2.1 hAN) (vx_Zq.narrow hG.2.2.2.2.2 hAN) hS (hl.1.trans hml.symm) dX0_putQuarters_27 dX0_putQuarters_30 dX0_putQuarters_31 dX0_putQuarters_33 dX0_putQuarters_36 (fun x hx => (hno x hx).elim) (by decide +kernel) (by decide +kernel) (by decide +kernel) (by decide +kernel) hlocks (fun t _ h1 h2 => ⟨(), by rw [he]; exact (by decide : ¬ (2 : Int32) = 0), ⟨by rw [he]; rfl, hP.kept (fun k q hk => h2 q.1 (hP k q hk).lt), hD⟩, xF_t hS h1 h2⟩) hS.2.2 (by omega) (by omega)
theorem cl_X0_putKnown_1 : ∀ w ∈ wsX0_putKnown_r1, w ∈ wsX0_putKnown := fun _ h => (List.mem_cons_of_mem _ (List.mem_append_left _ (List.mem_append_left _ (List.mem_append_left _ (List.mem_append_left _ (List.mem_append_left _ h))))))
theorem cl_X0_putKnown_2 : ∀ w ∈ wsX0_putKnown_r2, w ∈ wsX0_putKnown := fun _ h => (List.mem_cons_of_mem _ (List.mem_append_left _ (List.mem_append_left _ (List.mem_append_left _ (List.mem_append_left _ (List.mem_append_right _ h))))))
theorem cl_X0_putKnown_3 : ∀ w ∈ wsX00, w ∈ wsX0_putKnown := fun _ h => (List.mem_cons_of_mem _ (List.mem_append_left _ (List.mem_append_left _ (List.mem_append_left _ (List.mem_append_right _ h)))))
theorem cl_X0_putKnown_4 : ∀ w ∈ wsX10, w ∈ wsX0_putKnown := fun _ h => (List.mem_cons_of_mem _ (List.mem_append_left _ (List.mem_append_left _ (List.mem_append_right _ h))))
theorem cl_X0_putKnown_5 : ∀ w ∈ (vx_atS RX2 152 "java/lang/IndexOutOfBoundsException" ["java/lang/RuntimeException", "java/lang/Exception"]).filter goodWord, w ∈ wsX0_putKnown := fun _ h => (List.mem_cons_of_mem _ (List.mem_append_left _ (List.mem_append_right _ h)))
theorem cl_X0_putKnown_6 : ∀ w ∈ (vx_atS RX2 159 "java/lang/IllegalArgumentException" ["java/lang/RuntimeException", "java/lang/Exception"]).filter goodWord, w ∈ wsX0_putKnown := fun _ h => (List.mem_cons_of_mem _ (List.mem_append_right _ h))
set_option maxRecDepth 20000 in
theorem ggX0_putKnown_X2_checkCell : GoodIn wsX0_putKnown wsX2_checkCell := goodIn_sub (List.forall_mem_cons.mpr ⟨(cl_X0_putKnown_1 _ (List.mem_of_getElem? (i := 3) rfl)), fun w h => (List.mem_append.mp h).elim ((List.forall_mem_cons.mpr ⟨(cl_X0_putKnown_1 _ (List.mem_of_getElem? (i := 4) rfl)), List.forall_mem_cons.mpr ⟨(cl_X0_putKnown_1 _ (List.mem_of_getElem? (i := 5) rfl)), fun _ h => absurd h List.not_mem_nil⟩⟩) w) ((cl_X0_putKnown_5) w)⟩) (by decide +kernel)
set_option maxRecDepth 20000 in
theorem gX0_putKnown_X2_checkCell_n22 : GoodIn wsX0_putKnown (wsX2_checkCell) := ggX0_putKnown_X2_checkCell
set_option maxRecDepth 20000 in
theorem ggX0_putKnown_X2_checkChoice : GoodIn wsX0_putKnown wsX2_checkChoice := goodIn_sub (List.forall_mem_cons.mpr ⟨(cl_X0_putKnown_1 _ (List.mem_of_getElem? (i := 7) rfl)), fun w h => (List.mem_append.mp h).elim ((List.forall_mem_cons.mpr ⟨(cl_X0_putKnown_1 _ (List.mem_of_getElem? (i := 8) rfl)), List.forall_mem_cons.mpr ⟨(cl_X0_putKnown_1 _ (List.mem_of_getElem? (i := 9) rfl)), fun _ h => absurd h List.not_mem_nil⟩⟩) w) ((cl_X0_putKnown_6) w)⟩) (by decide +kernel)
set_option maxRecDepth 20000 in
theorem gX0_putKnown_X2_checkChoice_n55 : GoodIn wsX0_putKnown (wsX2_checkChoice) := ggX0_putKnown_X2_checkChoice
set_option maxRecDepth 20000 in
theorem ggX0_putKnown_X1_known : GoodIn wsX0_putKnown wsX1_known := goodIn_sub (List.forall_mem_cons.mpr ⟨(cl_X0_putKnown_1 _ (List.mem_of_getElem? (i := 14) rfl)), fun w h => (List.mem_append.mp h).elim ((List.forall_mem_cons.mpr ⟨(cl_X0_putKnown_1 _ (List.mem_of_getElem? (i := 15) rfl)), List.forall_mem_cons.mpr ⟨(cl_X0_putKnown_1 _ (List.mem_of_getElem? (i := 16) rfl)), List.forall_mem_cons.mpr ⟨(cl_X0_putKnown_1 _ (List.mem_of_getElem? (i := 17) rfl)), fun _ h => absurd h List.not_mem_nil⟩⟩⟩) w) ((cl_X0_putKnown_4) w)⟩) (by decide +kernel)
set_option maxRecDepth 20000 in
theorem gX0_putKnown_X1_known : GoodIn wsX0_putKnown (wsV RX0 59 RX1 yX1_known wsX1_known) := goodIn_app (goodIn_sub (List.forall_mem_cons.mpr ⟨(cl_X0_putKnown_1 _ (List.mem_of_getElem? (i := 10) rfl)), List.forall_mem_cons.mpr ⟨(cl_X0_putKnown_1 _ (List.mem_of_getElem? (i := 11) rfl)), List.forall_mem_cons.mpr ⟨(cl_X0_putKnown_1 _ (List.mem_of_getElem? (i := 12) rfl)), List.forall_mem_cons.mpr ⟨(cl_X0_putKnown_1 _ (List.mem_of_getElem? (i := 13) rfl)), fun _ h => absurd h List.not_mem_nil⟩⟩⟩⟩) (by decide +kernel)) ggX0_putKnown_X1_known
set_option maxRecDepth 20000 in
theorem ggX0_putKnown_X0_place : GoodIn wsX0_putKnown wsX0_place := goodIn_sub (List.forall_mem_cons.mpr ⟨(cl_X0_putKnown_1 _ (List.mem_of_getElem? (i := 22) rfl)), fun w h => (List.mem_append.mp h).elim ((List.forall_mem_cons.mpr ⟨(cl_X0_putKnown_1 _ (List.mem_of_getElem? (i := 23) rfl)), List.forall_mem_cons.mpr ⟨(cl_X0_putKnown_2 _ (List.mem_of_getElem? (i := 0) rfl)), fun _ h => absurd h List.not_mem_nil⟩⟩) w) ((cl_X0_putKnown_3) w)⟩) (by decide +kernel)
set_option maxRecDepth 20000 in
theorem gX0_putKnown_X0_place : GoodIn wsX0_putKnown (wsV RX0 36 RX0 yX0_place wsX0_place) := goodIn_app (goodIn_sub (List.forall_mem_cons.mpr ⟨(cl_X0_putKnown_1 _ (List.mem_of_getElem? (i := 18) rfl)), List.forall_mem_cons.mpr ⟨(cl_X0_putKnown_1 _ (List.mem_of_getElem? (i := 19) rfl)), List.forall_mem_cons.mpr ⟨(cl_X0_putKnown_1 _ (List.mem_of_getElem? (i := 20) rfl)), List.forall_mem_cons.mpr ⟨(cl_X0_putKnown_1 _ (List.mem_of_getElem? (i := 21) rfl)), fun _ h => absurd h List.not_mem_nil⟩⟩⟩⟩) (by decide +kernel)) ggX0_putKnown_X0_place
noncomputable def dz_p11_8 : List (Nat × Instr × Nat) := [(0, (.iload_n 1, 1)), (1, (.invokestatic 22, 3)), (4, (.iload_n 2, 1)), (5, (.bipush 6, 2)), (7, (.invokestatic 55, 3)), (10, (.aload_n 0, 1)), (11, (.iload_n 1, 1)), (12, (.aload_n 0, 1)), (13, (.getfield 9, 3)), (16, (.iload_n 2, 1)), (17, (.invokevirtual 59, 3)), (20, (.invokevirtual 36, 3)), (23, (.ireturn, 1))]
theorem dy_p11_8 : dz_ok cX0_putKnown dz_p11_8 = true := by decide +kernel
theorem dX0_putKnown_0 : decode cX0_putKnown 0 = .ok (.iload_n 1, 1) := dz_at (i := 0) dy_p11_8 rfl
theorem dX0_putKnown_1 : decode cX0_putKnown 1 = .ok (.invokestatic 22, 3) := dz_at (i := 1) dy_p11_8 rfl
theorem dX0_putKnown_4 : decode cX0_putKnown 4 = .ok (.iload_n 2, 1) := dz_at (i := 2) dy_p11_8 rfl
theorem dX0_putKnown_5 : decode cX0_putKnown 5 = .ok (.bipush 6, 2) := dz_at (i := 3) dy_p11_8 rfl
theorem dX0_putKnown_7 : decode cX0_putKnown 7 = .ok (.invokestatic 55, 3) := dz_at (i := 4) dy_p11_8 rfl
theorem dX0_putKnown_10 : decode cX0_putKnown 10 = .ok (.aload_n 0, 1) := dz_at (i := 5) dy_p11_8 rfl
theorem dX0_putKnown_11 : decode cX0_putKnown 11 = .ok (.iload_n 1, 1) := dz_at (i := 6) dy_p11_8 rfl
theorem dX0_putKnown_12 : decode cX0_putKnown 12 = .ok (.aload_n 0, 1) := dz_at (i := 7) dy_p11_8 rfl
theorem dX0_putKnown_13 : decode cX0_putKnown 13 = .ok (.getfield 9, 3) := dz_at (i := 8) dy_p11_8 rfl
theorem dX0_putKnown_16 : decode cX0_putKnown 16 = .ok (.iload_n 2, 1) := dz_at (i := 9) dy_p11_8 rfl
theorem dX0_putKnown_17 : decode cX0_putKnown 17 = .ok (.invokevirtual 59, 3) := dz_at (i := 10) dy_p11_8 rfl
theorem dX0_putKnown_20 : decode cX0_putKnown 20 = .ok (.invokevirtual 36, 3) := dz_at (i := 11) dy_p11_8 rfl
theorem dX0_putKnown_23 : decode cX0_putKnown 23 = .ok (.ireturn, 1) := dz_at (i := 12) dy_p11_8 rfl
noncomputable def o_X0_putKnown (w : Bool) (a : Int32) (f : Nat → Int64) (p0 : Int32) (p1 : Int32) : Int32 × Int32 × Int32 × (Nat → Int64) :=
  if (o_X2_checkCell p0) = 0 then (if (o_X2_checkChoice p1 6) = 0 then (0, (o_X0_place a f p0 (o_X1_known w p1)).1, (o_X0_place a f p0 (o_X1_known w p1)).2.1, (o_X0_place a f p0 (o_X1_known w p1)).2.2)
    else ((o_X2_checkChoice p1 6), 0, a, f))
  else ((o_X2_checkCell p0), 0, a, f)
set_option maxHeartbeats 4000000 in
set_option maxRecDepth 100000 in
theorem k_X0_putKnown (l : Launch) (hfl : l.flags = flags0) (dC : Nat → ClassId) (dI : Nat → Nat → Nat) (cy : ClassId) (h0 : Nat) (aw : Nat) (ac : Nat) (ab : Nat) (w : Bool) (a : Int32) (rv : Int32) (f : Nat → Int64) (g : Nat → Int64) (sz : Nat) (N : Nat) (p0 : Int32) (p1 : Int32) : vx_Met l yX0_putKnown wsX0_putKnown ({ frames := 7, cells := 2, slots := 12, locals := 121 }) (va_Pc [.ref h0, .int p0, .int p1] (xM (dC, dI) xCl [(h0, eR aw ac ab a rv), (aw, eW w), (ac, eA cy f), (ab, eA cy g)] [(cy, .long)] sz N)) (va_Qi (fun (r : Int32) (_ : Unit) => (o_X0_putKnown w a f p0 p1).1 = 0 ∧ r = (o_X0_putKnown w a f p0 p1).2.1) (fun _ t => xW (dC, dI) xCl [(h0, eR aw ac ab (o_X0_putKnown w a f p0 p1).2.2.1 rv), (aw, eW w), (ac, eA cy (o_X0_putKnown w a f p0 p1).2.2.2), (ab, eA cy g)] (va_A [(h0, eR aw ac ab a rv), (aw, eW w), (ac, eA cy f), (ab, eA cy g)] sz) t) (va_A [(h0, eR aw ac ab a rv), (aw, eW w), (ac, eA cy f), (ab, eA cy g)] sz)) (vx_X (fun _ : Unit => ¬ (o_X0_putKnown w a f p0 p1).1 = 0) (fun E _ t => E = xE (o_X0_putKnown w a f p0 p1).1 ∧ xW (dC, dI) xCl [(h0, eR aw ac ab a rv), (aw, eW w), (ac, eA cy f), (ab, eA cy g)] (va_A [(h0, eR aw ac ab a rv), (aw, eW w), (ac, eA cy f), (ab, eA cy g)] sz) t) (va_A [(h0, eR aw ac ab a rv), (aw, eW w), (ac, eA cy f), (ab, eA cy g)] sz)) 2 12 (va_A [(h0, eR aw ac ab a rv), (aw, eW w), (ac, eA cy f), (ab, eA cy g)] sz) := by
  refine vx_ofW (cc := cX0_putKnown) (maxL := 3) (ret := (some .int)) (by decide +kernel) rfl ?_
  intro p e s m args below meth c s₁ B hml hno hv
  obtain ⟨rfl, hsz, hP, hK, hD0, hN, hG⟩ := hv
  have hx := B.exec
  have hb := B.bytes
  have hr := B.returns
  have hts := atoms_spec (ws := wsX0_putKnown) B.pre
  have hown : s.vm.findClass RX0 = some m.cls := findClass_of_methodNamed B.named
  have hlocks := B.notSynchronized
  subst hsz
  have hAN : ∀ q, va_A [(h0, eR aw ac ab a rv), (aw, eW w), (ac, eA cy f), (ab, eA cy g)] s.heap.size q → N ≤ q := xA_N hD0 hN
  have hD := hD0.self (sz := s.heap.size)
  generalize hAe : va_A [(h0, eR aw ac ab a rv), (aw, eW w), (ac, eA cy f), (ab, eA cy g)] s.heap.size = A at hD hAN ⊢
  have hA : ∀ q : Nat, s.heap.size ≤ q → A q := fun q h => by rw [← hAe]; exact Or.inr h
  have hS : va_S A s.heap s.heap [] := va_S.rf
  have hP : va_P (dC, dI) xCl [(h0, eR aw ac ab a rv), (aw, eW w), (ac, eA cy f), (ab, eA cy g)] s.heap := hP
  have hl := lv_entry ([.ref h0, .int p0, .int p1]) (n := 3) (Nat.le_of_ble_eq_true rfl)
  rw [lg_entry_eq]
  generalize (lg_sl ([.ref h0, .int p0, .int p1]) ++ List.replicate (3 - (lg_sl ([.ref h0, .int p0, .int p1])).length) Slot.unset).toArray = ls at hl ⊢
  have hl : lv_has ls 3 [(0, .ref h0), (1, .int p0), (2, .int p1)] := hl
  refine lv_iload_n hx hb dX0_putKnown_0 rfl (lv_at hl 1 rfl) ?_
  have hPc := hP.sub (ws' := []) [] rfl
  have hDc := hD.sub (ws' := []) [] (by decide +kernel) rfl
  have hKc := hK.sub (tys' := []) [] rfl
  refine vx_callv (vx_runSN (As := [.int p0]) (rest := []) ⟨hx, hb, hml, hown, hts⟩ (k_X2_checkCell l hfl dC dI s.heap.size N p0) ⟨va_cnB 1 hts gX0_putKnown_X2_checkCell_n22 rfl rfl rfl (hG.1 (.methodLinkNest RX0 22 yX2_checkCell RX2) (List.mem_of_getElem? (i := 0) rfl)) (hts (.initialized RX2) (by decide +kernel)) (by decide +kernel) ⟨Nat.le_of_ble_eq_true rfl, Nat.le_of_ble_eq_true rfl⟩, hts (.static yX2_checkCell) (by decide +kernel), trivial⟩ (xM.preS hKc hPc hDc hAN (Nat.le_trans hN hS.1) (hG.kept hS hAN)) rfl rfl hl.1 rfl (lv_room (Nat.le_of_ble_eq_true rfl)) dX0_putKnown_1 ⟨Nat.le_of_ble_eq_true rfl, Nat.le_of_ble_eq_true rfl⟩) hS xA_old (fun q h => hA q (Nat.le_trans hS.1 h)) xA_old (fun E ce q9 u9 t H locs ht hvm hpx hbx hz hk hS hce hcv hcl => ?_) (fun u t H locs ht hvm hw hB hz hk hS => ?_)
  · have c_2 : ¬ (o_X2_checkCell p0) = 0 := hpx
    have hbe := hbx
    have hP := xP_keep hP hk
    have he : o_X0_putKnown w a f p0 p1 = ((o_X2_checkCell p0), 0, a, f) := by (rw [o_X0_putKnown, if_neg c_2]) <;> rfl
    exact vx_out (fun x hx => (hno x hx).elim) hlocks hce hcv hcl (fun t ht hvm => ⟨(), by rw [he]; exact c_2, ⟨by rw [he]; exact hbe, by rw [ht]; exact hP, hD⟩, hS.F ht⟩) hS.2.2 (by omega) (by omega)
  · skip
    have c_3 := hw
    have c_3 : (o_X2_checkCell p0) = 0 := c_3
    have hP := xP_keep hP hk
    refine lv_iload_n hx hb dX0_putKnown_4 rfl (lv_at hl 2 rfl) ?_
    refine lv_bipush (v := 6) hx hb dX0_putKnown_5 (by decide +kernel) ?_
    have hPc := hP.sub (ws' := []) [] rfl
    have hDc := hD.sub (ws' := []) [] (by decide +kernel) rfl
    have hKc := hK.sub (tys' := []) [] rfl
    refine vx_callv (vx_runSN (As := [.int p1, .int 6]) (rest := []) ⟨hx, hb, hml, hown, hts⟩ (k_X2_checkChoice l hfl dC dI H.size N p1 6) ⟨va_cnB 2 hts gX0_putKnown_X2_checkChoice_n55 rfl rfl rfl (hG.1 (.methodLinkNest RX0 55 yX2_checkChoice RX2) (List.mem_of_getElem? (i := 1) rfl)) (hts (.initialized RX2) (by decide +kernel)) (by decide +kernel) ⟨Nat.le_of_ble_eq_true rfl, Nat.le_of_ble_eq_true rfl⟩, hts (.static yX2_checkChoice) (by decide +kernel), trivial⟩ (xM.preS hKc hPc hDc hAN (Nat.le_trans hN hS.1) (hG.kept hS hAN)) rfl rfl hl.1 rfl (lv_room (Nat.le_of_ble_eq_true rfl)) dX0_putKnown_7 ⟨Nat.le_of_ble_eq_true rfl, Nat.le_of_ble_eq_true rfl⟩) hS xA_old (fun q h => hA q (Nat.le_trans hS.1 h)) xA_old (fun E ce q9 u9 t H locs ht hvm hpx hbx hz hk hS hce hcv hcl => ?_) (fun u t H locs ht hvm hw hB hz hk hS => ?_)
    · have c_5 : ¬ (o_X2_checkChoice p1 6) = 0 := hpx
      have hbe := hbx
      have hP := xP_keep hP hk
      have he : o_X0_putKnown w a f p0 p1 = ((o_X2_checkChoice p1 6), 0, a, f) := by (rw [o_X0_putKnown, if_pos c_3, if_neg c_5]) <;> rfl
      exact vx_out (fun x hx => (hno x hx).elim) hlocks hce hcv hcl (fun t ht hvm => ⟨(), by rw [he]; exact c_5, ⟨by rw [he]; exact hbe, by rw [ht]; exact hP, hD⟩, hS.F ht⟩) hS.2.2 (by omega) (by omega)
    · skip
      have c_6 := hw
      have c_6 : (o_X2_checkChoice p1 6) = 0 := c_6
      have hP := xP_keep hP hk
      refine lv_aload_n hx hb dX0_putKnown_10 rfl (lv_at hl 0 rfl) ?_
      refine lv_iload_n hx hb dX0_putKnown_11 rfl (lv_at hl 1 rfl) ?_
      refine lv_aload_n hx hb dX0_putKnown_12 rfl (lv_at hl 0 rfl) ?_
      refine va_get (D := (dC, dI)) (ci := 2) (v := .ref aw) (C := RX0) (T := TX0) (N := 5) hx hb hts (by decide +kernel) hown hK hP 0 rfl rfl 0 (by decide +kernel) (hts (.fieldLink RX0 9 "Edgefloats$Row" "width" "LEdgefloats$Width;") (by decide +kernel)) (fun _ h9 => h9) rfl dX0_putKnown_13 ?_
      refine lv_iload_n hx hb dX0_putKnown_16 rfl (lv_at hl 2 rfl) ?_
      have hPc := hP.sub (ws' := [(aw, eW w)]) [1] rfl
      have hKc := hK.sub (tys' := []) [] rfl
      refine va_calll (va_runV (As := [.int p1]) (rest := [.int p0, .ref h0]) ⟨hx, hb, hml, hown, hts⟩ (k_X1_known l dC dI aw w H.size p1) (cwV 1 hts gX0_putKnown_X1_known rfl rfl rfl (by decide +kernel) ⟨Nat.le_of_ble_eq_true rfl, Nat.le_of_ble_eq_true rfl⟩) (xB.preV hKc hPc (ci := 3) (q0 := 0) rfl rfl) rfl rfl hl.1 rfl (lv_room (Nat.le_of_ble_eq_true rfl)) dX0_putKnown_17 ⟨Nat.le_of_ble_eq_true rfl, Nat.le_of_ble_eq_true rfl⟩) hS xA_old (fun q h => hA q (Nat.le_trans hS.1 h)) (fun r_7 u t H locs ht hvm hw hB hz hk hS => ?_)
      replace hw : r_7 = (o_X1_known w p1) := hw
      subst r_7
      have hP := xP_keep hP hk
      have hPc := hP.sub (ws' := [(h0, eR aw ac ab a rv), (aw, eW w), (ac, eA cy f), (ab, eA cy g)]) [0, 1, 2, 3] rfl
      have hDc := hD.sub (ws' := [(h0, eR aw ac ab a rv), (aw, eW w), (ac, eA cy f), (ab, eA cy g)]) [0, 1, 2, 3] (by decide +kernel) rfl
      have hKc := hK.sub (tys' := [(cy, .long)]) [0] rfl
      have hFc := va_free (wc := [(h0, eR aw ac ab a rv), (aw, eW w), (ac, eA cy f), (ab, eA cy g)]) hD hS hA [0, 1, 2, 3] rfl
      refine va_calli (va_runV (As := [.int p0, .long (o_X1_known w p1)]) (rest := []) ⟨hx, hb, hml, hown, hts⟩ (k_X0_place l dC dI cy h0 aw ac ab w a rv f g H.size N p0 (o_X1_known w p1) (xm_cc c_3)) (cwV 2 hts gX0_putKnown_X0_place rfl rfl rfl (by decide +kernel) ⟨Nat.le_of_ble_eq_true rfl, Nat.le_of_ble_eq_true rfl⟩) (xM.preV hKc hPc hDc hAN (Nat.le_trans hN hS.1) (hG.kept hS hAN) (ci := 2) (q0 := 0) rfl rfl) rfl rfl hl.1 rfl (lv_room (Nat.le_of_ble_eq_true rfl)) dX0_putKnown_20 ⟨Nat.le_of_ble_eq_true rfl, Nat.le_of_ble_eq_true rfl⟩) hS (fun q _ h => hFc q h) hFc (fun r_8 u t H locs ht hvm hw hB hz hk hS => ?_)
      replace hw : r_8 = (o_X0_place a f p0 (o_X1_known w p1)).1 := hw
      subst r_8
      obtain ⟨hP1, hD1⟩ := hB
      rw [ht] at hP1
      obtain ⟨hP, hD⟩ := va_join (wr := []) (w1 := [(h0, eR aw ac ab (o_X0_place a f p0 (o_X1_known w p1)).2.1 rv), (aw, eW w), (ac, eA cy (o_X0_place a f p0 (o_X1_known w p1)).2.2), (ab, eA cy g)]) hP hD [0, 1, 2, 3] [] rfl rfl (by decide +kernel) (by decide +kernel) hk hFc hP1 hD1
      have hP := hP.sub (ws' := [(h0, eR aw ac ab (o_X0_place a f p0 (o_X1_known w p1)).2.1 rv), (aw, eW w), (ac, eA cy (o_X0_place a f p0 (o_X1_known w p1)).2.2), (ab, eA cy g)]) [0, 1, 2, 3] rfl
      have hD := hD.sub (ws' := [(h0, eR aw ac ab (o_X0_place a f p0 (o_X1_known w p1)).2.1 rv), (aw, eW w), (ac, eA cy (o_X0_place a f p0 (o_X1_known w p1)).2.2), (ab, eA cy g)]) [0, 1, 2, 3] (by decide +kernel) rfl
      have he : o_X0_putKnown w a f p0 p1 = (0, (o_X0_place a f p0 (o_X1_known w p1)).1, (o_X0_place a f p0 (o_X1_known w p1)).2.1, (o_X0_place a f p0 (o_X1_known w p1)).2.2) := by (rw [o_X0_putKnown, if_pos c_3, if_pos c_6]) <;> rfl
      refine W.widen (k := 2) (n := 12) (by omega) (by omega) ?_
      refine vx_ret ?_
      exact W.iret (v := ((o_X0_place a f p0 (o_X1_known w p1)).1)) hx hb hr (fun t ht hW => ⟨⟨_, (), rfl, ⟨(by (rw [he]) <;> rfl), (by (rw [he]) <;> rfl)⟩, (by rw [he]; exact ⟨by rw [ht]; exact hP, hD⟩)⟩, hS.F ht⟩) hS.2.2 dX0_putKnown_23
theorem cl_X0_copy_1 : ∀ w ∈ [.fieldLink RX0 15 "Edgefloats$Row" "cells" "[J", .static yX2_checkCell, .initialized RX2, .code yX2_checkCell cX2_checkCell 1 none, .classLink RX2 148 "java/lang/IndexOutOfBoundsException", .initialized "java/lang/IndexOutOfBoundsException", .methodLink RX0 36 yX0_place, .instanceMethod yX0_place, .selects RX0 yX0_place yX0_place, .initialized RX0, .code yX0_place cX0_place 5 (some .int), .fieldLink RX0 80 "Edgefloats$Row" "acts" "I"], w ∈ wsX0_copy := fun _ h => (List.mem_cons_of_mem _ (List.mem_append_left _ (List.mem_append_left _ h)))
theorem cl_X0_copy_2 : ∀ w ∈ wsX00, w ∈ wsX0_copy := fun _ h => (List.mem_cons_of_mem _ (List.mem_append_left _ (List.mem_append_right _ h)))
theorem cl_X0_copy_3 : ∀ w ∈ (vx_atS RX2 152 "java/lang/IndexOutOfBoundsException" ["java/lang/RuntimeException", "java/lang/Exception"]).filter goodWord, w ∈ wsX0_copy := fun _ h => (List.mem_cons_of_mem _ (List.mem_append_right _ h))
set_option maxRecDepth 20000 in
theorem ggX0_copy_X2_checkCell : GoodIn wsX0_copy wsX2_checkCell := goodIn_sub (List.forall_mem_cons.mpr ⟨(cl_X0_copy_1 _ (List.mem_of_getElem? (i := 3) rfl)), fun w h => (List.mem_append.mp h).elim ((List.forall_mem_cons.mpr ⟨(cl_X0_copy_1 _ (List.mem_of_getElem? (i := 4) rfl)), List.forall_mem_cons.mpr ⟨(cl_X0_copy_1 _ (List.mem_of_getElem? (i := 5) rfl)), fun _ h => absurd h List.not_mem_nil⟩⟩) w) ((cl_X0_copy_3) w)⟩) (by decide +kernel)
set_option maxRecDepth 20000 in
theorem gX0_copy_X2_checkCell_n22 : GoodIn wsX0_copy (wsX2_checkCell) := ggX0_copy_X2_checkCell
set_option maxRecDepth 20000 in
theorem ggX0_copy_X0_place : GoodIn wsX0_copy wsX0_place := goodIn_sub (List.forall_mem_cons.mpr ⟨(cl_X0_copy_1 _ (List.mem_of_getElem? (i := 10) rfl)), fun w h => (List.mem_append.mp h).elim ((List.forall_mem_cons.mpr ⟨(cl_X0_copy_1 _ (List.mem_of_getElem? (i := 11) rfl)), List.forall_mem_cons.mpr ⟨(cl_X0_copy_1 _ (List.mem_of_getElem? (i := 0) rfl)), fun _ h => absurd h List.not_mem_nil⟩⟩) w) ((cl_X0_copy_2) w)⟩) (by decide +kernel)
set_option maxRecDepth 20000 in
theorem gX0_copy_X0_place : GoodIn wsX0_copy (wsV RX0 36 RX0 yX0_place wsX0_place) := goodIn_app (goodIn_sub (List.forall_mem_cons.mpr ⟨(cl_X0_copy_1 _ (List.mem_of_getElem? (i := 6) rfl)), List.forall_mem_cons.mpr ⟨(cl_X0_copy_1 _ (List.mem_of_getElem? (i := 7) rfl)), List.forall_mem_cons.mpr ⟨(cl_X0_copy_1 _ (List.mem_of_getElem? (i := 8) rfl)), List.forall_mem_cons.mpr ⟨(cl_X0_copy_1 _ (List.mem_of_getElem? (i := 9) rfl)), fun _ h => absurd h List.not_mem_nil⟩⟩⟩⟩) (by decide +kernel)) ggX0_copy_X0_place
noncomputable def dz_p11_9 : List (Nat × Instr × Nat) := [(0, (.iload_n 1, 1)), (1, (.invokestatic 22, 3)), (4, (.iload_n 2, 1)), (5, (.invokestatic 22, 3)), (8, (.aload_n 0, 1)), (9, (.iload_n 2, 1)), (10, (.aload_n 0, 1)), (11, (.getfield 15, 3)), (14, (.iload_n 1, 1)), (15, (.laload, 1)), (16, (.invokevirtual 36, 3)), (19, (.ireturn, 1))]
theorem dy_p11_9 : dz_ok cX0_copy dz_p11_9 = true := by decide +kernel
theorem dX0_copy_0 : decode cX0_copy 0 = .ok (.iload_n 1, 1) := dz_at (i := 0) dy_p11_9 rfl
theorem dX0_copy_1 : decode cX0_copy 1 = .ok (.invokestatic 22, 3) := dz_at (i := 1) dy_p11_9 rfl
theorem dX0_copy_4 : decode cX0_copy 4 = .ok (.iload_n 2, 1) := dz_at (i := 2) dy_p11_9 rfl
theorem dX0_copy_5 : decode cX0_copy 5 = .ok (.invokestatic 22, 3) := dz_at (i := 3) dy_p11_9 rfl
theorem dX0_copy_8 : decode cX0_copy 8 = .ok (.aload_n 0, 1) := dz_at (i := 4) dy_p11_9 rfl
theorem dX0_copy_9 : decode cX0_copy 9 = .ok (.iload_n 2, 1) := dz_at (i := 5) dy_p11_9 rfl
theorem dX0_copy_10 : decode cX0_copy 10 = .ok (.aload_n 0, 1) := dz_at (i := 6) dy_p11_9 rfl
theorem dX0_copy_11 : decode cX0_copy 11 = .ok (.getfield 15, 3) := dz_at (i := 7) dy_p11_9 rfl
theorem dX0_copy_14 : decode cX0_copy 14 = .ok (.iload_n 1, 1) := dz_at (i := 8) dy_p11_9 rfl
theorem dX0_copy_15 : decode cX0_copy 15 = .ok (.laload, 1) := dz_at (i := 9) dy_p11_9 rfl
theorem dX0_copy_16 : decode cX0_copy 16 = .ok (.invokevirtual 36, 3) := dz_at (i := 10) dy_p11_9 rfl
theorem dX0_copy_19 : decode cX0_copy 19 = .ok (.ireturn, 1) := dz_at (i := 11) dy_p11_9 rfl
noncomputable def o_X0_copy (a : Int32) (f : Nat → Int64) (p0 : Int32) (p1 : Int32) : Int32 × Int32 × Int32 × (Nat → Int64) :=
  if (o_X2_checkCell p0) = 0 then (if (o_X2_checkCell p1) = 0 then (0, (o_X0_place a f p1 (f p0.toNatClampNeg)).1, (o_X0_place a f p1 (f p0.toNatClampNeg)).2.1, (o_X0_place a f p1 (f p0.toNatClampNeg)).2.2)
    else ((o_X2_checkCell p1), 0, a, f))
  else ((o_X2_checkCell p0), 0, a, f)
set_option maxHeartbeats 4000000 in
set_option maxRecDepth 100000 in
theorem k_X0_copy (l : Launch) (hfl : l.flags = flags0) (dC : Nat → ClassId) (dI : Nat → Nat → Nat) (cy : ClassId) (h0 : Nat) (aw : Nat) (ac : Nat) (ab : Nat) (w : Bool) (a : Int32) (rv : Int32) (f : Nat → Int64) (g : Nat → Int64) (sz : Nat) (N : Nat) (p0 : Int32) (p1 : Int32) : vx_Met l yX0_copy wsX0_copy ({ frames := 7, cells := 2, slots := 12, locals := 120 }) (va_Pc [.ref h0, .int p0, .int p1] (xM (dC, dI) xCl [(h0, eR aw ac ab a rv), (aw, eW w), (ac, eA cy f), (ab, eA cy g)] [(cy, .long)] sz N)) (va_Qi (fun (r : Int32) (_ : Unit) => (o_X0_copy a f p0 p1).1 = 0 ∧ r = (o_X0_copy a f p0 p1).2.1) (fun _ t => xW (dC, dI) xCl [(h0, eR aw ac ab (o_X0_copy a f p0 p1).2.2.1 rv), (aw, eW w), (ac, eA cy (o_X0_copy a f p0 p1).2.2.2), (ab, eA cy g)] (va_A [(h0, eR aw ac ab a rv), (aw, eW w), (ac, eA cy f), (ab, eA cy g)] sz) t) (va_A [(h0, eR aw ac ab a rv), (aw, eW w), (ac, eA cy f), (ab, eA cy g)] sz)) (vx_X (fun _ : Unit => ¬ (o_X0_copy a f p0 p1).1 = 0) (fun E _ t => E = xE (o_X0_copy a f p0 p1).1 ∧ xW (dC, dI) xCl [(h0, eR aw ac ab a rv), (aw, eW w), (ac, eA cy f), (ab, eA cy g)] (va_A [(h0, eR aw ac ab a rv), (aw, eW w), (ac, eA cy f), (ab, eA cy g)] sz) t) (va_A [(h0, eR aw ac ab a rv), (aw, eW w), (ac, eA cy f), (ab, eA cy g)] sz)) 2 12 (va_A [(h0, eR aw ac ab a rv), (aw, eW w), (ac, eA cy f), (ab, eA cy g)] sz) := by
  refine vx_ofW (cc := cX0_copy) (maxL := 3) (ret := (some .int)) (by decide +kernel) rfl ?_
  intro p e s m args below meth c s₁ B hml hno hv
  obtain ⟨rfl, hsz, hP, hK, hD0, hN, hG⟩ := hv
  have hx := B.exec
  have hb := B.bytes
  have hr := B.returns
  have hts := atoms_spec (ws := wsX0_copy) B.pre
  have hown : s.vm.findClass RX0 = some m.cls := findClass_of_methodNamed B.named
  have hlocks := B.notSynchronized
  subst hsz
  have hAN : ∀ q, va_A [(h0, eR aw ac ab a rv), (aw, eW w), (ac, eA cy f), (ab, eA cy g)] s.heap.size q → N ≤ q := xA_N hD0 hN
  have hD := hD0.self (sz := s.heap.size)
  generalize hAe : va_A [(h0, eR aw ac ab a rv), (aw, eW w), (ac, eA cy f), (ab, eA cy g)] s.heap.size = A at hD hAN ⊢
  have hA : ∀ q : Nat, s.heap.size ≤ q → A q := fun q h => by rw [← hAe]; exact Or.inr h
  have hS : va_S A s.heap s.heap [] := va_S.rf
  have hP : va_P (dC, dI) xCl [(h0, eR aw ac ab a rv), (aw, eW w), (ac, eA cy f), (ab, eA cy g)] s.heap := hP
  have hl := lv_entry ([.ref h0, .int p0, .int p1]) (n := 3) (Nat.le_of_ble_eq_true rfl)
  rw [lg_entry_eq]
  generalize (lg_sl ([.ref h0, .int p0, .int p1]) ++ List.replicate (3 - (lg_sl ([.ref h0, .int p0, .int p1])).length) Slot.unset).toArray = ls at hl ⊢
  have hl : lv_has ls 3 [(0, .ref h0), (1, .int p0), (2, .int p1)] := hl
  refine lv_iload_n hx hb dX0_copy_0 rfl (lv_at hl 1 rfl) ?_
  have hPc := hP.sub (ws' := []) [] rfl
  have hDc := hD.sub (ws' := []) [] (by decide +kernel) rfl
  have hKc := hK.sub (tys' := []) [] rfl
  refine vx_callv (vx_runSN (As := [.int p0]) (rest := []) ⟨hx, hb, hml, hown, hts⟩ (k_X2_checkCell l hfl dC dI s.heap.size N p0) ⟨va_cnB 1 hts gX0_copy_X2_checkCell_n22 rfl rfl rfl (hG.1 (.methodLinkNest RX0 22 yX2_checkCell RX2) (List.mem_of_getElem? (i := 0) rfl)) (hts (.initialized RX2) (by decide +kernel)) (by decide +kernel) ⟨Nat.le_of_ble_eq_true rfl, Nat.le_of_ble_eq_true rfl⟩, hts (.static yX2_checkCell) (by decide +kernel), trivial⟩ (xM.preS hKc hPc hDc hAN (Nat.le_trans hN hS.1) (hG.kept hS hAN)) rfl rfl hl.1 rfl (lv_room (Nat.le_of_ble_eq_true rfl)) dX0_copy_1 ⟨Nat.le_of_ble_eq_true rfl, Nat.le_of_ble_eq_true rfl⟩) hS xA_old (fun q h => hA q (Nat.le_trans hS.1 h)) xA_old (fun E ce q9 u9 t H locs ht hvm hpx hbx hz hk hS hce hcv hcl => ?_) (fun u t H locs ht hvm hw hB hz hk hS => ?_)
  · have c_2 : ¬ (o_X2_checkCell p0) = 0 := hpx
    have hbe := hbx
    have hP := xP_keep hP hk
    have he : o_X0_copy a f p0 p1 = ((o_X2_checkCell p0), 0, a, f) := by (rw [o_X0_copy, if_neg c_2]) <;> rfl
    exact vx_out (fun x hx => (hno x hx).elim) hlocks hce hcv hcl (fun t ht hvm => ⟨(), by rw [he]; exact c_2, ⟨by rw [he]; exact hbe, by rw [ht]; exact hP, hD⟩, hS.F ht⟩) hS.2.2 (by omega) (by omega)
  · skip
    have c_3 := hw
    have c_3 : (o_X2_checkCell p0) = 0 := c_3
    have hP := xP_keep hP hk
    refine lv_iload_n hx hb dX0_copy_4 rfl (lv_at hl 2 rfl) ?_
    have hPc := hP.sub (ws' := []) [] rfl
    have hDc := hD.sub (ws' := []) [] (by decide +kernel) rfl
    have hKc := hK.sub (tys' := []) [] rfl
    refine vx_callv (vx_runSN (As := [.int p1]) (rest := []) ⟨hx, hb, hml, hown, hts⟩ (k_X2_checkCell l hfl dC dI H.size N p1) ⟨va_cnB 1 hts gX0_copy_X2_checkCell_n22 rfl rfl rfl (hG.1 (.methodLinkNest RX0 22 yX2_checkCell RX2) (List.mem_of_getElem? (i := 0) rfl)) (hts (.initialized RX2) (by decide +kernel)) (by decide +kernel) ⟨Nat.le_of_ble_eq_true rfl, Nat.le_of_ble_eq_true rfl⟩, hts (.static yX2_checkCell) (by decide +kernel), trivial⟩ (xM.preS hKc hPc hDc hAN (Nat.le_trans hN hS.1) (hG.kept hS hAN)) rfl rfl hl.1 rfl (lv_room (Nat.le_of_ble_eq_true rfl)) dX0_copy_5 ⟨Nat.le_of_ble_eq_true rfl, Nat.le_of_ble_eq_true rfl⟩) hS xA_old (fun q h => hA q (Nat.le_trans hS.1 h)) xA_old (fun E ce q9 u9 t H locs ht hvm hpx hbx hz hk hS hce hcv hcl => ?_) (fun u t H locs ht hvm hw hB hz hk hS => ?_)
    · have c_5 : ¬ (o_X2_checkCell p1) = 0 := hpx
      have hbe := hbx
      have hP := xP_keep hP hk
      have he : o_X0_copy a f p0 p1 = ((o_X2_checkCell p1), 0, a, f) := by (rw [o_X0_copy, if_pos c_3, if_neg c_5]) <;> rfl
      exact vx_out (fun x hx => (hno x hx).elim) hlocks hce hcv hcl (fun t ht hvm => ⟨(), by rw [he]; exact c_5, ⟨by rw [he]; exact hbe, by rw [ht]; exact hP, hD⟩, hS.F ht⟩) hS.2.2 (by omega) (by omega)
    · skip
      have c_6 := hw
      have c_6 : (o_X2_checkCell p1) = 0 := c_6
      have hP := xP_keep hP hk
      refine lv_aload_n hx hb dX0_copy_8 rfl (lv_at hl 0 rfl) ?_
      refine lv_iload_n hx hb dX0_copy_9 rfl (lv_at hl 2 rfl) ?_
      refine lv_aload_n hx hb dX0_copy_10 rfl (lv_at hl 0 rfl) ?_
      refine va_get (D := (dC, dI)) (ci := 2) (v := .ref ac) (C := RX0) (T := TX0) (N := 5) hx hb hts (by decide +kernel) hown hK hP 0 rfl rfl 1 (by decide +kernel) (hts (.fieldLink RX0 15 "Edgefloats$Row" "cells" "[J") (by decide +kernel)) (fun _ h9 => h9) rfl dX0_copy_11 ?_
      refine lv_iload_n hx hb dX0_copy_14 rfl (lv_at hl 1 rfl) ?_
      refine xa_lald hx hb hK hP 2 0 (f := f) rfl rfl (k := p0.toNatClampNeg) (xm_cc c_3) rfl dX0_copy_15 ?_
      have hPc := hP.sub (ws' := [(h0, eR aw ac ab a rv), (aw, eW w), (ac, eA cy f), (ab, eA cy g)]) [0, 1, 2, 3] rfl
      have hDc := hD.sub (ws' := [(h0, eR aw ac ab a rv), (aw, eW w), (ac, eA cy f), (ab, eA cy g)]) [0, 1, 2, 3] (by decide +kernel) rfl
      have hKc := hK.sub (tys' := [(cy, .long)]) [0] rfl
      have hFc := va_free (wc := [(h0, eR aw ac ab a rv), (aw, eW w), (ac, eA cy f), (ab, eA cy g)]) hD hS hA [0, 1, 2, 3] rfl
      refine va_calli (va_runV (As := [.int p1, .long (f p0.toNatClampNeg)]) (rest := []) ⟨hx, hb, hml, hown, hts⟩ (k_X0_place l dC dI cy h0 aw ac ab w a rv f g H.size N p1 (f p0.toNatClampNeg) (xm_cc c_6)) (cwV 2 hts gX0_copy_X0_place rfl rfl rfl (by decide +kernel) ⟨Nat.le_of_ble_eq_true rfl, Nat.le_of_ble_eq_true rfl⟩) (xM.preV hKc hPc hDc hAN (Nat.le_trans hN hS.1) (hG.kept hS hAN) (ci := 2) (q0 := 0) rfl rfl) rfl rfl hl.1 rfl (lv_room (Nat.le_of_ble_eq_true rfl)) dX0_copy_16 ⟨Nat.le_of_ble_eq_true rfl, Nat.le_of_ble_eq_true rfl⟩) hS (fun q _ h => hFc q h) hFc (fun r_7 u t H locs ht hvm hw hB hz hk hS => ?_)
      replace hw : r_7 = (o_X0_place a f p1 (f p0.toNatClampNeg)).1 := hw
      subst r_7
      obtain ⟨hP1, hD1⟩ := hB
      rw [ht] at hP1
      obtain ⟨hP, hD⟩ := va_join (wr := []) (w1 := [(h0, eR aw ac ab (o_X0_place a f p1 (f p0.toNatClampNeg)).2.1 rv), (aw, eW w), (ac, eA cy (o_X0_place a f p1 (f p0.toNatClampNeg)).2.2), (ab, eA cy g)]) hP hD [0, 1, 2, 3] [] rfl rfl (by decide +kernel) (by decide +kernel) hk hFc hP1 hD1
      have hP := hP.sub (ws' := [(h0, eR aw ac ab (o_X0_place a f p1 (f p0.toNatClampNeg)).2.1 rv), (aw, eW w), (ac, eA cy (o_X0_place a f p1 (f p0.toNatClampNeg)).2.2), (ab, eA cy g)]) [0, 1, 2, 3] rfl
      have hD := hD.sub (ws' := [(h0, eR aw ac ab (o_X0_place a f p1 (f p0.toNatClampNeg)).2.1 rv), (aw, eW w), (ac, eA cy (o_X0_place a f p1 (f p0.toNatClampNeg)).2.2), (ab, eA cy g)]) [0, 1, 2, 3] (by decide +kernel) rfl
      have he : o_X0_copy a f p0 p1 = (0, (o_X0_place a f p1 (f p0.toNatClampNeg)).1, (o_X0_place a f p1 (f p0.toNatClampNeg)).2.1, (o_X0_place a f p1 (f p0.toNatClampNeg)).2.2) := by (rw [o_X0_copy, if_pos c_3, if_pos c_6]) <;> rfl
      refine W.widen (k := 2) (n := 12) (by omega) (by omega) ?_
      refine vx_ret ?_
      exact W.iret (v := ((o_X0_place a f p1 (f p0.toNatClampNeg)).1)) hx hb hr (fun t ht hW => ⟨⟨_, (), rfl, ⟨(by (rw [he]) <;> rfl), (by (rw [he]) <;> rfl)⟩, (by rw [he]; exact ⟨by rw [ht]; exact hP, hD⟩)⟩, hS.F ht⟩) hS.2.2 dX0_copy_19
theorem cl_X0_swap_1 : ∀ w ∈ [.fieldLink RX0 15 "Edgefloats$Row" "cells" "[J", .static yX2_checkCell, .initialized RX2, .code yX2_checkCell cX2_checkCell 1 none, .classLink RX2 148 "java/lang/IndexOutOfBoundsException", .initialized "java/lang/IndexOutOfBoundsException", .methodLink RX0 36 yX0_place, .instanceMethod yX0_place, .selects RX0 yX0_place yX0_place, .initialized RX0, .code yX0_place cX0_place 5 (some .int), .fieldLink RX0 80 "Edgefloats$Row" "acts" "I"], w ∈ wsX0_swap := fun _ h => (List.mem_cons_of_mem _ (List.mem_append_left _ (List.mem_append_left _ h)))
theorem cl_X0_swap_2 : ∀ w ∈ wsX00, w ∈ wsX0_swap := fun _ h => (List.mem_cons_of_mem _ (List.mem_append_left _ (List.mem_append_right _ h)))
theorem cl_X0_swap_3 : ∀ w ∈ (vx_atS RX2 152 "java/lang/IndexOutOfBoundsException" ["java/lang/RuntimeException", "java/lang/Exception"]).filter goodWord, w ∈ wsX0_swap := fun _ h => (List.mem_cons_of_mem _ (List.mem_append_right _ h))
set_option maxRecDepth 20000 in
theorem ggX0_swap_X2_checkCell : GoodIn wsX0_swap wsX2_checkCell := goodIn_sub (List.forall_mem_cons.mpr ⟨(cl_X0_swap_1 _ (List.mem_of_getElem? (i := 3) rfl)), fun w h => (List.mem_append.mp h).elim ((List.forall_mem_cons.mpr ⟨(cl_X0_swap_1 _ (List.mem_of_getElem? (i := 4) rfl)), List.forall_mem_cons.mpr ⟨(cl_X0_swap_1 _ (List.mem_of_getElem? (i := 5) rfl)), fun _ h => absurd h List.not_mem_nil⟩⟩) w) ((cl_X0_swap_3) w)⟩) (by decide +kernel)
set_option maxRecDepth 20000 in
theorem gX0_swap_X2_checkCell_n22 : GoodIn wsX0_swap (wsX2_checkCell) := ggX0_swap_X2_checkCell
set_option maxRecDepth 20000 in
theorem ggX0_swap_X0_place : GoodIn wsX0_swap wsX0_place := goodIn_sub (List.forall_mem_cons.mpr ⟨(cl_X0_swap_1 _ (List.mem_of_getElem? (i := 10) rfl)), fun w h => (List.mem_append.mp h).elim ((List.forall_mem_cons.mpr ⟨(cl_X0_swap_1 _ (List.mem_of_getElem? (i := 11) rfl)), List.forall_mem_cons.mpr ⟨(cl_X0_swap_1 _ (List.mem_of_getElem? (i := 0) rfl)), fun _ h => absurd h List.not_mem_nil⟩⟩) w) ((cl_X0_swap_2) w)⟩) (by decide +kernel)
set_option maxRecDepth 20000 in
theorem gX0_swap_X0_place : GoodIn wsX0_swap (wsV RX0 36 RX0 yX0_place wsX0_place) := goodIn_app (goodIn_sub (List.forall_mem_cons.mpr ⟨(cl_X0_swap_1 _ (List.mem_of_getElem? (i := 6) rfl)), List.forall_mem_cons.mpr ⟨(cl_X0_swap_1 _ (List.mem_of_getElem? (i := 7) rfl)), List.forall_mem_cons.mpr ⟨(cl_X0_swap_1 _ (List.mem_of_getElem? (i := 8) rfl)), List.forall_mem_cons.mpr ⟨(cl_X0_swap_1 _ (List.mem_of_getElem? (i := 9) rfl)), fun _ h => absurd h List.not_mem_nil⟩⟩⟩⟩) (by decide +kernel)) ggX0_swap_X0_place
noncomputable def dz_p11_10 : List (Nat × Instr × Nat) := [(0, (.iload_n 1, 1)), (1, (.invokestatic 22, 3)), (4, (.iload_n 2, 1)), (5, (.invokestatic 22, 3)), (8, (.aload_n 0, 1)), (9, (.getfield 15, 3)), (12, (.iload_n 1, 1)), (13, (.laload, 1)), (14, (.lstore_n 3, 1)), (15, (.aload_n 0, 1)), (16, (.getfield 15, 3)), (19, (.iload_n 1, 1)), (20, (.aload_n 0, 1)), (21, (.getfield 15, 3)), (24, (.iload_n 2, 1)), (25, (.laload, 1)), (26, (.lastore, 1)), (27, (.aload_n 0, 1)), (28, (.iload_n 2, 1)), (29, (.lload_n 3, 1)), (30, (.invokevirtual 36, 3)), (33, (.ireturn, 1))]
theorem dy_p11_10 : dz_ok cX0_swap dz_p11_10 = true := by decide +kernel
theorem dX0_swap_0 : decode cX0_swap 0 = .ok (.iload_n 1, 1) := dz_at (i := 0) dy_p11_10 rfl
theorem dX0_swap_1 : decode cX0_swap 1 = .ok (.invokestatic 22, 3) := dz_at (i := 1) dy_p11_10 rfl
theorem dX0_swap_4 : decode cX0_swap 4 = .ok (.iload_n 2, 1) := dz_at (i := 2) dy_p11_10 rfl
theorem dX0_swap_5 : decode cX0_swap 5 = .ok (.invokestatic 22, 3) := dz_at (i := 3) dy_p11_10 rfl
theorem dX0_swap_8 : decode cX0_swap 8 = .ok (.aload_n 0, 1) := dz_at (i := 4) dy_p11_10 rfl
theorem dX0_swap_9 : decode cX0_swap 9 = .ok (.getfield 15, 3) := dz_at (i := 5) dy_p11_10 rfl
theorem dX0_swap_12 : decode cX0_swap 12 = .ok (.iload_n 1, 1) := dz_at (i := 6) dy_p11_10 rfl
theorem dX0_swap_13 : decode cX0_swap 13 = .ok (.laload, 1) := dz_at (i := 7) dy_p11_10 rfl
theorem dX0_swap_14 : decode cX0_swap 14 = .ok (.lstore_n 3, 1) := dz_at (i := 8) dy_p11_10 rfl
theorem dX0_swap_15 : decode cX0_swap 15 = .ok (.aload_n 0, 1) := dz_at (i := 9) dy_p11_10 rfl
theorem dX0_swap_16 : decode cX0_swap 16 = .ok (.getfield 15, 3) := dz_at (i := 10) dy_p11_10 rfl
theorem dX0_swap_19 : decode cX0_swap 19 = .ok (.iload_n 1, 1) := dz_at (i := 11) dy_p11_10 rfl
theorem dX0_swap_20 : decode cX0_swap 20 = .ok (.aload_n 0, 1) := dz_at (i := 12) dy_p11_10 rfl
theorem dX0_swap_21 : decode cX0_swap 21 = .ok (.getfield 15, 3) := dz_at (i := 13) dy_p11_10 rfl
theorem dX0_swap_24 : decode cX0_swap 24 = .ok (.iload_n 2, 1) := dz_at (i := 14) dy_p11_10 rfl
theorem dX0_swap_25 : decode cX0_swap 25 = .ok (.laload, 1) := dz_at (i := 15) dy_p11_10 rfl
theorem dX0_swap_26 : decode cX0_swap 26 = .ok (.lastore, 1) := dz_at (i := 16) dy_p11_10 rfl
theorem dX0_swap_27 : decode cX0_swap 27 = .ok (.aload_n 0, 1) := dz_at (i := 17) dy_p11_10 rfl
theorem dX0_swap_28 : decode cX0_swap 28 = .ok (.iload_n 2, 1) := dz_at (i := 18) dy_p11_10 rfl
theorem dX0_swap_29 : decode cX0_swap 29 = .ok (.lload_n 3, 1) := dz_at (i := 19) dy_p11_10 rfl
theorem dX0_swap_30 : decode cX0_swap 30 = .ok (.invokevirtual 36, 3) := dz_at (i := 20) dy_p11_10 rfl
theorem dX0_swap_33 : decode cX0_swap 33 = .ok (.ireturn, 1) := dz_at (i := 21) dy_p11_10 rfl
noncomputable def o_X0_swap (a : Int32) (f : Nat → Int64) (p0 : Int32) (p1 : Int32) : Int32 × Int32 × Int32 × (Nat → Int64) :=
  if (o_X2_checkCell p0) = 0 then (if (o_X2_checkCell p1) = 0 then (0, (o_X0_place a (vp_updL f p0.toNatClampNeg (f p1.toNatClampNeg)) p1 (f p0.toNatClampNeg)).1, (o_X0_place a (vp_updL f p0.toNatClampNeg (f p1.toNatClampNeg)) p1 (f p0.toNatClampNeg)).2.1, (o_X0_place a (vp_updL f p0.toNatClampNeg (f p1.toNatClampNeg)) p1 (f p0.toNatClampNeg)).2.2)
    else ((o_X2_checkCell p1), 0, a, f))
  else ((o_X2_checkCell p0), 0, a, f)
set_option maxHeartbeats 4000000 in
set_option maxRecDepth 100000 in
theorem k_X0_swap (l : Launch) (hfl : l.flags = flags0) (dC : Nat → ClassId) (dI : Nat → Nat → Nat) (cy : ClassId) (h0 : Nat) (aw : Nat) (ac : Nat) (ab : Nat) (w : Bool) (a : Int32) (rv : Int32) (f : Nat → Int64) (g : Nat → Int64) (sz : Nat) (N : Nat) (p0 : Int32) (p1 : Int32) : vx_Met l yX0_swap wsX0_swap ({ frames := 7, cells := 2, slots := 12, locals := 120 }) (va_Pc [.ref h0, .int p0, .int p1] (xM (dC, dI) xCl [(h0, eR aw ac ab a rv), (aw, eW w), (ac, eA cy f), (ab, eA cy g)] [(cy, .long)] sz N)) (va_Qi (fun (r : Int32) (_ : Unit) => (o_X0_swap a f p0 p1).1 = 0 ∧ r = (o_X0_swap a f p0 p1).2.1) (fun _ t => xW (dC, dI) xCl [(h0, eR aw ac ab (o_X0_swap a f p0 p1).2.2.1 rv), (aw, eW w), (ac, eA cy (o_X0_swap a f p0 p1).2.2.2), (ab, eA cy g)] (va_A [(h0, eR aw ac ab a rv), (aw, eW w), (ac, eA cy f), (ab, eA cy g)] sz) t) (va_A [(h0, eR aw ac ab a rv), (aw, eW w), (ac, eA cy f), (ab, eA cy g)] sz)) (vx_X (fun _ : Unit => ¬ (o_X0_swap a f p0 p1).1 = 0) (fun E _ t => E = xE (o_X0_swap a f p0 p1).1 ∧ xW (dC, dI) xCl [(h0, eR aw ac ab a rv), (aw, eW w), (ac, eA cy f), (ab, eA cy g)] (va_A [(h0, eR aw ac ab a rv), (aw, eW w), (ac, eA cy f), (ab, eA cy g)] sz) t) (va_A [(h0, eR aw ac ab a rv), (aw, eW w), (ac, eA cy f), (ab, eA cy g)] sz)) 2 12 (va_A [(h0, eR aw ac ab a rv), (aw, eW w), (ac, eA cy f), (ab, eA cy g)] sz) := by
  refine vx_ofW (cc := cX0_swap) (maxL := 5) (ret := (some .int)) (by decide +kernel) rfl ?_
  intro p e s m args below meth c s₁ B hml hno hv
  obtain ⟨rfl, hsz, hP, hK, hD0, hN, hG⟩ := hv
  have hx := B.exec
  have hb := B.bytes
  have hr := B.returns
  have hts := atoms_spec (ws := wsX0_swap) B.pre
  have hown : s.vm.findClass RX0 = some m.cls := findClass_of_methodNamed B.named
  have hlocks := B.notSynchronized
  subst hsz
  have hAN : ∀ q, va_A [(h0, eR aw ac ab a rv), (aw, eW w), (ac, eA cy f), (ab, eA cy g)] s.heap.size q → N ≤ q := xA_N hD0 hN
  have hD := hD0.self (sz := s.heap.size)
  generalize hAe : va_A [(h0, eR aw ac ab a rv), (aw, eW w), (ac, eA cy f), (ab, eA cy g)] s.heap.size = A at hD hAN ⊢
  have hA : ∀ q : Nat, s.heap.size ≤ q → A q := fun q h => by rw [← hAe]; exact Or.inr h
  have hS : va_S A s.heap s.heap [] := va_S.rf
  have hP : va_P (dC, dI) xCl [(h0, eR aw ac ab a rv), (aw, eW w), (ac, eA cy f), (ab, eA cy g)] s.heap := hP
  have hl := lv_entry ([.ref h0, .int p0, .int p1]) (n := 5) (Nat.le_of_ble_eq_true rfl)
  rw [lg_entry_eq]
  generalize (lg_sl ([.ref h0, .int p0, .int p1]) ++ List.replicate (5 - (lg_sl ([.ref h0, .int p0, .int p1])).length) Slot.unset).toArray = ls at hl ⊢
  have hl : lv_has ls 5 [(0, .ref h0), (1, .int p0), (2, .int p1)] := hl
  refine lv_iload_n hx hb dX0_swap_0 rfl (lv_at hl 1 rfl) ?_
  have hPc := hP.sub (ws' := []) [] rfl
  have hDc := hD.sub (ws' := []) [] (by decide +kernel) rfl
  have hKc := hK.sub (tys' := []) [] rfl
  refine vx_callv (vx_runSN (As := [.int p0]) (rest := []) ⟨hx, hb, hml, hown, hts⟩ (k_X2_checkCell l hfl dC dI s.heap.size N p0) ⟨va_cnB 1 hts gX0_swap_X2_checkCell_n22 rfl rfl rfl (hG.1 (.methodLinkNest RX0 22 yX2_checkCell RX2) (List.mem_of_getElem? (i := 0) rfl)) (hts (.initialized RX2) (by decide +kernel)) (by decide +kernel) ⟨Nat.le_of_ble_eq_true rfl, Nat.le_of_ble_eq_true rfl⟩, hts (.static yX2_checkCell) (by decide +kernel), trivial⟩ (xM.preS hKc hPc hDc hAN (Nat.le_trans hN hS.1) (hG.kept hS hAN)) rfl rfl hl.1 rfl (lv_room (Nat.le_of_ble_eq_true rfl)) dX0_swap_1 ⟨Nat.le_of_ble_eq_true rfl, Nat.le_of_ble_eq_true rfl⟩) hS xA_old (fun q h => hA q (Nat.le_trans hS.1 h)) xA_old (fun E ce q9 u9 t H locs ht hvm hpx hbx hz hk hS hce hcv hcl => ?_) (fun u t H locs ht hvm hw hB hz hk hS => ?_)
  · have c_2 : ¬ (o_X2_checkCell p0) = 0 := hpx
    have hbe := hbx
    have hP := xP_keep hP hk
    have he : o_X0_swap a f p0 p1 = ((o_X2_checkCell p0), 0, a, f) := by (rw [o_X0_swap, if_neg c_2]) <;> rfl
    exact vx_out (fun x hx => (hno x hx).elim) hlocks hce hcv hcl (fun t ht hvm => ⟨(), by rw [he]; exact c_2, ⟨by rw [he]; exact hbe, by rw [ht]; exact hP, hD⟩, hS.F ht⟩) hS.2.2 (by omega) (by omega)
  · skip
    have c_3 := hw
    have c_3 : (o_X2_checkCell p0) = 0 := c_3
    have hP := xP_keep hP hk
    refine lv_iload_n hx hb dX0_swap_4 rfl (lv_at hl 2 rfl) ?_
    have hPc := hP.sub (ws' := []) [] rfl
    have hDc := hD.sub (ws' := []) [] (by decide +kernel) rfl
    have hKc := hK.sub (tys' := []) [] rfl
    refine vx_callv (vx_runSN (As := [.int p1]) (rest := []) ⟨hx, hb, hml, hown, hts⟩ (k_X2_checkCell l hfl dC dI H.size N p1) ⟨va_cnB 1 hts gX0_swap_X2_checkCell_n22 rfl rfl rfl (hG.1 (.methodLinkNest RX0 22 yX2_checkCell RX2) (List.mem_of_getElem? (i := 0) rfl)) (hts (.initialized RX2) (by decide +kernel)) (by decide +kernel) ⟨Nat.le_of_ble_eq_true rfl, Nat.le_of_ble_eq_true rfl⟩, hts (.static yX2_checkCell) (by decide +kernel), trivial⟩ (xM.preS hKc hPc hDc hAN (Nat.le_trans hN hS.1) (hG.kept hS hAN)) rfl rfl hl.1 rfl (lv_room (Nat.le_of_ble_eq_true rfl)) dX0_swap_5 ⟨Nat.le_of_ble_eq_true rfl, Nat.le_of_ble_eq_true rfl⟩) hS xA_old (fun q h => hA q (Nat.le_trans hS.1 h)) xA_old (fun E ce q9 u9 t H locs ht hvm hpx hbx hz hk hS hce hcv hcl => ?_) (fun u t H locs ht hvm hw hB hz hk hS => ?_)
    · have c_5 : ¬ (o_X2_checkCell p1) = 0 := hpx
      have hbe := hbx
      have hP := xP_keep hP hk
      have he : o_X0_swap a f p0 p1 = ((o_X2_checkCell p1), 0, a, f) := by (rw [o_X0_swap, if_pos c_3, if_neg c_5]) <;> rfl
      exact vx_out (fun x hx => (hno x hx).elim) hlocks hce hcv hcl (fun t ht hvm => ⟨(), by rw [he]; exact c_5, ⟨by rw [he]; exact hbe, by rw [ht]; exact hP, hD⟩, hS.F ht⟩) hS.2.2 (by omega) (by omega)
    · skip
      have c_6 := hw
      have c_6 : (o_X2_checkCell p1) = 0 := c_6
      have hP := xP_keep hP hk
      refine lv_aload_n hx hb dX0_swap_8 rfl (lv_at hl 0 rfl) ?_
      refine va_get (D := (dC, dI)) (ci := 2) (v := .ref ac) (C := RX0) (T := TX0) (N := 5) hx hb hts (by decide +kernel) hown hK hP 0 rfl rfl 1 (by decide +kernel) (hts (.fieldLink RX0 15 "Edgefloats$Row" "cells" "[J") (by decide +kernel)) (fun _ h9 => h9) rfl dX0_swap_9 ?_
      refine lv_iload_n hx hb dX0_swap_12 rfl (lv_at hl 1 rfl) ?_
      refine xa_lald hx hb hK hP 2 0 (f := f) rfl rfl (k := p0.toNatClampNeg) (xm_cc c_3) rfl dX0_swap_13 ?_
      refine lv_lstore_n (lv' := [(3, .long (f p0.toNatClampNeg)), (0, .ref h0), (1, .int p0), (2, .int p1)]) hx hb dX0_swap_14 rfl hl (by decide +kernel) rfl (fun ls hl => ?_)
      refine lv_aload_n hx hb dX0_swap_15 rfl (lv_at hl 1 rfl) ?_
      refine va_get (D := (dC, dI)) (ci := 2) (v := .ref ac) (C := RX0) (T := TX0) (N := 5) hx hb hts (by decide +kernel) hown hK hP 0 rfl rfl 1 (by decide +kernel) (hts (.fieldLink RX0 15 "Edgefloats$Row" "cells" "[J") (by decide +kernel)) (fun _ h9 => h9) rfl dX0_swap_16 ?_
      refine lv_iload_n hx hb dX0_swap_19 rfl (lv_at hl 2 rfl) ?_
      refine lv_aload_n hx hb dX0_swap_20 rfl (lv_at hl 1 rfl) ?_
      refine va_get (D := (dC, dI)) (ci := 2) (v := .ref ac) (C := RX0) (T := TX0) (N := 5) hx hb hts (by decide +kernel) hown hK hP 0 rfl rfl 1 (by decide +kernel) (hts (.fieldLink RX0 15 "Edgefloats$Row" "cells" "[J") (by decide +kernel)) (fun _ h9 => h9) rfl dX0_swap_21 ?_
      refine lv_iload_n hx hb dX0_swap_24 rfl (lv_at hl 3 rfl) ?_
      refine xa_lald hx hb hK hP 2 0 (f := f) rfl rfl (k := p1.toNatClampNeg) (xm_cc c_6) rfl dX0_swap_25 ?_
      refine xa_last hx hb hK hP hD hS 2 0 (f := f) rfl rfl (k := p0.toNatClampNeg) (xm_cc c_3) rfl dX0_swap_26 (fun H locs hP hD hS => ?_)
      have hP : va_P (dC, dI) xCl [(h0, eR aw ac ab a rv), (aw, eW w), (ac, eA cy (vp_updL f p0.toNatClampNeg (f p1.toNatClampNeg))), (ab, eA cy g)] H := hP
      have hD : va_D A [(h0, eR aw ac ab a rv), (aw, eW w), (ac, eA cy (vp_updL f p0.toNatClampNeg (f p1.toNatClampNeg))), (ab, eA cy g)] := hD
      refine lv_aload_n hx hb dX0_swap_27 rfl (lv_at hl 1 rfl) ?_
      refine lv_iload_n hx hb dX0_swap_28 rfl (lv_at hl 3 rfl) ?_
      refine lv_lload_n hx hb dX0_swap_29 rfl (lv_at hl 0 rfl) ?_
      have hPc := hP.sub (ws' := [(h0, eR aw ac ab a rv), (aw, eW w), (ac, eA cy (vp_updL f p0.toNatClampNeg (f p1.toNatClampNeg))), (ab, eA cy g)]) [0, 1, 2, 3] rfl
      have hDc := hD.sub (ws' := [(h0, eR aw ac ab a rv), (aw, eW w), (ac, eA cy (vp_updL f p0.toNatClampNeg (f p1.toNatClampNeg))), (ab, eA cy g)]) [0, 1, 2, 3] (by decide +kernel) rfl
      have hKc := hK.sub (tys' := [(cy, .long)]) [0] rfl
      have hFc := va_free (wc := [(h0, eR aw ac ab a rv), (aw, eW w), (ac, eA cy (vp_updL f p0.toNatClampNeg (f p1.toNatClampNeg))), (ab, eA cy g)]) hD hS hA [0, 1, 2, 3] rfl
      refine va_calli (va_runV (As := [.int p1, .long (f p0.toNatClampNeg)]) (rest := []) ⟨hx, hb, hml, hown, hts⟩ (k_X0_place l dC dI cy h0 aw ac ab w a rv (vp_updL f p0.toNatClampNeg (f p1.toNatClampNeg)) g H.size N p1 (f p0.toNatClampNeg) (xm_cc c_6)) (cwV 2 hts gX0_swap_X0_place rfl rfl rfl (by decide +kernel) ⟨Nat.le_of_ble_eq_true rfl, Nat.le_of_ble_eq_true rfl⟩) (xM.preV hKc hPc hDc hAN (Nat.le_trans hN hS.1) (hG.kept hS hAN) (ci := 2) (q0 := 0) rfl rfl) rfl rfl hl.1 rfl (lv_room (Nat.le_of_ble_eq_true rfl)) dX0_swap_30 ⟨Nat.le_of_ble_eq_true rfl, Nat.le_of_ble_eq_true rfl⟩) hS (fun q _ h => hFc q h) hFc (fun r_7 u t H locs ht hvm hw hB hz hk hS => ?_)
      replace hw : r_7 = (o_X0_place a (vp_updL f p0.toNatClampNeg (f p1.toNatClampNeg)) p1 (f p0.toNatClampNeg)).1 := hw
      subst r_7
      obtain ⟨hP1, hD1⟩ := hB
      rw [ht] at hP1
      obtain ⟨hP, hD⟩ := va_join (wr := []) (w1 := [(h0, eR aw ac ab (o_X0_place a (vp_updL f p0.toNatClampNeg (f p1.toNatClampNeg)) p1 (f p0.toNatClampNeg)).2.1 rv), (aw, eW w), (ac, eA cy (o_X0_place a (vp_updL f p0.toNatClampNeg (f p1.toNatClampNeg)) p1 (f p0.toNatClampNeg)).2.2), (ab, eA cy g)]) hP hD [0, 1, 2, 3] [] rfl rfl (by decide +kernel) (by decide +kernel) hk hFc hP1 hD1
      have hP := hP.sub (ws' := [(h0, eR aw ac ab (o_X0_place a (vp_updL f p0.toNatClampNeg (f p1.toNatClampNeg)) p1 (f p0.toNatClampNeg)).2.1 rv), (aw, eW w), (ac, eA cy (o_X0_place a (vp_updL f p0.toNatClampNeg (f p1.toNatClampNeg)) p1 (f p0.toNatClampNeg)).2.2), (ab, eA cy g)]) [0, 1, 2, 3] rfl
      have hD := hD.sub (ws' := [(h0, eR aw ac ab (o_X0_place a (vp_updL f p0.toNatClampNeg (f p1.toNatClampNeg)) p1 (f p0.toNatClampNeg)).2.1 rv), (aw, eW w), (ac, eA cy (o_X0_place a (vp_updL f p0.toNatClampNeg (f p1.toNatClampNeg)) p1 (f p0.toNatClampNeg)).2.2), (ab, eA cy g)]) [0, 1, 2, 3] (by decide +kernel) rfl
      have he : o_X0_swap a f p0 p1 = (0, (o_X0_place a (vp_updL f p0.toNatClampNeg (f p1.toNatClampNeg)) p1 (f p0.toNatClampNeg)).1, (o_X0_place a (vp_updL f p0.toNatClampNeg (f p1.toNatClampNeg)) p1 (f p0.toNatClampNeg)).2.1, (o_X0_place a (vp_updL f p0.toNatClampNeg (f p1.toNatClampNeg)) p1 (f p0.toNatClampNeg)).2.2) := by (rw [o_X0_swap, if_pos c_3, if_pos c_6]) <;> rfl
      refine W.widen (k := 2) (n := 12) (by omega) (by omega) ?_
      refine vx_ret ?_
      exact W.iret (v := ((o_X0_place a (vp_updL f p0.toNatClampNeg (f p1.toNatClampNeg)) p1 (f p0.toNatClampNeg)).1)) hx hb hr (fun t ht hW => ⟨⟨_, (), rfl, ⟨(by (rw [he]) <;> rfl), (by (rw [he]) <;> rfl)⟩, (by rw [he]; exact ⟨by rw [ht]; exact hP, hD⟩)⟩, hS.F ht⟩) hS.2.2 dX0_swap_33
theorem cl_X0_putGreater_1 : ∀ w ∈ wsX0_putGreater_r1, w ∈ wsX0_putGreater := fun _ h => (List.mem_cons_of_mem _ (List.mem_append_left _ (List.mem_append_left _ (List.mem_append_left _ (List.mem_append_left _ h)))))
theorem cl_X0_putGreater_2 : ∀ w ∈ wsX0_putGreater_r2, w ∈ wsX0_putGreater := fun _ h => (List.mem_cons_of_mem _ (List.mem_append_left _ (List.mem_append_left _ (List.mem_append_left _ (List.mem_append_right _ h)))))
theorem cl_X0_putGreater_3 : ∀ w ∈ wsX00, w ∈ wsX0_putGreater := fun _ h => (List.mem_cons_of_mem _ (List.mem_append_left _ (List.mem_append_left _ (List.mem_append_right _ h))))
theorem cl_X0_putGreater_4 : ∀ w ∈ wsX10, w ∈ wsX0_putGreater := fun _ h => (List.mem_cons_of_mem _ (List.mem_append_left _ (List.mem_append_right _ h)))
theorem cl_X0_putGreater_5 : ∀ w ∈ (vx_atS RX2 152 "java/lang/IndexOutOfBoundsException" ["java/lang/RuntimeException", "java/lang/Exception"]).filter goodWord, w ∈ wsX0_putGreater := fun _ h => (List.mem_cons_of_mem _ (List.mem_append_right _ h))
set_option maxRecDepth 20000 in
theorem ggX0_putGreater_X0_checkCells : GoodIn wsX0_putGreater wsX0_checkCells := goodIn_sub (List.forall_mem_cons.mpr ⟨(cl_X0_putGreater_1 _ (List.mem_of_getElem? (i := 5) rfl)), fun w h => (List.mem_append.mp h).elim ((List.forall_mem_cons.mpr ⟨(cl_X0_putGreater_1 _ (List.mem_of_getElem? (i := 6) rfl)), List.forall_mem_cons.mpr ⟨(cl_X0_putGreater_1 _ (List.mem_of_getElem? (i := 7) rfl)), List.forall_mem_cons.mpr ⟨(cl_X0_putGreater_1 _ (List.mem_of_getElem? (i := 8) rfl)), List.forall_mem_cons.mpr ⟨(cl_X0_putGreater_1 _ (List.mem_of_getElem? (i := 9) rfl)), List.forall_mem_cons.mpr ⟨(cl_X0_putGreater_1 _ (List.mem_of_getElem? (i := 10) rfl)), fun _ h => absurd h List.not_mem_nil⟩⟩⟩⟩⟩) w) ((cl_X0_putGreater_5) w)⟩) (by decide +kernel)
set_option maxRecDepth 20000 in
theorem gX0_putGreater_X0_checkCells : GoodIn wsX0_putGreater (va_wsS RX0 62 yX0_checkCells wsX0_checkCells) := goodIn_app (goodIn_sub (List.forall_mem_cons.mpr ⟨(cl_X0_putGreater_1 _ (List.mem_of_getElem? (i := 2) rfl)), List.forall_mem_cons.mpr ⟨(cl_X0_putGreater_1 _ (List.mem_of_getElem? (i := 3) rfl)), List.forall_mem_cons.mpr ⟨(cl_X0_putGreater_1 _ (List.mem_of_getElem? (i := 4) rfl)), fun _ h => absurd h List.not_mem_nil⟩⟩⟩) (by decide +kernel)) ggX0_putGreater_X0_checkCells
set_option maxRecDepth 20000 in
theorem ggX0_putGreater_X1_greater : GoodIn wsX0_putGreater wsX1_greater := goodIn_sub (List.forall_mem_cons.mpr ⟨(cl_X0_putGreater_1 _ (List.mem_of_getElem? (i := 15) rfl)), fun w h => (List.mem_append.mp h).elim ((List.forall_mem_cons.mpr ⟨(cl_X0_putGreater_1 _ (List.mem_of_getElem? (i := 16) rfl)), List.forall_mem_cons.mpr ⟨(cl_X0_putGreater_1 _ (List.mem_of_getElem? (i := 17) rfl)), List.forall_mem_cons.mpr ⟨(cl_X0_putGreater_1 _ (List.mem_of_getElem? (i := 18) rfl)), List.forall_mem_cons.mpr ⟨(cl_X0_putGreater_1 _ (List.mem_of_getElem? (i := 14) rfl)), List.forall_mem_cons.mpr ⟨(cl_X0_putGreater_1 _ (List.mem_of_getElem? (i := 19) rfl)), List.forall_mem_cons.mpr ⟨(cl_X0_putGreater_1 _ (List.mem_of_getElem? (i := 20) rfl)), List.forall_mem_cons.mpr ⟨(cl_X0_putGreater_1 _ (List.mem_of_getElem? (i := 21) rfl)), List.forall_mem_cons.mpr ⟨(cl_X0_putGreater_1 _ (List.mem_of_getElem? (i := 22) rfl)), List.forall_mem_cons.mpr ⟨(cl_X0_putGreater_1 _ (List.mem_of_getElem? (i := 23) rfl)), List.forall_mem_cons.mpr ⟨(cl_X0_putGreater_2 _ (List.mem_of_getElem? (i := 0) rfl)), List.forall_mem_cons.mpr ⟨(cl_X0_putGreater_2 _ (List.mem_of_getElem? (i := 1) rfl)), fun _ h => absurd h List.not_mem_nil⟩⟩⟩⟩⟩⟩⟩⟩⟩⟩⟩) w) ((cl_X0_putGreater_4) w)⟩) (by decide +kernel)
set_option maxRecDepth 20000 in
theorem gX0_putGreater_X1_greater : GoodIn wsX0_putGreater (wsV RX0 66 RX1 yX1_greater wsX1_greater) := goodIn_app (goodIn_sub (List.forall_mem_cons.mpr ⟨(cl_X0_putGreater_1 _ (List.mem_of_getElem? (i := 11) rfl)), List.forall_mem_cons.mpr ⟨(cl_X0_putGreater_1 _ (List.mem_of_getElem? (i := 12) rfl)), List.forall_mem_cons.mpr ⟨(cl_X0_putGreater_1 _ (List.mem_of_getElem? (i := 13) rfl)), List.forall_mem_cons.mpr ⟨(cl_X0_putGreater_1 _ (List.mem_of_getElem? (i := 14) rfl)), fun _ h => absurd h List.not_mem_nil⟩⟩⟩⟩) (by decide +kernel)) ggX0_putGreater_X1_greater
set_option maxRecDepth 20000 in
theorem ggX0_putGreater_X0_place : GoodIn wsX0_putGreater wsX0_place := goodIn_sub (List.forall_mem_cons.mpr ⟨(cl_X0_putGreater_2 _ (List.mem_of_getElem? (i := 5) rfl)), fun w h => (List.mem_append.mp h).elim ((List.forall_mem_cons.mpr ⟨(cl_X0_putGreater_2 _ (List.mem_of_getElem? (i := 6) rfl)), List.forall_mem_cons.mpr ⟨(cl_X0_putGreater_1 _ (List.mem_of_getElem? (i := 1) rfl)), fun _ h => absurd h List.not_mem_nil⟩⟩) w) ((cl_X0_putGreater_3) w)⟩) (by decide +kernel)
set_option maxRecDepth 20000 in
theorem gX0_putGreater_X0_place : GoodIn wsX0_putGreater (wsV RX0 36 RX0 yX0_place wsX0_place) := goodIn_app (goodIn_sub (List.forall_mem_cons.mpr ⟨(cl_X0_putGreater_2 _ (List.mem_of_getElem? (i := 2) rfl)), List.forall_mem_cons.mpr ⟨(cl_X0_putGreater_2 _ (List.mem_of_getElem? (i := 3) rfl)), List.forall_mem_cons.mpr ⟨(cl_X0_putGreater_2 _ (List.mem_of_getElem? (i := 4) rfl)), List.forall_mem_cons.mpr ⟨(cl_X0_putGreater_1 _ (List.mem_of_getElem? (i := 4) rfl)), fun _ h => absurd h List.not_mem_nil⟩⟩⟩⟩) (by decide +kernel)) ggX0_putGreater_X0_place
noncomputable def dz_p11_11 : List (Nat × Instr × Nat) := [(0, (.iload_n 1, 1)), (1, (.iload_n 2, 1)), (2, (.iload_n 3, 1)), (3, (.invokestatic 62, 3)), (6, (.aload_n 0, 1)), (7, (.iload_n 3, 1)), (8, (.aload_n 0, 1)), (9, (.getfield 9, 3)), (12, (.aload_n 0, 1)), (13, (.getfield 15, 3)), (16, (.iload_n 1, 1)), (17, (.laload, 1)), (18, (.aload_n 0, 1)), (19, (.getfield 15, 3)), (22, (.iload_n 2, 1)), (23, (.laload, 1)), (24, (.invokevirtual 66, 3)), (27, (.invokevirtual 36, 3)), (30, (.ireturn, 1))]
theorem dy_p11_11 : dz_ok cX0_putGreater dz_p11_11 = true := by decide +kernel
theorem dX0_putGreater_0 : decode cX0_putGreater 0 = .ok (.iload_n 1, 1) := dz_at (i := 0) dy_p11_11 rfl
theorem dX0_putGreater_1 : decode cX0_putGreater 1 = .ok (.iload_n 2, 1) := dz_at (i := 1) dy_p11_11 rfl
theorem dX0_putGreater_2 : decode cX0_putGreater 2 = .ok (.iload_n 3, 1) := dz_at (i := 2) dy_p11_11 rfl
theorem dX0_putGreater_3 : decode cX0_putGreater 3 = .ok (.invokestatic 62, 3) := dz_at (i := 3) dy_p11_11 rfl
theorem dX0_putGreater_6 : decode cX0_putGreater 6 = .ok (.aload_n 0, 1) := dz_at (i := 4) dy_p11_11 rfl
theorem dX0_putGreater_7 : decode cX0_putGreater 7 = .ok (.iload_n 3, 1) := dz_at (i := 5) dy_p11_11 rfl
theorem dX0_putGreater_8 : decode cX0_putGreater 8 = .ok (.aload_n 0, 1) := dz_at (i := 6) dy_p11_11 rfl
theorem dX0_putGreater_9 : decode cX0_putGreater 9 = .ok (.getfield 9, 3) := dz_at (i := 7) dy_p11_11 rfl
theorem dX0_putGreater_12 : decode cX0_putGreater 12 = .ok (.aload_n 0, 1) := dz_at (i := 8) dy_p11_11 rfl
theorem dX0_putGreater_13 : decode cX0_putGreater 13 = .ok (.getfield 15, 3) := dz_at (i := 9) dy_p11_11 rfl
theorem dX0_putGreater_16 : decode cX0_putGreater 16 = .ok (.iload_n 1, 1) := dz_at (i := 10) dy_p11_11 rfl
theorem dX0_putGreater_17 : decode cX0_putGreater 17 = .ok (.laload, 1) := dz_at (i := 11) dy_p11_11 rfl
theorem dX0_putGreater_18 : decode cX0_putGreater 18 = .ok (.aload_n 0, 1) := dz_at (i := 12) dy_p11_11 rfl
theorem dX0_putGreater_19 : decode cX0_putGreater 19 = .ok (.getfield 15, 3) := dz_at (i := 13) dy_p11_11 rfl
theorem dX0_putGreater_22 : decode cX0_putGreater 22 = .ok (.iload_n 2, 1) := dz_at (i := 14) dy_p11_11 rfl
theorem dX0_putGreater_23 : decode cX0_putGreater 23 = .ok (.laload, 1) := dz_at (i := 15) dy_p11_11 rfl
theorem dX0_putGreater_24 : decode cX0_putGreater 24 = .ok (.invokevirtual 66, 3) := dz_at (i := 16) dy_p11_11 rfl
theorem dX0_putGreater_27 : decode cX0_putGreater 27 = .ok (.invokevirtual 36, 3) := dz_at (i := 17) dy_p11_11 rfl
theorem dX0_putGreater_30 : decode cX0_putGreater 30 = .ok (.ireturn, 1) := dz_at (i := 18) dy_p11_11 rfl
noncomputable def o_X0_putGreater (w : Bool) (a : Int32) (f : Nat → Int64) (p0 : Int32) (p1 : Int32) (p2 : Int32) : Int32 × Int32 × Int32 × (Nat → Int64) :=
  if (o_X0_checkCells p0 p1 p2) = 0 then (0, (o_X0_place a f p2 (o_X1_greater w (f p0.toNatClampNeg) (f p1.toNatClampNeg))).1, (o_X0_place a f p2 (o_X1_greater w (f p0.toNatClampNeg) (f p1.toNatClampNeg))).2.1, (o_X0_place a f p2 (o_X1_greater w (f p0.toNatClampNeg) (f p1.toNatClampNeg))).2.2)
  else ((o_X0_checkCells p0 p1 p2), 0, a, f)
set_option maxHeartbeats 4000000 in
set_option maxRecDepth 100000 in
theorem k_X0_putGreater (l : Launch) (hfl : l.flags = flags0) (dC : Nat → ClassId) (dI : Nat → Nat → Nat) (cy : ClassId) (h0 : Nat) (aw : Nat) (ac : Nat) (ab : Nat) (w : Bool) (a : Int32) (rv : Int32) (f : Nat → Int64) (g : Nat → Int64) (sz : Nat) (N : Nat) (p0 : Int32) (p1 : Int32) (p2 : Int32) : vx_Met l yX0_putGreater wsX0_putGreater ({ frames := 8, cells := 3, slots := 18, locals := 142 }) (va_Pc [.ref h0, .int p0, .int p1, .int p2] (xM (dC, dI) xCl [(h0, eR aw ac ab a rv), (aw, eW w), (ac, eA cy f), (ab, eA cy g)] [(cy, .long)] sz N)) (va_Qi (fun (r : Int32) (_ : Unit) => (o_X0_putGreater w a f p0 p1 p2).1 = 0 ∧ r = (o_X0_putGreater w a f p0 p1 p2).2.1) (fun _ t => xW (dC, dI) xCl [(h0, eR aw ac ab (o_X0_putGreater w a f p0 p1 p2).2.2.1 rv), (aw, eW w), (ac, eA cy (o_X0_putGreater w a f p0 p1 p2).2.2.2), (ab, eA cy g)] (va_A [(h0, eR aw ac ab a rv), (aw, eW w), (ac, eA cy f), (ab, eA cy g)] sz) t) (va_A [(h0, eR aw ac ab a rv), (aw, eW w), (ac, eA cy f), (ab, eA cy g)] sz)) (vx_X (fun _ : Unit => ¬ (o_X0_putGreater w a f p0 p1 p2).1 = 0) (fun E _ t => E = xE (o_X0_putGreater w a f p0 p1 p2).1 ∧ xW (dC, dI) xCl [(h0, eR aw ac ab a rv), (aw, eW w), (ac, eA cy f), (ab, eA cy g)] (va_A [(h0, eR aw ac ab a rv), (aw, eW w), (ac, eA cy f), (ab, eA cy g)] sz) t) (va_A [(h0, eR aw ac ab a rv), (aw, eW w), (ac, eA cy f), (ab, eA cy g)] sz)) 3 18 (va_A [(h0, eR aw ac ab a rv), (aw, eW w), (ac, eA cy f), (ab, eA cy g)] sz) := by
  refine vx_ofW (cc := cX0_putGreater) (maxL := 4) (ret := (some .int)) (by decide +kernel) rfl ?_
  intro p e s m args below meth c s₁ B hml hno hv
  obtain ⟨rfl, hsz, hP, hK, hD0, hN, hG⟩ := hv
  have hx := B.exec
  have hb := B.bytes
  have hr := B.returns
  have hts := atoms_spec (ws := wsX0_putGreater) B.pre
  have hown : s.vm.findClass RX0 = some m.cls := findClass_of_methodNamed B.named
  have hlocks := B.notSynchronized
  subst hsz
  have hAN : ∀ q, va_A [(h0, eR aw ac ab a rv), (aw, eW w), (ac, eA cy f), (ab, eA cy g)] s.heap.size q → N ≤ q := xA_N hD0 hN
  have hD := hD0.self (sz := s.heap.size)
  generalize hAe : va_A [(h0, eR aw ac ab a rv), (aw, eW w), (ac, eA cy f), (ab, eA cy g)] s.heap.size = A at hD hAN ⊢
  have hA : ∀ q : Nat, s.heap.size ≤ q → A q := fun q h => by rw [← hAe]; exact Or.inr h
  have hS : va_S A s.heap s.heap [] := va_S.rf
  have hP : va_P (dC, dI) xCl [(h0, eR aw ac ab a rv), (aw, eW w), (ac, eA cy f), (ab, eA cy g)] s.heap := hP
  have hl := lv_entry ([.ref h0, .int p0, .int p1, .int p2]) (n := 4) (Nat.le_of_ble_eq_true rfl)
  rw [lg_entry_eq]
  generalize (lg_sl ([.ref h0, .int p0, .int p1, .int p2]) ++ List.replicate (4 - (lg_sl ([.ref h0, .int p0, .int p1, .int p2])).length) Slot.unset).toArray = ls at hl ⊢
  have hl : lv_has ls 4 [(0, .ref h0), (1, .int p0), (2, .int p1), (3, .int p2)] := hl
  refine lv_iload_n hx hb dX0_putGreater_0 rfl (lv_at hl 1 rfl) ?_
  refine lv_iload_n hx hb dX0_putGreater_1 rfl (lv_at hl 2 rfl) ?_
  refine lv_iload_n hx hb dX0_putGreater_2 rfl (lv_at hl 3 rfl) ?_
  have hPc := hP.sub (ws' := []) [] rfl
  have hDc := hD.sub (ws' := []) [] (by decide +kernel) rfl
  have hKc := hK.sub (tys' := []) [] rfl
  refine vx_callv (vx_runS (As := [.int p0, .int p1, .int p2]) (rest := []) ⟨hx, hb, hml, hown, hts⟩ (k_X0_checkCells l hfl dC dI s.heap.size N p0 p1 p2) (va_cwS 3 hts gX0_putGreater_X0_checkCells rfl rfl rfl (by decide +kernel) ⟨Nat.le_of_ble_eq_true rfl, Nat.le_of_ble_eq_true rfl⟩) (xM.preS hKc hPc hDc hAN (Nat.le_trans hN hS.1) (hG.kept hS hAN)) rfl rfl hl.1 rfl (lv_room (Nat.le_of_ble_eq_true rfl)) dX0_putGreater_3 ⟨Nat.le_of_ble_eq_true rfl, Nat.le_of_ble_eq_true rfl⟩) hS xA_old (fun q h => hA q (Nat.le_trans hS.1 h)) xA_old (fun E ce q9 u9 t H locs ht hvm hpx hbx hz hk hS hce hcv hcl => ?_) (fun u t H locs ht hvm hw hB hz hk hS => ?_)
  · have c_2 : ¬ (o_X0_checkCells p0 p1 p2) = 0 := hpx
    have hbe := hbx
    have hP := xP_keep hP hk
    have he : o_X0_putGreater w a f p0 p1 p2 = ((o_X0_checkCells p0 p1 p2), 0, a, f) := by (rw [o_X0_putGreater, if_neg c_2]) <;> rfl
    exact vx_out (fun x hx => (hno x hx).elim) hlocks hce hcv hcl (fun t ht hvm => ⟨(), by rw [he]; exact c_2, ⟨by rw [he]; exact hbe, by rw [ht]; exact hP, hD⟩, hS.F ht⟩) hS.2.2 (by omega) (by omega)
  · skip
    have c_3 := hw
    have c_3 : (o_X0_checkCells p0 p1 p2) = 0 := c_3
    have hP := xP_keep hP hk
    refine lv_aload_n hx hb dX0_putGreater_6 rfl (lv_at hl 0 rfl) ?_
    refine lv_iload_n hx hb dX0_putGreater_7 rfl (lv_at hl 3 rfl) ?_
    refine lv_aload_n hx hb dX0_putGreater_8 rfl (lv_at hl 0 rfl) ?_
    refine va_get (D := (dC, dI)) (ci := 2) (v := .ref aw) (C := RX0) (T := TX0) (N := 5) hx hb hts (by decide +kernel) hown hK hP 0 rfl rfl 0 (by decide +kernel) (hts (.fieldLink RX0 9 "Edgefloats$Row" "width" "LEdgefloats$Width;") (by decide +kernel)) (fun _ h9 => h9) rfl dX0_putGreater_9 ?_
    refine lv_aload_n hx hb dX0_putGreater_12 rfl (lv_at hl 0 rfl) ?_
    refine va_get (D := (dC, dI)) (ci := 2) (v := .ref ac) (C := RX0) (T := TX0) (N := 5) hx hb hts (by decide +kernel) hown hK hP 0 rfl rfl 1 (by decide +kernel) (hts (.fieldLink RX0 15 "Edgefloats$Row" "cells" "[J") (by decide +kernel)) (fun _ h9 => h9) rfl dX0_putGreater_13 ?_
    refine lv_iload_n hx hb dX0_putGreater_16 rfl (lv_at hl 1 rfl) ?_
    refine xa_lald hx hb hK hP 2 0 (f := f) rfl rfl (k := p0.toNatClampNeg) (xm_ccs c_3).1 rfl dX0_putGreater_17 ?_
    refine lv_aload_n hx hb dX0_putGreater_18 rfl (lv_at hl 0 rfl) ?_
    refine va_get (D := (dC, dI)) (ci := 2) (v := .ref ac) (C := RX0) (T := TX0) (N := 5) hx hb hts (by decide +kernel) hown hK hP 0 rfl rfl 1 (by decide +kernel) (hts (.fieldLink RX0 15 "Edgefloats$Row" "cells" "[J") (by decide +kernel)) (fun _ h9 => h9) rfl dX0_putGreater_19 ?_
    refine lv_iload_n hx hb dX0_putGreater_22 rfl (lv_at hl 2 rfl) ?_
    refine xa_lald hx hb hK hP 2 0 (f := f) rfl rfl (k := p1.toNatClampNeg) (xm_ccs c_3).2.1 rfl dX0_putGreater_23 ?_
    have hPc := hP.sub (ws' := [(aw, eW w)]) [1] rfl
    have hKc := hK.sub (tys' := []) [] rfl
    refine va_calll (va_runV (As := [.long (f p0.toNatClampNeg), .long (f p1.toNatClampNeg)]) (rest := [.int p2, .ref h0]) ⟨hx, hb, hml, hown, hts⟩ (k_X1_greater l dC dI aw w H.size (f p0.toNatClampNeg) (f p1.toNatClampNeg)) (cwV 2 hts gX0_putGreater_X1_greater rfl rfl rfl (by decide +kernel) ⟨Nat.le_of_ble_eq_true rfl, Nat.le_of_ble_eq_true rfl⟩) (xB.preV hKc hPc (ci := 3) (q0 := 0) rfl rfl) rfl rfl hl.1 rfl (lv_room (Nat.le_of_ble_eq_true rfl)) dX0_putGreater_24 ⟨Nat.le_of_ble_eq_true rfl, Nat.le_of_ble_eq_true rfl⟩) hS xA_old (fun q h => hA q (Nat.le_trans hS.1 h)) (fun r_4 u t H locs ht hvm hw hB hz hk hS => ?_)
    replace hw : r_4 = (o_X1_greater w (f p0.toNatClampNeg) (f p1.toNatClampNeg)) := hw
    subst r_4
    have hP := xP_keep hP hk
    have hPc := hP.sub (ws' := [(h0, eR aw ac ab a rv), (aw, eW w), (ac, eA cy f), (ab, eA cy g)]) [0, 1, 2, 3] rfl
    have hDc := hD.sub (ws' := [(h0, eR aw ac ab a rv), (aw, eW w), (ac, eA cy f), (ab, eA cy g)]) [0, 1, 2, 3] (by decide +kernel) rfl
    have hKc := hK.sub (tys' := [(cy, .long)]) [0] rfl
    have hFc := va_free (wc := [(h0, eR aw ac ab a rv), (aw, eW w), (ac, eA cy f), (ab, eA cy g)]) hD hS hA [0, 1, 2, 3] rfl
    refine va_calli (va_runV (As := [.int p2, .long (o_X1_greater w (f p0.toNatClampNeg) (f p1.toNatClampNeg))]) (rest := []) ⟨hx, hb, hml, hown, hts⟩ (k_X0_place l dC dI cy h0 aw ac ab w a rv f g H.size N p2 (o_X1_greater w (f p0.toNatClampNeg) (f p1.toNatClampNeg)) (xm_ccs c_3).2.2) (cwV 2 hts gX0_putGreater_X0_place rfl rfl rfl (by decide +kernel) ⟨Nat.le_of_ble_eq_true rfl, Nat.le_of_ble_eq_true rfl⟩) (xM.preV hKc hPc hDc hAN (Nat.le_trans hN hS.1) (hG.kept hS hAN) (ci := 2) (q0 := 0) rfl rfl) rfl rfl hl.1 rfl (lv_room (Nat.le_of_ble_eq_true rfl)) dX0_putGreater_27 ⟨Nat.le_of_ble_eq_true rfl, Nat.le_of_ble_eq_true rfl⟩) hS (fun q _ h => hFc q h) hFc (fun r_5 u t H locs ht hvm hw hB hz hk hS => ?_)
    replace hw : r_5 = (o_X0_place a f p2 (o_X1_greater w (f p0.toNatClampNeg) (f p1.toNatClampNeg))).1 := hw
    subst r_5
    obtain ⟨hP1, hD1⟩ := hB
    rw [ht] at hP1
    obtain ⟨hP, hD⟩ := va_join (wr := []) (w1 := [(h0, eR aw ac ab (o_X0_place a f p2 (o_X1_greater w (f p0.toNatClampNeg) (f p1.toNatClampNeg))).2.1 rv), (aw, eW w), (ac, eA cy (o_X0_place a f p2 (o_X1_greater w (f p0.toNatClampNeg) (f p1.toNatClampNeg))).2.2), (ab, eA cy g)]) hP hD [0, 1, 2, 3] [] rfl rfl (by decide +kernel) (by decide +kernel) hk hFc hP1 hD1
    have hP := hP.sub (ws' := [(h0, eR aw ac ab (o_X0_place a f p2 (o_X1_greater w (f p0.toNatClampNeg) (f p1.toNatClampNeg))).2.1 rv), (aw, eW w), (ac, eA cy (o_X0_place a f p2 (o_X1_greater w (f p0.toNatClampNeg) (f p1.toNatClampNeg))).2.2), (ab, eA cy g)]) [0, 1, 2, 3] rfl
    have hD := hD.sub (ws' := [(h0, eR aw ac ab (o_X0_place a f p2 (o_X1_greater w (f p0.toNatClampNeg) (f p1.toNatClampNeg))).2.1 rv), (aw, eW w), (ac, eA cy (o_X0_place a f p2 (o_X1_greater w (f p0.toNatClampNeg) (f p1.toNatClampNeg))).2.2), (ab, eA cy g)]) [0, 1, 2, 3] (by decide +kernel) rfl
    have he : o_X0_putGreater w a f p0 p1 p2 = (0, (o_X0_place a f p2 (o_X1_greater w (f p0.toNatClampNeg) (f p1.toNatClampNeg))).1, (o_X0_place a f p2 (o_X1_greater w (f p0.toNatClampNeg) (f p1.toNatClampNeg))).2.1, (o_X0_place a f p2 (o_X1_greater w (f p0.toNatClampNeg) (f p1.toNatClampNeg))).2.2) := by (rw [o_X0_putGreater, if_pos c_3]) <;> rfl
    refine W.widen (k := 3) (n := 18) (by omega) (by omega) ?_
    refine vx_ret ?_
    exact W.iret (v := ((o_X0_place a f p2 (o_X1_greater w (f p0.toNatClampNeg) (f p1.toNatClampNeg))).1)) hx hb hr (fun t ht hW => ⟨⟨_, (), rfl, ⟨(by (rw [he]) <;> rfl), (by (rw [he]) <;> rfl)⟩, (by rw [he]; exact ⟨by rw [ht]; exact hP, hD⟩)⟩, hS.F ht⟩) hS.2.2 dX0_putGreater_30
theorem cl_X0_putLesser_1 : ∀ w ∈ wsX0_putLesser_r1, w ∈ wsX0_putLesser := fun _ h => (List.mem_cons_of_mem _ (List.mem_append_left _ (List.mem_append_left _ (List.mem_append_left _ (List.mem_append_left _ h)))))
theorem cl_X0_putLesser_2 : ∀ w ∈ wsX0_putLesser_r2, w ∈ wsX0_putLesser := fun _ h => (List.mem_cons_of_mem _ (List.mem_append_left _ (List.mem_append_left _ (List.mem_append_left _ (List.mem_append_right _ h)))))
theorem cl_X0_putLesser_3 : ∀ w ∈ wsX00, w ∈ wsX0_putLesser := fun _ h => (List.mem_cons_of_mem _ (List.mem_append_left _ (List.mem_append_left _ (List.mem_append_right _ h))))
theorem cl_X0_putLesser_4 : ∀ w ∈ wsX10, w ∈ wsX0_putLesser := fun _ h => (List.mem_cons_of_mem _ (List.mem_append_left _ (List.mem_append_right _ h)))
theorem cl_X0_putLesser_5 : ∀ w ∈ (vx_atS RX2 152 "java/lang/IndexOutOfBoundsException" ["java/lang/RuntimeException", "java/lang/Exception"]).filter goodWord, w ∈ wsX0_putLesser := fun _ h => (List.mem_cons_of_mem _ (List.mem_append_right _ h))
set_option maxRecDepth 20000 in
theorem ggX0_putLesser_X0_checkCells : GoodIn wsX0_putLesser wsX0_checkCells := goodIn_sub (List.forall_mem_cons.mpr ⟨(cl_X0_putLesser_1 _ (List.mem_of_getElem? (i := 5) rfl)), fun w h => (List.mem_append.mp h).elim ((List.forall_mem_cons.mpr ⟨(cl_X0_putLesser_1 _ (List.mem_of_getElem? (i := 6) rfl)), List.forall_mem_cons.mpr ⟨(cl_X0_putLesser_1 _ (List.mem_of_getElem? (i := 7) rfl)), List.forall_mem_cons.mpr ⟨(cl_X0_putLesser_1 _ (List.mem_of_getElem? (i := 8) rfl)), List.forall_mem_cons.mpr ⟨(cl_X0_putLesser_1 _ (List.mem_of_getElem? (i := 9) rfl)), List.forall_mem_cons.mpr ⟨(cl_X0_putLesser_1 _ (List.mem_of_getElem? (i := 10) rfl)), fun _ h => absurd h List.not_mem_nil⟩⟩⟩⟩⟩) w) ((cl_X0_putLesser_5) w)⟩) (by decide +kernel)
set_option maxRecDepth 20000 in
theorem gX0_putLesser_X0_checkCells : GoodIn wsX0_putLesser (va_wsS RX0 62 yX0_checkCells wsX0_checkCells) := goodIn_app (goodIn_sub (List.forall_mem_cons.mpr ⟨(cl_X0_putLesser_1 _ (List.mem_of_getElem? (i := 2) rfl)), List.forall_mem_cons.mpr ⟨(cl_X0_putLesser_1 _ (List.mem_of_getElem? (i := 3) rfl)), List.forall_mem_cons.mpr ⟨(cl_X0_putLesser_1 _ (List.mem_of_getElem? (i := 4) rfl)), fun _ h => absurd h List.not_mem_nil⟩⟩⟩) (by decide +kernel)) ggX0_putLesser_X0_checkCells
set_option maxRecDepth 20000 in
theorem ggX0_putLesser_X1_lesser : GoodIn wsX0_putLesser wsX1_lesser := goodIn_sub (List.forall_mem_cons.mpr ⟨(cl_X0_putLesser_1 _ (List.mem_of_getElem? (i := 15) rfl)), fun w h => (List.mem_append.mp h).elim ((List.forall_mem_cons.mpr ⟨(cl_X0_putLesser_1 _ (List.mem_of_getElem? (i := 16) rfl)), List.forall_mem_cons.mpr ⟨(cl_X0_putLesser_1 _ (List.mem_of_getElem? (i := 17) rfl)), List.forall_mem_cons.mpr ⟨(cl_X0_putLesser_1 _ (List.mem_of_getElem? (i := 18) rfl)), List.forall_mem_cons.mpr ⟨(cl_X0_putLesser_1 _ (List.mem_of_getElem? (i := 14) rfl)), List.forall_mem_cons.mpr ⟨(cl_X0_putLesser_1 _ (List.mem_of_getElem? (i := 19) rfl)), List.forall_mem_cons.mpr ⟨(cl_X0_putLesser_1 _ (List.mem_of_getElem? (i := 20) rfl)), List.forall_mem_cons.mpr ⟨(cl_X0_putLesser_1 _ (List.mem_of_getElem? (i := 21) rfl)), List.forall_mem_cons.mpr ⟨(cl_X0_putLesser_1 _ (List.mem_of_getElem? (i := 22) rfl)), List.forall_mem_cons.mpr ⟨(cl_X0_putLesser_1 _ (List.mem_of_getElem? (i := 23) rfl)), List.forall_mem_cons.mpr ⟨(cl_X0_putLesser_2 _ (List.mem_of_getElem? (i := 0) rfl)), List.forall_mem_cons.mpr ⟨(cl_X0_putLesser_2 _ (List.mem_of_getElem? (i := 1) rfl)), fun _ h => absurd h List.not_mem_nil⟩⟩⟩⟩⟩⟩⟩⟩⟩⟩⟩) w) ((cl_X0_putLesser_4) w)⟩) (by decide +kernel)
set_option maxRecDepth 20000 in
theorem gX0_putLesser_X1_lesser : GoodIn wsX0_putLesser (wsV RX0 70 RX1 yX1_lesser wsX1_lesser) := goodIn_app (goodIn_sub (List.forall_mem_cons.mpr ⟨(cl_X0_putLesser_1 _ (List.mem_of_getElem? (i := 11) rfl)), List.forall_mem_cons.mpr ⟨(cl_X0_putLesser_1 _ (List.mem_of_getElem? (i := 12) rfl)), List.forall_mem_cons.mpr ⟨(cl_X0_putLesser_1 _ (List.mem_of_getElem? (i := 13) rfl)), List.forall_mem_cons.mpr ⟨(cl_X0_putLesser_1 _ (List.mem_of_getElem? (i := 14) rfl)), fun _ h => absurd h List.not_mem_nil⟩⟩⟩⟩) (by decide +kernel)) ggX0_putLesser_X1_lesser
set_option maxRecDepth 20000 in
theorem ggX0_putLesser_X0_place : GoodIn wsX0_putLesser wsX0_place := goodIn_sub (List.forall_mem_cons.mpr ⟨(cl_X0_putLesser_2 _ (List.mem_of_getElem? (i := 5) rfl)), fun w h => (List.mem_append.mp h).elim ((List.forall_mem_cons.mpr ⟨(cl_X0_putLesser_2 _ (List.mem_of_getElem? (i := 6) rfl)), List.forall_mem_cons.mpr ⟨(cl_X0_putLesser_1 _ (List.mem_of_getElem? (i := 1) rfl)), fun _ h => absurd h List.not_mem_nil⟩⟩) w) ((cl_X0_putLesser_3) w)⟩) (by decide +kernel)
set_option maxRecDepth 20000 in
theorem gX0_putLesser_X0_place : GoodIn wsX0_putLesser (wsV RX0 36 RX0 yX0_place wsX0_place) := goodIn_app (goodIn_sub (List.forall_mem_cons.mpr ⟨(cl_X0_putLesser_2 _ (List.mem_of_getElem? (i := 2) rfl)), List.forall_mem_cons.mpr ⟨(cl_X0_putLesser_2 _ (List.mem_of_getElem? (i := 3) rfl)), List.forall_mem_cons.mpr ⟨(cl_X0_putLesser_2 _ (List.mem_of_getElem? (i := 4) rfl)), List.forall_mem_cons.mpr ⟨(cl_X0_putLesser_1 _ (List.mem_of_getElem? (i := 4) rfl)), fun _ h => absurd h List.not_mem_nil⟩⟩⟩⟩) (by decide +kernel)) ggX0_putLesser_X0_place
noncomputable def dz_p11_12 : List (Nat × Instr × Nat) := [(0, (.iload_n 1, 1)), (1, (.iload_n 2, 1)), (2, (.iload_n 3, 1)), (3, (.invokestatic 62, 3)), (6, (.aload_n 0, 1)), (7, (.iload_n 3, 1)), (8, (.aload_n 0, 1)), (9, (.getfield 9, 3)), (12, (.aload_n 0, 1)), (13, (.getfield 15, 3)), (16, (.iload_n 1, 1)), (17, (.laload, 1)), (18, (.aload_n 0, 1)), (19, (.getfield 15, 3)), (22, (.iload_n 2, 1)), (23, (.laload, 1)), (24, (.invokevirtual 70, 3)), (27, (.invokevirtual 36, 3)), (30, (.ireturn, 1))]
theorem dy_p11_12 : dz_ok cX0_putLesser dz_p11_12 = true := by decide +kernel
theorem dX0_putLesser_0 : decode cX0_putLesser 0 = .ok (.iload_n 1, 1) := dz_at (i := 0) dy_p11_12 rfl
theorem dX0_putLesser_1 : decode cX0_putLesser 1 = .ok (.iload_n 2, 1) := dz_at (i := 1) dy_p11_12 rfl
theorem dX0_putLesser_2 : decode cX0_putLesser 2 = .ok (.iload_n 3, 1) := dz_at (i := 2) dy_p11_12 rfl
theorem dX0_putLesser_3 : decode cX0_putLesser 3 = .ok (.invokestatic 62, 3) := dz_at (i := 3) dy_p11_12 rfl
theorem dX0_putLesser_6 : decode cX0_putLesser 6 = .ok (.aload_n 0, 1) := dz_at (i := 4) dy_p11_12 rfl
theorem dX0_putLesser_7 : decode cX0_putLesser 7 = .ok (.iload_n 3, 1) := dz_at (i := 5) dy_p11_12 rfl
theorem dX0_putLesser_8 : decode cX0_putLesser 8 = .ok (.aload_n 0, 1) := dz_at (i := 6) dy_p11_12 rfl
theorem dX0_putLesser_9 : decode cX0_putLesser 9 = .ok (.getfield 9, 3) := dz_at (i := 7) dy_p11_12 rfl
theorem dX0_putLesser_12 : decode cX0_putLesser 12 = .ok (.aload_n 0, 1) := dz_at (i := 8) dy_p11_12 rfl
theorem dX0_putLesser_13 : decode cX0_putLesser 13 = .ok (.getfield 15, 3) := dz_at (i := 9) dy_p11_12 rfl
theorem dX0_putLesser_16 : decode cX0_putLesser 16 = .ok (.iload_n 1, 1) := dz_at (i := 10) dy_p11_12 rfl
theorem dX0_putLesser_17 : decode cX0_putLesser 17 = .ok (.laload, 1) := dz_at (i := 11) dy_p11_12 rfl
theorem dX0_putLesser_18 : decode cX0_putLesser 18 = .ok (.aload_n 0, 1) := dz_at (i := 12) dy_p11_12 rfl
theorem dX0_putLesser_19 : decode cX0_putLesser 19 = .ok (.getfield 15, 3) := dz_at (i := 13) dy_p11_12 rfl
theorem dX0_putLesser_22 : decode cX0_putLesser 22 = .ok (.iload_n 2, 1) := dz_at (i := 14) dy_p11_12 rfl
theorem dX0_putLesser_23 : decode cX0_putLesser 23 = .ok (.laload, 1) := dz_at (i := 15) dy_p11_12 rfl
theorem dX0_putLesser_24 : decode cX0_putLesser 24 = .ok (.invokevirtual 70, 3) := dz_at (i := 16) dy_p11_12 rfl
theorem dX0_putLesser_27 : decode cX0_putLesser 27 = .ok (.invokevirtual 36, 3) := dz_at (i := 17) dy_p11_12 rfl
theorem dX0_putLesser_30 : decode cX0_putLesser 30 = .ok (.ireturn, 1) := dz_at (i := 18) dy_p11_12 rfl
noncomputable def o_X0_putLesser (w : Bool) (a : Int32) (f : Nat → Int64) (p0 : Int32) (p1 : Int32) (p2 : Int32) : Int32 × Int32 × Int32 × (Nat → Int64) :=
  if (o_X0_checkCells p0 p1 p2) = 0 then (0, (o_X0_place a f p2 (o_X1_lesser w (f p0.toNatClampNeg) (f p1.toNatClampNeg))).1, (o_X0_place a f p2 (o_X1_lesser w (f p0.toNatClampNeg) (f p1.toNatClampNeg))).2.1, (o_X0_place a f p2 (o_X1_lesser w (f p0.toNatClampNeg) (f p1.toNatClampNeg))).2.2)
  else ((o_X0_checkCells p0 p1 p2), 0, a, f)
set_option maxHeartbeats 4000000 in
set_option maxRecDepth 100000 in
theorem k_X0_putLesser (l : Launch) (hfl : l.flags = flags0) (dC : Nat → ClassId) (dI : Nat → Nat → Nat) (cy : ClassId) (h0 : Nat) (aw : Nat) (ac : Nat) (ab : Nat) (w : Bool) (a : Int32) (rv : Int32) (f : Nat → Int64) (g : Nat → Int64) (sz : Nat) (N : Nat) (p0 : Int32) (p1 : Int32) (p2 : Int32) : vx_Met l yX0_putLesser wsX0_putLesser ({ frames := 8, cells := 3, slots := 18, locals := 142 }) (va_Pc [.ref h0, .int p0, .int p1, .int p2] (xM (dC, dI) xCl [(h0, eR aw ac ab a rv), (aw, eW w), (ac, eA cy f), (ab, eA cy g)] [(cy, .long)] sz N)) (va_Qi (fun (r : Int32) (_ : Unit) => (o_X0_putLesser w a f p0 p1 p2).1 = 0 ∧ r = (o_X0_putLesser w a f p0 p1 p2).2.1) (fun _ t => xW (dC, dI) xCl [(h0, eR aw ac ab (o_X0_putLesser w a f p0 p1 p2).2.2.1 rv), (aw, eW w), (ac, eA cy (o_X0_putLesser w a f p0 p1 p2).2.2.2), (ab, eA cy g)] (va_A [(h0, eR aw ac ab a rv), (aw, eW w), (ac, eA cy f), (ab, eA cy g)] sz) t) (va_A [(h0, eR aw ac ab a rv), (aw, eW w), (ac, eA cy f), (ab, eA cy g)] sz)) (vx_X (fun _ : Unit => ¬ (o_X0_putLesser w a f p0 p1 p2).1 = 0) (fun E _ t => E = xE (o_X0_putLesser w a f p0 p1 p2).1 ∧ xW (dC, dI) xCl [(h0, eR aw ac ab a rv), (aw, eW w), (ac, eA cy f), (ab, eA cy g)] (va_A [(h0, eR aw ac ab a rv), (aw, eW w), (ac, eA cy f), (ab, eA cy g)] sz) t) (va_A [(h0, eR aw ac ab a rv), (aw, eW w), (ac, eA cy f), (ab, eA cy g)] sz)) 3 18 (va_A [(h0, eR aw ac ab a rv), (aw, eW w), (ac, eA cy f), (ab, eA cy g)] sz) := by
  refine vx_ofW (cc := cX0_putLesser) (maxL := 4) (ret := (some .int)) (by decide +kernel) rfl ?_
  intro p e s m args below meth c s₁ B hml hno hv
  obtain ⟨rfl, hsz, hP, hK, hD0, hN, hG⟩ := hv
  have hx := B.exec
  have hb := B.bytes
  have hr := B.returns
  have hts := atoms_spec (ws := wsX0_putLesser) B.pre
  have hown : s.vm.findClass RX0 = some m.cls := findClass_of_methodNamed B.named
  have hlocks := B.notSynchronized
  subst hsz
  have hAN : ∀ q, va_A [(h0, eR aw ac ab a rv), (aw, eW w), (ac, eA cy f), (ab, eA cy g)] s.heap.size q → N ≤ q := xA_N hD0 hN
  have hD := hD0.self (sz := s.heap.size)
  generalize hAe : va_A [(h0, eR aw ac ab a rv), (aw, eW w), (ac, eA cy f), (ab, eA cy g)] s.heap.size = A at hD hAN ⊢
  have hA : ∀ q : Nat, s.heap.size ≤ q → A q := fun q h => by rw [← hAe]; exact Or.inr h
  have hS : va_S A s.heap s.heap [] := va_S.rf
  have hP : va_P (dC, dI) xCl [(h0, eR aw ac ab a rv), (aw, eW w), (ac, eA cy f), (ab, eA cy g)] s.heap := hP
  have hl := lv_entry ([.ref h0, .int p0, .int p1, .int p2]) (n := 4) (Nat.le_of_ble_eq_true rfl)
  rw [lg_entry_eq]
  generalize (lg_sl ([.ref h0, .int p0, .int p1, .int p2]) ++ List.replicate (4 - (lg_sl ([.ref h0, .int p0, .int p1, .int p2])).length) Slot.unset).toArray = ls at hl ⊢
  have hl : lv_has ls 4 [(0, .ref h0), (1, .int p0), (2, .int p1), (3, .int p2)] := hl
  refine lv_iload_n hx hb dX0_putLesser_0 rfl (lv_at hl 1 rfl) ?_
  refine lv_iload_n hx hb dX0_putLesser_1 rfl (lv_at hl 2 rfl) ?_
  refine lv_iload_n hx hb dX0_putLesser_2 rfl (lv_at hl 3 rfl) ?_
  have hPc := hP.sub (ws' := []) [] rfl
  have hDc := hD.sub (ws' := []) [] (by decide +kernel) rfl
  have hKc := hK.sub (tys' := []) [] rfl
  refine vx_callv (vx_runS (As := [.int p0, .int p1, .int p2]) (rest := []) ⟨hx, hb, hml, hown, hts⟩ (k_X0_checkCells l hfl dC dI s.heap.size N p0 p1 p2) (va_cwS 3 hts gX0_putLesser_X0_checkCells rfl rfl rfl (by decide +kernel) ⟨Nat.le_of_ble_eq_true rfl, Nat.le_of_ble_eq_true rfl⟩) (xM.preS hKc hPc hDc hAN (Nat.le_trans hN hS.1) (hG.kept hS hAN)) rfl rfl hl.1 rfl (lv_room (Nat.le_of_ble_eq_true rfl)) dX0_putLesser_3 ⟨Nat.le_of_ble_eq_true rfl, Nat.le_of_ble_eq_true rfl⟩) hS xA_old (fun q h => hA q (Nat.le_trans hS.1 h)) xA_old (fun E ce q9 u9 t H locs ht hvm hpx hbx hz hk hS hce hcv hcl => ?_) (fun u t H locs ht hvm hw hB hz hk hS => ?_)
  · have c_2 : ¬ (o_X0_checkCells p0 p1 p2) = 0 := hpx
    have hbe := hbx
    have hP := xP_keep hP hk
    have he : o_X0_putLesser w a f p0 p1 p2 = ((o_X0_checkCells p0 p1 p2), 0, a, f) := by (rw [o_X0_putLesser, if_neg c_2]) <;> rfl
    exact vx_out (fun x hx => (hno x hx).elim) hlocks hce hcv hcl (fun t ht hvm => ⟨(), by rw [he]; exact c_2, ⟨by rw [he]; exact hbe, by rw [ht]; exact hP, hD⟩, hS.F ht⟩) hS.2.2 (by omega) (by omega)
  · skip
    have c_3 := hw
    have c_3 : (o_X0_checkCells p0 p1 p2) = 0 := c_3
    have hP := xP_keep hP hk
    refine lv_aload_n hx hb dX0_putLesser_6 rfl (lv_at hl 0 rfl) ?_
    refine lv_iload_n hx hb dX0_putLesser_7 rfl (lv_at hl 3 rfl) ?_
    refine lv_aload_n hx hb dX0_putLesser_8 rfl (lv_at hl 0 rfl) ?_
    refine va_get (D := (dC, dI)) (ci := 2) (v := .ref aw) (C := RX0) (T := TX0) (N := 5) hx hb hts (by decide +kernel) hown hK hP 0 rfl rfl 0 (by decide +kernel) (hts (.fieldLink RX0 9 "Edgefloats$Row" "width" "LEdgefloats$Width;") (by decide +kernel)) (fun _ h9 => h9) rfl dX0_putLesser_9 ?_
    refine lv_aload_n hx hb dX0_putLesser_12 rfl (lv_at hl 0 rfl) ?_
    refine va_get (D := (dC, dI)) (ci := 2) (v := .ref ac) (C := RX0) (T := TX0) (N := 5) hx hb hts (by decide +kernel) hown hK hP 0 rfl rfl 1 (by decide +kernel) (hts (.fieldLink RX0 15 "Edgefloats$Row" "cells" "[J") (by decide +kernel)) (fun _ h9 => h9) rfl dX0_putLesser_13 ?_
    refine lv_iload_n hx hb dX0_putLesser_16 rfl (lv_at hl 1 rfl) ?_
    refine xa_lald hx hb hK hP 2 0 (f := f) rfl rfl (k := p0.toNatClampNeg) (xm_ccs c_3).1 rfl dX0_putLesser_17 ?_
    refine lv_aload_n hx hb dX0_putLesser_18 rfl (lv_at hl 0 rfl) ?_
    refine va_get (D := (dC, dI)) (ci := 2) (v := .ref ac) (C := RX0) (T := TX0) (N := 5) hx hb hts (by decide +kernel) hown hK hP 0 rfl rfl 1 (by decide +kernel) (hts (.fieldLink RX0 15 "Edgefloats$Row" "cells" "[J") (by decide +kernel)) (fun _ h9 => h9) rfl dX0_putLesser_19 ?_
    refine lv_iload_n hx hb dX0_putLesser_22 rfl (lv_at hl 2 rfl) ?_
    refine xa_lald hx hb hK hP 2 0 (f := f) rfl rfl (k := p1.toNatClampNeg) (xm_ccs c_3).2.1 rfl dX0_putLesser_23 ?_
    have hPc := hP.sub (ws' := [(aw, eW w)]) [1] rfl
    have hKc := hK.sub (tys' := []) [] rfl
    refine va_calll (va_runV (As := [.long (f p0.toNatClampNeg), .long (f p1.toNatClampNeg)]) (rest := [.int p2, .ref h0]) ⟨hx, hb, hml, hown, hts⟩ (k_X1_lesser l dC dI aw w H.size (f p0.toNatClampNeg) (f p1.toNatClampNeg)) (cwV 2 hts gX0_putLesser_X1_lesser rfl rfl rfl (by decide +kernel) ⟨Nat.le_of_ble_eq_true rfl, Nat.le_of_ble_eq_true rfl⟩) (xB.preV hKc hPc (ci := 3) (q0 := 0) rfl rfl) rfl rfl hl.1 rfl (lv_room (Nat.le_of_ble_eq_true rfl)) dX0_putLesser_24 ⟨Nat.le_of_ble_eq_true rfl, Nat.le_of_ble_eq_true rfl⟩) hS xA_old (fun q h => hA q (Nat.le_trans hS.1 h)) (fun r_4 u t H locs ht hvm hw hB hz hk hS => ?_)
    replace hw : r_4 = (o_X1_lesser w (f p0.toNatClampNeg) (f p1.toNatClampNeg)) := hw
    subst r_4
    have hP := xP_keep hP hk
    have hPc := hP.sub (ws' := [(h0, eR aw ac ab a rv), (aw, eW w), (ac, eA cy f), (ab, eA cy g)]) [0, 1, 2, 3] rfl
    have hDc := hD.sub (ws' := [(h0, eR aw ac ab a rv), (aw, eW w), (ac, eA cy f), (ab, eA cy g)]) [0, 1, 2, 3] (by decide +kernel) rfl
    have hKc := hK.sub (tys' := [(cy, .long)]) [0] rfl
    have hFc := va_free (wc := [(h0, eR aw ac ab a rv), (aw, eW w), (ac, eA cy f), (ab, eA cy g)]) hD hS hA [0, 1, 2, 3] rfl
    refine va_calli (va_runV (As := [.int p2, .long (o_X1_lesser w (f p0.toNatClampNeg) (f p1.toNatClampNeg))]) (rest := []) ⟨hx, hb, hml, hown, hts⟩ (k_X0_place l dC dI cy h0 aw ac ab w a rv f g H.size N p2 (o_X1_lesser w (f p0.toNatClampNeg) (f p1.toNatClampNeg)) (xm_ccs c_3).2.2) (cwV 2 hts gX0_putLesser_X0_place rfl rfl rfl (by decide +kernel) ⟨Nat.le_of_ble_eq_true rfl, Nat.le_of_ble_eq_true rfl⟩) (xM.preV hKc hPc hDc hAN (Nat.le_trans hN hS.1) (hG.kept hS hAN) (ci := 2) (q0 := 0) rfl rfl) rfl rfl hl.1 rfl (lv_room (Nat.le_of_ble_eq_true rfl)) dX0_putLesser_27 ⟨Nat.le_of_ble_eq_true rfl, Nat.le_of_ble_eq_true rfl⟩) hS (fun q _ h => hFc q h) hFc (fun r_5 u t H locs ht hvm hw hB hz hk hS => ?_)
    replace hw : r_5 = (o_X0_place a f p2 (o_X1_lesser w (f p0.toNatClampNeg) (f p1.toNatClampNeg))).1 := hw
    subst r_5
    obtain ⟨hP1, hD1⟩ := hB
    rw [ht] at hP1
    obtain ⟨hP, hD⟩ := va_join (wr := []) (w1 := [(h0, eR aw ac ab (o_X0_place a f p2 (o_X1_lesser w (f p0.toNatClampNeg) (f p1.toNatClampNeg))).2.1 rv), (aw, eW w), (ac, eA cy (o_X0_place a f p2 (o_X1_lesser w (f p0.toNatClampNeg) (f p1.toNatClampNeg))).2.2), (ab, eA cy g)]) hP hD [0, 1, 2, 3] [] rfl rfl (by decide +kernel) (by decide +kernel) hk hFc hP1 hD1
    have hP := hP.sub (ws' := [(h0, eR aw ac ab (o_X0_place a f p2 (o_X1_lesser w (f p0.toNatClampNeg) (f p1.toNatClampNeg))).2.1 rv), (aw, eW w), (ac, eA cy (o_X0_place a f p2 (o_X1_lesser w (f p0.toNatClampNeg) (f p1.toNatClampNeg))).2.2), (ab, eA cy g)]) [0, 1, 2, 3] rfl
    have hD := hD.sub (ws' := [(h0, eR aw ac ab (o_X0_place a f p2 (o_X1_lesser w (f p0.toNatClampNeg) (f p1.toNatClampNeg))).2.1 rv), (aw, eW w), (ac, eA cy (o_X0_place a f p2 (o_X1_lesser w (f p0.toNatClampNeg) (f p1.toNatClampNeg))).2.2), (ab, eA cy g)]) [0, 1, 2, 3] (by decide +kernel) rfl
    have he : o_X0_putLesser w a f p0 p1 p2 = (0, (o_X0_place a f p2 (o_X1_lesser w (f p0.toNatClampNeg) (f p1.toNatClampNeg))).1, (o_X0_place a f p2 (o_X1_lesser w (f p0.toNatClampNeg) (f p1.toNatClampNeg))).2.1, (o_X0_place a f p2 (o_X1_lesser w (f p0.toNatClampNeg) (f p1.toNatClampNeg))).2.2) := by (rw [o_X0_putLesser, if_pos c_3]) <;> rfl
    refine W.widen (k := 3) (n := 18) (by omega) (by omega) ?_
    refine vx_ret ?_
    exact W.iret (v := ((o_X0_place a f p2 (o_X1_lesser w (f p0.toNatClampNeg) (f p1.toNatClampNeg))).1)) hx hb hr (fun t ht hW => ⟨⟨_, (), rfl, ⟨(by (rw [he]) <;> rfl), (by (rw [he]) <;> rfl)⟩, (by rw [he]; exact ⟨by rw [ht]; exact hP, hD⟩)⟩, hS.F ht⟩) hS.2.2 dX0_putLesser_30
theorem cl_X0_putSum_1 : ∀ w ∈ wsX0_putSum_r1, w ∈ wsX0_putSum := fun _ h => (List.mem_cons_of_mem _ (List.mem_append_left _ (List.mem_append_left _ (List.mem_append_left _ (List.mem_append_left _ h)))))
theorem cl_X0_putSum_2 : ∀ w ∈ wsX0_putSum_r2, w ∈ wsX0_putSum := fun _ h => (List.mem_cons_of_mem _ (List.mem_append_left _ (List.mem_append_left _ (List.mem_append_left _ (List.mem_append_right _ (List.mem_append_left _ h))))))
theorem cl_X0_putSum_3 : ∀ w ∈ wsX0_putSum_r3, w ∈ wsX0_putSum := fun _ h => (List.mem_cons_of_mem _ (List.mem_append_left _ (List.mem_append_left _ (List.mem_append_left _ (List.mem_append_right _ (List.mem_append_right _ (List.mem_append_left _ h)))))))
theorem cl_X0_putSum_4 : ∀ w ∈ wsX0_putSum_r4, w ∈ wsX0_putSum := fun _ h => (List.mem_cons_of_mem _ (List.mem_append_left _ (List.mem_append_left _ (List.mem_append_left _ (List.mem_append_right _ (List.mem_append_right _ (List.mem_append_right _ h)))))))
theorem cl_X0_putSum_5 : ∀ w ∈ wsX00, w ∈ wsX0_putSum := fun _ h => (List.mem_cons_of_mem _ (List.mem_append_left _ (List.mem_append_left _ (List.mem_append_right _ h))))
theorem cl_X0_putSum_6 : ∀ w ∈ wsX10, w ∈ wsX0_putSum := fun _ h => (List.mem_cons_of_mem _ (List.mem_append_left _ (List.mem_append_right _ h)))
theorem cl_X0_putSum_7 : ∀ w ∈ (vx_atS RX2 152 "java/lang/IndexOutOfBoundsException" ["java/lang/RuntimeException", "java/lang/Exception"]).filter goodWord, w ∈ wsX0_putSum := fun _ h => (List.mem_cons_of_mem _ (List.mem_append_right _ h))
set_option maxRecDepth 20000 in
theorem ggX0_putSum_X0_checkCells : GoodIn wsX0_putSum wsX0_checkCells := goodIn_sub (List.forall_mem_cons.mpr ⟨(cl_X0_putSum_1 _ (List.mem_of_getElem? (i := 5) rfl)), fun w h => (List.mem_append.mp h).elim ((List.forall_mem_cons.mpr ⟨(cl_X0_putSum_1 _ (List.mem_of_getElem? (i := 6) rfl)), List.forall_mem_cons.mpr ⟨(cl_X0_putSum_1 _ (List.mem_of_getElem? (i := 7) rfl)), List.forall_mem_cons.mpr ⟨(cl_X0_putSum_1 _ (List.mem_of_getElem? (i := 8) rfl)), List.forall_mem_cons.mpr ⟨(cl_X0_putSum_1 _ (List.mem_of_getElem? (i := 9) rfl)), List.forall_mem_cons.mpr ⟨(cl_X0_putSum_1 _ (List.mem_of_getElem? (i := 10) rfl)), fun _ h => absurd h List.not_mem_nil⟩⟩⟩⟩⟩) w) ((cl_X0_putSum_7) w)⟩) (by decide +kernel)
set_option maxRecDepth 20000 in
theorem gX0_putSum_X0_checkCells : GoodIn wsX0_putSum (va_wsS RX0 62 yX0_checkCells wsX0_checkCells) := goodIn_app (goodIn_sub (List.forall_mem_cons.mpr ⟨(cl_X0_putSum_1 _ (List.mem_of_getElem? (i := 2) rfl)), List.forall_mem_cons.mpr ⟨(cl_X0_putSum_1 _ (List.mem_of_getElem? (i := 3) rfl)), List.forall_mem_cons.mpr ⟨(cl_X0_putSum_1 _ (List.mem_of_getElem? (i := 4) rfl)), fun _ h => absurd h List.not_mem_nil⟩⟩⟩) (by decide +kernel)) ggX0_putSum_X0_checkCells
set_option maxRecDepth 20000 in
theorem ggX0_putSum_X1_haveSum : GoodIn wsX0_putSum wsX1_haveSum := goodIn_sub (List.forall_mem_cons.mpr ⟨(cl_X0_putSum_1 _ (List.mem_of_getElem? (i := 15) rfl)), fun w h => (List.mem_append.mp h).elim ((fun w h => (List.mem_append.mp h).elim ((List.forall_mem_cons.mpr ⟨(cl_X0_putSum_1 _ (List.mem_of_getElem? (i := 16) rfl)), List.forall_mem_cons.mpr ⟨(cl_X0_putSum_1 _ (List.mem_of_getElem? (i := 17) rfl)), List.forall_mem_cons.mpr ⟨(cl_X0_putSum_1 _ (List.mem_of_getElem? (i := 18) rfl)), List.forall_mem_cons.mpr ⟨(cl_X0_putSum_1 _ (List.mem_of_getElem? (i := 19) rfl)), List.forall_mem_cons.mpr ⟨(cl_X0_putSum_1 _ (List.mem_of_getElem? (i := 14) rfl)), List.forall_mem_cons.mpr ⟨(cl_X0_putSum_1 _ (List.mem_of_getElem? (i := 20) rfl)), List.forall_mem_cons.mpr ⟨(cl_X0_putSum_1 _ (List.mem_of_getElem? (i := 21) rfl)), List.forall_mem_cons.mpr ⟨(cl_X0_putSum_1 _ (List.mem_of_getElem? (i := 22) rfl)), List.forall_mem_cons.mpr ⟨(cl_X0_putSum_1 _ (List.mem_of_getElem? (i := 23) rfl)), List.forall_mem_cons.mpr ⟨(cl_X0_putSum_2 _ (List.mem_of_getElem? (i := 0) rfl)), List.forall_mem_cons.mpr ⟨(cl_X0_putSum_2 _ (List.mem_of_getElem? (i := 1) rfl)), List.forall_mem_cons.mpr ⟨(cl_X0_putSum_2 _ (List.mem_of_getElem? (i := 2) rfl)), List.forall_mem_cons.mpr ⟨(cl_X0_putSum_2 _ (List.mem_of_getElem? (i := 3) rfl)), List.forall_mem_cons.mpr ⟨(cl_X0_putSum_2 _ (List.mem_of_getElem? (i := 4) rfl)), List.forall_mem_cons.mpr ⟨(cl_X0_putSum_2 _ (List.mem_of_getElem? (i := 5) rfl)), List.forall_mem_cons.mpr ⟨(cl_X0_putSum_2 _ (List.mem_of_getElem? (i := 6) rfl)), List.forall_mem_cons.mpr ⟨(cl_X0_putSum_2 _ (List.mem_of_getElem? (i := 7) rfl)), List.forall_mem_cons.mpr ⟨(cl_X0_putSum_2 _ (List.mem_of_getElem? (i := 8) rfl)), List.forall_mem_cons.mpr ⟨(cl_X0_putSum_2 _ (List.mem_of_getElem? (i := 9) rfl)), List.forall_mem_cons.mpr ⟨(cl_X0_putSum_2 _ (List.mem_of_getElem? (i := 10) rfl)), List.forall_mem_cons.mpr ⟨(cl_X0_putSum_2 _ (List.mem_of_getElem? (i := 11) rfl)), List.forall_mem_cons.mpr ⟨(cl_X0_putSum_2 _ (List.mem_of_getElem? (i := 12) rfl)), List.forall_mem_cons.mpr ⟨(cl_X0_putSum_2 _ (List.mem_of_getElem? (i := 13) rfl)), List.forall_mem_cons.mpr ⟨(cl_X0_putSum_2 _ (List.mem_of_getElem? (i := 14) rfl)), fun _ h => absurd h List.not_mem_nil⟩⟩⟩⟩⟩⟩⟩⟩⟩⟩⟩⟩⟩⟩⟩⟩⟩⟩⟩⟩⟩⟩⟩⟩) w) ((List.forall_mem_cons.mpr ⟨(cl_X0_putSum_2 _ (List.mem_of_getElem? (i := 15) rfl)), List.forall_mem_cons.mpr ⟨(cl_X0_putSum_2 _ (List.mem_of_getElem? (i := 16) rfl)), List.forall_mem_cons.mpr ⟨(cl_X0_putSum_2 _ (List.mem_of_getElem? (i := 17) rfl)), List.forall_mem_cons.mpr ⟨(cl_X0_putSum_2 _ (List.mem_of_getElem? (i := 18) rfl)), List.forall_mem_cons.mpr ⟨(cl_X0_putSum_2 _ (List.mem_of_getElem? (i := 19) rfl)), List.forall_mem_cons.mpr ⟨(cl_X0_putSum_2 _ (List.mem_of_getElem? (i := 20) rfl)), List.forall_mem_cons.mpr ⟨(cl_X0_putSum_2 _ (List.mem_of_getElem? (i := 21) rfl)), List.forall_mem_cons.mpr ⟨(cl_X0_putSum_2 _ (List.mem_of_getElem? (i := 22) rfl)), List.forall_mem_cons.mpr ⟨(cl_X0_putSum_2 _ (List.mem_of_getElem? (i := 23) rfl)), List.forall_mem_cons.mpr ⟨(cl_X0_putSum_3 _ (List.mem_of_getElem? (i := 0) rfl)), List.forall_mem_cons.mpr ⟨(cl_X0_putSum_3 _ (List.mem_of_getElem? (i := 1) rfl)), List.forall_mem_cons.mpr ⟨(cl_X0_putSum_3 _ (List.mem_of_getElem? (i := 2) rfl)), List.forall_mem_cons.mpr ⟨(cl_X0_putSum_3 _ (List.mem_of_getElem? (i := 3) rfl)), List.forall_mem_cons.mpr ⟨(cl_X0_putSum_3 _ (List.mem_of_getElem? (i := 4) rfl)), List.forall_mem_cons.mpr ⟨(cl_X0_putSum_3 _ (List.mem_of_getElem? (i := 5) rfl)), List.forall_mem_cons.mpr ⟨(cl_X0_putSum_3 _ (List.mem_of_getElem? (i := 6) rfl)), List.forall_mem_cons.mpr ⟨(cl_X0_putSum_3 _ (List.mem_of_getElem? (i := 7) rfl)), fun _ h => absurd h List.not_mem_nil⟩⟩⟩⟩⟩⟩⟩⟩⟩⟩⟩⟩⟩⟩⟩⟩⟩) w)) w) ((cl_X0_putSum_6) w)⟩) (by decide +kernel)
set_option maxRecDepth 20000 in
theorem gX0_putSum_X1_haveSum : GoodIn wsX0_putSum (wsV RX0 73 RX1 yX1_haveSum wsX1_haveSum) := goodIn_app (goodIn_sub (List.forall_mem_cons.mpr ⟨(cl_X0_putSum_1 _ (List.mem_of_getElem? (i := 11) rfl)), List.forall_mem_cons.mpr ⟨(cl_X0_putSum_1 _ (List.mem_of_getElem? (i := 12) rfl)), List.forall_mem_cons.mpr ⟨(cl_X0_putSum_1 _ (List.mem_of_getElem? (i := 13) rfl)), List.forall_mem_cons.mpr ⟨(cl_X0_putSum_1 _ (List.mem_of_getElem? (i := 14) rfl)), fun _ h => absurd h List.not_mem_nil⟩⟩⟩⟩) (by decide +kernel)) ggX0_putSum_X1_haveSum
set_option maxRecDepth 20000 in
theorem ggX0_putSum_X0_refuse : GoodIn wsX0_putSum wsX0_refuse := goodIn_sub (List.forall_mem_cons.mpr ⟨(cl_X0_putSum_3 _ (List.mem_of_getElem? (i := 11) rfl)), fun w h => (List.mem_append.mp h).elim ((List.forall_mem_cons.mpr ⟨(cl_X0_putSum_3 _ (List.mem_of_getElem? (i := 12) rfl)), fun _ h => absurd h List.not_mem_nil⟩) w) ((cl_X0_putSum_5) w)⟩) (by decide +kernel)
set_option maxRecDepth 20000 in
theorem gX0_putSum_X0_refuse : GoodIn wsX0_putSum (wsV RX0 32 RX0 yX0_refuse wsX0_refuse) := goodIn_app (goodIn_sub (List.forall_mem_cons.mpr ⟨(cl_X0_putSum_3 _ (List.mem_of_getElem? (i := 8) rfl)), List.forall_mem_cons.mpr ⟨(cl_X0_putSum_3 _ (List.mem_of_getElem? (i := 9) rfl)), List.forall_mem_cons.mpr ⟨(cl_X0_putSum_3 _ (List.mem_of_getElem? (i := 10) rfl)), List.forall_mem_cons.mpr ⟨(cl_X0_putSum_1 _ (List.mem_of_getElem? (i := 4) rfl)), fun _ h => absurd h List.not_mem_nil⟩⟩⟩⟩) (by decide +kernel)) ggX0_putSum_X0_refuse
set_option maxRecDepth 20000 in
theorem ggX0_putSum_X1_sum : GoodIn wsX0_putSum wsX1_sum := goodIn_sub (List.forall_mem_cons.mpr ⟨(cl_X0_putSum_3 _ (List.mem_of_getElem? (i := 16) rfl)), fun w h => (List.mem_append.mp h).elim ((fun w h => (List.mem_append.mp h).elim ((List.forall_mem_cons.mpr ⟨(cl_X0_putSum_3 _ (List.mem_of_getElem? (i := 7) rfl)), List.forall_mem_cons.mpr ⟨(cl_X0_putSum_1 _ (List.mem_of_getElem? (i := 17) rfl)), List.forall_mem_cons.mpr ⟨(cl_X0_putSum_1 _ (List.mem_of_getElem? (i := 18) rfl)), List.forall_mem_cons.mpr ⟨(cl_X0_putSum_1 _ (List.mem_of_getElem? (i := 19) rfl)), List.forall_mem_cons.mpr ⟨(cl_X0_putSum_1 _ (List.mem_of_getElem? (i := 14) rfl)), List.forall_mem_cons.mpr ⟨(cl_X0_putSum_1 _ (List.mem_of_getElem? (i := 20) rfl)), List.forall_mem_cons.mpr ⟨(cl_X0_putSum_1 _ (List.mem_of_getElem? (i := 21) rfl)), List.forall_mem_cons.mpr ⟨(cl_X0_putSum_1 _ (List.mem_of_getElem? (i := 22) rfl)), List.forall_mem_cons.mpr ⟨(cl_X0_putSum_1 _ (List.mem_of_getElem? (i := 23) rfl)), List.forall_mem_cons.mpr ⟨(cl_X0_putSum_2 _ (List.mem_of_getElem? (i := 0) rfl)), List.forall_mem_cons.mpr ⟨(cl_X0_putSum_2 _ (List.mem_of_getElem? (i := 1) rfl)), List.forall_mem_cons.mpr ⟨(cl_X0_putSum_2 _ (List.mem_of_getElem? (i := 2) rfl)), List.forall_mem_cons.mpr ⟨(cl_X0_putSum_2 _ (List.mem_of_getElem? (i := 3) rfl)), List.forall_mem_cons.mpr ⟨(cl_X0_putSum_2 _ (List.mem_of_getElem? (i := 4) rfl)), List.forall_mem_cons.mpr ⟨(cl_X0_putSum_2 _ (List.mem_of_getElem? (i := 5) rfl)), List.forall_mem_cons.mpr ⟨(cl_X0_putSum_2 _ (List.mem_of_getElem? (i := 6) rfl)), List.forall_mem_cons.mpr ⟨(cl_X0_putSum_2 _ (List.mem_of_getElem? (i := 7) rfl)), List.forall_mem_cons.mpr ⟨(cl_X0_putSum_2 _ (List.mem_of_getElem? (i := 13) rfl)), List.forall_mem_cons.mpr ⟨(cl_X0_putSum_2 _ (List.mem_of_getElem? (i := 14) rfl)), List.forall_mem_cons.mpr ⟨(cl_X0_putSum_2 _ (List.mem_of_getElem? (i := 15) rfl)), List.forall_mem_cons.mpr ⟨(cl_X0_putSum_2 _ (List.mem_of_getElem? (i := 16) rfl)), List.forall_mem_cons.mpr ⟨(cl_X0_putSum_2 _ (List.mem_of_getElem? (i := 17) rfl)), List.forall_mem_cons.mpr ⟨(cl_X0_putSum_1 _ (List.mem_of_getElem? (i := 16) rfl)), List.forall_mem_cons.mpr ⟨(cl_X0_putSum_2 _ (List.mem_of_getElem? (i := 12) rfl)), fun _ h => absurd h List.not_mem_nil⟩⟩⟩⟩⟩⟩⟩⟩⟩⟩⟩⟩⟩⟩⟩⟩⟩⟩⟩⟩⟩⟩⟩⟩) w) ((List.forall_mem_cons.mpr ⟨(cl_X0_putSum_2 _ (List.mem_of_getElem? (i := 18) rfl)), List.forall_mem_cons.mpr ⟨(cl_X0_putSum_2 _ (List.mem_of_getElem? (i := 19) rfl)), List.forall_mem_cons.mpr ⟨(cl_X0_putSum_2 _ (List.mem_of_getElem? (i := 20) rfl)), List.forall_mem_cons.mpr ⟨(cl_X0_putSum_2 _ (List.mem_of_getElem? (i := 21) rfl)), List.forall_mem_cons.mpr ⟨(cl_X0_putSum_2 _ (List.mem_of_getElem? (i := 22) rfl)), List.forall_mem_cons.mpr ⟨(cl_X0_putSum_2 _ (List.mem_of_getElem? (i := 23) rfl)), List.forall_mem_cons.mpr ⟨(cl_X0_putSum_3 _ (List.mem_of_getElem? (i := 0) rfl)), List.forall_mem_cons.mpr ⟨(cl_X0_putSum_3 _ (List.mem_of_getElem? (i := 1) rfl)), List.forall_mem_cons.mpr ⟨(cl_X0_putSum_3 _ (List.mem_of_getElem? (i := 2) rfl)), List.forall_mem_cons.mpr ⟨(cl_X0_putSum_3 _ (List.mem_of_getElem? (i := 3) rfl)), List.forall_mem_cons.mpr ⟨(cl_X0_putSum_3 _ (List.mem_of_getElem? (i := 4) rfl)), List.forall_mem_cons.mpr ⟨(cl_X0_putSum_3 _ (List.mem_of_getElem? (i := 5) rfl)), List.forall_mem_cons.mpr ⟨(cl_X0_putSum_3 _ (List.mem_of_getElem? (i := 6) rfl)), List.forall_mem_cons.mpr ⟨(cl_X0_putSum_3 _ (List.mem_of_getElem? (i := 17) rfl)), List.forall_mem_cons.mpr ⟨(cl_X0_putSum_3 _ (List.mem_of_getElem? (i := 18) rfl)), List.forall_mem_cons.mpr ⟨(cl_X0_putSum_3 _ (List.mem_of_getElem? (i := 19) rfl)), List.forall_mem_cons.mpr ⟨(cl_X0_putSum_3 _ (List.mem_of_getElem? (i := 20) rfl)), fun _ h => absurd h List.not_mem_nil⟩⟩⟩⟩⟩⟩⟩⟩⟩⟩⟩⟩⟩⟩⟩⟩⟩) w)) w) ((cl_X0_putSum_6) w)⟩) (by decide +kernel)
set_option maxRecDepth 20000 in
theorem gX0_putSum_X1_sum : GoodIn wsX0_putSum (wsV RX0 77 RX1 yX1_sum wsX1_sum) := goodIn_app (goodIn_sub (List.forall_mem_cons.mpr ⟨(cl_X0_putSum_3 _ (List.mem_of_getElem? (i := 13) rfl)), List.forall_mem_cons.mpr ⟨(cl_X0_putSum_3 _ (List.mem_of_getElem? (i := 14) rfl)), List.forall_mem_cons.mpr ⟨(cl_X0_putSum_3 _ (List.mem_of_getElem? (i := 15) rfl)), List.forall_mem_cons.mpr ⟨(cl_X0_putSum_1 _ (List.mem_of_getElem? (i := 14) rfl)), fun _ h => absurd h List.not_mem_nil⟩⟩⟩⟩) (by decide +kernel)) ggX0_putSum_X1_sum
set_option maxRecDepth 20000 in
theorem ggX0_putSum_X0_place : GoodIn wsX0_putSum wsX0_place := goodIn_sub (List.forall_mem_cons.mpr ⟨(cl_X0_putSum_4 _ (List.mem_of_getElem? (i := 0) rfl)), fun w h => (List.mem_append.mp h).elim ((List.forall_mem_cons.mpr ⟨(cl_X0_putSum_4 _ (List.mem_of_getElem? (i := 1) rfl)), List.forall_mem_cons.mpr ⟨(cl_X0_putSum_1 _ (List.mem_of_getElem? (i := 1) rfl)), fun _ h => absurd h List.not_mem_nil⟩⟩) w) ((cl_X0_putSum_5) w)⟩) (by decide +kernel)
set_option maxRecDepth 20000 in
theorem gX0_putSum_X0_place : GoodIn wsX0_putSum (wsV RX0 36 RX0 yX0_place wsX0_place) := goodIn_app (goodIn_sub (List.forall_mem_cons.mpr ⟨(cl_X0_putSum_3 _ (List.mem_of_getElem? (i := 21) rfl)), List.forall_mem_cons.mpr ⟨(cl_X0_putSum_3 _ (List.mem_of_getElem? (i := 22) rfl)), List.forall_mem_cons.mpr ⟨(cl_X0_putSum_3 _ (List.mem_of_getElem? (i := 23) rfl)), List.forall_mem_cons.mpr ⟨(cl_X0_putSum_1 _ (List.mem_of_getElem? (i := 4) rfl)), fun _ h => absurd h List.not_mem_nil⟩⟩⟩⟩) (by decide +kernel)) ggX0_putSum_X0_place
noncomputable def dz_p11_13 : List (Nat × Instr × Nat) := [(0, (.iload_n 1, 1)), (1, (.iload_n 2, 1)), (2, (.iload_n 3, 1)), (3, (.invokestatic 62, 3)), (6, (.aload_n 0, 1)), (7, (.getfield 9, 3)), (10, (.aload_n 0, 1)), (11, (.getfield 15, 3)), (14, (.iload_n 1, 1)), (15, (.laload, 1)), (16, (.aload_n 0, 1)), (17, (.getfield 15, 3)), (20, (.iload_n 2, 1)), (21, (.laload, 1)), (22, (.invokevirtual 73, 3)), (25, (.ifCond .ne 8, 3)), (28, (.aload_n 0, 1)), (29, (.invokevirtual 32, 3)), (32, (.ireturn, 1)), (33, (.aload_n 0, 1)), (34, (.iload_n 3, 1)), (35, (.aload_n 0, 1)), (36, (.getfield 9, 3)), (39, (.aload_n 0, 1)), (40, (.getfield 15, 3)), (43, (.iload_n 1, 1)), (44, (.laload, 1)), (45, (.aload_n 0, 1)), (46, (.getfield 15, 3)), (49, (.iload_n 2, 1)), (50, (.laload, 1)), (51, (.invokevirtual 77, 3)), (54, (.invokevirtual 36, 3)), (57, (.ireturn, 1))]
theorem dy_p11_13 : dz_ok cX0_putSum dz_p11_13 = true := by decide +kernel
theorem dX0_putSum_0 : decode cX0_putSum 0 = .ok (.iload_n 1, 1) := dz_at (i := 0) dy_p11_13 rfl
theorem dX0_putSum_1 : decode cX0_putSum 1 = .ok (.iload_n 2, 1) := dz_at (i := 1) dy_p11_13 rfl
theorem dX0_putSum_2 : decode cX0_putSum 2 = .ok (.iload_n 3, 1) := dz_at (i := 2) dy_p11_13 rfl
theorem dX0_putSum_3 : decode cX0_putSum 3 = .ok (.invokestatic 62, 3) := dz_at (i := 3) dy_p11_13 rfl
theorem dX0_putSum_6 : decode cX0_putSum 6 = .ok (.aload_n 0, 1) := dz_at (i := 4) dy_p11_13 rfl
theorem dX0_putSum_7 : decode cX0_putSum 7 = .ok (.getfield 9, 3) := dz_at (i := 5) dy_p11_13 rfl
theorem dX0_putSum_10 : decode cX0_putSum 10 = .ok (.aload_n 0, 1) := dz_at (i := 6) dy_p11_13 rfl
theorem dX0_putSum_11 : decode cX0_putSum 11 = .ok (.getfield 15, 3) := dz_at (i := 7) dy_p11_13 rfl
theorem dX0_putSum_14 : decode cX0_putSum 14 = .ok (.iload_n 1, 1) := dz_at (i := 8) dy_p11_13 rfl
theorem dX0_putSum_15 : decode cX0_putSum 15 = .ok (.laload, 1) := dz_at (i := 9) dy_p11_13 rfl
theorem dX0_putSum_16 : decode cX0_putSum 16 = .ok (.aload_n 0, 1) := dz_at (i := 10) dy_p11_13 rfl
theorem dX0_putSum_17 : decode cX0_putSum 17 = .ok (.getfield 15, 3) := dz_at (i := 11) dy_p11_13 rfl
theorem dX0_putSum_20 : decode cX0_putSum 20 = .ok (.iload_n 2, 1) := dz_at (i := 12) dy_p11_13 rfl
theorem dX0_putSum_21 : decode cX0_putSum 21 = .ok (.laload, 1) := dz_at (i := 13) dy_p11_13 rfl
theorem dX0_putSum_22 : decode cX0_putSum 22 = .ok (.invokevirtual 73, 3) := dz_at (i := 14) dy_p11_13 rfl
theorem dX0_putSum_25 : decode cX0_putSum 25 = .ok (.ifCond .ne 8, 3) := dz_at (i := 15) dy_p11_13 rfl
theorem dX0_putSum_28 : decode cX0_putSum 28 = .ok (.aload_n 0, 1) := dz_at (i := 16) dy_p11_13 rfl
theorem dX0_putSum_29 : decode cX0_putSum 29 = .ok (.invokevirtual 32, 3) := dz_at (i := 17) dy_p11_13 rfl
theorem dX0_putSum_32 : decode cX0_putSum 32 = .ok (.ireturn, 1) := dz_at (i := 18) dy_p11_13 rfl
theorem dX0_putSum_33 : decode cX0_putSum 33 = .ok (.aload_n 0, 1) := dz_at (i := 19) dy_p11_13 rfl
theorem dX0_putSum_34 : decode cX0_putSum 34 = .ok (.iload_n 3, 1) := dz_at (i := 20) dy_p11_13 rfl
theorem dX0_putSum_35 : decode cX0_putSum 35 = .ok (.aload_n 0, 1) := dz_at (i := 21) dy_p11_13 rfl
theorem dX0_putSum_36 : decode cX0_putSum 36 = .ok (.getfield 9, 3) := dz_at (i := 22) dy_p11_13 rfl
theorem dX0_putSum_39 : decode cX0_putSum 39 = .ok (.aload_n 0, 1) := dz_at (i := 23) dy_p11_13 rfl
theorem dX0_putSum_40 : decode cX0_putSum 40 = .ok (.getfield 15, 3) := dz_at (i := 24) dy_p11_13 rfl
theorem dX0_putSum_43 : decode cX0_putSum 43 = .ok (.iload_n 1, 1) := dz_at (i := 25) dy_p11_13 rfl
theorem dX0_putSum_44 : decode cX0_putSum 44 = .ok (.laload, 1) := dz_at (i := 26) dy_p11_13 rfl
theorem dX0_putSum_45 : decode cX0_putSum 45 = .ok (.aload_n 0, 1) := dz_at (i := 27) dy_p11_13 rfl
theorem dX0_putSum_46 : decode cX0_putSum 46 = .ok (.getfield 15, 3) := dz_at (i := 28) dy_p11_13 rfl
theorem dX0_putSum_49 : decode cX0_putSum 49 = .ok (.iload_n 2, 1) := dz_at (i := 29) dy_p11_13 rfl
theorem dX0_putSum_50 : decode cX0_putSum 50 = .ok (.laload, 1) := dz_at (i := 30) dy_p11_13 rfl
theorem dX0_putSum_51 : decode cX0_putSum 51 = .ok (.invokevirtual 77, 3) := dz_at (i := 31) dy_p11_13 rfl
theorem dX0_putSum_54 : decode cX0_putSum 54 = .ok (.invokevirtual 36, 3) := dz_at (i := 32) dy_p11_13 rfl
theorem dX0_putSum_57 : decode cX0_putSum 57 = .ok (.ireturn, 1) := dz_at (i := 33) dy_p11_13 rfl
noncomputable def o_X0_putSum (w : Bool) (a : Int32) (rv : Int32) (f : Nat → Int64) (p0 : Int32) (p1 : Int32) (p2 : Int32) : Int32 × Int32 × Int32 × Int32 × (Nat → Int64) :=
  if (o_X0_checkCells p0 p1 p2) = 0 then (if (o_X1_haveSum w (f p0.toNatClampNeg) (f p1.toNatClampNeg)) = true then (0, (o_X0_place a f p2 (o_X1_sum w (f p0.toNatClampNeg) (f p1.toNatClampNeg))).1, (o_X0_place a f p2 (o_X1_sum w (f p0.toNatClampNeg) (f p1.toNatClampNeg))).2.1, rv, (o_X0_place a f p2 (o_X1_sum w (f p0.toNatClampNeg) (f p1.toNatClampNeg))).2.2)
    else (0, (o_X0_refuse rv).1, a, (o_X0_refuse rv).2, f))
  else ((o_X0_checkCells p0 p1 p2), 0, a, rv, f)
set_option maxHeartbeats 4000000 in
set_option maxRecDepth 100000 in
theorem k_X0_putSum (l : Launch) (hfl : l.flags = flags0) (dC : Nat → ClassId) (dI : Nat → Nat → Nat) (cy : ClassId) (h0 : Nat) (aw : Nat) (ac : Nat) (ab : Nat) (w : Bool) (a : Int32) (rv : Int32) (f : Nat → Int64) (g : Nat → Int64) (sz : Nat) (N : Nat) (p0 : Int32) (p1 : Int32) (p2 : Int32) : vx_Met l yX0_putSum wsX0_putSum ({ frames := 8, cells := 3, slots := 18, locals := 142 }) (va_Pc [.ref h0, .int p0, .int p1, .int p2] (xM (dC, dI) xCl [(h0, eR aw ac ab a rv), (aw, eW w), (ac, eA cy f), (ab, eA cy g)] [(cy, .long)] sz N)) (va_Qi (fun (r : Int32) (_ : Unit) => (o_X0_putSum w a rv f p0 p1 p2).1 = 0 ∧ r = (o_X0_putSum w a rv f p0 p1 p2).2.1) (fun _ t => xW (dC, dI) xCl [(h0, eR aw ac ab (o_X0_putSum w a rv f p0 p1 p2).2.2.1 (o_X0_putSum w a rv f p0 p1 p2).2.2.2.1), (aw, eW w), (ac, eA cy (o_X0_putSum w a rv f p0 p1 p2).2.2.2.2), (ab, eA cy g)] (va_A [(h0, eR aw ac ab a rv), (aw, eW w), (ac, eA cy f), (ab, eA cy g)] sz) t) (va_A [(h0, eR aw ac ab a rv), (aw, eW w), (ac, eA cy f), (ab, eA cy g)] sz)) (vx_X (fun _ : Unit => ¬ (o_X0_putSum w a rv f p0 p1 p2).1 = 0) (fun E _ t => E = xE (o_X0_putSum w a rv f p0 p1 p2).1 ∧ xW (dC, dI) xCl [(h0, eR aw ac ab a rv), (aw, eW w), (ac, eA cy f), (ab, eA cy g)] (va_A [(h0, eR aw ac ab a rv), (aw, eW w), (ac, eA cy f), (ab, eA cy g)] sz) t) (va_A [(h0, eR aw ac ab a rv), (aw, eW w), (ac, eA cy f), (ab, eA cy g)] sz)) 3 18 (va_A [(h0, eR aw ac ab a rv), (aw, eW w), (ac, eA cy f), (ab, eA cy g)] sz) := by
  refine vx_ofW (cc := cX0_putSum) (maxL := 4) (ret := (some .int)) (by decide +kernel) rfl ?_
  intro p e s m args below meth c s₁ B hml hno hv
  obtain ⟨rfl, hsz, hP, hK, hD0, hN, hG⟩ := hv
  have hx := B.exec
  have hb := B.bytes
  have hr := B.returns
  have hts := atoms_spec (ws := wsX0_putSum) B.pre
  have hown : s.vm.findClass RX0 = some m.cls := findClass_of_methodNamed B.named
  have hlocks := B.notSynchronized
  subst hsz
  have hAN : ∀ q, va_A [(h0, eR aw ac ab a rv), (aw, eW w), (ac, eA cy f), (ab, eA cy g)] s.heap.size q → N ≤ q := xA_N hD0 hN
  have hD := hD0.self (sz := s.heap.size)
  generalize hAe : va_A [(h0, eR aw ac ab a rv), (aw, eW w), (ac, eA cy f), (ab, eA cy g)] s.heap.size = A at hD hAN ⊢
  have hA : ∀ q : Nat, s.heap.size ≤ q → A q := fun q h => by rw [← hAe]; exact Or.inr h
  have hS : va_S A s.heap s.heap [] := va_S.rf
  have hP : va_P (dC, dI) xCl [(h0, eR aw ac ab a rv), (aw, eW w), (ac, eA cy f), (ab, eA cy g)] s.heap := hP
  have hl := lv_entry ([.ref h0, .int p0, .int p1, .int p2]) (n := 4) (Nat.le_of_ble_eq_true rfl)
  rw [lg_entry_eq]
  generalize (lg_sl ([.ref h0, .int p0, .int p1, .int p2]) ++ List.replicate (4 - (lg_sl ([.ref h0, .int p0, .int p1, .int p2])).length) Slot.unset).toArray = ls at hl ⊢
  have hl : lv_has ls 4 [(0, .ref h0), (1, .int p0), (2, .int p1), (3, .int p2)] := hl
  refine lv_iload_n hx hb dX0_putSum_0 rfl (lv_at hl 1 rfl) ?_
  refine lv_iload_n hx hb dX0_putSum_1 rfl (lv_at hl 2 rfl) ?_
  refine lv_iload_n hx hb dX0_putSum_2 rfl (lv_at hl 3 rfl) ?_
  have hPc := hP.sub (ws' := []) [] rfl
  have hDc := hD.sub (ws' := []) [] (by decide +kernel) rfl
  have hKc := hK.sub (tys' := []) [] rfl
  refine vx_callv (vx_runS (As := [.int p0, .int p1, .int p2]) (rest := []) ⟨hx, hb, hml, hown, hts⟩ (k_X0_checkCells l hfl dC dI s.heap.size N p0 p1 p2) (va_cwS 3 hts gX0_putSum_X0_checkCells rfl rfl rfl (by decide +kernel) ⟨Nat.le_of_ble_eq_true rfl, Nat.le_of_ble_eq_true rfl⟩) (xM.preS hKc hPc hDc hAN (Nat.le_trans hN hS.1) (hG.kept hS hAN)) rfl rfl hl.1 rfl (lv_room (Nat.le_of_ble_eq_true rfl)) dX0_putSum_3 ⟨Nat.le_of_ble_eq_true rfl, Nat.le_of_ble_eq_true rfl⟩) hS xA_old (fun q h => hA q (Nat.le_trans hS.1 h)) xA_old (fun E ce q9 u9 t H locs ht hvm hpx hbx hz hk hS hce hcv hcl => ?_) (fun u t H locs ht hvm hw hB hz hk hS => ?_)
  · have c_2 : ¬ (o_X0_checkCells p0 p1 p2) = 0 := hpx
    have hbe := hbx
    have hP := xP_keep hP hk
    have he : o_X0_putSum w a rv f p0 p1 p2 = ((o_X0_checkCells p0 p1 p2), 0, a, rv, f) := by (rw [o_X0_putSum, if_neg c_2]) <;> rfl
    exact vx_out (fun x hx => (hno x hx).elim) hlocks hce hcv hcl (fun t ht hvm => ⟨(), by rw [he]; exact c_2, ⟨by rw [he]; exact hbe, by rw [ht]; exact hP, hD⟩, hS.F ht⟩) hS.2.2 (by omega) (by omega)
  · skip
    have c_3 := hw
    have c_3 : (o_X0_checkCells p0 p1 p2) = 0 := c_3
    have hP := xP_keep hP hk
    refine lv_aload_n hx hb dX0_putSum_6 rfl (lv_at hl 0 rfl) ?_
    refine va_get (D := (dC, dI)) (ci := 2) (v := .ref aw) (C := RX0) (T := TX0) (N := 5) hx hb hts (by decide +kernel) hown hK hP 0 rfl rfl 0 (by decide +kernel) (hts (.fieldLink RX0 9 "Edgefloats$Row" "width" "LEdgefloats$Width;") (by decide +kernel)) (fun _ h9 => h9) rfl dX0_putSum_7 ?_
    refine lv_aload_n hx hb dX0_putSum_10 rfl (lv_at hl 0 rfl) ?_
    refine va_get (D := (dC, dI)) (ci := 2) (v := .ref ac) (C := RX0) (T := TX0) (N := 5) hx hb hts (by decide +kernel) hown hK hP 0 rfl rfl 1 (by decide +kernel) (hts (.fieldLink RX0 15 "Edgefloats$Row" "cells" "[J") (by decide +kernel)) (fun _ h9 => h9) rfl dX0_putSum_11 ?_
    refine lv_iload_n hx hb dX0_putSum_14 rfl (lv_at hl 1 rfl) ?_
    refine xa_lald hx hb hK hP 2 0 (f := f) rfl rfl (k := p0.toNatClampNeg) (xm_ccs c_3).1 rfl dX0_putSum_15 ?_
    refine lv_aload_n hx hb dX0_putSum_16 rfl (lv_at hl 0 rfl) ?_
    refine va_get (D := (dC, dI)) (ci := 2) (v := .ref ac) (C := RX0) (T := TX0) (N := 5) hx hb hts (by decide +kernel) hown hK hP 0 rfl rfl 1 (by decide +kernel) (hts (.fieldLink RX0 15 "Edgefloats$Row" "cells" "[J") (by decide +kernel)) (fun _ h9 => h9) rfl dX0_putSum_17 ?_
    refine lv_iload_n hx hb dX0_putSum_20 rfl (lv_at hl 2 rfl) ?_
    refine xa_lald hx hb hK hP 2 0 (f := f) rfl rfl (k := p1.toNatClampNeg) (xm_ccs c_3).2.1 rfl dX0_putSum_21 ?_
    have hPc := hP.sub (ws' := [(aw, eW w)]) [1] rfl
    have hKc := hK.sub (tys' := []) [] rfl
    refine va_calli (va_runV (As := [.long (f p0.toNatClampNeg), .long (f p1.toNatClampNeg)]) (rest := []) ⟨hx, hb, hml, hown, hts⟩ (k_X1_haveSum l dC dI aw w H.size (f p0.toNatClampNeg) (f p1.toNatClampNeg)) (cwV 2 hts gX0_putSum_X1_haveSum rfl rfl rfl (by decide +kernel) ⟨Nat.le_of_ble_eq_true rfl, Nat.le_of_ble_eq_true rfl⟩) (xB.preV hKc hPc (ci := 3) (q0 := 0) rfl rfl) rfl rfl hl.1 rfl (lv_room (Nat.le_of_ble_eq_true rfl)) dX0_putSum_22 ⟨Nat.le_of_ble_eq_true rfl, Nat.le_of_ble_eq_true rfl⟩) hS xA_old (fun q h => hA q (Nat.le_trans hS.1 h)) (fun r_4 u t H locs ht hvm hw hB hz hk hS => ?_)
    replace hw : r_4 = b2i (o_X1_haveSum w (f p0.toNatClampNeg) (f p1.toNatClampNeg)) := hw
    subst r_4
    have hP := xP_keep hP hk
    refine xz_ne (tgt := 33) hx hb dX0_putSum_25 (by decide +kernel) (fun c_5 => ?_) (fun c_5 => ?_)
    · skip
      refine lv_aload_n hx hb dX0_putSum_33 rfl (lv_at hl 0 rfl) ?_
      refine lv_iload_n hx hb dX0_putSum_34 rfl (lv_at hl 3 rfl) ?_
      refine lv_aload_n hx hb dX0_putSum_35 rfl (lv_at hl 0 rfl) ?_
      refine va_get (D := (dC, dI)) (ci := 2) (v := .ref aw) (C := RX0) (T := TX0) (N := 5) hx hb hts (by decide +kernel) hown hK hP 0 rfl rfl 0 (by decide +kernel) (hts (.fieldLink RX0 9 "Edgefloats$Row" "width" "LEdgefloats$Width;") (by decide +kernel)) (fun _ h9 => h9) rfl dX0_putSum_36 ?_
      refine lv_aload_n hx hb dX0_putSum_39 rfl (lv_at hl 0 rfl) ?_
      refine va_get (D := (dC, dI)) (ci := 2) (v := .ref ac) (C := RX0) (T := TX0) (N := 5) hx hb hts (by decide +kernel) hown hK hP 0 rfl rfl 1 (by decide +kernel) (hts (.fieldLink RX0 15 "Edgefloats$Row" "cells" "[J") (by decide +kernel)) (fun _ h9 => h9) rfl dX0_putSum_40 ?_
      refine lv_iload_n hx hb dX0_putSum_43 rfl (lv_at hl 1 rfl) ?_
      refine xa_lald hx hb hK hP 2 0 (f := f) rfl rfl (k := p0.toNatClampNeg) (xm_ccs c_3).1 rfl dX0_putSum_44 ?_
      refine lv_aload_n hx hb dX0_putSum_45 rfl (lv_at hl 0 rfl) ?_
      refine va_get (D := (dC, dI)) (ci := 2) (v := .ref ac) (C := RX0) (T := TX0) (N := 5) hx hb hts (by decide +kernel) hown hK hP 0 rfl rfl 1 (by decide +kernel) (hts (.fieldLink RX0 15 "Edgefloats$Row" "cells" "[J") (by decide +kernel)) (fun _ h9 => h9) rfl dX0_putSum_46 ?_
      refine lv_iload_n hx hb dX0_putSum_49 rfl (lv_at hl 2 rfl) ?_
      refine xa_lald hx hb hK hP 2 0 (f := f) rfl rfl (k := p1.toNatClampNeg) (xm_ccs c_3).2.1 rfl dX0_putSum_50 ?_
      have hPc := hP.sub (ws' := [(aw, eW w)]) [1] rfl
      have hKc := hK.sub (tys' := []) [] rfl
      refine va_calll (va_runV (As := [.long (f p0.toNatClampNeg), .long (f p1.toNatClampNeg)]) (rest := [.int p2, .ref h0]) ⟨hx, hb, hml, hown, hts⟩ (k_X1_sum l dC dI aw w H.size (f p0.toNatClampNeg) (f p1.toNatClampNeg)) (cwV 2 hts gX0_putSum_X1_sum rfl rfl rfl (by decide +kernel) ⟨Nat.le_of_ble_eq_true rfl, Nat.le_of_ble_eq_true rfl⟩) (xB.preV hKc hPc (ci := 3) (q0 := 0) rfl rfl) rfl rfl hl.1 rfl (lv_room (Nat.le_of_ble_eq_true rfl)) dX0_putSum_51 ⟨Nat.le_of_ble_eq_true rfl, Nat.le_of_ble_eq_true rfl⟩) hS xA_old (fun q h => hA q (Nat.le_trans hS.1 h)) (fun r_6 u t H locs ht hvm hw hB hz hk hS => ?_)
      replace hw : r_6 = (o_X1_sum w (f p0.toNatClampNeg) (f p1.toNatClampNeg)) := hw
      subst r_6
      have hP := xP_keep hP hk
      have hPc := hP.sub (ws' := [(h0, eR aw ac ab a rv), (aw, eW w), (ac, eA cy f), (ab, eA cy g)]) [0, 1, 2, 3] rfl
      have hDc := hD.sub (ws' := [(h0, eR aw ac ab a rv), (aw, eW w), (ac, eA cy f), (ab, eA cy g)]) [0, 1, 2, 3] (by decide +kernel) rfl
      have hKc := hK.sub (tys' := [(cy, .long)]) [0] rfl
      have hFc := va_free (wc := [(h0, eR aw ac ab a rv), (aw, eW w), (ac, eA cy f), (ab, eA cy g)]) hD hS hA [0, 1, 2, 3] rfl
      refine va_calli (va_runV (As := [.int p2, .long (o_X1_sum w (f p0.toNatClampNeg) (f p1.toNatClampNeg))]) (rest := []) ⟨hx, hb, hml, hown, hts⟩ (k_X0_place l dC dI cy h0 aw ac ab w a rv f g H.size N p2 (o_X1_sum w (f p0.toNatClampNeg) (f p1.toNatClampNeg)) (xm_ccs c_3).2.2) (cwV 2 hts gX0_putSum_X0_place rfl rfl rfl (by decide +kernel) ⟨Nat.le_of_ble_eq_true rfl, Nat.le_of_ble_eq_true rfl⟩) (xM.preV hKc hPc hDc hAN (Nat.le_trans hN hS.1) (hG.kept hS hAN) (ci := 2) (q0 := 0) rfl rfl) rfl rfl hl.1 rfl (lv_room (Nat.le_of_ble_eq_true rfl)) dX0_putSum_54 ⟨Nat.le_of_ble_eq_true rfl, Nat.le_of_ble_eq_true rfl⟩) hS (fun q _ h => hFc q h) hFc (fun r_7 u t H locs ht hvm hw hB hz hk hS => ?_)
      replace hw : r_7 = (o_X0_place a f p2 (o_X1_sum w (f p0.toNatClampNeg) (f p1.toNatClampNeg))).1 := hw
      subst r_7
      obtain ⟨hP1, hD1⟩ := hB
      rw [ht] at hP1
      obtain ⟨hP, hD⟩ := va_join (wr := []) (w1 := [(h0, eR aw ac ab (o_X0_place a f p2 (o_X1_sum w (f p0.toNatClampNeg) (f p1.toNatClampNeg))).2.1 rv), (aw, eW w), (ac, eA cy (o_X0_place a f p2 (o_X1_sum w (f p0.toNatClampNeg) (f p1.toNatClampNeg))).2.2), (ab, eA cy g)]) hP hD [0, 1, 2, 3] [] rfl rfl (by decide +kernel) (by decide +kernel) hk hFc hP1 hD1
      have hP := hP.sub (ws' := [(h0, eR aw ac ab (o_X0_place a f p2 (o_X1_sum w (f p0.toNatClampNeg) (f p1.toNatClampNeg))).2.1 rv), (aw, eW w), (ac, eA cy (o_X0_place a f p2 (o_X1_sum w (f p0.toNatClampNeg) (f p1.toNatClampNeg))).2.2), (ab, eA cy g)]) [0, 1, 2, 3] rfl
      have hD := hD.sub (ws' := [(h0, eR aw ac ab (o_X0_place a f p2 (o_X1_sum w (f p0.toNatClampNeg) (f p1.toNatClampNeg))).2.1 rv), (aw, eW w), (ac, eA cy (o_X0_place a f p2 (o_X1_sum w (f p0.toNatClampNeg) (f p1.toNatClampNeg))).2.2), (ab, eA cy g)]) [0, 1, 2, 3] (by decide +kernel) rfl
      have he : o_X0_putSum w a rv f p0 p1 p2 = (0, (o_X0_place a f p2 (o_X1_sum w (f p0.toNatClampNeg) (f p1.toNatClampNeg))).1, (o_X0_place a f p2 (o_X1_sum w (f p0.toNatClampNeg) (f p1.toNatClampNeg))).2.1, rv, (o_X0_place a f p2 (o_X1_sum w (f p0.toNatClampNeg) (f p1.toNatClampNeg))).2.2) := by (rw [o_X0_putSum, if_pos c_3, if_pos c_5]) <;> rfl
      refine W.widen (k := 3) (n := 18) (by omega) (by omega) ?_
      refine vx_ret ?_
      exact W.iret (v := ((o_X0_place a f p2 (o_X1_sum w (f p0.toNatClampNeg) (f p1.toNatClampNeg))).1)) hx hb hr (fun t ht hW => ⟨⟨_, (), rfl, ⟨(by (rw [he]) <;> rfl), (by (rw [he]) <;> rfl)⟩, (by rw [he]; exact ⟨by rw [ht]; exact hP, hD⟩)⟩, hS.F ht⟩) hS.2.2 dX0_putSum_57
    · skip
      refine lv_aload_n hx hb dX0_putSum_28 rfl (lv_at hl 0 rfl) ?_
      have hPc := hP.sub (ws' := [(h0, eR aw ac ab a rv), (aw, eW w), (ac, eA cy f), (ab, eA cy g)]) [0, 1, 2, 3] rfl
      have hDc := hD.sub (ws' := [(h0, eR aw ac ab a rv), (aw, eW w), (ac, eA cy f), (ab, eA cy g)]) [0, 1, 2, 3] (by decide +kernel) rfl
      have hKc := hK.sub (tys' := [(cy, .long)]) [0] rfl
      have hFc := va_free (wc := [(h0, eR aw ac ab a rv), (aw, eW w), (ac, eA cy f), (ab, eA cy g)]) hD hS hA [0, 1, 2, 3] rfl
      refine va_calli (va_runV (As := []) (rest := []) ⟨hx, hb, hml, hown, hts⟩ (k_X0_refuse l dC dI cy h0 aw ac ab w a rv f g H.size N) (cwV 0 hts gX0_putSum_X0_refuse rfl rfl rfl (by decide +kernel) ⟨Nat.le_of_ble_eq_true rfl, Nat.le_of_ble_eq_true rfl⟩) (xM.preV hKc hPc hDc hAN (Nat.le_trans hN hS.1) (hG.kept hS hAN) (ci := 2) (q0 := 0) rfl rfl) rfl rfl hl.1 rfl (lv_room (Nat.le_of_ble_eq_true rfl)) dX0_putSum_29 ⟨Nat.le_of_ble_eq_true rfl, Nat.le_of_ble_eq_true rfl⟩) hS (fun q _ h => hFc q h) hFc (fun r_8 u t H locs ht hvm hw hB hz hk hS => ?_)
      replace hw : r_8 = (o_X0_refuse rv).1 := hw
      subst r_8
      obtain ⟨hP1, hD1⟩ := hB
      rw [ht] at hP1
      obtain ⟨hP, hD⟩ := va_join (wr := []) (w1 := [(h0, eR aw ac ab a (o_X0_refuse rv).2), (aw, eW w), (ac, eA cy f), (ab, eA cy g)]) hP hD [0, 1, 2, 3] [] rfl rfl (by decide +kernel) (by decide +kernel) hk hFc hP1 hD1
      have hP := hP.sub (ws' := [(h0, eR aw ac ab a (o_X0_refuse rv).2), (aw, eW w), (ac, eA cy f), (ab, eA cy g)]) [0, 1, 2, 3] rfl
      have hD := hD.sub (ws' := [(h0, eR aw ac ab a (o_X0_refuse rv).2), (aw, eW w), (ac, eA cy f), (ab, eA cy g)]) [0, 1, 2, 3] (by decide +kernel) rfl
      have he : o_X0_putSum w a rv f p0 p1 p2 = (0, (o_X0_refuse rv).1, a, (o_X0_refuse rv).2, f) := by (rw [o_X0_putSum, if_pos c_3, if_neg c_5]) <;> rfl
      refine W.widen (k := 3) (n := 18) (by omega) (by omega) ?_
      refine vx_ret ?_
      exact W.iret (v := ((o_X0_refuse rv).1)) hx hb hr (fun t ht hW => ⟨⟨_, (), rfl, ⟨(by (rw [he]) <;> rfl), (by (rw [he]) <;> rfl)⟩, (by rw [he]; exact ⟨by rw [ht]; exact hP, hD⟩)⟩, hS.F ht⟩) hS.2.2 dX0_putSum_32
theorem cl_X0_firstHalf_1 : ∀ w ∈ [.fieldLink RX0 15 "Edgefloats$Row" "cells" "[J", .static yX2_checkCell, .initialized RX2, .code yX2_checkCell cX2_checkCell 1 none, .classLink RX2 148 "java/lang/IndexOutOfBoundsException", .initialized "java/lang/IndexOutOfBoundsException"], w ∈ wsX0_firstHalf := fun _ h => (List.mem_cons_of_mem _ (List.mem_append_left _ (List.mem_append_left _ h)))
theorem cl_X0_firstHalf_2 : ∀ w ∈ wsX00, w ∈ wsX0_firstHalf := fun _ h => (List.mem_cons_of_mem _ (List.mem_append_left _ (List.mem_append_right _ h)))
theorem cl_X0_firstHalf_3 : ∀ w ∈ (vx_atS RX2 152 "java/lang/IndexOutOfBoundsException" ["java/lang/RuntimeException", "java/lang/Exception"]).filter goodWord, w ∈ wsX0_firstHalf := fun _ h => (List.mem_cons_of_mem _ (List.mem_append_right _ h))
set_option maxRecDepth 20000 in
theorem ggX0_firstHalf_X2_checkCell : GoodIn wsX0_firstHalf wsX2_checkCell := goodIn_sub (List.forall_mem_cons.mpr ⟨(cl_X0_firstHalf_1 _ (List.mem_of_getElem? (i := 3) rfl)), fun w h => (List.mem_append.mp h).elim ((List.forall_mem_cons.mpr ⟨(cl_X0_firstHalf_1 _ (List.mem_of_getElem? (i := 4) rfl)), List.forall_mem_cons.mpr ⟨(cl_X0_firstHalf_1 _ (List.mem_of_getElem? (i := 5) rfl)), fun _ h => absurd h List.not_mem_nil⟩⟩) w) ((cl_X0_firstHalf_3) w)⟩) (by decide +kernel)
set_option maxRecDepth 20000 in
theorem gX0_firstHalf_X2_checkCell_n22 : GoodIn wsX0_firstHalf (wsX2_checkCell) := ggX0_firstHalf_X2_checkCell
noncomputable def dz_p11_14 : List (Nat × Instr × Nat) := [(0, (.iload_n 1, 1)), (1, (.invokestatic 22, 3)), (4, (.aload_n 0, 1)), (5, (.getfield 15, 3)), (8, (.iload_n 1, 1)), (9, (.laload, 1)), (10, (.bipush 32, 2)), (12, (.lushr, 1)), (13, (.l2i, 1)), (14, (.ireturn, 1))]
theorem dy_p11_14 : dz_ok cX0_firstHalf dz_p11_14 = true := by decide +kernel
theorem dX0_firstHalf_0 : decode cX0_firstHalf 0 = .ok (.iload_n 1, 1) := dz_at (i := 0) dy_p11_14 rfl
theorem dX0_firstHalf_1 : decode cX0_firstHalf 1 = .ok (.invokestatic 22, 3) := dz_at (i := 1) dy_p11_14 rfl
theorem dX0_firstHalf_4 : decode cX0_firstHalf 4 = .ok (.aload_n 0, 1) := dz_at (i := 2) dy_p11_14 rfl
theorem dX0_firstHalf_5 : decode cX0_firstHalf 5 = .ok (.getfield 15, 3) := dz_at (i := 3) dy_p11_14 rfl
theorem dX0_firstHalf_8 : decode cX0_firstHalf 8 = .ok (.iload_n 1, 1) := dz_at (i := 4) dy_p11_14 rfl
theorem dX0_firstHalf_9 : decode cX0_firstHalf 9 = .ok (.laload, 1) := dz_at (i := 5) dy_p11_14 rfl
theorem dX0_firstHalf_10 : decode cX0_firstHalf 10 = .ok (.bipush 32, 2) := dz_at (i := 6) dy_p11_14 rfl
theorem dX0_firstHalf_12 : decode cX0_firstHalf 12 = .ok (.lushr, 1) := dz_at (i := 7) dy_p11_14 rfl
theorem dX0_firstHalf_13 : decode cX0_firstHalf 13 = .ok (.l2i, 1) := dz_at (i := 8) dy_p11_14 rfl
theorem dX0_firstHalf_14 : decode cX0_firstHalf 14 = .ok (.ireturn, 1) := dz_at (i := 9) dy_p11_14 rfl
noncomputable def o_X0_firstHalf (f : Nat → Int64) (p0 : Int32) : Int32 × Int32 :=
  if (o_X2_checkCell p0) = 0 then (0, ((jLushr (f p0.toNatClampNeg) 32).toInt32))
  else ((o_X2_checkCell p0), 0)
set_option maxHeartbeats 4000000 in
set_option maxRecDepth 100000 in
theorem k_X0_firstHalf (l : Launch) (hfl : l.flags = flags0) (dC : Nat → ClassId) (dI : Nat → Nat → Nat) (cy : ClassId) (h0 : Nat) (aw : Nat) (ac : Nat) (ab : Nat) (w : Bool) (a : Int32) (rv : Int32) (f : Nat → Int64) (g : Nat → Int64) (sz : Nat) (N : Nat) (p0 : Int32) : vx_Met l yX0_firstHalf wsX0_firstHalf ({ frames := 7, cells := 1, slots := 6, locals := 120 }) (va_Pc [.ref h0, .int p0] (xM (dC, dI) xCl [(h0, eR aw ac ab a rv), (aw, eW w), (ac, eA cy f), (ab, eA cy g)] [(cy, .long)] sz N)) (va_Qi (fun (r : Int32) (_ : Unit) => (o_X0_firstHalf f p0).1 = 0 ∧ r = (o_X0_firstHalf f p0).2) (fun _ _ => True) (aN sz)) (vx_X (fun _ : Unit => ¬ (o_X0_firstHalf f p0).1 = 0) (fun E _ _ => E = xE (o_X0_firstHalf f p0).1) (aN sz)) 1 6 (aN sz) := by
  refine vx_ofW (cc := cX0_firstHalf) (maxL := 2) (ret := (some .int)) (by decide +kernel) rfl ?_
  intro p e s m args below meth c s₁ B hml hno hv
  obtain ⟨rfl, hsz, hP, hK, hD0, hN, hG⟩ := hv
  have hx := B.exec
  have hb := B.bytes
  have hr := B.returns
  have hts := atoms_spec (ws := wsX0_firstHalf) B.pre
  have hown : s.vm.findClass RX0 = some m.cls := findClass_of_methodNamed B.named
  have hlocks := B.notSynchronized
  subst hsz
  have hA : ∀ q : Nat, s.heap.size ≤ q → aN s.heap.size q := fun _ h => h
  have hD := hD0
  have hAN : ∀ q, aN s.heap.size q → N ≤ q := fun q h => Nat.le_trans hN h
  have hS : va_S (aN s.heap.size) s.heap s.heap [] := va_S.rf
  have hP : va_P (dC, dI) xCl [(h0, eR aw ac ab a rv), (aw, eW w), (ac, eA cy f), (ab, eA cy g)] s.heap := hP
  have hl := lv_entry ([.ref h0, .int p0]) (n := 2) (Nat.le_of_ble_eq_true rfl)
  rw [lg_entry_eq]
  generalize (lg_sl ([.ref h0, .int p0]) ++ List.replicate (2 - (lg_sl ([.ref h0, .int p0])).length) Slot.unset).toArray = ls at hl ⊢
  have hl : lv_has ls 2 [(0, .ref h0), (1, .int p0)] := hl
  refine lv_iload_n hx hb dX0_firstHalf_0 rfl (lv_at hl 1 rfl) ?_
  have hPc := hP.sub (ws' := []) [] rfl
  have hDc := hD.sub (ws' := []) [] (by decide +kernel) rfl
  have hKc := hK.sub (tys' := []) [] rfl
  refine vx_callv (vx_runSN (As := [.int p0]) (rest := []) ⟨hx, hb, hml, hown, hts⟩ (k_X2_checkCell l hfl dC dI s.heap.size N p0) ⟨va_cnB 1 hts gX0_firstHalf_X2_checkCell_n22 rfl rfl rfl (hG.1 (.methodLinkNest RX0 22 yX2_checkCell RX2) (List.mem_of_getElem? (i := 0) rfl)) (hts (.initialized RX2) (by decide +kernel)) (by decide +kernel) ⟨Nat.le_of_ble_eq_true rfl, Nat.le_of_ble_eq_true rfl⟩, hts (.static yX2_checkCell) (by decide +kernel), trivial⟩ (xM.preS hKc hPc hDc (fun _ h => h) (Nat.le_trans hN hS.1) (hG.kept hS hAN)) rfl rfl hl.1 rfl (lv_room (Nat.le_of_ble_eq_true rfl)) dX0_firstHalf_1 ⟨Nat.le_of_ble_eq_true rfl, Nat.le_of_ble_eq_true rfl⟩) hS xA_old (fun q h => hA q (Nat.le_trans hS.1 h)) xA_old (fun E ce q9 u9 t H locs ht hvm hpx hbx hz hk hS hce hcv hcl => ?_) (fun u t H locs ht hvm hw hB hz hk hS => ?_)
  · have c_2 : ¬ (o_X2_checkCell p0) = 0 := hpx
    have hbe := hbx
    have hP := xP_keep hP hk
    have he : o_X0_firstHalf f p0 = ((o_X2_checkCell p0), 0) := by (rw [o_X0_firstHalf, if_neg c_2]) <;> rfl
    exact vx_out (fun x hx => (hno x hx).elim) hlocks hce hcv hcl (fun t ht hvm => ⟨(), by rw [he]; exact c_2, by rw [he]; exact hbe, hS.F ht⟩) hS.2.2 (by omega) (by omega)
  · skip
    have c_3 := hw
    have c_3 : (o_X2_checkCell p0) = 0 := c_3
    have hP := xP_keep hP hk
    refine lv_aload_n hx hb dX0_firstHalf_4 rfl (lv_at hl 0 rfl) ?_
    refine va_get (D := (dC, dI)) (ci := 2) (v := .ref ac) (C := RX0) (T := TX0) (N := 5) hx hb hts (by decide +kernel) hown hK hP 0 rfl rfl 1 (by decide +kernel) (hts (.fieldLink RX0 15 "Edgefloats$Row" "cells" "[J") (by decide +kernel)) (fun _ h9 => h9) rfl dX0_firstHalf_5 ?_
    refine lv_iload_n hx hb dX0_firstHalf_8 rfl (lv_at hl 1 rfl) ?_
    refine xa_lald hx hb hK hP 2 0 (f := f) rfl rfl (k := p0.toNatClampNeg) (xm_cc c_3) rfl dX0_firstHalf_9 ?_
    refine lv_bipush (v := 32) hx hb dX0_firstHalf_10 (by decide +kernel) ?_
    refine lv_lushr (v := (jLushr (f p0.toNatClampNeg) 32)) hx hb dX0_firstHalf_12 rfl ?_
    refine lv_l2i (v := ((jLushr (f p0.toNatClampNeg) 32).toInt32)) hx hb dX0_firstHalf_13 rfl ?_
    have he : o_X0_firstHalf f p0 = (0, ((jLushr (f p0.toNatClampNeg) 32).toInt32)) := by (rw [o_X0_firstHalf, if_pos c_3]) <;> rfl
    refine W.widen (k := 1) (n := 6) (by omega) (by omega) ?_
    refine vx_ret ?_
    exact W.iret (v := ((jLushr (f p0.toNatClampNeg) 32).toInt32)) hx hb hr (fun t ht hW => ⟨⟨_, (), rfl, ⟨(by (rw [he]) <;> rfl), (by (rw [he]) <;> rfl)⟩, trivial⟩, hS.F ht⟩) hS.2.2 dX0_firstHalf_14
theorem cl_X0_lastHalf_1 : ∀ w ∈ [.fieldLink RX0 15 "Edgefloats$Row" "cells" "[J", .static yX2_checkCell, .initialized RX2, .code yX2_checkCell cX2_checkCell 1 none, .classLink RX2 148 "java/lang/IndexOutOfBoundsException", .initialized "java/lang/IndexOutOfBoundsException"], w ∈ wsX0_lastHalf := fun _ h => (List.mem_cons_of_mem _ (List.mem_append_left _ (List.mem_append_left _ h)))
theorem cl_X0_lastHalf_2 : ∀ w ∈ wsX00, w ∈ wsX0_lastHalf := fun _ h => (List.mem_cons_of_mem _ (List.mem_append_left _ (List.mem_append_right _ h)))
theorem cl_X0_lastHalf_3 : ∀ w ∈ (vx_atS RX2 152 "java/lang/IndexOutOfBoundsException" ["java/lang/RuntimeException", "java/lang/Exception"]).filter goodWord, w ∈ wsX0_lastHalf := fun _ h => (List.mem_cons_of_mem _ (List.mem_append_right _ h))
set_option maxRecDepth 20000 in
theorem ggX0_lastHalf_X2_checkCell : GoodIn wsX0_lastHalf wsX2_checkCell := goodIn_sub (List.forall_mem_cons.mpr ⟨(cl_X0_lastHalf_1 _ (List.mem_of_getElem? (i := 3) rfl)), fun w h => (List.mem_append.mp h).elim ((List.forall_mem_cons.mpr ⟨(cl_X0_lastHalf_1 _ (List.mem_of_getElem? (i := 4) rfl)), List.forall_mem_cons.mpr ⟨(cl_X0_lastHalf_1 _ (List.mem_of_getElem? (i := 5) rfl)), fun _ h => absurd h List.not_mem_nil⟩⟩) w) ((cl_X0_lastHalf_3) w)⟩) (by decide +kernel)
set_option maxRecDepth 20000 in
theorem gX0_lastHalf_X2_checkCell_n22 : GoodIn wsX0_lastHalf (wsX2_checkCell) := ggX0_lastHalf_X2_checkCell
noncomputable def dz_p11_15 : List (Nat × Instr × Nat) := [(0, (.iload_n 1, 1)), (1, (.invokestatic 22, 3)), (4, (.aload_n 0, 1)), (5, (.getfield 15, 3)), (8, (.iload_n 1, 1)), (9, (.laload, 1)), (10, (.l2i, 1)), (11, (.ireturn, 1))]
theorem dy_p11_15 : dz_ok cX0_lastHalf dz_p11_15 = true := by decide +kernel
theorem dX0_lastHalf_0 : decode cX0_lastHalf 0 = .ok (.iload_n 1, 1) := dz_at (i := 0) dy_p11_15 rfl
theorem dX0_lastHalf_1 : decode cX0_lastHalf 1 = .ok (.invokestatic 22, 3) := dz_at (i := 1) dy_p11_15 rfl
theorem dX0_lastHalf_4 : decode cX0_lastHalf 4 = .ok (.aload_n 0, 1) := dz_at (i := 2) dy_p11_15 rfl
theorem dX0_lastHalf_5 : decode cX0_lastHalf 5 = .ok (.getfield 15, 3) := dz_at (i := 3) dy_p11_15 rfl
theorem dX0_lastHalf_8 : decode cX0_lastHalf 8 = .ok (.iload_n 1, 1) := dz_at (i := 4) dy_p11_15 rfl
theorem dX0_lastHalf_9 : decode cX0_lastHalf 9 = .ok (.laload, 1) := dz_at (i := 5) dy_p11_15 rfl
theorem dX0_lastHalf_10 : decode cX0_lastHalf 10 = .ok (.l2i, 1) := dz_at (i := 6) dy_p11_15 rfl
theorem dX0_lastHalf_11 : decode cX0_lastHalf 11 = .ok (.ireturn, 1) := dz_at (i := 7) dy_p11_15 rfl
noncomputable def o_X0_lastHalf (f : Nat → Int64) (p0 : Int32) : Int32 × Int32 :=
  if (o_X2_checkCell p0) = 0 then (0, ((f p0.toNatClampNeg).toInt32))
  else ((o_X2_checkCell p0), 0)
set_option maxHeartbeats 4000000 in
set_option maxRecDepth 100000 in
theorem k_X0_lastHalf (l : Launch) (hfl : l.flags = flags0) (dC : Nat → ClassId) (dI : Nat → Nat → Nat) (cy : ClassId) (h0 : Nat) (aw : Nat) (ac : Nat) (ab : Nat) (w : Bool) (a : Int32) (rv : Int32) (f : Nat → Int64) (g : Nat → Int64) (sz : Nat) (N : Nat) (p0 : Int32) : vx_Met l yX0_lastHalf wsX0_lastHalf ({ frames := 7, cells := 1, slots := 6, locals := 120 }) (va_Pc [.ref h0, .int p0] (xM (dC, dI) xCl [(h0, eR aw ac ab a rv), (aw, eW w), (ac, eA cy f), (ab, eA cy g)] [(cy, .long)] sz N)) (va_Qi (fun (r : Int32) (_ : Unit) => (o_X0_lastHalf f p0).1 = 0 ∧ r = (o_X0_lastHalf f p0).2) (fun _ _ => True) (aN sz)) (vx_X (fun _ : Unit => ¬ (o_X0_lastHalf f p0).1 = 0) (fun E _ _ => E = xE (o_X0_lastHalf f p0).1) (aN sz)) 1 6 (aN sz) := by
  refine vx_ofW (cc := cX0_lastHalf) (maxL := 2) (ret := (some .int)) (by decide +kernel) rfl ?_
  intro p e s m args below meth c s₁ B hml hno hv
  obtain ⟨rfl, hsz, hP, hK, hD0, hN, hG⟩ := hv
  have hx := B.exec
  have hb := B.bytes
  have hr := B.returns
  have hts := atoms_spec (ws := wsX0_lastHalf) B.pre
  have hown : s.vm.findClass RX0 = some m.cls := findClass_of_methodNamed B.named
  have hlocks := B.notSynchronized
  subst hsz
  have hA : ∀ q : Nat, s.heap.size ≤ q → aN s.heap.size q := fun _ h => h
  have hD := hD0
  have hAN : ∀ q, aN s.heap.size q → N ≤ q := fun q h => Nat.le_trans hN h
  have hS : va_S (aN s.heap.size) s.heap s.heap [] := va_S.rf
  have hP : va_P (dC, dI) xCl [(h0, eR aw ac ab a rv), (aw, eW w), (ac, eA cy f), (ab, eA cy g)] s.heap := hP
  have hl := lv_entry ([.ref h0, .int p0]) (n := 2) (Nat.le_of_ble_eq_true rfl)
  rw [lg_entry_eq]
  generalize (lg_sl ([.ref h0, .int p0]) ++ List.replicate (2 - (lg_sl ([.ref h0, .int p0])).length) Slot.unset).toArray = ls at hl ⊢
  have hl : lv_has ls 2 [(0, .ref h0), (1, .int p0)] := hl
  refine lv_iload_n hx hb dX0_lastHalf_0 rfl (lv_at hl 1 rfl) ?_
  have hPc := hP.sub (ws' := []) [] rfl
  have hDc := hD.sub (ws' := []) [] (by decide +kernel) rfl
  have hKc := hK.sub (tys' := []) [] rfl
  refine vx_callv (vx_runSN (As := [.int p0]) (rest := []) ⟨hx, hb, hml, hown, hts⟩ (k_X2_checkCell l hfl dC dI s.heap.size N p0) ⟨va_cnB 1 hts gX0_lastHalf_X2_checkCell_n22 rfl rfl rfl (hG.1 (.methodLinkNest RX0 22 yX2_checkCell RX2) (List.mem_of_getElem? (i := 0) rfl)) (hts (.initialized RX2) (by decide +kernel)) (by decide +kernel) ⟨Nat.le_of_ble_eq_true rfl, Nat.le_of_ble_eq_true rfl⟩, hts (.static yX2_checkCell) (by decide +kernel), trivial⟩ (xM.preS hKc hPc hDc (fun _ h => h) (Nat.le_trans hN hS.1) (hG.kept hS hAN)) rfl rfl hl.1 rfl (lv_room (Nat.le_of_ble_eq_true rfl)) dX0_lastHalf_1 ⟨Nat.le_of_ble_eq_true rfl, Nat.le_of_ble_eq_true rfl⟩) hS xA_old (fun q h => hA q (Nat.le_trans hS.1 h)) xA_old (fun E ce q9 u9 t H locs ht hvm hpx hbx hz hk hS hce hcv hcl => ?_) (fun u t H locs ht hvm hw hB hz hk hS => ?_)
  · have c_2 : ¬ (o_X2_checkCell p0) = 0 := hpx
    have hbe := hbx
    have hP := xP_keep hP hk
    have he : o_X0_lastHalf f p0 = ((o_X2_checkCell p0), 0) := by (rw [o_X0_lastHalf, if_neg c_2]) <;> rfl
    exact vx_out (fun x hx => (hno x hx).elim) hlocks hce hcv hcl (fun t ht hvm => ⟨(), by rw [he]; exact c_2, by rw [he]; exact hbe, hS.F ht⟩) hS.2.2 (by omega) (by omega)
  · skip
    have c_3 := hw
    have c_3 : (o_X2_checkCell p0) = 0 := c_3
    have hP := xP_keep hP hk
    refine lv_aload_n hx hb dX0_lastHalf_4 rfl (lv_at hl 0 rfl) ?_
    refine va_get (D := (dC, dI)) (ci := 2) (v := .ref ac) (C := RX0) (T := TX0) (N := 5) hx hb hts (by decide +kernel) hown hK hP 0 rfl rfl 1 (by decide +kernel) (hts (.fieldLink RX0 15 "Edgefloats$Row" "cells" "[J") (by decide +kernel)) (fun _ h9 => h9) rfl dX0_lastHalf_5 ?_
    refine lv_iload_n hx hb dX0_lastHalf_8 rfl (lv_at hl 1 rfl) ?_
    refine xa_lald hx hb hK hP 2 0 (f := f) rfl rfl (k := p0.toNatClampNeg) (xm_cc c_3) rfl dX0_lastHalf_9 ?_
    refine lv_l2i (v := ((f p0.toNatClampNeg).toInt32)) hx hb dX0_lastHalf_10 rfl ?_
    have he : o_X0_lastHalf f p0 = (0, ((f p0.toNatClampNeg).toInt32)) := by (rw [o_X0_lastHalf, if_pos c_3]) <;> rfl
    refine W.widen (k := 1) (n := 6) (by omega) (by omega) ?_
    refine vx_ret ?_
    exact W.iret (v := ((f p0.toNatClampNeg).toInt32)) hx hb hr (fun t ht hW => ⟨⟨_, (), rfl, ⟨(by (rw [he]) <;> rfl), (by (rw [he]) <;> rfl)⟩, trivial⟩, hS.F ht⟩) hS.2.2 dX0_lastHalf_11
theorem cl_X0_order_1 : ∀ w ∈ [.fieldLink RX0 9 "Edgefloats$Row" "width" "LEdgefloats$Width;", .fieldLink RX0 15 "Edgefloats$Row" "cells" "[J", .static yX2_checkCell, .initialized RX2, .code yX2_checkCell cX2_checkCell 1 none, .classLink RX2 148 "java/lang/IndexOutOfBoundsException", .initialized "java/lang/IndexOutOfBoundsException", .static yX2_checkChoice, .code yX2_checkChoice cX2_checkChoice 2 none, .classLink RX2 155 "java/lang/IllegalArgumentException", .initialized "java/lang/IllegalArgumentException", .methodLink RX0 92 yX1_order, .instanceMethod yX1_order, .selects RX1 yX1_order yX1_order, .initialized RX1, .code yX1_order cX1_order 9 (some .int), .methodLink RX1 42 yX1_standing, .instanceMethod yX1_standing, .selects RX1 yX1_standing yX1_standing, .code yX1_standing cX1_standing 5 (some .long), .fieldLink RX1 28 "Edgefloats$Width" "sizeOnes" "J", .fieldLink RX1 25 "Edgefloats$Width" "signOne" "J"], w ∈ wsX0_order := fun _ h => (List.mem_cons_of_mem _ (List.mem_append_left _ (List.mem_append_left _ (List.mem_append_left _ (List.mem_append_left _ h)))))
theorem cl_X0_order_2 : ∀ w ∈ wsX00, w ∈ wsX0_order := fun _ h => (List.mem_cons_of_mem _ (List.mem_append_left _ (List.mem_append_left _ (List.mem_append_left _ (List.mem_append_right _ h)))))
theorem cl_X0_order_3 : ∀ w ∈ wsX10, w ∈ wsX0_order := fun _ h => (List.mem_cons_of_mem _ (List.mem_append_left _ (List.mem_append_left _ (List.mem_append_right _ h))))
theorem cl_X0_order_4 : ∀ w ∈ (vx_atS RX2 152 "java/lang/IndexOutOfBoundsException" ["java/lang/RuntimeException", "java/lang/Exception"]).filter goodWord, w ∈ wsX0_order := fun _ h => (List.mem_cons_of_mem _ (List.mem_append_left _ (List.mem_append_right _ h)))
theorem cl_X0_order_5 : ∀ w ∈ (vx_atS RX2 159 "java/lang/IllegalArgumentException" ["java/lang/RuntimeException", "java/lang/Exception"]).filter goodWord, w ∈ wsX0_order := fun _ h => (List.mem_cons_of_mem _ (List.mem_append_right _ h))
set_option maxRecDepth 20000 in
theorem ggX0_order_X2_checkCell : GoodIn wsX0_order wsX2_checkCell := goodIn_sub (List.forall_mem_cons.mpr ⟨(cl_X0_order_1 _ (List.mem_of_getElem? (i := 4) rfl)), fun w h => (List.mem_append.mp h).elim ((List.forall_mem_cons.mpr ⟨(cl_X0_order_1 _ (List.mem_of_getElem? (i := 5) rfl)), List.forall_mem_cons.mpr ⟨(cl_X0_order_1 _ (List.mem_of_getElem? (i := 6) rfl)), fun _ h => absurd h List.not_mem_nil⟩⟩) w) ((cl_X0_order_4) w)⟩) (by decide +kernel)
set_option maxRecDepth 20000 in
theorem gX0_order_X2_checkCell_n22 : GoodIn wsX0_order (wsX2_checkCell) := ggX0_order_X2_checkCell
set_option maxRecDepth 20000 in
theorem ggX0_order_X2_checkChoice : GoodIn wsX0_order wsX2_checkChoice := goodIn_sub (List.forall_mem_cons.mpr ⟨(cl_X0_order_1 _ (List.mem_of_getElem? (i := 8) rfl)), fun w h => (List.mem_append.mp h).elim ((List.forall_mem_cons.mpr ⟨(cl_X0_order_1 _ (List.mem_of_getElem? (i := 9) rfl)), List.forall_mem_cons.mpr ⟨(cl_X0_order_1 _ (List.mem_of_getElem? (i := 10) rfl)), fun _ h => absurd h List.not_mem_nil⟩⟩) w) ((cl_X0_order_5) w)⟩) (by decide +kernel)
set_option maxRecDepth 20000 in
theorem gX0_order_X2_checkChoice_n55 : GoodIn wsX0_order (wsX2_checkChoice) := ggX0_order_X2_checkChoice
set_option maxRecDepth 20000 in
theorem ggX0_order_X1_order : GoodIn wsX0_order wsX1_order := goodIn_sub (List.forall_mem_cons.mpr ⟨(cl_X0_order_1 _ (List.mem_of_getElem? (i := 15) rfl)), fun w h => (List.mem_append.mp h).elim ((List.forall_mem_cons.mpr ⟨(cl_X0_order_1 _ (List.mem_of_getElem? (i := 16) rfl)), List.forall_mem_cons.mpr ⟨(cl_X0_order_1 _ (List.mem_of_getElem? (i := 17) rfl)), List.forall_mem_cons.mpr ⟨(cl_X0_order_1 _ (List.mem_of_getElem? (i := 18) rfl)), List.forall_mem_cons.mpr ⟨(cl_X0_order_1 _ (List.mem_of_getElem? (i := 14) rfl)), List.forall_mem_cons.mpr ⟨(cl_X0_order_1 _ (List.mem_of_getElem? (i := 19) rfl)), List.forall_mem_cons.mpr ⟨(cl_X0_order_1 _ (List.mem_of_getElem? (i := 20) rfl)), List.forall_mem_cons.mpr ⟨(cl_X0_order_1 _ (List.mem_of_getElem? (i := 21) rfl)), fun _ h => absurd h List.not_mem_nil⟩⟩⟩⟩⟩⟩⟩) w) ((cl_X0_order_3) w)⟩) (by decide +kernel)
set_option maxRecDepth 20000 in
theorem gX0_order_X1_order : GoodIn wsX0_order (wsV RX0 92 RX1 yX1_order wsX1_order) := goodIn_app (goodIn_sub (List.forall_mem_cons.mpr ⟨(cl_X0_order_1 _ (List.mem_of_getElem? (i := 11) rfl)), List.forall_mem_cons.mpr ⟨(cl_X0_order_1 _ (List.mem_of_getElem? (i := 12) rfl)), List.forall_mem_cons.mpr ⟨(cl_X0_order_1 _ (List.mem_of_getElem? (i := 13) rfl)), List.forall_mem_cons.mpr ⟨(cl_X0_order_1 _ (List.mem_of_getElem? (i := 14) rfl)), fun _ h => absurd h List.not_mem_nil⟩⟩⟩⟩) (by decide +kernel)) ggX0_order_X1_order
noncomputable def dz_p11_16 : List (Nat × Instr × Nat) := [(0, (.iload_n 1, 1)), (1, (.invokestatic 22, 3)), (4, (.iload_n 2, 1)), (5, (.invokestatic 22, 3)), (8, (.iload_n 3, 1)), (9, (.iconst 2, 1)), (10, (.invokestatic 55, 3)), (13, (.aload_n 0, 1)), (14, (.getfield 9, 3)), (17, (.aload_n 0, 1)), (18, (.getfield 15, 3)), (21, (.iload_n 1, 1)), (22, (.laload, 1)), (23, (.aload_n 0, 1)), (24, (.getfield 15, 3)), (27, (.iload_n 2, 1)), (28, (.laload, 1)), (29, (.invokevirtual 92, 3)), (32, (.ireturn, 1))]
theorem dy_p11_16 : dz_ok cX0_order dz_p11_16 = true := by decide +kernel
theorem dX0_order_0 : decode cX0_order 0 = .ok (.iload_n 1, 1) := dz_at (i := 0) dy_p11_16 rfl
theorem dX0_order_1 : decode cX0_order 1 = .ok (.invokestatic 22, 3) := dz_at (i := 1) dy_p11_16 rfl
theorem dX0_order_4 : decode cX0_order 4 = .ok (.iload_n 2, 1) := dz_at (i := 2) dy_p11_16 rfl
theorem dX0_order_5 : decode cX0_order 5 = .ok (.invokestatic 22, 3) := dz_at (i := 3) dy_p11_16 rfl
theorem dX0_order_8 : decode cX0_order 8 = .ok (.iload_n 3, 1) := dz_at (i := 4) dy_p11_16 rfl
theorem dX0_order_9 : decode cX0_order 9 = .ok (.iconst 2, 1) := dz_at (i := 5) dy_p11_16 rfl
theorem dX0_order_10 : decode cX0_order 10 = .ok (.invokestatic 55, 3) := dz_at (i := 6) dy_p11_16 rfl
theorem dX0_order_13 : decode cX0_order 13 = .ok (.aload_n 0, 1) := dz_at (i := 7) dy_p11_16 rfl
theorem dX0_order_14 : decode cX0_order 14 = .ok (.getfield 9, 3) := dz_at (i := 8) dy_p11_16 rfl
theorem dX0_order_17 : decode cX0_order 17 = .ok (.aload_n 0, 1) := dz_at (i := 9) dy_p11_16 rfl
theorem dX0_order_18 : decode cX0_order 18 = .ok (.getfield 15, 3) := dz_at (i := 10) dy_p11_16 rfl
theorem dX0_order_21 : decode cX0_order 21 = .ok (.iload_n 1, 1) := dz_at (i := 11) dy_p11_16 rfl
theorem dX0_order_22 : decode cX0_order 22 = .ok (.laload, 1) := dz_at (i := 12) dy_p11_16 rfl
theorem dX0_order_23 : decode cX0_order 23 = .ok (.aload_n 0, 1) := dz_at (i := 13) dy_p11_16 rfl
theorem dX0_order_24 : decode cX0_order 24 = .ok (.getfield 15, 3) := dz_at (i := 14) dy_p11_16 rfl
theorem dX0_order_27 : decode cX0_order 27 = .ok (.iload_n 2, 1) := dz_at (i := 15) dy_p11_16 rfl
theorem dX0_order_28 : decode cX0_order 28 = .ok (.laload, 1) := dz_at (i := 16) dy_p11_16 rfl
theorem dX0_order_29 : decode cX0_order 29 = .ok (.invokevirtual 92, 3) := dz_at (i := 17) dy_p11_16 rfl
theorem dX0_order_32 : decode cX0_order 32 = .ok (.ireturn, 1) := dz_at (i := 18) dy_p11_16 rfl
noncomputable def o_X0_order (w : Bool) (f : Nat → Int64) (p0 : Int32) (p1 : Int32) (p2 : Int32) : Int32 × Int32 :=
  if (o_X2_checkCell p0) = 0 then (if (o_X2_checkCell p1) = 0 then (if (o_X2_checkChoice p2 2) = 0 then (0, (o_X1_order w (f p0.toNatClampNeg) (f p1.toNatClampNeg)))
      else ((o_X2_checkChoice p2 2), 0))
    else ((o_X2_checkCell p1), 0))
  else ((o_X2_checkCell p0), 0)
set_option maxHeartbeats 4000000 in
set_option maxRecDepth 100000 in
theorem k_X0_order (l : Launch) (hfl : l.flags = flags0) (dC : Nat → ClassId) (dI : Nat → Nat → Nat) (cy : ClassId) (h0 : Nat) (aw : Nat) (ac : Nat) (ab : Nat) (w : Bool) (a : Int32) (rv : Int32) (f : Nat → Int64) (g : Nat → Int64) (sz : Nat) (N : Nat) (p0 : Int32) (p1 : Int32) (p2 : Int32) : vx_Met l yX0_order wsX0_order ({ frames := 7, cells := 3, slots := 18, locals := 121 }) (va_Pc [.ref h0, .int p0, .int p1, .int p2] (xM (dC, dI) xCl [(h0, eR aw ac ab a rv), (aw, eW w), (ac, eA cy f), (ab, eA cy g)] [(cy, .long)] sz N)) (va_Qi (fun (r : Int32) (_ : Unit) => (o_X0_order w f p0 p1 p2).1 = 0 ∧ r = (o_X0_order w f p0 p1 p2).2) (fun _ _ => True) (aN sz)) (vx_X (fun _ : Unit => ¬ (o_X0_order w f p0 p1 p2).1 = 0) (fun E _ _ => E = xE (o_X0_order w f p0 p1 p2).1) (aN sz)) 3 18 (aN sz) := by
  refine vx_ofW (cc := cX0_order) (maxL := 4) (ret := (some .int)) (by decide +kernel) rfl ?_
  intro p e s m args below meth c s₁ B hml hno hv
  obtain ⟨rfl, hsz, hP, hK, hD0, hN, hG⟩ := hv
  have hx := B.exec
  have hb := B.bytes
  have hr := B.returns
  have hts := atoms_spec (ws := wsX0_order) B.pre
  have hown : s.vm.findClass RX0 = some m.cls := findClass_of_methodNamed B.named
  have hlocks := B.notSynchronized
  subst hsz
  have hA : ∀ q : Nat, s.heap.size ≤ q → aN s.heap.size q := fun _ h => h
  have hD := hD0
  have hAN : ∀ q, aN s.heap.size q → N ≤ q := fun q h => Nat.le_trans hN h
  have hS : va_S (aN s.heap.size) s.heap s.heap [] := va_S.rf
  have hP : va_P (dC, dI) xCl [(h0, eR aw ac ab a rv), (aw, eW w), (ac, eA cy f), (ab, eA cy g)] s.heap := hP
  have hl := lv_entry ([.ref h0, .int p0, .int p1, .int p2]) (n := 4) (Nat.le_of_ble_eq_true rfl)
  rw [lg_entry_eq]
  generalize (lg_sl ([.ref h0, .int p0, .int p1, .int p2]) ++ List.replicate (4 - (lg_sl ([.ref h0, .int p0, .int p1, .int p2])).length) Slot.unset).toArray = ls at hl ⊢
  have hl : lv_has ls 4 [(0, .ref h0), (1, .int p0), (2, .int p1), (3, .int p2)] := hl
  refine lv_iload_n hx hb dX0_order_0 rfl (lv_at hl 1 rfl) ?_
  have hPc := hP.sub (ws' := []) [] rfl
  have hDc := hD.sub (ws' := []) [] (by decide +kernel) rfl
  have hKc := hK.sub (tys' := []) [] rfl
  refine vx_callv (vx_runSN (As := [.int p0]) (rest := []) ⟨hx, hb, hml, hown, hts⟩ (k_X2_checkCell l hfl dC dI s.heap.size N p0) ⟨va_cnB 1 hts gX0_order_X2_checkCell_n22 rfl rfl rfl (hG.1 (.methodLinkNest RX0 22 yX2_checkCell RX2) (List.mem_of_getElem? (i := 0) rfl)) (hts (.initialized RX2) (by decide +kernel)) (by decide +kernel) ⟨Nat.le_of_ble_eq_true rfl, Nat.le_of_ble_eq_true rfl⟩, hts (.static yX2_checkCell) (by decide +kernel), trivial⟩ (xM.preS hKc hPc hDc (fun _ h => h) (Nat.le_trans hN hS.1) (hG.kept hS hAN)) rfl rfl hl.1 rfl (lv_room (Nat.le_of_ble_eq_true rfl)) dX0_order_1 ⟨Nat.le_of_ble_eq_true rfl, Nat.le_of_ble_eq_true rfl⟩) hS xA_old (fun q h => hA q (Nat.le_trans hS.1 h)) xA_old (fun E ce q9 u9 t H locs ht hvm hpx hbx hz hk hS hce hcv hcl => ?_) (fun u t H locs ht hvm hw hB hz hk hS => ?_)
  · have c_2 : ¬ (o_X2_checkCell p0) = 0 := hpx
    have hbe := hbx
    have hP := xP_keep hP hk
    have he : o_X0_order w f p0 p1 p2 = ((o_X2_checkCell p0), 0) := by (rw [o_X0_order, if_neg c_2]) <;> rfl
    exact vx_out (fun x hx => (hno x hx).elim) hlocks hce hcv hcl (fun t ht hvm => ⟨(), by rw [he]; exact c_2, by rw [he]; exact hbe, hS.F ht⟩) hS.2.2 (by omega) (by omega)
  · skip
    have c_3 := hw
    have c_3 : (o_X2_checkCell p0) = 0 := c_3
    have hP := xP_keep hP hk
    refine lv_iload_n hx hb dX0_order_4 rfl (lv_at hl 2 rfl) ?_
    have hPc := hP.sub (ws' := []) [] rfl
    have hDc := hD.sub (ws' := []) [] (by decide +kernel) rfl
    have hKc := hK.sub (tys' := []) [] rfl
    refine vx_callv (vx_runSN (As := [.int p1]) (rest := []) ⟨hx, hb, hml, hown, hts⟩ (k_X2_checkCell l hfl dC dI H.size N p1) ⟨va_cnB 1 hts gX0_order_X2_checkCell_n22 rfl rfl rfl (hG.1 (.methodLinkNest RX0 22 yX2_checkCell RX2) (List.mem_of_getElem? (i := 0) rfl)) (hts (.initialized RX2) (by decide +kernel)) (by decide +kernel) ⟨Nat.le_of_ble_eq_true rfl, Nat.le_of_ble_eq_true rfl⟩, hts (.static yX2_checkCell) (by decide +kernel), trivial⟩ (xM.preS hKc hPc hDc (fun _ h => h) (Nat.le_trans hN hS.1) (hG.kept hS hAN)) rfl rfl hl.1 rfl (lv_room (Nat.le_of_ble_eq_true rfl)) dX0_order_5 ⟨Nat.le_of_ble_eq_true rfl, Nat.le_of_ble_eq_true rfl⟩) hS xA_old (fun q h => hA q (Nat.le_trans hS.1 h)) xA_old (fun E ce q9 u9 t H locs ht hvm hpx hbx hz hk hS hce hcv hcl => ?_) (fun u t H locs ht hvm hw hB hz hk hS => ?_)
    · have c_5 : ¬ (o_X2_checkCell p1) = 0 := hpx
      have hbe := hbx
      have hP := xP_keep hP hk
      have he : o_X0_order w f p0 p1 p2 = ((o_X2_checkCell p1), 0) := by (rw [o_X0_order, if_pos c_3, if_neg c_5]) <;> rfl
      exact vx_out (fun x hx => (hno x hx).elim) hlocks hce hcv hcl (fun t ht hvm => ⟨(), by rw [he]; exact c_5, by rw [he]; exact hbe, hS.F ht⟩) hS.2.2 (by omega) (by omega)
    · skip
      have c_6 := hw
      have c_6 : (o_X2_checkCell p1) = 0 := c_6
      have hP := xP_keep hP hk
      refine lv_iload_n hx hb dX0_order_8 rfl (lv_at hl 3 rfl) ?_
      refine lv_iconst (v := 2) hx hb dX0_order_9 (by decide +kernel) ?_
      have hPc := hP.sub (ws' := []) [] rfl
      have hDc := hD.sub (ws' := []) [] (by decide +kernel) rfl
      have hKc := hK.sub (tys' := []) [] rfl
      refine vx_callv (vx_runSN (As := [.int p2, .int 2]) (rest := []) ⟨hx, hb, hml, hown, hts⟩ (k_X2_checkChoice l hfl dC dI H.size N p2 2) ⟨va_cnB 2 hts gX0_order_X2_checkChoice_n55 rfl rfl rfl (hG.1 (.methodLinkNest RX0 55 yX2_checkChoice RX2) (List.mem_of_getElem? (i := 1) rfl)) (hts (.initialized RX2) (by decide +kernel)) (by decide +kernel) ⟨Nat.le_of_ble_eq_true rfl, Nat.le_of_ble_eq_true rfl⟩, hts (.static yX2_checkChoice) (by decide +kernel), trivial⟩ (xM.preS hKc hPc hDc (fun _ h => h) (Nat.le_trans hN hS.1) (hG.kept hS hAN)) rfl rfl hl.1 rfl (lv_room (Nat.le_of_ble_eq_true rfl)) dX0_order_10 ⟨Nat.le_of_ble_eq_true rfl, Nat.le_of_ble_eq_true rfl⟩) hS xA_old (fun q h => hA q (Nat.le_trans hS.1 h)) xA_old (fun E ce q9 u9 t H locs ht hvm hpx hbx hz hk hS hce hcv hcl => ?_) (fun u t H locs ht hvm hw hB hz hk hS => ?_)
      · have c_8 : ¬ (o_X2_checkChoice p2 2) = 0 := hpx
        have hbe := hbx
        have hP := xP_keep hP hk
        have he : o_X0_order w f p0 p1 p2 = ((o_X2_checkChoice p2 2), 0) := by (rw [o_X0_order, if_pos c_3, if_pos c_6, if_neg c_8]) <;> rfl
        exact vx_out (fun x hx => (hno x hx).elim) hlocks hce hcv hcl (fun t ht hvm => ⟨(), by rw [he]; exact c_8, by rw [he]; exact hbe, hS.F ht⟩) hS.2.2 (by omega) (by omega)
      · skip
        have c_9 := hw
        have c_9 : (o_X2_checkChoice p2 2) = 0 := c_9
        have hP := xP_keep hP hk
        refine lv_aload_n hx hb dX0_order_13 rfl (lv_at hl 0 rfl) ?_
        refine va_get (D := (dC, dI)) (ci := 2) (v := .ref aw) (C := RX0) (T := TX0) (N := 5) hx hb hts (by decide +kernel) hown hK hP 0 rfl rfl 0 (by decide +kernel) (hts (.fieldLink RX0 9 "Edgefloats$Row" "width" "LEdgefloats$Width;") (by decide +kernel)) (fun _ h9 => h9) rfl dX0_order_14 ?_
        refine lv_aload_n hx hb dX0_order_17 rfl (lv_at hl 0 rfl) ?_
        refine va_get (D := (dC, dI)) (ci := 2) (v := .ref ac) (C := RX0) (T := TX0) (N := 5) hx hb hts (by decide +kernel) hown hK hP 0 rfl rfl 1 (by decide +kernel) (hts (.fieldLink RX0 15 "Edgefloats$Row" "cells" "[J") (by decide +kernel)) (fun _ h9 => h9) rfl dX0_order_18 ?_
        refine lv_iload_n hx hb dX0_order_21 rfl (lv_at hl 1 rfl) ?_
        refine xa_lald hx hb hK hP 2 0 (f := f) rfl rfl (k := p0.toNatClampNeg) (xm_cc c_3) rfl dX0_order_22 ?_
        refine lv_aload_n hx hb dX0_order_23 rfl (lv_at hl 0 rfl) ?_
        refine va_get (D := (dC, dI)) (ci := 2) (v := .ref ac) (C := RX0) (T := TX0) (N := 5) hx hb hts (by decide +kernel) hown hK hP 0 rfl rfl 1 (by decide +kernel) (hts (.fieldLink RX0 15 "Edgefloats$Row" "cells" "[J") (by decide +kernel)) (fun _ h9 => h9) rfl dX0_order_24 ?_
        refine lv_iload_n hx hb dX0_order_27 rfl (lv_at hl 2 rfl) ?_
        refine xa_lald hx hb hK hP 2 0 (f := f) rfl rfl (k := p1.toNatClampNeg) (xm_cc c_6) rfl dX0_order_28 ?_
        have hPc := hP.sub (ws' := [(aw, eW w)]) [1] rfl
        have hKc := hK.sub (tys' := []) [] rfl
        refine va_calli (va_runV (As := [.long (f p0.toNatClampNeg), .long (f p1.toNatClampNeg)]) (rest := []) ⟨hx, hb, hml, hown, hts⟩ (k_X1_order l dC dI aw w H.size (f p0.toNatClampNeg) (f p1.toNatClampNeg)) (cwV 2 hts gX0_order_X1_order rfl rfl rfl (by decide +kernel) ⟨Nat.le_of_ble_eq_true rfl, Nat.le_of_ble_eq_true rfl⟩) (xB.preV hKc hPc (ci := 3) (q0 := 0) rfl rfl) rfl rfl hl.1 rfl (lv_room (Nat.le_of_ble_eq_true rfl)) dX0_order_29 ⟨Nat.le_of_ble_eq_true rfl, Nat.le_of_ble_eq_true rfl⟩) hS xA_old (fun q h => hA q (Nat.le_trans hS.1 h)) (fun r_10 u t H locs ht hvm hw hB hz hk hS => ?_)
        replace hw : r_10 = (o_X1_order w (f p0.toNatClampNeg) (f p1.toNatClampNeg)) := hw
        subst r_10
        have hP := xP_keep hP hk
        have he : o_X0_order w f p0 p1 p2 = (0, (o_X1_order w (f p0.toNatClampNeg) (f p1.toNatClampNeg))) := by (rw [o_X0_order, if_pos c_3, if_pos c_6, if_pos c_9]) <;> rfl
        refine W.widen (k := 3) (n := 18) (by omega) (by omega) ?_
        refine vx_ret ?_
        exact W.iret (v := (o_X1_order w (f p0.toNatClampNeg) (f p1.toNatClampNeg))) hx hb hr (fun t ht hW => ⟨⟨_, (), rfl, ⟨(by (rw [he]) <;> rfl), (by (rw [he]) <;> rfl)⟩, trivial⟩, hS.F ht⟩) hS.2.2 dX0_order_32
theorem cl_X0_areSame_1 : ∀ w ∈ wsX0_areSame_r1, w ∈ wsX0_areSame := fun _ h => (List.mem_cons_of_mem _ (List.mem_append_left _ (List.mem_append_left _ (List.mem_append_left _ (List.mem_append_left _ (List.mem_append_left _ h))))))
theorem cl_X0_areSame_2 : ∀ w ∈ wsX0_areSame_r2, w ∈ wsX0_areSame := fun _ h => (List.mem_cons_of_mem _ (List.mem_append_left _ (List.mem_append_left _ (List.mem_append_left _ (List.mem_append_left _ (List.mem_append_right _ h))))))
theorem cl_X0_areSame_3 : ∀ w ∈ wsX00, w ∈ wsX0_areSame := fun _ h => (List.mem_cons_of_mem _ (List.mem_append_left _ (List.mem_append_left _ (List.mem_append_left _ (List.mem_append_right _ h)))))
theorem cl_X0_areSame_4 : ∀ w ∈ wsX10, w ∈ wsX0_areSame := fun _ h => (List.mem_cons_of_mem _ (List.mem_append_left _ (List.mem_append_left _ (List.mem_append_right _ h))))
theorem cl_X0_areSame_5 : ∀ w ∈ (vx_atS RX2 152 "java/lang/IndexOutOfBoundsException" ["java/lang/RuntimeException", "java/lang/Exception"]).filter goodWord, w ∈ wsX0_areSame := fun _ h => (List.mem_cons_of_mem _ (List.mem_append_left _ (List.mem_append_right _ h)))
theorem cl_X0_areSame_6 : ∀ w ∈ (vx_atS RX2 159 "java/lang/IllegalArgumentException" ["java/lang/RuntimeException", "java/lang/Exception"]).filter goodWord, w ∈ wsX0_areSame := fun _ h => (List.mem_cons_of_mem _ (List.mem_append_right _ h))
set_option maxRecDepth 20000 in
theorem ggX0_areSame_X0_order : GoodIn wsX0_areSame wsX0_order := goodIn_sub (List.forall_mem_cons.mpr ⟨(cl_X0_areSame_1 _ (List.mem_of_getElem? (i := 4) rfl)), fun w h => (List.mem_append.mp h).elim ((fun w h => (List.mem_append.mp h).elim ((fun w h => (List.mem_append.mp h).elim ((fun w h => (List.mem_append.mp h).elim ((List.forall_mem_cons.mpr ⟨(cl_X0_areSame_1 _ (List.mem_of_getElem? (i := 5) rfl)), List.forall_mem_cons.mpr ⟨(cl_X0_areSame_1 _ (List.mem_of_getElem? (i := 6) rfl)), List.forall_mem_cons.mpr ⟨(cl_X0_areSame_1 _ (List.mem_of_getElem? (i := 7) rfl)), List.forall_mem_cons.mpr ⟨(cl_X0_areSame_1 _ (List.mem_of_getElem? (i := 8) rfl)), List.forall_mem_cons.mpr ⟨(cl_X0_areSame_1 _ (List.mem_of_getElem? (i := 9) rfl)), List.forall_mem_cons.mpr ⟨(cl_X0_areSame_1 _ (List.mem_of_getElem? (i := 10) rfl)), List.forall_mem_cons.mpr ⟨(cl_X0_areSame_1 _ (List.mem_of_getElem? (i := 11) rfl)), List.forall_mem_cons.mpr ⟨(cl_X0_areSame_1 _ (List.mem_of_getElem? (i := 12) rfl)), List.forall_mem_cons.mpr ⟨(cl_X0_areSame_1 _ (List.mem_of_getElem? (i := 13) rfl)), List.forall_mem_cons.mpr ⟨(cl_X0_areSame_1 _ (List.mem_of_getElem? (i := 14) rfl)), List.forall_mem_cons.mpr ⟨(cl_X0_areSame_1 _ (List.mem_of_getElem? (i := 15) rfl)), List.forall_mem_cons.mpr ⟨(cl_X0_areSame_1 _ (List.mem_of_getElem? (i := 16) rfl)), List.forall_mem_cons.mpr ⟨(cl_X0_areSame_1 _ (List.mem_of_getElem? (i := 17) rfl)), List.forall_mem_cons.mpr ⟨(cl_X0_areSame_1 _ (List.mem_of_getElem? (i := 18) rfl)), List.forall_mem_cons.mpr ⟨(cl_X0_areSame_1 _ (List.mem_of_getElem? (i := 19) rfl)), List.forall_mem_cons.mpr ⟨(cl_X0_areSame_1 _ (List.mem_of_getElem? (i := 20) rfl)), List.forall_mem_cons.mpr ⟨(cl_X0_areSame_1 _ (List.mem_of_getElem? (i := 21) rfl)), List.forall_mem_cons.mpr ⟨(cl_X0_areSame_1 _ (List.mem_of_getElem? (i := 22) rfl)), List.forall_mem_cons.mpr ⟨(cl_X0_areSame_1 _ (List.mem_of_getElem? (i := 23) rfl)), List.forall_mem_cons.mpr ⟨(cl_X0_areSame_2 _ (List.mem_of_getElem? (i := 0) rfl)), List.forall_mem_cons.mpr ⟨(cl_X0_areSame_2 _ (List.mem_of_getElem? (i := 1) rfl)), List.forall_mem_cons.mpr ⟨(cl_X0_areSame_2 _ (List.mem_of_getElem? (i := 2) rfl)), fun _ h => absurd h List.not_mem_nil⟩⟩⟩⟩⟩⟩⟩⟩⟩⟩⟩⟩⟩⟩⟩⟩⟩⟩⟩⟩⟩⟩) w) ((cl_X0_areSame_3) w)) w) ((cl_X0_areSame_4) w)) w) ((cl_X0_areSame_5) w)) w) ((cl_X0_areSame_6) w)⟩) (by decide +kernel)
set_option maxRecDepth 20000 in
theorem gX0_areSame_X0_order : GoodIn wsX0_areSame (wsV RX0 100 RX0 yX0_order wsX0_order) := goodIn_app (goodIn_sub (List.forall_mem_cons.mpr ⟨(cl_X0_areSame_1 _ (List.mem_of_getElem? (i := 0) rfl)), List.forall_mem_cons.mpr ⟨(cl_X0_areSame_1 _ (List.mem_of_getElem? (i := 1) rfl)), List.forall_mem_cons.mpr ⟨(cl_X0_areSame_1 _ (List.mem_of_getElem? (i := 2) rfl)), List.forall_mem_cons.mpr ⟨(cl_X0_areSame_1 _ (List.mem_of_getElem? (i := 3) rfl)), fun _ h => absurd h List.not_mem_nil⟩⟩⟩⟩) (by decide +kernel)) ggX0_areSame_X0_order
noncomputable def dz_p11_17 : List (Nat × Instr × Nat) := [(0, (.aload_n 0, 1)), (1, (.iload_n 1, 1)), (2, (.iload_n 2, 1)), (3, (.iload_n 3, 1)), (4, (.invokevirtual 100, 3)), (7, (.ifCond .ne 7, 3)), (10, (.iconst 1, 1)), (11, (.goto 4, 3)), (14, (.iconst 0, 1)), (15, (.ireturn, 1))]
theorem dy_p11_17 : dz_ok cX0_areSame dz_p11_17 = true := by decide +kernel
theorem dX0_areSame_0 : decode cX0_areSame 0 = .ok (.aload_n 0, 1) := dz_at (i := 0) dy_p11_17 rfl
theorem dX0_areSame_1 : decode cX0_areSame 1 = .ok (.iload_n 1, 1) := dz_at (i := 1) dy_p11_17 rfl
theorem dX0_areSame_2 : decode cX0_areSame 2 = .ok (.iload_n 2, 1) := dz_at (i := 2) dy_p11_17 rfl
theorem dX0_areSame_3 : decode cX0_areSame 3 = .ok (.iload_n 3, 1) := dz_at (i := 3) dy_p11_17 rfl
theorem dX0_areSame_4 : decode cX0_areSame 4 = .ok (.invokevirtual 100, 3) := dz_at (i := 4) dy_p11_17 rfl
theorem dX0_areSame_7 : decode cX0_areSame 7 = .ok (.ifCond .ne 7, 3) := dz_at (i := 5) dy_p11_17 rfl
theorem dX0_areSame_10 : decode cX0_areSame 10 = .ok (.iconst 1, 1) := dz_at (i := 6) dy_p11_17 rfl
theorem dX0_areSame_11 : decode cX0_areSame 11 = .ok (.goto 4, 3) := dz_at (i := 7) dy_p11_17 rfl
theorem dX0_areSame_14 : decode cX0_areSame 14 = .ok (.iconst 0, 1) := dz_at (i := 8) dy_p11_17 rfl
theorem dX0_areSame_15 : decode cX0_areSame 15 = .ok (.ireturn, 1) := dz_at (i := 9) dy_p11_17 rfl
noncomputable def o_X0_areSame (w : Bool) (f : Nat → Int64) (p0 : Int32) (p1 : Int32) (p2 : Int32) : Int32 × Bool :=
  if (o_X0_order w f p0 p1 p2).1 = 0 then (if (o_X0_order w f p0 p1 p2).2 = 0 then (0, true)
    else (0, false))
  else ((o_X0_order w f p0 p1 p2).1, false)
set_option maxHeartbeats 4000000 in
set_option maxRecDepth 100000 in
theorem k_X0_areSame (l : Launch) (hfl : l.flags = flags0) (dC : Nat → ClassId) (dI : Nat → Nat → Nat) (cy : ClassId) (h0 : Nat) (aw : Nat) (ac : Nat) (ab : Nat) (w : Bool) (a : Int32) (rv : Int32) (f : Nat → Int64) (g : Nat → Int64) (sz : Nat) (N : Nat) (p0 : Int32) (p1 : Int32) (p2 : Int32) : vx_Met l yX0_areSame wsX0_areSame ({ frames := 8, cells := 3, slots := 18, locals := 144 }) (va_Pc [.ref h0, .int p0, .int p1, .int p2] (xM (dC, dI) xCl [(h0, eR aw ac ab a rv), (aw, eW w), (ac, eA cy f), (ab, eA cy g)] [(cy, .long)] sz N)) (va_Qi (fun (r : Int32) (_ : Unit) => (o_X0_areSame w f p0 p1 p2).1 = 0 ∧ r = b2i ((o_X0_areSame w f p0 p1 p2).2)) (fun _ _ => True) (aN sz)) (vx_X (fun _ : Unit => ¬ (o_X0_areSame w f p0 p1 p2).1 = 0) (fun E _ _ => E = xE (o_X0_areSame w f p0 p1 p2).1) (aN sz)) 3 18 (aN sz) := by
  refine vx_ofW (cc := cX0_areSame) (maxL := 4) (ret := (some .boolean)) (by decide +kernel) rfl ?_
  intro p e s m args below meth c s₁ B hml hno hv
  obtain ⟨rfl, hsz, hP, hK, hD0, hN, hG⟩ := hv
  have hx := B.exec
  have hb := B.bytes
  have hr := B.returns
  have hts := atoms_spec (ws := wsX0_areSame) B.pre
  have hown : s.vm.findClass RX0 = some m.cls := findClass_of_methodNamed B.named
  have hlocks := B.notSynchronized
  subst hsz
  have hA : ∀ q : Nat, s.heap.size ≤ q → aN s.heap.size q := fun _ h => h
  have hD := hD0
  have hAN : ∀ q, aN s.heap.size q → N ≤ q := fun q h => Nat.le_trans hN h
  have hS : va_S (aN s.heap.size) s.heap s.heap [] := va_S.rf
  have hP : va_P (dC, dI) xCl [(h0, eR aw ac ab a rv), (aw, eW w), (ac, eA cy f), (ab, eA cy g)] s.heap := hP
  have hl := lv_entry ([.ref h0, .int p0, .int p1, .int p2]) (n := 4) (Nat.le_of_ble_eq_true rfl)
  rw [lg_entry_eq]
  generalize (lg_sl ([.ref h0, .int p0, .int p1, .int p2]) ++ List.replicate (4 - (lg_sl ([.ref h0, .int p0, .int p1, .int p2])).length) Slot.unset).toArray = ls at hl ⊢
  have hl : lv_has ls 4 [(0, .ref h0), (1, .int p0), (2, .int p1), (3, .int p2)] := hl
  refine lv_aload_n hx hb dX0_areSame_0 rfl (lv_at hl 0 rfl) ?_
  refine lv_iload_n hx hb dX0_areSame_1 rfl (lv_at hl 1 rfl) ?_
  refine lv_iload_n hx hb dX0_areSame_2 rfl (lv_at hl 2 rfl) ?_
  refine lv_iload_n hx hb dX0_areSame_3 rfl (lv_at hl 3 rfl) ?_
  have hPc := hP.sub (ws' := [(h0, eR aw ac ab a rv), (aw, eW w), (ac, eA cy f), (ab, eA cy g)]) [0, 1, 2, 3] rfl
  have hDc := hD.sub (ws' := [(h0, eR aw ac ab a rv), (aw, eW w), (ac, eA cy f), (ab, eA cy g)]) [0, 1, 2, 3] (by decide +kernel) rfl
  have hKc := hK.sub (tys' := [(cy, .long)]) [0] rfl
  refine vx_calli (vx_runV (As := [.int p0, .int p1, .int p2]) (rest := []) ⟨hx, hb, hml, hown, hts⟩ (k_X0_order l hfl dC dI cy h0 aw ac ab w a rv f g s.heap.size N p0 p1 p2) (cwV 3 hts gX0_areSame_X0_order rfl rfl rfl (by decide +kernel) ⟨Nat.le_of_ble_eq_true rfl, Nat.le_of_ble_eq_true rfl⟩) (xM.preV hKc hPc hDc (fun _ h => h) (Nat.le_trans hN hS.1) (hG.kept hS hAN) (ci := 2) (q0 := 0) rfl rfl) rfl rfl hl.1 rfl (lv_room (Nat.le_of_ble_eq_true rfl)) dX0_areSame_4 ⟨Nat.le_of_ble_eq_true rfl, Nat.le_of_ble_eq_true rfl⟩) hS xA_old (fun q h => hA q (Nat.le_trans hS.1 h)) xA_old (fun E ce q9 u9 t H locs ht hvm hpx hbx hz hk hS hce hcv hcl => ?_) (fun r_1 u t H locs ht hvm hw hB hz hk hS => ?_)
  · have c_2 : ¬ (o_X0_order w f p0 p1 p2).1 = 0 := hpx
    have hbe := hbx
    have hP := xP_keep hP hk
    have he : o_X0_areSame w f p0 p1 p2 = ((o_X0_order w f p0 p1 p2).1, false) := by (rw [o_X0_areSame, if_neg c_2]) <;> rfl
    exact vx_out (fun x hx => (hno x hx).elim) hlocks hce hcv hcl (fun t ht hvm => ⟨(), by rw [he]; exact c_2, by rw [he]; exact hbe, hS.F ht⟩) hS.2.2 (by omega) (by omega)
  · skip
    obtain ⟨c_3, hw⟩ := hw
    have c_3 : (o_X0_order w f p0 p1 p2).1 = 0 := c_3
    replace hw : r_1 = (o_X0_order w f p0 p1 p2).2 := hw
    subst r_1
    have hP := xP_keep hP hk
    refine lv_if_ne (tgt := 14) hx hb dX0_areSame_7 (by decide +kernel) (fun c_4 => ?_) (fun c_4 => ?_)
    · skip
      refine lv_iconst (v := 0) hx hb dX0_areSame_14 (by decide +kernel) ?_
      have he : o_X0_areSame w f p0 p1 p2 = (0, false) := by (rw [o_X0_areSame, if_pos c_3, if_neg c_4]) <;> rfl
      refine W.widen (k := 3) (n := 18) (by omega) (by omega) ?_
      refine vx_ret ?_
      exact W.zret (v := 0) (ty := .boolean) hx hb hr rfl (fun t ht hW => ⟨⟨_, (), rfl, ⟨(by (rw [he]) <;> rfl), (by (rw [he]) <;> rfl)⟩, trivial⟩, hS.F ht⟩) hS.2.2 dX0_areSame_15
    · skip
      refine lv_iconst (v := 1) hx hb dX0_areSame_10 (by decide +kernel) ?_
      refine lv_goto (tgt := 15) hx hb dX0_areSame_11 (by decide +kernel) ?_
      have he : o_X0_areSame w f p0 p1 p2 = (0, true) := by (rw [o_X0_areSame, if_pos c_3, if_pos c_4]) <;> rfl
      refine W.widen (k := 3) (n := 18) (by omega) (by omega) ?_
      refine vx_ret ?_
      exact W.zret (v := 1) (ty := .boolean) hx hb hr rfl (fun t ht hW => ⟨⟨_, (), rfl, ⟨(by (rw [he]) <;> rfl), (by (rw [he]) <;> rfl)⟩, trivial⟩, hS.F ht⟩) hS.2.2 dX0_areSame_15
theorem cl_X0_isEqualToOther_1 : ∀ w ∈ [.static yX2_checkCell, .initialized RX2, .code yX2_checkCell cX2_checkCell 1 none, .classLink RX2 148 "java/lang/IndexOutOfBoundsException", .initialized "java/lang/IndexOutOfBoundsException", .static yX2_checkChoice, .code yX2_checkChoice cX2_checkChoice 2 none, .classLink RX2 155 "java/lang/IllegalArgumentException", .initialized "java/lang/IllegalArgumentException"], w ∈ wsX0_isEqualToOther := fun _ h => (List.mem_cons_of_mem _ (List.mem_append_left _ (List.mem_append_left _ h)))
theorem cl_X0_isEqualToOther_2 : ∀ w ∈ (vx_atS RX2 152 "java/lang/IndexOutOfBoundsException" ["java/lang/RuntimeException", "java/lang/Exception"]).filter goodWord, w ∈ wsX0_isEqualToOther := fun _ h => (List.mem_cons_of_mem _ (List.mem_append_left _ (List.mem_append_right _ h)))
theorem cl_X0_isEqualToOther_3 : ∀ w ∈ (vx_atS RX2 159 "java/lang/IllegalArgumentException" ["java/lang/RuntimeException", "java/lang/Exception"]).filter goodWord, w ∈ wsX0_isEqualToOther := fun _ h => (List.mem_cons_of_mem _ (List.mem_append_right _ h))
set_option maxRecDepth 20000 in
theorem ggX0_isEqualToOther_X2_checkCell : GoodIn wsX0_isEqualToOther wsX2_checkCell := goodIn_sub (List.forall_mem_cons.mpr ⟨(cl_X0_isEqualToOther_1 _ (List.mem_of_getElem? (i := 2) rfl)), fun w h => (List.mem_append.mp h).elim ((List.forall_mem_cons.mpr ⟨(cl_X0_isEqualToOther_1 _ (List.mem_of_getElem? (i := 3) rfl)), List.forall_mem_cons.mpr ⟨(cl_X0_isEqualToOther_1 _ (List.mem_of_getElem? (i := 4) rfl)), fun _ h => absurd h List.not_mem_nil⟩⟩) w) ((cl_X0_isEqualToOther_2) w)⟩) (by decide +kernel)
set_option maxRecDepth 20000 in
theorem gX0_isEqualToOther_X2_checkCell_n22 : GoodIn wsX0_isEqualToOther (wsX2_checkCell) := ggX0_isEqualToOther_X2_checkCell
set_option maxRecDepth 20000 in
theorem ggX0_isEqualToOther_X2_checkChoice : GoodIn wsX0_isEqualToOther wsX2_checkChoice := goodIn_sub (List.forall_mem_cons.mpr ⟨(cl_X0_isEqualToOther_1 _ (List.mem_of_getElem? (i := 6) rfl)), fun w h => (List.mem_append.mp h).elim ((List.forall_mem_cons.mpr ⟨(cl_X0_isEqualToOther_1 _ (List.mem_of_getElem? (i := 7) rfl)), List.forall_mem_cons.mpr ⟨(cl_X0_isEqualToOther_1 _ (List.mem_of_getElem? (i := 8) rfl)), fun _ h => absurd h List.not_mem_nil⟩⟩) w) ((cl_X0_isEqualToOther_3) w)⟩) (by decide +kernel)
set_option maxRecDepth 20000 in
theorem gX0_isEqualToOther_X2_checkChoice_n55 : GoodIn wsX0_isEqualToOther (wsX2_checkChoice) := ggX0_isEqualToOther_X2_checkChoice
noncomputable def dz_p11_18 : List (Nat × Instr × Nat) := [(0, (.iload_n 1, 1)), (1, (.invokestatic 22, 3)), (4, (.iload_n 2, 1)), (5, (.iconst 3, 1)), (6, (.invokestatic 55, 3)), (9, (.iconst 0, 1)), (10, (.ireturn, 1))]
theorem dy_p11_18 : dz_ok cX0_isEqualToOther dz_p11_18 = true := by decide +kernel
theorem dX0_isEqualToOther_0 : decode cX0_isEqualToOther 0 = .ok (.iload_n 1, 1) := dz_at (i := 0) dy_p11_18 rfl
theorem dX0_isEqualToOther_1 : decode cX0_isEqualToOther 1 = .ok (.invokestatic 22, 3) := dz_at (i := 1) dy_p11_18 rfl
theorem dX0_isEqualToOther_4 : decode cX0_isEqualToOther 4 = .ok (.iload_n 2, 1) := dz_at (i := 2) dy_p11_18 rfl
theorem dX0_isEqualToOther_5 : decode cX0_isEqualToOther 5 = .ok (.iconst 3, 1) := dz_at (i := 3) dy_p11_18 rfl
theorem dX0_isEqualToOther_6 : decode cX0_isEqualToOther 6 = .ok (.invokestatic 55, 3) := dz_at (i := 4) dy_p11_18 rfl
theorem dX0_isEqualToOther_9 : decode cX0_isEqualToOther 9 = .ok (.iconst 0, 1) := dz_at (i := 5) dy_p11_18 rfl
theorem dX0_isEqualToOther_10 : decode cX0_isEqualToOther 10 = .ok (.ireturn, 1) := dz_at (i := 6) dy_p11_18 rfl
noncomputable def o_X0_isEqualToOther  (p0 : Int32) (p1 : Int32) : Int32 × Bool :=
  if (o_X2_checkCell p0) = 0 then (if (o_X2_checkChoice p1 3) = 0 then (0, false)
    else ((o_X2_checkChoice p1 3), false))
  else ((o_X2_checkCell p0), false)
set_option maxHeartbeats 4000000 in
set_option maxRecDepth 100000 in
theorem k_X0_isEqualToOther (l : Launch) (hfl : l.flags = flags0) (dC : Nat → ClassId) (dI : Nat → Nat → Nat) (cy : ClassId) (h0 : Nat) (aw : Nat) (ac : Nat) (ab : Nat) (w : Bool) (a : Int32) (rv : Int32) (f : Nat → Int64) (g : Nat → Int64) (sz : Nat) (N : Nat) (p0 : Int32) (p1 : Int32) : vx_Met l yX0_isEqualToOther wsX0_isEqualToOther ({ frames := 7, cells := 2, slots := 12, locals := 121 }) (va_Pc [.ref h0, .int p0, .int p1] (xM (dC, dI) xCl [(h0, eR aw ac ab a rv), (aw, eW w), (ac, eA cy f), (ab, eA cy g)] [(cy, .long)] sz N)) (va_Qi (fun (r : Int32) (_ : Unit) => (o_X0_isEqualToOther p0 p1).1 = 0 ∧ r = b2i ((o_X0_isEqualToOther p0 p1).2)) (fun _ _ => True) (aN sz)) (vx_X (fun _ : Unit => ¬ (o_X0_isEqualToOther p0 p1).1 = 0) (fun E _ _ => E = xE (o_X0_isEqualToOther p0 p1).1) (aN sz)) 2 12 (aN sz) := by
  refine vx_ofW (cc := cX0_isEqualToOther) (maxL := 3) (ret := (some .boolean)) (by decide +kernel) rfl ?_
  intro p e s m args below meth c s₁ B hml hno hv
  obtain ⟨rfl, hsz, hP, hK, hD0, hN, hG⟩ := hv
  have hx := B.exec
  have hb := B.bytes
  have hr := B.returns
  have hts := atoms_spec (ws := wsX0_isEqualToOther) B.pre
  have hown : s.vm.findClass RX0 = some m.cls := findClass_of_methodNamed B.named
  have hlocks := B.notSynchronized
  subst hsz
  have hA : ∀ q : Nat, s.heap.size ≤ q → aN s.heap.size q := fun _ h => h
  have hD := hD0
  have hAN : ∀ q, aN s.heap.size q → N ≤ q := fun q h => Nat.le_trans hN h
  have hS : va_S (aN s.heap.size) s.heap s.heap [] := va_S.rf
  have hP : va_P (dC, dI) xCl [(h0, eR aw ac ab a rv), (aw, eW w), (ac, eA cy f), (ab, eA cy g)] s.heap := hP
  have hl := lv_entry ([.ref h0, .int p0, .int p1]) (n := 3) (Nat.le_of_ble_eq_true rfl)
  rw [lg_entry_eq]
  generalize (lg_sl ([.ref h0, .int p0, .int p1]) ++ List.replicate (3 - (lg_sl ([.ref h0, .int p0, .int p1])).length) Slot.unset).toArray = ls at hl ⊢
  have hl : lv_has ls 3 [(0, .ref h0), (1, .int p0), (2, .int p1)] := hl
  refine lv_iload_n hx hb dX0_isEqualToOther_0 rfl (lv_at hl 1 rfl) ?_
  have hPc := hP.sub (ws' := []) [] rfl
  have hDc := hD.sub (ws' := []) [] (by decide +kernel) rfl
  have hKc := hK.sub (tys' := []) [] rfl
  refine vx_callv (vx_runSN (As := [.int p0]) (rest := []) ⟨hx, hb, hml, hown, hts⟩ (k_X2_checkCell l hfl dC dI s.heap.size N p0) ⟨va_cnB 1 hts gX0_isEqualToOther_X2_checkCell_n22 rfl rfl rfl (hG.1 (.methodLinkNest RX0 22 yX2_checkCell RX2) (List.mem_of_getElem? (i := 0) rfl)) (hts (.initialized RX2) (by decide +kernel)) (by decide +kernel) ⟨Nat.le_of_ble_eq_true rfl, Nat.le_of_ble_eq_true rfl⟩, hts (.static yX2_checkCell) (by decide +kernel), trivial⟩ (xM.preS hKc hPc hDc (fun _ h => h) (Nat.le_trans hN hS.1) (hG.kept hS hAN)) rfl rfl hl.1 rfl (lv_room (Nat.le_of_ble_eq_true rfl)) dX0_isEqualToOther_1 ⟨Nat.le_of_ble_eq_true rfl, Nat.le_of_ble_eq_true rfl⟩) hS xA_old (fun q h => hA q (Nat.le_trans hS.1 h)) xA_old (fun E ce q9 u9 t H locs ht hvm hpx hbx hz hk hS hce hcv hcl => ?_) (fun u t H locs ht hvm hw hB hz hk hS => ?_)
  · have c_2 : ¬ (o_X2_checkCell p0) = 0 := hpx
    have hbe := hbx
    have hP := xP_keep hP hk
    have he : o_X0_isEqualToOther p0 p1 = ((o_X2_checkCell p0), false) := by (rw [o_X0_isEqualToOther, if_neg c_2]) <;> rfl
    exact vx_out (fun x hx => (hno x hx).elim) hlocks hce hcv hcl (fun t ht hvm => ⟨(), by rw [he]; exact c_2, by rw [he]; exact hbe, hS.F ht⟩) hS.2.2 (by omega) (by omega)
  · skip
    have c_3 := hw
    have c_3 : (o_X2_checkCell p0) = 0 := c_3
    have hP := xP_keep hP hk
    refine lv_iload_n hx hb dX0_isEqualToOther_4 rfl (lv_at hl 2 rfl) ?_
    refine lv_iconst (v := 3) hx hb dX0_isEqualToOther_5 (by decide +kernel) ?_
    have hPc := hP.sub (ws' := []) [] rfl
    have hDc := hD.sub (ws' := []) [] (by decide +kernel) rfl
    have hKc := hK.sub (tys' := []) [] rfl
    refine vx_callv (vx_runSN (As := [.int p1, .int 3]) (rest := []) ⟨hx, hb, hml, hown, hts⟩ (k_X2_checkChoice l hfl dC dI H.size N p1 3) ⟨va_cnB 2 hts gX0_isEqualToOther_X2_checkChoice_n55 rfl rfl rfl (hG.1 (.methodLinkNest RX0 55 yX2_checkChoice RX2) (List.mem_of_getElem? (i := 1) rfl)) (hts (.initialized RX2) (by decide +kernel)) (by decide +kernel) ⟨Nat.le_of_ble_eq_true rfl, Nat.le_of_ble_eq_true rfl⟩, hts (.static yX2_checkChoice) (by decide +kernel), trivial⟩ (xM.preS hKc hPc hDc (fun _ h => h) (Nat.le_trans hN hS.1) (hG.kept hS hAN)) rfl rfl hl.1 rfl (lv_room (Nat.le_of_ble_eq_true rfl)) dX0_isEqualToOther_6 ⟨Nat.le_of_ble_eq_true rfl, Nat.le_of_ble_eq_true rfl⟩) hS xA_old (fun q h => hA q (Nat.le_trans hS.1 h)) xA_old (fun E ce q9 u9 t H locs ht hvm hpx hbx hz hk hS hce hcv hcl => ?_) (fun u t H locs ht hvm hw hB hz hk hS => ?_)
    · have c_5 : ¬ (o_X2_checkChoice p1 3) = 0 := hpx
      have hbe := hbx
      have hP := xP_keep hP hk
      have he : o_X0_isEqualToOther p0 p1 = ((o_X2_checkChoice p1 3), false) := by (rw [o_X0_isEqualToOther, if_pos c_3, if_neg c_5]) <;> rfl
      exact vx_out (fun x hx => (hno x hx).elim) hlocks hce hcv hcl (fun t ht hvm => ⟨(), by rw [he]; exact c_5, by rw [he]; exact hbe, hS.F ht⟩) hS.2.2 (by omega) (by omega)
    · skip
      have c_6 := hw
      have c_6 : (o_X2_checkChoice p1 3) = 0 := c_6
      have hP := xP_keep hP hk
      refine lv_iconst (v := 0) hx hb dX0_isEqualToOther_9 (by decide +kernel) ?_
      have he : o_X0_isEqualToOther p0 p1 = (0, false) := by (rw [o_X0_isEqualToOther, if_pos c_3, if_pos c_6]) <;> rfl
      refine W.widen (k := 2) (n := 12) (by omega) (by omega) ?_
      refine vx_ret ?_
      exact W.zret (v := 0) (ty := .boolean) hx hb hr rfl (fun t ht hW => ⟨⟨_, (), rfl, ⟨(by (rw [he]) <;> rfl), (by (rw [he]) <;> rfl)⟩, trivial⟩, hS.F ht⟩) hS.2.2 dX0_isEqualToOther_10
theorem cl_X0_areLike_1 : ∀ w ∈ [.fieldLink RX0 9 "Edgefloats$Row" "width" "LEdgefloats$Width;", .fieldLink RX0 15 "Edgefloats$Row" "cells" "[J", .static yX2_checkCell, .initialized RX2, .code yX2_checkCell cX2_checkCell 1 none, .classLink RX2 148 "java/lang/IndexOutOfBoundsException", .initialized "java/lang/IndexOutOfBoundsException", .methodLink RX0 103 yX1_areLike, .instanceMethod yX1_areLike, .selects RX1 yX1_areLike yX1_areLike, .initialized RX1, .code yX1_areLike cX1_areLike 5 (some .boolean), .methodLink RX1 45 yX1_rank, .instanceMethod yX1_rank, .selects RX1 yX1_rank yX1_rank, .code yX1_rank cX1_rank 5 (some .long), .fieldLink RX1 28 "Edgefloats$Width" "sizeOnes" "J", .fieldLink RX1 25 "Edgefloats$Width" "signOne" "J"], w ∈ wsX0_areLike := fun _ h => (List.mem_cons_of_mem _ (List.mem_append_left _ (List.mem_append_left _ (List.mem_append_left _ h))))
theorem cl_X0_areLike_2 : ∀ w ∈ wsX00, w ∈ wsX0_areLike := fun _ h => (List.mem_cons_of_mem _ (List.mem_append_left _ (List.mem_append_left _ (List.mem_append_right _ h))))
theorem cl_X0_areLike_3 : ∀ w ∈ wsX10, w ∈ wsX0_areLike := fun _ h => (List.mem_cons_of_mem _ (List.mem_append_left _ (List.mem_append_right _ h)))
theorem cl_X0_areLike_4 : ∀ w ∈ (vx_atS RX2 152 "java/lang/IndexOutOfBoundsException" ["java/lang/RuntimeException", "java/lang/Exception"]).filter goodWord, w ∈ wsX0_areLike := fun _ h => (List.mem_cons_of_mem _ (List.mem_append_right _ h))
set_option maxRecDepth 20000 in
theorem ggX0_areLike_X2_checkCell : GoodIn wsX0_areLike wsX2_checkCell := goodIn_sub (List.forall_mem_cons.mpr ⟨(cl_X0_areLike_1 _ (List.mem_of_getElem? (i := 4) rfl)), fun w h => (List.mem_append.mp h).elim ((List.forall_mem_cons.mpr ⟨(cl_X0_areLike_1 _ (List.mem_of_getElem? (i := 5) rfl)), List.forall_mem_cons.mpr ⟨(cl_X0_areLike_1 _ (List.mem_of_getElem? (i := 6) rfl)), fun _ h => absurd h List.not_mem_nil⟩⟩) w) ((cl_X0_areLike_4) w)⟩) (by decide +kernel)
set_option maxRecDepth 20000 in
theorem gX0_areLike_X2_checkCell_n22 : GoodIn wsX0_areLike (wsX2_checkCell) := ggX0_areLike_X2_checkCell
set_option maxRecDepth 20000 in
theorem ggX0_areLike_X1_areLike : GoodIn wsX0_areLike wsX1_areLike := goodIn_sub (List.forall_mem_cons.mpr ⟨(cl_X0_areLike_1 _ (List.mem_of_getElem? (i := 11) rfl)), fun w h => (List.mem_append.mp h).elim ((List.forall_mem_cons.mpr ⟨(cl_X0_areLike_1 _ (List.mem_of_getElem? (i := 12) rfl)), List.forall_mem_cons.mpr ⟨(cl_X0_areLike_1 _ (List.mem_of_getElem? (i := 13) rfl)), List.forall_mem_cons.mpr ⟨(cl_X0_areLike_1 _ (List.mem_of_getElem? (i := 14) rfl)), List.forall_mem_cons.mpr ⟨(cl_X0_areLike_1 _ (List.mem_of_getElem? (i := 10) rfl)), List.forall_mem_cons.mpr ⟨(cl_X0_areLike_1 _ (List.mem_of_getElem? (i := 15) rfl)), List.forall_mem_cons.mpr ⟨(cl_X0_areLike_1 _ (List.mem_of_getElem? (i := 16) rfl)), List.forall_mem_cons.mpr ⟨(cl_X0_areLike_1 _ (List.mem_of_getElem? (i := 17) rfl)), fun _ h => absurd h List.not_mem_nil⟩⟩⟩⟩⟩⟩⟩) w) ((cl_X0_areLike_3) w)⟩) (by decide +kernel)
set_option maxRecDepth 20000 in
theorem gX0_areLike_X1_areLike : GoodIn wsX0_areLike (wsV RX0 103 RX1 yX1_areLike wsX1_areLike) := goodIn_app (goodIn_sub (List.forall_mem_cons.mpr ⟨(cl_X0_areLike_1 _ (List.mem_of_getElem? (i := 7) rfl)), List.forall_mem_cons.mpr ⟨(cl_X0_areLike_1 _ (List.mem_of_getElem? (i := 8) rfl)), List.forall_mem_cons.mpr ⟨(cl_X0_areLike_1 _ (List.mem_of_getElem? (i := 9) rfl)), List.forall_mem_cons.mpr ⟨(cl_X0_areLike_1 _ (List.mem_of_getElem? (i := 10) rfl)), fun _ h => absurd h List.not_mem_nil⟩⟩⟩⟩) (by decide +kernel)) ggX0_areLike_X1_areLike
noncomputable def dz_p11_19 : List (Nat × Instr × Nat) := [(0, (.iload_n 1, 1)), (1, (.invokestatic 22, 3)), (4, (.iload_n 2, 1)), (5, (.invokestatic 22, 3)), (8, (.aload_n 0, 1)), (9, (.getfield 9, 3)), (12, (.aload_n 0, 1)), (13, (.getfield 15, 3)), (16, (.iload_n 1, 1)), (17, (.laload, 1)), (18, (.aload_n 0, 1)), (19, (.getfield 15, 3)), (22, (.iload_n 2, 1)), (23, (.laload, 1)), (24, (.invokevirtual 103, 3)), (27, (.ireturn, 1))]
theorem dy_p11_19 : dz_ok cX0_areLike dz_p11_19 = true := by decide +kernel
theorem dX0_areLike_0 : decode cX0_areLike 0 = .ok (.iload_n 1, 1) := dz_at (i := 0) dy_p11_19 rfl
theorem dX0_areLike_1 : decode cX0_areLike 1 = .ok (.invokestatic 22, 3) := dz_at (i := 1) dy_p11_19 rfl
theorem dX0_areLike_4 : decode cX0_areLike 4 = .ok (.iload_n 2, 1) := dz_at (i := 2) dy_p11_19 rfl
theorem dX0_areLike_5 : decode cX0_areLike 5 = .ok (.invokestatic 22, 3) := dz_at (i := 3) dy_p11_19 rfl
theorem dX0_areLike_8 : decode cX0_areLike 8 = .ok (.aload_n 0, 1) := dz_at (i := 4) dy_p11_19 rfl
theorem dX0_areLike_9 : decode cX0_areLike 9 = .ok (.getfield 9, 3) := dz_at (i := 5) dy_p11_19 rfl
theorem dX0_areLike_12 : decode cX0_areLike 12 = .ok (.aload_n 0, 1) := dz_at (i := 6) dy_p11_19 rfl
theorem dX0_areLike_13 : decode cX0_areLike 13 = .ok (.getfield 15, 3) := dz_at (i := 7) dy_p11_19 rfl
theorem dX0_areLike_16 : decode cX0_areLike 16 = .ok (.iload_n 1, 1) := dz_at (i := 8) dy_p11_19 rfl
theorem dX0_areLike_17 : decode cX0_areLike 17 = .ok (.laload, 1) := dz_at (i := 9) dy_p11_19 rfl
theorem dX0_areLike_18 : decode cX0_areLike 18 = .ok (.aload_n 0, 1) := dz_at (i := 10) dy_p11_19 rfl
theorem dX0_areLike_19 : decode cX0_areLike 19 = .ok (.getfield 15, 3) := dz_at (i := 11) dy_p11_19 rfl
theorem dX0_areLike_22 : decode cX0_areLike 22 = .ok (.iload_n 2, 1) := dz_at (i := 12) dy_p11_19 rfl
theorem dX0_areLike_23 : decode cX0_areLike 23 = .ok (.laload, 1) := dz_at (i := 13) dy_p11_19 rfl
theorem dX0_areLike_24 : decode cX0_areLike 24 = .ok (.invokevirtual 103, 3) := dz_at (i := 14) dy_p11_19 rfl
theorem dX0_areLike_27 : decode cX0_areLike 27 = .ok (.ireturn, 1) := dz_at (i := 15) dy_p11_19 rfl
noncomputable def o_X0_areLike (w : Bool) (f : Nat → Int64) (p0 : Int32) (p1 : Int32) : Int32 × Bool :=
  if (o_X2_checkCell p0) = 0 then (if (o_X2_checkCell p1) = 0 then (0, (o_X1_areLike w (f p0.toNatClampNeg) (f p1.toNatClampNeg)))
    else ((o_X2_checkCell p1), false))
  else ((o_X2_checkCell p0), false)
set_option maxHeartbeats 4000000 in
set_option maxRecDepth 100000 in
theorem k_X0_areLike (l : Launch) (hfl : l.flags = flags0) (dC : Nat → ClassId) (dI : Nat → Nat → Nat) (cy : ClassId) (h0 : Nat) (aw : Nat) (ac : Nat) (ab : Nat) (w : Bool) (a : Int32) (rv : Int32) (f : Nat → Int64) (g : Nat → Int64) (sz : Nat) (N : Nat) (p0 : Int32) (p1 : Int32) : vx_Met l yX0_areLike wsX0_areLike ({ frames := 7, cells := 2, slots := 12, locals := 120 }) (va_Pc [.ref h0, .int p0, .int p1] (xM (dC, dI) xCl [(h0, eR aw ac ab a rv), (aw, eW w), (ac, eA cy f), (ab, eA cy g)] [(cy, .long)] sz N)) (va_Qi (fun (r : Int32) (_ : Unit) => (o_X0_areLike w f p0 p1).1 = 0 ∧ r = b2i ((o_X0_areLike w f p0 p1).2)) (fun _ _ => True) (aN sz)) (vx_X (fun _ : Unit => ¬ (o_X0_areLike w f p0 p1).1 = 0) (fun E _ _ => E = xE (o_X0_areLike w f p0 p1).1) (aN sz)) 2 12 (aN sz) := by
  refine vx_ofW (cc := cX0_areLike) (maxL := 3) (ret := (some .boolean)) (by decide +kernel) rfl ?_
  intro p e s m args below meth c s₁ B hml hno hv
  obtain ⟨rfl, hsz, hP, hK, hD0, hN, hG⟩ := hv
  have hx := B.exec
  have hb := B.bytes
  have hr := B.returns
  have hts := atoms_spec (ws := wsX0_areLike) B.pre
  have hown : s.vm.findClass RX0 = some m.cls := findClass_of_methodNamed B.named
  have hlocks := B.notSynchronized
  subst hsz
  have hA : ∀ q : Nat, s.heap.size ≤ q → aN s.heap.size q := fun _ h => h
  have hD := hD0
  have hAN : ∀ q, aN s.heap.size q → N ≤ q := fun q h => Nat.le_trans hN h
  have hS : va_S (aN s.heap.size) s.heap s.heap [] := va_S.rf
  have hP : va_P (dC, dI) xCl [(h0, eR aw ac ab a rv), (aw, eW w), (ac, eA cy f), (ab, eA cy g)] s.heap := hP
  have hl := lv_entry ([.ref h0, .int p0, .int p1]) (n := 3) (Nat.le_of_ble_eq_true rfl)
  rw [lg_entry_eq]
  generalize (lg_sl ([.ref h0, .int p0, .int p1]) ++ List.replicate (3 - (lg_sl ([.ref h0, .int p0, .int p1])).length) Slot.unset).toArray = ls at hl ⊢
  have hl : lv_has ls 3 [(0, .ref h0), (1, .int p0), (2, .int p1)] := hl
  refine lv_iload_n hx hb dX0_areLike_0 rfl (lv_at hl 1 rfl) ?_
  have hPc := hP.sub (ws' := []) [] rfl
  have hDc := hD.sub (ws' := []) [] (by decide +kernel) rfl
  have hKc := hK.sub (tys' := []) [] rfl
  refine vx_callv (vx_runSN (As := [.int p0]) (rest := []) ⟨hx, hb, hml, hown, hts⟩ (k_X2_checkCell l hfl dC dI s.heap.size N p0) ⟨va_cnB 1 hts gX0_areLike_X2_checkCell_n22 rfl rfl rfl (hG.1 (.methodLinkNest RX0 22 yX2_checkCell RX2) (List.mem_of_getElem? (i := 0) rfl)) (hts (.initialized RX2) (by decide +kernel)) (by decide +kernel) ⟨Nat.le_of_ble_eq_true rfl, Nat.le_of_ble_eq_true rfl⟩, hts (.static yX2_checkCell) (by decide +kernel), trivial⟩ (xM.preS hKc hPc hDc (fun _ h => h) (Nat.le_trans hN hS.1) (hG.kept hS hAN)) rfl rfl hl.1 rfl (lv_room (Nat.le_of_ble_eq_true rfl)) dX0_areLike_1 ⟨Nat.le_of_ble_eq_true rfl, Nat.le_of_ble_eq_true rfl⟩) hS xA_old (fun q h => hA q (Nat.le_trans hS.1 h)) xA_old (fun E ce q9 u9 t H locs ht hvm hpx hbx hz hk hS hce hcv hcl => ?_) (fun u t H locs ht hvm hw hB hz hk hS => ?_)
  · have c_2 : ¬ (o_X2_checkCell p0) = 0 := hpx
    have hbe := hbx
    have hP := xP_keep hP hk
    have he : o_X0_areLike w f p0 p1 = ((o_X2_checkCell p0), false) := by (rw [o_X0_areLike, if_neg c_2]) <;> rfl
    exact vx_out (fun x hx => (hno x hx).elim) hlocks hce hcv hcl (fun t ht hvm => ⟨(), by rw [he]; exact c_2, by rw [he]; exact hbe, hS.F ht⟩) hS.2.2 (by omega) (by omega)
  · skip
    have c_3 := hw
    have c_3 : (o_X2_checkCell p0) = 0 := c_3
    have hP := xP_keep hP hk
    refine lv_iload_n hx hb dX0_areLike_4 rfl (lv_at hl 2 rfl) ?_
    have hPc := hP.sub (ws' := []) [] rfl
    have hDc := hD.sub (ws' := []) [] (by decide +kernel) rfl
    have hKc := hK.sub (tys' := []) [] rfl
    refine vx_callv (vx_runSN (As := [.int p1]) (rest := []) ⟨hx, hb, hml, hown, hts⟩ (k_X2_checkCell l hfl dC dI H.size N p1) ⟨va_cnB 1 hts gX0_areLike_X2_checkCell_n22 rfl rfl rfl (hG.1 (.methodLinkNest RX0 22 yX2_checkCell RX2) (List.mem_of_getElem? (i := 0) rfl)) (hts (.initialized RX2) (by decide +kernel)) (by decide +kernel) ⟨Nat.le_of_ble_eq_true rfl, Nat.le_of_ble_eq_true rfl⟩, hts (.static yX2_checkCell) (by decide +kernel), trivial⟩ (xM.preS hKc hPc hDc (fun _ h => h) (Nat.le_trans hN hS.1) (hG.kept hS hAN)) rfl rfl hl.1 rfl (lv_room (Nat.le_of_ble_eq_true rfl)) dX0_areLike_5 ⟨Nat.le_of_ble_eq_true rfl, Nat.le_of_ble_eq_true rfl⟩) hS xA_old (fun q h => hA q (Nat.le_trans hS.1 h)) xA_old (fun E ce q9 u9 t H locs ht hvm hpx hbx hz hk hS hce hcv hcl => ?_) (fun u t H locs ht hvm hw hB hz hk hS => ?_)
    · have c_5 : ¬ (o_X2_checkCell p1) = 0 := hpx
      have hbe := hbx
      have hP := xP_keep hP hk
      have he : o_X0_areLike w f p0 p1 = ((o_X2_checkCell p1), false) := by (rw [o_X0_areLike, if_pos c_3, if_neg c_5]) <;> rfl
      exact vx_out (fun x hx => (hno x hx).elim) hlocks hce hcv hcl (fun t ht hvm => ⟨(), by rw [he]; exact c_5, by rw [he]; exact hbe, hS.F ht⟩) hS.2.2 (by omega) (by omega)
    · skip
      have c_6 := hw
      have c_6 : (o_X2_checkCell p1) = 0 := c_6
      have hP := xP_keep hP hk
      refine lv_aload_n hx hb dX0_areLike_8 rfl (lv_at hl 0 rfl) ?_
      refine va_get (D := (dC, dI)) (ci := 2) (v := .ref aw) (C := RX0) (T := TX0) (N := 5) hx hb hts (by decide +kernel) hown hK hP 0 rfl rfl 0 (by decide +kernel) (hts (.fieldLink RX0 9 "Edgefloats$Row" "width" "LEdgefloats$Width;") (by decide +kernel)) (fun _ h9 => h9) rfl dX0_areLike_9 ?_
      refine lv_aload_n hx hb dX0_areLike_12 rfl (lv_at hl 0 rfl) ?_
      refine va_get (D := (dC, dI)) (ci := 2) (v := .ref ac) (C := RX0) (T := TX0) (N := 5) hx hb hts (by decide +kernel) hown hK hP 0 rfl rfl 1 (by decide +kernel) (hts (.fieldLink RX0 15 "Edgefloats$Row" "cells" "[J") (by decide +kernel)) (fun _ h9 => h9) rfl dX0_areLike_13 ?_
      refine lv_iload_n hx hb dX0_areLike_16 rfl (lv_at hl 1 rfl) ?_
      refine xa_lald hx hb hK hP 2 0 (f := f) rfl rfl (k := p0.toNatClampNeg) (xm_cc c_3) rfl dX0_areLike_17 ?_
      refine lv_aload_n hx hb dX0_areLike_18 rfl (lv_at hl 0 rfl) ?_
      refine va_get (D := (dC, dI)) (ci := 2) (v := .ref ac) (C := RX0) (T := TX0) (N := 5) hx hb hts (by decide +kernel) hown hK hP 0 rfl rfl 1 (by decide +kernel) (hts (.fieldLink RX0 15 "Edgefloats$Row" "cells" "[J") (by decide +kernel)) (fun _ h9 => h9) rfl dX0_areLike_19 ?_
      refine lv_iload_n hx hb dX0_areLike_22 rfl (lv_at hl 2 rfl) ?_
      refine xa_lald hx hb hK hP 2 0 (f := f) rfl rfl (k := p1.toNatClampNeg) (xm_cc c_6) rfl dX0_areLike_23 ?_
      have hPc := hP.sub (ws' := [(aw, eW w)]) [1] rfl
      have hKc := hK.sub (tys' := []) [] rfl
      refine va_calli (va_runV (As := [.long (f p0.toNatClampNeg), .long (f p1.toNatClampNeg)]) (rest := []) ⟨hx, hb, hml, hown, hts⟩ (k_X1_areLike l dC dI aw w H.size (f p0.toNatClampNeg) (f p1.toNatClampNeg)) (cwV 2 hts gX0_areLike_X1_areLike rfl rfl rfl (by decide +kernel) ⟨Nat.le_of_ble_eq_true rfl, Nat.le_of_ble_eq_true rfl⟩) (xB.preV hKc hPc (ci := 3) (q0 := 0) rfl rfl) rfl rfl hl.1 rfl (lv_room (Nat.le_of_ble_eq_true rfl)) dX0_areLike_24 ⟨Nat.le_of_ble_eq_true rfl, Nat.le_of_ble_eq_true rfl⟩) hS xA_old (fun q h => hA q (Nat.le_trans hS.1 h)) (fun r_7 u t H locs ht hvm hw hB hz hk hS => ?_)
      replace hw : r_7 = b2i (o_X1_areLike w (f p0.toNatClampNeg) (f p1.toNatClampNeg)) := hw
      subst r_7
      have hP := xP_keep hP hk
      have he : o_X0_areLike w f p0 p1 = (0, (o_X1_areLike w (f p0.toNatClampNeg) (f p1.toNatClampNeg))) := by (rw [o_X0_areLike, if_pos c_3, if_pos c_6]) <;> rfl
      refine W.widen (k := 2) (n := 12) (by omega) (by omega) ?_
      refine vx_ret ?_
      exact W.zret (v := (b2i (o_X1_areLike w (f p0.toNatClampNeg) (f p1.toNatClampNeg)))) (ty := .boolean) hx hb hr (b2i_nar _) (fun t ht hW => ⟨⟨_, (), rfl, ⟨(by (rw [he]) <;> rfl), (by (rw [he]) <;> rfl)⟩, trivial⟩, hS.F ht⟩) hS.2.2 dX0_areLike_27
theorem cl_X0_isBelow_1 : ∀ w ∈ [.fieldLink RX0 9 "Edgefloats$Row" "width" "LEdgefloats$Width;", .fieldLink RX0 15 "Edgefloats$Row" "cells" "[J", .static yX2_checkCell, .initialized RX2, .code yX2_checkCell cX2_checkCell 1 none, .classLink RX2 148 "java/lang/IndexOutOfBoundsException", .initialized "java/lang/IndexOutOfBoundsException", .methodLink RX0 106 yX1_isBelow, .instanceMethod yX1_isBelow, .selects RX1 yX1_isBelow yX1_isBelow, .initialized RX1, .code yX1_isBelow cX1_isBelow 5 (some .boolean), .methodLink RX1 45 yX1_rank, .instanceMethod yX1_rank, .selects RX1 yX1_rank yX1_rank, .code yX1_rank cX1_rank 5 (some .long), .fieldLink RX1 28 "Edgefloats$Width" "sizeOnes" "J", .fieldLink RX1 25 "Edgefloats$Width" "signOne" "J", .methodLink RX0 103 yX1_areLike, .instanceMethod yX1_areLike, .selects RX1 yX1_areLike yX1_areLike, .code yX1_areLike cX1_areLike 5 (some .boolean)], w ∈ wsX0_isBelow := fun _ h => (List.mem_cons_of_mem _ (List.mem_append_left _ (List.mem_append_left _ (List.mem_append_left _ h))))
theorem cl_X0_isBelow_2 : ∀ w ∈ wsX00, w ∈ wsX0_isBelow := fun _ h => (List.mem_cons_of_mem _ (List.mem_append_left _ (List.mem_append_left _ (List.mem_append_right _ h))))
theorem cl_X0_isBelow_3 : ∀ w ∈ wsX10, w ∈ wsX0_isBelow := fun _ h => (List.mem_cons_of_mem _ (List.mem_append_left _ (List.mem_append_right _ h)))
theorem cl_X0_isBelow_4 : ∀ w ∈ (vx_atS RX2 152 "java/lang/IndexOutOfBoundsException" ["java/lang/RuntimeException", "java/lang/Exception"]).filter goodWord, w ∈ wsX0_isBelow := fun _ h => (List.mem_cons_of_mem _ (List.mem_append_right _ h))
set_option maxRecDepth 20000 in
theorem ggX0_isBelow_X2_checkCell : GoodIn wsX0_isBelow wsX2_checkCell := goodIn_sub (List.forall_mem_cons.mpr ⟨(cl_X0_isBelow_1 _ (List.mem_of_getElem? (i := 4) rfl)), fun w h => (List.mem_append.mp h).elim ((List.forall_mem_cons.mpr ⟨(cl_X0_isBelow_1 _ (List.mem_of_getElem? (i := 5) rfl)), List.forall_mem_cons.mpr ⟨(cl_X0_isBelow_1 _ (List.mem_of_getElem? (i := 6) rfl)), fun _ h => absurd h List.not_mem_nil⟩⟩) w) ((cl_X0_isBelow_4) w)⟩) (by decide +kernel)
set_option maxRecDepth 20000 in
theorem gX0_isBelow_X2_checkCell_n22 : GoodIn wsX0_isBelow (wsX2_checkCell) := ggX0_isBelow_X2_checkCell
set_option maxRecDepth 20000 in
theorem ggX0_isBelow_X1_isBelow : GoodIn wsX0_isBelow wsX1_isBelow := goodIn_sub (List.forall_mem_cons.mpr ⟨(cl_X0_isBelow_1 _ (List.mem_of_getElem? (i := 11) rfl)), fun w h => (List.mem_append.mp h).elim ((List.forall_mem_cons.mpr ⟨(cl_X0_isBelow_1 _ (List.mem_of_getElem? (i := 12) rfl)), List.forall_mem_cons.mpr ⟨(cl_X0_isBelow_1 _ (List.mem_of_getElem? (i := 13) rfl)), List.forall_mem_cons.mpr ⟨(cl_X0_isBelow_1 _ (List.mem_of_getElem? (i := 14) rfl)), List.forall_mem_cons.mpr ⟨(cl_X0_isBelow_1 _ (List.mem_of_getElem? (i := 10) rfl)), List.forall_mem_cons.mpr ⟨(cl_X0_isBelow_1 _ (List.mem_of_getElem? (i := 15) rfl)), List.forall_mem_cons.mpr ⟨(cl_X0_isBelow_1 _ (List.mem_of_getElem? (i := 16) rfl)), List.forall_mem_cons.mpr ⟨(cl_X0_isBelow_1 _ (List.mem_of_getElem? (i := 17) rfl)), fun _ h => absurd h List.not_mem_nil⟩⟩⟩⟩⟩⟩⟩) w) ((cl_X0_isBelow_3) w)⟩) (by decide +kernel)
set_option maxRecDepth 20000 in
theorem gX0_isBelow_X1_isBelow : GoodIn wsX0_isBelow (wsV RX0 106 RX1 yX1_isBelow wsX1_isBelow) := goodIn_app (goodIn_sub (List.forall_mem_cons.mpr ⟨(cl_X0_isBelow_1 _ (List.mem_of_getElem? (i := 7) rfl)), List.forall_mem_cons.mpr ⟨(cl_X0_isBelow_1 _ (List.mem_of_getElem? (i := 8) rfl)), List.forall_mem_cons.mpr ⟨(cl_X0_isBelow_1 _ (List.mem_of_getElem? (i := 9) rfl)), List.forall_mem_cons.mpr ⟨(cl_X0_isBelow_1 _ (List.mem_of_getElem? (i := 10) rfl)), fun _ h => absurd h List.not_mem_nil⟩⟩⟩⟩) (by decide +kernel)) ggX0_isBelow_X1_isBelow
set_option maxRecDepth 20000 in
theorem ggX0_isBelow_X1_areLike : GoodIn wsX0_isBelow wsX1_areLike := goodIn_sub (List.forall_mem_cons.mpr ⟨(cl_X0_isBelow_1 _ (List.mem_of_getElem? (i := 21) rfl)), fun w h => (List.mem_append.mp h).elim ((List.forall_mem_cons.mpr ⟨(cl_X0_isBelow_1 _ (List.mem_of_getElem? (i := 12) rfl)), List.forall_mem_cons.mpr ⟨(cl_X0_isBelow_1 _ (List.mem_of_getElem? (i := 13) rfl)), List.forall_mem_cons.mpr ⟨(cl_X0_isBelow_1 _ (List.mem_of_getElem? (i := 14) rfl)), List.forall_mem_cons.mpr ⟨(cl_X0_isBelow_1 _ (List.mem_of_getElem? (i := 10) rfl)), List.forall_mem_cons.mpr ⟨(cl_X0_isBelow_1 _ (List.mem_of_getElem? (i := 15) rfl)), List.forall_mem_cons.mpr ⟨(cl_X0_isBelow_1 _ (List.mem_of_getElem? (i := 16) rfl)), List.forall_mem_cons.mpr ⟨(cl_X0_isBelow_1 _ (List.mem_of_getElem? (i := 17) rfl)), fun _ h => absurd h List.not_mem_nil⟩⟩⟩⟩⟩⟩⟩) w) ((cl_X0_isBelow_3) w)⟩) (by decide +kernel)
set_option maxRecDepth 20000 in
theorem gX0_isBelow_X1_areLike : GoodIn wsX0_isBelow (wsV RX0 103 RX1 yX1_areLike wsX1_areLike) := goodIn_app (goodIn_sub (List.forall_mem_cons.mpr ⟨(cl_X0_isBelow_1 _ (List.mem_of_getElem? (i := 18) rfl)), List.forall_mem_cons.mpr ⟨(cl_X0_isBelow_1 _ (List.mem_of_getElem? (i := 19) rfl)), List.forall_mem_cons.mpr ⟨(cl_X0_isBelow_1 _ (List.mem_of_getElem? (i := 20) rfl)), List.forall_mem_cons.mpr ⟨(cl_X0_isBelow_1 _ (List.mem_of_getElem? (i := 10) rfl)), fun _ h => absurd h List.not_mem_nil⟩⟩⟩⟩) (by decide +kernel)) ggX0_isBelow_X1_areLike
noncomputable def dz_p11_20 : List (Nat × Instr × Nat) := [(0, (.iload_n 1, 1)), (1, (.invokestatic 22, 3)), (4, (.iload_n 2, 1)), (5, (.invokestatic 22, 3)), (8, (.aload_n 0, 1)), (9, (.getfield 9, 3)), (12, (.aload_n 0, 1)), (13, (.getfield 15, 3)), (16, (.iload_n 1, 1)), (17, (.laload, 1)), (18, (.aload_n 0, 1)), (19, (.getfield 15, 3)), (22, (.iload_n 2, 1)), (23, (.laload, 1)), (24, (.invokevirtual 106, 3)), (27, (.ifCond .ne 29, 3)), (30, (.iload_n 3, 1)), (31, (.ifCond .eq 29, 3)), (34, (.aload_n 0, 1)), (35, (.getfield 9, 3)), (38, (.aload_n 0, 1)), (39, (.getfield 15, 3)), (42, (.iload_n 1, 1)), (43, (.laload, 1)), (44, (.aload_n 0, 1)), (45, (.getfield 15, 3)), (48, (.iload_n 2, 1)), (49, (.laload, 1)), (50, (.invokevirtual 103, 3)), (53, (.ifCond .eq 7, 3)), (56, (.iconst 1, 1)), (57, (.goto 4, 3)), (60, (.iconst 0, 1)), (61, (.ireturn, 1))]
theorem dy_p11_20 : dz_ok cX0_isBelow dz_p11_20 = true := by decide +kernel
theorem dX0_isBelow_0 : decode cX0_isBelow 0 = .ok (.iload_n 1, 1) := dz_at (i := 0) dy_p11_20 rfl
theorem dX0_isBelow_1 : decode cX0_isBelow 1 = .ok (.invokestatic 22, 3) := dz_at (i := 1) dy_p11_20 rfl
theorem dX0_isBelow_4 : decode cX0_isBelow 4 = .ok (.iload_n 2, 1) := dz_at (i := 2) dy_p11_20 rfl
theorem dX0_isBelow_5 : decode cX0_isBelow 5 = .ok (.invokestatic 22, 3) := dz_at (i := 3) dy_p11_20 rfl
theorem dX0_isBelow_8 : decode cX0_isBelow 8 = .ok (.aload_n 0, 1) := dz_at (i := 4) dy_p11_20 rfl
theorem dX0_isBelow_9 : decode cX0_isBelow 9 = .ok (.getfield 9, 3) := dz_at (i := 5) dy_p11_20 rfl
theorem dX0_isBelow_12 : decode cX0_isBelow 12 = .ok (.aload_n 0, 1) := dz_at (i := 6) dy_p11_20 rfl
theorem dX0_isBelow_13 : decode cX0_isBelow 13 = .ok (.getfield 15, 3) := dz_at (i := 7) dy_p11_20 rfl
theorem dX0_isBelow_16 : decode cX0_isBelow 16 = .ok (.iload_n 1, 1) := dz_at (i := 8) dy_p11_20 rfl
theorem dX0_isBelow_17 : decode cX0_isBelow 17 = .ok (.laload, 1) := dz_at (i := 9) dy_p11_20 rfl
theorem dX0_isBelow_18 : decode cX0_isBelow 18 = .ok (.aload_n 0, 1) := dz_at (i := 10) dy_p11_20 rfl
theorem dX0_isBelow_19 : decode cX0_isBelow 19 = .ok (.getfield 15, 3) := dz_at (i := 11) dy_p11_20 rfl
theorem dX0_isBelow_22 : decode cX0_isBelow 22 = .ok (.iload_n 2, 1) := dz_at (i := 12) dy_p11_20 rfl
theorem dX0_isBelow_23 : decode cX0_isBelow 23 = .ok (.laload, 1) := dz_at (i := 13) dy_p11_20 rfl
theorem dX0_isBelow_24 : decode cX0_isBelow 24 = .ok (.invokevirtual 106, 3) := dz_at (i := 14) dy_p11_20 rfl
theorem dX0_isBelow_27 : decode cX0_isBelow 27 = .ok (.ifCond .ne 29, 3) := dz_at (i := 15) dy_p11_20 rfl
theorem dX0_isBelow_30 : decode cX0_isBelow 30 = .ok (.iload_n 3, 1) := dz_at (i := 16) dy_p11_20 rfl
theorem dX0_isBelow_31 : decode cX0_isBelow 31 = .ok (.ifCond .eq 29, 3) := dz_at (i := 17) dy_p11_20 rfl
theorem dX0_isBelow_34 : decode cX0_isBelow 34 = .ok (.aload_n 0, 1) := dz_at (i := 18) dy_p11_20 rfl
theorem dX0_isBelow_35 : decode cX0_isBelow 35 = .ok (.getfield 9, 3) := dz_at (i := 19) dy_p11_20 rfl
theorem dX0_isBelow_38 : decode cX0_isBelow 38 = .ok (.aload_n 0, 1) := dz_at (i := 20) dy_p11_20 rfl
theorem dX0_isBelow_39 : decode cX0_isBelow 39 = .ok (.getfield 15, 3) := dz_at (i := 21) dy_p11_20 rfl
theorem dX0_isBelow_42 : decode cX0_isBelow 42 = .ok (.iload_n 1, 1) := dz_at (i := 22) dy_p11_20 rfl
theorem dX0_isBelow_43 : decode cX0_isBelow 43 = .ok (.laload, 1) := dz_at (i := 23) dy_p11_20 rfl
theorem dX0_isBelow_44 : decode cX0_isBelow 44 = .ok (.aload_n 0, 1) := dz_at (i := 24) dy_p11_20 rfl
theorem dX0_isBelow_45 : decode cX0_isBelow 45 = .ok (.getfield 15, 3) := dz_at (i := 25) dy_p11_20 rfl
theorem dX0_isBelow_48 : decode cX0_isBelow 48 = .ok (.iload_n 2, 1) := dz_at (i := 26) dy_p11_20 rfl
theorem dX0_isBelow_49 : decode cX0_isBelow 49 = .ok (.laload, 1) := dz_at (i := 27) dy_p11_20 rfl
theorem dX0_isBelow_50 : decode cX0_isBelow 50 = .ok (.invokevirtual 103, 3) := dz_at (i := 28) dy_p11_20 rfl
theorem dX0_isBelow_53 : decode cX0_isBelow 53 = .ok (.ifCond .eq 7, 3) := dz_at (i := 29) dy_p11_20 rfl
theorem dX0_isBelow_56 : decode cX0_isBelow 56 = .ok (.iconst 1, 1) := dz_at (i := 30) dy_p11_20 rfl
theorem dX0_isBelow_57 : decode cX0_isBelow 57 = .ok (.goto 4, 3) := dz_at (i := 31) dy_p11_20 rfl
theorem dX0_isBelow_60 : decode cX0_isBelow 60 = .ok (.iconst 0, 1) := dz_at (i := 32) dy_p11_20 rfl
theorem dX0_isBelow_61 : decode cX0_isBelow 61 = .ok (.ireturn, 1) := dz_at (i := 33) dy_p11_20 rfl
noncomputable def o_X0_isBelow (w : Bool) (f : Nat → Int64) (p0 : Int32) (p1 : Int32) (p2 : Bool) : Int32 × Bool :=
  if (o_X2_checkCell p0) = 0 then (if (o_X2_checkCell p1) = 0 then (if (o_X1_isBelow w (f p0.toNatClampNeg) (f p1.toNatClampNeg)) = true then (0, true)
      else if p2 = true then (if (o_X1_areLike w (f p0.toNatClampNeg) (f p1.toNatClampNeg)) = true then (0, true)
        else (0, false))
      else (0, false))
    else ((o_X2_checkCell p1), false))
  else ((o_X2_checkCell p0), false)
set_option maxHeartbeats 4000000 in
set_option maxRecDepth 100000 in
theorem k_X0_isBelow (l : Launch) (hfl : l.flags = flags0) (dC : Nat → ClassId) (dI : Nat → Nat → Nat) (cy : ClassId) (h0 : Nat) (aw : Nat) (ac : Nat) (ab : Nat) (w : Bool) (a : Int32) (rv : Int32) (f : Nat → Int64) (g : Nat → Int64) (sz : Nat) (N : Nat) (p0 : Int32) (p1 : Int32) (p2 : Bool) : vx_Met l yX0_isBelow wsX0_isBelow ({ frames := 7, cells := 2, slots := 12, locals := 120 }) (va_Pc [.ref h0, .int p0, .int p1, .int (b2i p2)] (xM (dC, dI) xCl [(h0, eR aw ac ab a rv), (aw, eW w), (ac, eA cy f), (ab, eA cy g)] [(cy, .long)] sz N)) (va_Qi (fun (r : Int32) (_ : Unit) => (o_X0_isBelow w f p0 p1 p2).1 = 0 ∧ r = b2i ((o_X0_isBelow w f p0 p1 p2).2)) (fun _ _ => True) (aN sz)) (vx_X (fun _ : Unit => ¬ (o_X0_isBelow w f p0 p1 p2).1 = 0) (fun E _ _ => E = xE (o_X0_isBelow w f p0 p1 p2).1) (aN sz)) 2 12 (aN sz) := by
  refine vx_ofW (cc := cX0_isBelow) (maxL := 4) (ret := (some .boolean)) (by decide +kernel) rfl ?_
  intro p e s m args below meth c s₁ B hml hno hv
  obtain ⟨rfl, hsz, hP, hK, hD0, hN, hG⟩ := hv
  have hx := B.exec
  have hb := B.bytes
  have hr := B.returns
  have hts := atoms_spec (ws := wsX0_isBelow) B.pre
  have hown : s.vm.findClass RX0 = some m.cls := findClass_of_methodNamed B.named
  have hlocks := B.notSynchronized
  subst hsz
  have hA : ∀ q : Nat, s.heap.size ≤ q → aN s.heap.size q := fun _ h => h
  have hD := hD0
  have hAN : ∀ q, aN s.heap.size q → N ≤ q := fun q h => Nat.le_trans hN h
  have hS : va_S (aN s.heap.size) s.heap s.heap [] := va_S.rf
  have hP : va_P (dC, dI) xCl [(h0, eR aw ac ab a rv), (aw, eW w), (ac, eA cy f), (ab, eA cy g)] s.heap := hP
  have hl := lv_entry ([.ref h0, .int p0, .int p1, .int (b2i p2)]) (n := 4) (Nat.le_of_ble_eq_true rfl)
  rw [lg_entry_eq]
  generalize (lg_sl ([.ref h0, .int p0, .int p1, .int (b2i p2)]) ++ List.replicate (4 - (lg_sl ([.ref h0, .int p0, .int p1, .int (b2i p2)])).length) Slot.unset).toArray = ls at hl ⊢
  have hl : lv_has ls 4 [(0, .ref h0), (1, .int p0), (2, .int p1), (3, .int (b2i p2))] := hl
  refine lv_iload_n hx hb dX0_isBelow_0 rfl (lv_at hl 1 rfl) ?_
  have hPc := hP.sub (ws' := []) [] rfl
  have hDc := hD.sub (ws' := []) [] (by decide +kernel) rfl
  have hKc := hK.sub (tys' := []) [] rfl
  refine vx_callv (vx_runSN (As := [.int p0]) (rest := []) ⟨hx, hb, hml, hown, hts⟩ (k_X2_checkCell l hfl dC dI s.heap.size N p0) ⟨va_cnB 1 hts gX0_isBelow_X2_checkCell_n22 rfl rfl rfl (hG.1 (.methodLinkNest RX0 22 yX2_checkCell RX2) (List.mem_of_getElem? (i := 0) rfl)) (hts (.initialized RX2) (by decide +kernel)) (by decide +kernel) ⟨Nat.le_of_ble_eq_true rfl, Nat.le_of_ble_eq_true rfl⟩, hts (.static yX2_checkCell) (by decide +kernel), trivial⟩ (xM.preS hKc hPc hDc (fun _ h => h) (Nat.le_trans hN hS.1) (hG.kept hS hAN)) rfl rfl hl.1 rfl (lv_room (Nat.le_of_ble_eq_true rfl)) dX0_isBelow_1 ⟨Nat.le_of_ble_eq_true rfl, Nat.le_of_ble_eq_true rfl⟩) hS xA_old (fun q h => hA q (Nat.le_trans hS.1 h)) xA_old (fun E ce q9 u9 t H locs ht hvm hpx hbx hz hk hS hce hcv hcl => ?_) (fun u t H locs ht hvm hw hB hz hk hS => ?_)
  · have c_2 : ¬ (o_X2_checkCell p0) = 0 := hpx
    have hbe := hbx
    have hP := xP_keep hP hk
    have he : o_X0_isBelow w f p0 p1 p2 = ((o_X2_checkCell p0), false) := by (rw [o_X0_isBelow, if_neg c_2]) <;> rfl
    exact vx_out (fun x hx => (hno x hx).elim) hlocks hce hcv hcl (fun t ht hvm => ⟨(), by rw [he]; exact c_2, by rw [he]; exact hbe, hS.F ht⟩) hS.2.2 (by omega) (by omega)
  · skip
    have c_3 := hw
    have c_3 : (o_X2_checkCell p0) = 0 := c_3
    have hP := xP_keep hP hk
    refine lv_iload_n hx hb dX0_isBelow_4 rfl (lv_at hl 2 rfl) ?_
    have hPc := hP.sub (ws' := []) [] rfl
    have hDc := hD.sub (ws' := []) [] (by decide +kernel) rfl
    have hKc := hK.sub (tys' := []) [] rfl
    refine vx_callv (vx_runSN (As := [.int p1]) (rest := []) ⟨hx, hb, hml, hown, hts⟩ (k_X2_checkCell l hfl dC dI H.size N p1) ⟨va_cnB 1 hts gX0_isBelow_X2_checkCell_n22 rfl rfl rfl (hG.1 (.methodLinkNest RX0 22 yX2_checkCell RX2) (List.mem_of_getElem? (i := 0) rfl)) (hts (.initialized RX2) (by decide +kernel)) (by decide +kernel) ⟨Nat.le_of_ble_eq_true rfl, Nat.le_of_ble_eq_true rfl⟩, hts (.static yX2_checkCell) (by decide +kernel), trivial⟩ (xM.preS hKc hPc hDc (fun _ h => h) (Nat.le_trans hN hS.1) (hG.kept hS hAN)) rfl rfl hl.1 rfl (lv_room (Nat.le_of_ble_eq_true rfl)) dX0_isBelow_5 ⟨Nat.le_of_ble_eq_true rfl, Nat.le_of_ble_eq_true rfl⟩) hS xA_old (fun q h => hA q (Nat.le_trans hS.1 h)) xA_old (fun E ce q9 u9 t H locs ht hvm hpx hbx hz hk hS hce hcv hcl => ?_) (fun u t H locs ht hvm hw hB hz hk hS => ?_)
    · have c_5 : ¬ (o_X2_checkCell p1) = 0 := hpx
      have hbe := hbx
      have hP := xP_keep hP hk
      have he : o_X0_isBelow w f p0 p1 p2 = ((o_X2_checkCell p1), false) := by (rw [o_X0_isBelow, if_pos c_3, if_neg c_5]) <;> rfl
      exact vx_out (fun x hx => (hno x hx).elim) hlocks hce hcv hcl (fun t ht hvm => ⟨(), by rw [he]; exact c_5, by rw [he]; exact hbe, hS.F ht⟩) hS.2.2 (by omega) (by omega)
    · skip
      have c_6 := hw
      have c_6 : (o_X2_checkCell p1) = 0 := c_6
      have hP := xP_keep hP hk
      refine lv_aload_n hx hb dX0_isBelow_8 rfl (lv_at hl 0 rfl) ?_
      refine va_get (D := (dC, dI)) (ci := 2) (v := .ref aw) (C := RX0) (T := TX0) (N := 5) hx hb hts (by decide +kernel) hown hK hP 0 rfl rfl 0 (by decide +kernel) (hts (.fieldLink RX0 9 "Edgefloats$Row" "width" "LEdgefloats$Width;") (by decide +kernel)) (fun _ h9 => h9) rfl dX0_isBelow_9 ?_
      refine lv_aload_n hx hb dX0_isBelow_12 rfl (lv_at hl 0 rfl) ?_
      refine va_get (D := (dC, dI)) (ci := 2) (v := .ref ac) (C := RX0) (T := TX0) (N := 5) hx hb hts (by decide +kernel) hown hK hP 0 rfl rfl 1 (by decide +kernel) (hts (.fieldLink RX0 15 "Edgefloats$Row" "cells" "[J") (by decide +kernel)) (fun _ h9 => h9) rfl dX0_isBelow_13 ?_
      refine lv_iload_n hx hb dX0_isBelow_16 rfl (lv_at hl 1 rfl) ?_
      refine xa_lald hx hb hK hP 2 0 (f := f) rfl rfl (k := p0.toNatClampNeg) (xm_cc c_3) rfl dX0_isBelow_17 ?_
      refine lv_aload_n hx hb dX0_isBelow_18 rfl (lv_at hl 0 rfl) ?_
      refine va_get (D := (dC, dI)) (ci := 2) (v := .ref ac) (C := RX0) (T := TX0) (N := 5) hx hb hts (by decide +kernel) hown hK hP 0 rfl rfl 1 (by decide +kernel) (hts (.fieldLink RX0 15 "Edgefloats$Row" "cells" "[J") (by decide +kernel)) (fun _ h9 => h9) rfl dX0_isBelow_19 ?_
      refine lv_iload_n hx hb dX0_isBelow_22 rfl (lv_at hl 2 rfl) ?_
      refine xa_lald hx hb hK hP 2 0 (f := f) rfl rfl (k := p1.toNatClampNeg) (xm_cc c_6) rfl dX0_isBelow_23 ?_
      have hPc := hP.sub (ws' := [(aw, eW w)]) [1] rfl
      have hKc := hK.sub (tys' := []) [] rfl
      refine va_calli (va_runV (As := [.long (f p0.toNatClampNeg), .long (f p1.toNatClampNeg)]) (rest := []) ⟨hx, hb, hml, hown, hts⟩ (k_X1_isBelow l dC dI aw w H.size (f p0.toNatClampNeg) (f p1.toNatClampNeg)) (cwV 2 hts gX0_isBelow_X1_isBelow rfl rfl rfl (by decide +kernel) ⟨Nat.le_of_ble_eq_true rfl, Nat.le_of_ble_eq_true rfl⟩) (xB.preV hKc hPc (ci := 3) (q0 := 0) rfl rfl) rfl rfl hl.1 rfl (lv_room (Nat.le_of_ble_eq_true rfl)) dX0_isBelow_24 ⟨Nat.le_of_ble_eq_true rfl, Nat.le_of_ble_eq_true rfl⟩) hS xA_old (fun q h => hA q (Nat.le_trans hS.1 h)) (fun r_7 u t H locs ht hvm hw hB hz hk hS => ?_)
      replace hw : r_7 = b2i (o_X1_isBelow w (f p0.toNatClampNeg) (f p1.toNatClampNeg)) := hw
      subst r_7
      have hP := xP_keep hP hk
      refine xz_ne (tgt := 56) hx hb dX0_isBelow_27 (by decide +kernel) (fun c_8 => ?_) (fun c_8 => ?_)
      · skip
        refine lv_iconst (v := 1) hx hb dX0_isBelow_56 (by decide +kernel) ?_
        refine lv_goto (tgt := 61) hx hb dX0_isBelow_57 (by decide +kernel) ?_
        have he : o_X0_isBelow w f p0 p1 p2 = (0, true) := by (rw [o_X0_isBelow, if_pos c_3, if_pos c_6, if_pos c_8]) <;> rfl
        refine W.widen (k := 2) (n := 12) (by omega) (by omega) ?_
        refine vx_ret ?_
        exact W.zret (v := 1) (ty := .boolean) hx hb hr rfl (fun t ht hW => ⟨⟨_, (), rfl, ⟨(by (rw [he]) <;> rfl), (by (rw [he]) <;> rfl)⟩, trivial⟩, hS.F ht⟩) hS.2.2 dX0_isBelow_61
      · skip
        refine lv_iload_n hx hb dX0_isBelow_30 rfl (lv_at hl 3 rfl) ?_
        refine xz_eq (tgt := 60) hx hb dX0_isBelow_31 (by decide +kernel) (fun c_9 => ?_) (fun c_9 => ?_)
        · skip
          refine lv_iconst (v := 0) hx hb dX0_isBelow_60 (by decide +kernel) ?_
          have he : o_X0_isBelow w f p0 p1 p2 = (0, false) := by (rw [o_X0_isBelow, if_pos c_3, if_pos c_6, if_neg c_8, if_neg c_9]) <;> rfl
          refine W.widen (k := 2) (n := 12) (by omega) (by omega) ?_
          refine vx_ret ?_
          exact W.zret (v := 0) (ty := .boolean) hx hb hr rfl (fun t ht hW => ⟨⟨_, (), rfl, ⟨(by (rw [he]) <;> rfl), (by (rw [he]) <;> rfl)⟩, trivial⟩, hS.F ht⟩) hS.2.2 dX0_isBelow_61
        · skip
          refine lv_aload_n hx hb dX0_isBelow_34 rfl (lv_at hl 0 rfl) ?_
          refine va_get (D := (dC, dI)) (ci := 2) (v := .ref aw) (C := RX0) (T := TX0) (N := 5) hx hb hts (by decide +kernel) hown hK hP 0 rfl rfl 0 (by decide +kernel) (hts (.fieldLink RX0 9 "Edgefloats$Row" "width" "LEdgefloats$Width;") (by decide +kernel)) (fun _ h9 => h9) rfl dX0_isBelow_35 ?_
          refine lv_aload_n hx hb dX0_isBelow_38 rfl (lv_at hl 0 rfl) ?_
          refine va_get (D := (dC, dI)) (ci := 2) (v := .ref ac) (C := RX0) (T := TX0) (N := 5) hx hb hts (by decide +kernel) hown hK hP 0 rfl rfl 1 (by decide +kernel) (hts (.fieldLink RX0 15 "Edgefloats$Row" "cells" "[J") (by decide +kernel)) (fun _ h9 => h9) rfl dX0_isBelow_39 ?_
          refine lv_iload_n hx hb dX0_isBelow_42 rfl (lv_at hl 1 rfl) ?_
          refine xa_lald hx hb hK hP 2 0 (f := f) rfl rfl (k := p0.toNatClampNeg) (xm_cc c_3) rfl dX0_isBelow_43 ?_
          refine lv_aload_n hx hb dX0_isBelow_44 rfl (lv_at hl 0 rfl) ?_
          refine va_get (D := (dC, dI)) (ci := 2) (v := .ref ac) (C := RX0) (T := TX0) (N := 5) hx hb hts (by decide +kernel) hown hK hP 0 rfl rfl 1 (by decide +kernel) (hts (.fieldLink RX0 15 "Edgefloats$Row" "cells" "[J") (by decide +kernel)) (fun _ h9 => h9) rfl dX0_isBelow_45 ?_
          refine lv_iload_n hx hb dX0_isBelow_48 rfl (lv_at hl 2 rfl) ?_
          refine xa_lald hx hb hK hP 2 0 (f := f) rfl rfl (k := p1.toNatClampNeg) (xm_cc c_6) rfl dX0_isBelow_49 ?_
          have hPc := hP.sub (ws' := [(aw, eW w)]) [1] rfl
          have hKc := hK.sub (tys' := []) [] rfl
          refine va_calli (va_runV (As := [.long (f p0.toNatClampNeg), .long (f p1.toNatClampNeg)]) (rest := []) ⟨hx, hb, hml, hown, hts⟩ (k_X1_areLike l dC dI aw w H.size (f p0.toNatClampNeg) (f p1.toNatClampNeg)) (cwV 2 hts gX0_isBelow_X1_areLike rfl rfl rfl (by decide +kernel) ⟨Nat.le_of_ble_eq_true rfl, Nat.le_of_ble_eq_true rfl⟩) (xB.preV hKc hPc (ci := 3) (q0 := 0) rfl rfl) rfl rfl hl.1 rfl (lv_room (Nat.le_of_ble_eq_true rfl)) dX0_isBelow_50 ⟨Nat.le_of_ble_eq_true rfl, Nat.le_of_ble_eq_true rfl⟩) hS xA_old (fun q h => hA q (Nat.le_trans hS.1 h)) (fun r_10 u t H locs ht hvm hw hB hz hk hS => ?_)
          replace hw : r_10 = b2i (o_X1_areLike w (f p0.toNatClampNeg) (f p1.toNatClampNeg)) := hw
          subst r_10
          have hP := xP_keep hP hk
          refine xz_eq (tgt := 60) hx hb dX0_isBelow_53 (by decide +kernel) (fun c_11 => ?_) (fun c_11 => ?_)
          · skip
            refine lv_iconst (v := 0) hx hb dX0_isBelow_60 (by decide +kernel) ?_
            have he : o_X0_isBelow w f p0 p1 p2 = (0, false) := by (rw [o_X0_isBelow, if_pos c_3, if_pos c_6, if_neg c_8, if_pos c_9, if_neg c_11]) <;> rfl
            refine W.widen (k := 2) (n := 12) (by omega) (by omega) ?_
            refine vx_ret ?_
            exact W.zret (v := 0) (ty := .boolean) hx hb hr rfl (fun t ht hW => ⟨⟨_, (), rfl, ⟨(by (rw [he]) <;> rfl), (by (rw [he]) <;> rfl)⟩, trivial⟩, hS.F ht⟩) hS.2.2 dX0_isBelow_61
          · skip
            refine lv_iconst (v := 1) hx hb dX0_isBelow_56 (by decide +kernel) ?_
            refine lv_goto (tgt := 61) hx hb dX0_isBelow_57 (by decide +kernel) ?_
            have he : o_X0_isBelow w f p0 p1 p2 = (0, true) := by (rw [o_X0_isBelow, if_pos c_3, if_pos c_6, if_neg c_8, if_pos c_9, if_pos c_11]) <;> rfl
            refine W.widen (k := 2) (n := 12) (by omega) (by omega) ?_
            refine vx_ret ?_
            exact W.zret (v := 1) (ty := .boolean) hx hb hr rfl (fun t ht hW => ⟨⟨_, (), rfl, ⟨(by (rw [he]) <;> rfl), (by (rw [he]) <;> rfl)⟩, trivial⟩, hS.F ht⟩) hS.2.2 dX0_isBelow_61
theorem cl_X0_hash_1 : ∀ w ∈ [.fieldLink RX0 9 "Edgefloats$Row" "width" "LEdgefloats$Width;", .fieldLink RX0 15 "Edgefloats$Row" "cells" "[J", .static yX2_checkCell, .initialized RX2, .code yX2_checkCell cX2_checkCell 1 none, .classLink RX2 148 "java/lang/IndexOutOfBoundsException", .initialized "java/lang/IndexOutOfBoundsException", .static yX2_checkChoice, .code yX2_checkChoice cX2_checkChoice 2 none, .classLink RX2 155 "java/lang/IllegalArgumentException", .initialized "java/lang/IllegalArgumentException", .methodLink RX0 109 yX1_hash, .instanceMethod yX1_hash, .selects RX1 yX1_hash yX1_hash, .initialized RX1, .code yX1_hash cX1_hash 3 (some .int)], w ∈ wsX0_hash := fun _ h => (List.mem_cons_of_mem _ (List.mem_append_left _ (List.mem_append_left _ (List.mem_append_left _ h))))
theorem cl_X0_hash_2 : ∀ w ∈ wsX00, w ∈ wsX0_hash := fun _ h => (List.mem_cons_of_mem _ (List.mem_append_left _ (List.mem_append_left _ (List.mem_append_right _ h))))
theorem cl_X0_hash_3 : ∀ w ∈ (vx_atS RX2 152 "java/lang/IndexOutOfBoundsException" ["java/lang/RuntimeException", "java/lang/Exception"]).filter goodWord, w ∈ wsX0_hash := fun _ h => (List.mem_cons_of_mem _ (List.mem_append_left _ (List.mem_append_right _ h)))
theorem cl_X0_hash_4 : ∀ w ∈ (vx_atS RX2 159 "java/lang/IllegalArgumentException" ["java/lang/RuntimeException", "java/lang/Exception"]).filter goodWord, w ∈ wsX0_hash := fun _ h => (List.mem_cons_of_mem _ (List.mem_append_right _ h))
set_option maxRecDepth 20000 in
theorem ggX0_hash_X2_checkCell : GoodIn wsX0_hash wsX2_checkCell := goodIn_sub (List.forall_mem_cons.mpr ⟨(cl_X0_hash_1 _ (List.mem_of_getElem? (i := 4) rfl)), fun w h => (List.mem_append.mp h).elim ((List.forall_mem_cons.mpr ⟨(cl_X0_hash_1 _ (List.mem_of_getElem? (i := 5) rfl)), List.forall_mem_cons.mpr ⟨(cl_X0_hash_1 _ (List.mem_of_getElem? (i := 6) rfl)), fun _ h => absurd h List.not_mem_nil⟩⟩) w) ((cl_X0_hash_3) w)⟩) (by decide +kernel)
set_option maxRecDepth 20000 in
theorem gX0_hash_X2_checkCell_n22 : GoodIn wsX0_hash (wsX2_checkCell) := ggX0_hash_X2_checkCell
set_option maxRecDepth 20000 in
theorem ggX0_hash_X2_checkChoice : GoodIn wsX0_hash wsX2_checkChoice := goodIn_sub (List.forall_mem_cons.mpr ⟨(cl_X0_hash_1 _ (List.mem_of_getElem? (i := 8) rfl)), fun w h => (List.mem_append.mp h).elim ((List.forall_mem_cons.mpr ⟨(cl_X0_hash_1 _ (List.mem_of_getElem? (i := 9) rfl)), List.forall_mem_cons.mpr ⟨(cl_X0_hash_1 _ (List.mem_of_getElem? (i := 10) rfl)), fun _ h => absurd h List.not_mem_nil⟩⟩) w) ((cl_X0_hash_4) w)⟩) (by decide +kernel)
set_option maxRecDepth 20000 in
theorem gX0_hash_X2_checkChoice_n55 : GoodIn wsX0_hash (wsX2_checkChoice) := ggX0_hash_X2_checkChoice
set_option maxRecDepth 20000 in
theorem ggX0_hash_X1_hash : GoodIn wsX0_hash wsX1_hash := goodIn_r _ [16] (by decide +kernel) (by decide +kernel)
set_option maxRecDepth 20000 in
theorem gX0_hash_X1_hash : GoodIn wsX0_hash (wsV RX0 109 RX1 yX1_hash wsX1_hash) := goodIn_app (goodIn_sub (List.forall_mem_cons.mpr ⟨(cl_X0_hash_1 _ (List.mem_of_getElem? (i := 11) rfl)), List.forall_mem_cons.mpr ⟨(cl_X0_hash_1 _ (List.mem_of_getElem? (i := 12) rfl)), List.forall_mem_cons.mpr ⟨(cl_X0_hash_1 _ (List.mem_of_getElem? (i := 13) rfl)), List.forall_mem_cons.mpr ⟨(cl_X0_hash_1 _ (List.mem_of_getElem? (i := 14) rfl)), fun _ h => absurd h List.not_mem_nil⟩⟩⟩⟩) (by decide +kernel)) ggX0_hash_X1_hash
noncomputable def dz_p11_21 : List (Nat × Instr × Nat) := [(0, (.iload_n 1, 1)), (1, (.invokestatic 22, 3)), (4, (.iload_n 2, 1)), (5, (.iconst 1, 1)), (6, (.invokestatic 55, 3)), (9, (.aload_n 0, 1)), (10, (.getfield 9, 3)), (13, (.aload_n 0, 1)), (14, (.getfield 15, 3)), (17, (.iload_n 1, 1)), (18, (.laload, 1)), (19, (.invokevirtual 109, 3)), (22, (.ireturn, 1))]
theorem dy_p11_21 : dz_ok cX0_hash dz_p11_21 = true := by decide +kernel
theorem dX0_hash_0 : decode cX0_hash 0 = .ok (.iload_n 1, 1) := dz_at (i := 0) dy_p11_21 rfl
theorem dX0_hash_1 : decode cX0_hash 1 = .ok (.invokestatic 22, 3) := dz_at (i := 1) dy_p11_21 rfl
theorem dX0_hash_4 : decode cX0_hash 4 = .ok (.iload_n 2, 1) := dz_at (i := 2) dy_p11_21 rfl
theorem dX0_hash_5 : decode cX0_hash 5 = .ok (.iconst 1, 1) := dz_at (i := 3) dy_p11_21 rfl
theorem dX0_hash_6 : decode cX0_hash 6 = .ok (.invokestatic 55, 3) := dz_at (i := 4) dy_p11_21 rfl
theorem dX0_hash_9 : decode cX0_hash 9 = .ok (.aload_n 0, 1) := dz_at (i := 5) dy_p11_21 rfl
theorem dX0_hash_10 : decode cX0_hash 10 = .ok (.getfield 9, 3) := dz_at (i := 6) dy_p11_21 rfl
theorem dX0_hash_13 : decode cX0_hash 13 = .ok (.aload_n 0, 1) := dz_at (i := 7) dy_p11_21 rfl
theorem dX0_hash_14 : decode cX0_hash 14 = .ok (.getfield 15, 3) := dz_at (i := 8) dy_p11_21 rfl
theorem dX0_hash_17 : decode cX0_hash 17 = .ok (.iload_n 1, 1) := dz_at (i := 9) dy_p11_21 rfl
theorem dX0_hash_18 : decode cX0_hash 18 = .ok (.laload, 1) := dz_at (i := 10) dy_p11_21 rfl
theorem dX0_hash_19 : decode cX0_hash 19 = .ok (.invokevirtual 109, 3) := dz_at (i := 11) dy_p11_21 rfl
theorem dX0_hash_22 : decode cX0_hash 22 = .ok (.ireturn, 1) := dz_at (i := 12) dy_p11_21 rfl
noncomputable def o_X0_hash (f : Nat → Int64) (p0 : Int32) (p1 : Int32) : Int32 × Int32 :=
  if (o_X2_checkCell p0) = 0 then (if (o_X2_checkChoice p1 1) = 0 then (0, (o_X1_hash (f p0.toNatClampNeg)))
    else ((o_X2_checkChoice p1 1), 0))
  else ((o_X2_checkCell p0), 0)
set_option maxHeartbeats 4000000 in
set_option maxRecDepth 100000 in
theorem k_X0_hash (l : Launch) (hfl : l.flags = flags0) (dC : Nat → ClassId) (dI : Nat → Nat → Nat) (cy : ClassId) (h0 : Nat) (aw : Nat) (ac : Nat) (ab : Nat) (w : Bool) (a : Int32) (rv : Int32) (f : Nat → Int64) (g : Nat → Int64) (sz : Nat) (N : Nat) (p0 : Int32) (p1 : Int32) : vx_Met l yX0_hash wsX0_hash ({ frames := 7, cells := 2, slots := 12, locals := 121 }) (va_Pc [.ref h0, .int p0, .int p1] (xM (dC, dI) xCl [(h0, eR aw ac ab a rv), (aw, eW w), (ac, eA cy f), (ab, eA cy g)] [(cy, .long)] sz N)) (va_Qi (fun (r : Int32) (_ : Unit) => (o_X0_hash f p0 p1).1 = 0 ∧ r = (o_X0_hash f p0 p1).2) (fun _ _ => True) (aN sz)) (vx_X (fun _ : Unit => ¬ (o_X0_hash f p0 p1).1 = 0) (fun E _ _ => E = xE (o_X0_hash f p0 p1).1) (aN sz)) 2 12 (aN sz) := by
  refine vx_ofW (cc := cX0_hash) (maxL := 3) (ret := (some .int)) (by decide +kernel) rfl ?_
  intro p e s m args below meth c s₁ B hml hno hv
  obtain ⟨rfl, hsz, hP, hK, hD0, hN, hG⟩ := hv
  have hx := B.exec
  have hb := B.bytes
  have hr := B.returns
  have hts := atoms_spec (ws := wsX0_hash) B.pre
  have hown : s.vm.findClass RX0 = some m.cls := findClass_of_methodNamed B.named
  have hlocks := B.notSynchronized
  subst hsz
  have hA : ∀ q : Nat, s.heap.size ≤ q → aN s.heap.size q := fun _ h => h
  have hD := hD0
  have hAN : ∀ q, aN s.heap.size q → N ≤ q := fun q h => Nat.le_trans hN h
  have hS : va_S (aN s.heap.size) s.heap s.heap [] := va_S.rf
  have hP : va_P (dC, dI) xCl [(h0, eR aw ac ab a rv), (aw, eW w), (ac, eA cy f), (ab, eA cy g)] s.heap := hP
  have hl := lv_entry ([.ref h0, .int p0, .int p1]) (n := 3) (Nat.le_of_ble_eq_true rfl)
  rw [lg_entry_eq]
  generalize (lg_sl ([.ref h0, .int p0, .int p1]) ++ List.replicate (3 - (lg_sl ([.ref h0, .int p0, .int p1])).length) Slot.unset).toArray = ls at hl ⊢
  have hl : lv_has ls 3 [(0, .ref h0), (1, .int p0), (2, .int p1)] := hl
  refine lv_iload_n hx hb dX0_hash_0 rfl (lv_at hl 1 rfl) ?_
  have hPc := hP.sub (ws' := []) [] rfl
  have hDc := hD.sub (ws' := []) [] (by decide +kernel) rfl
  have hKc := hK.sub (tys' := []) [] rfl
  refine vx_callv (vx_runSN (As := [.int p0]) (rest := []) ⟨hx, hb, hml, hown, hts⟩ (k_X2_checkCell l hfl dC dI s.heap.size N p0) ⟨va_cnB 1 hts gX0_hash_X2_checkCell_n22 rfl rfl rfl (hG.1 (.methodLinkNest RX0 22 yX2_checkCell RX2) (List.mem_of_getElem? (i := 0) rfl)) (hts (.initialized RX2) (by decide +kernel)) (by decide +kernel) ⟨Nat.le_of_ble_eq_true rfl, Nat.le_of_ble_eq_true rfl⟩, hts (.static yX2_checkCell) (by decide +kernel), trivial⟩ (xM.preS hKc hPc hDc (fun _ h => h) (Nat.le_trans hN hS.1) (hG.kept hS hAN)) rfl rfl hl.1 rfl (lv_room (Nat.le_of_ble_eq_true rfl)) dX0_hash_1 ⟨Nat.le_of_ble_eq_true rfl, Nat.le_of_ble_eq_true rfl⟩) hS xA_old (fun q h => hA q (Nat.le_trans hS.1 h)) xA_old (fun E ce q9 u9 t H locs ht hvm hpx hbx hz hk hS hce hcv hcl => ?_) (fun u t H locs ht hvm hw hB hz hk hS => ?_)
  · have c_2 : ¬ (o_X2_checkCell p0) = 0 := hpx
    have hbe := hbx
    have hP := xP_keep hP hk
    have he : o_X0_hash f p0 p1 = ((o_X2_checkCell p0), 0) := by (rw [o_X0_hash, if_neg c_2]) <;> rfl
    exact vx_out (fun x hx => (hno x hx).elim) hlocks hce hcv hcl (fun t ht hvm => ⟨(), by rw [he]; exact c_2, by rw [he]; exact hbe, hS.F ht⟩) hS.2.2 (by omega) (by omega)
  · skip
    have c_3 := hw
    have c_3 : (o_X2_checkCell p0) = 0 := c_3
    have hP := xP_keep hP hk
    refine lv_iload_n hx hb dX0_hash_4 rfl (lv_at hl 2 rfl) ?_
    refine lv_iconst (v := 1) hx hb dX0_hash_5 (by decide +kernel) ?_
    have hPc := hP.sub (ws' := []) [] rfl
    have hDc := hD.sub (ws' := []) [] (by decide +kernel) rfl
    have hKc := hK.sub (tys' := []) [] rfl
    refine vx_callv (vx_runSN (As := [.int p1, .int 1]) (rest := []) ⟨hx, hb, hml, hown, hts⟩ (k_X2_checkChoice l hfl dC dI H.size N p1 1) ⟨va_cnB 2 hts gX0_hash_X2_checkChoice_n55 rfl rfl rfl (hG.1 (.methodLinkNest RX0 55 yX2_checkChoice RX2) (List.mem_of_getElem? (i := 1) rfl)) (hts (.initialized RX2) (by decide +kernel)) (by decide +kernel) ⟨Nat.le_of_ble_eq_true rfl, Nat.le_of_ble_eq_true rfl⟩, hts (.static yX2_checkChoice) (by decide +kernel), trivial⟩ (xM.preS hKc hPc hDc (fun _ h => h) (Nat.le_trans hN hS.1) (hG.kept hS hAN)) rfl rfl hl.1 rfl (lv_room (Nat.le_of_ble_eq_true rfl)) dX0_hash_6 ⟨Nat.le_of_ble_eq_true rfl, Nat.le_of_ble_eq_true rfl⟩) hS xA_old (fun q h => hA q (Nat.le_trans hS.1 h)) xA_old (fun E ce q9 u9 t H locs ht hvm hpx hbx hz hk hS hce hcv hcl => ?_) (fun u t H locs ht hvm hw hB hz hk hS => ?_)
    · have c_5 : ¬ (o_X2_checkChoice p1 1) = 0 := hpx
      have hbe := hbx
      have hP := xP_keep hP hk
      have he : o_X0_hash f p0 p1 = ((o_X2_checkChoice p1 1), 0) := by (rw [o_X0_hash, if_pos c_3, if_neg c_5]) <;> rfl
      exact vx_out (fun x hx => (hno x hx).elim) hlocks hce hcv hcl (fun t ht hvm => ⟨(), by rw [he]; exact c_5, by rw [he]; exact hbe, hS.F ht⟩) hS.2.2 (by omega) (by omega)
    · skip
      have c_6 := hw
      have c_6 : (o_X2_checkChoice p1 1) = 0 := c_6
      have hP := xP_keep hP hk
      refine lv_aload_n hx hb dX0_hash_9 rfl (lv_at hl 0 rfl) ?_
      refine va_get (D := (dC, dI)) (ci := 2) (v := .ref aw) (C := RX0) (T := TX0) (N := 5) hx hb hts (by decide +kernel) hown hK hP 0 rfl rfl 0 (by decide +kernel) (hts (.fieldLink RX0 9 "Edgefloats$Row" "width" "LEdgefloats$Width;") (by decide +kernel)) (fun _ h9 => h9) rfl dX0_hash_10 ?_
      refine lv_aload_n hx hb dX0_hash_13 rfl (lv_at hl 0 rfl) ?_
      refine va_get (D := (dC, dI)) (ci := 2) (v := .ref ac) (C := RX0) (T := TX0) (N := 5) hx hb hts (by decide +kernel) hown hK hP 0 rfl rfl 1 (by decide +kernel) (hts (.fieldLink RX0 15 "Edgefloats$Row" "cells" "[J") (by decide +kernel)) (fun _ h9 => h9) rfl dX0_hash_14 ?_
      refine lv_iload_n hx hb dX0_hash_17 rfl (lv_at hl 1 rfl) ?_
      refine xa_lald hx hb hK hP 2 0 (f := f) rfl rfl (k := p0.toNatClampNeg) (xm_cc c_3) rfl dX0_hash_18 ?_
      have hPc := hP.sub (ws' := [(aw, eW w)]) [1] rfl
      have hKc := hK.sub (tys' := []) [] rfl
      refine va_calli (va_runV (As := [.long (f p0.toNatClampNeg)]) (rest := []) ⟨hx, hb, hml, hown, hts⟩ (k_X1_hash l dC dI aw w H.size (f p0.toNatClampNeg)) (cwV 1 hts gX0_hash_X1_hash rfl rfl rfl (by decide +kernel) ⟨Nat.le_of_ble_eq_true rfl, Nat.le_of_ble_eq_true rfl⟩) (xB.preV hKc hPc (ci := 3) (q0 := 0) rfl rfl) rfl rfl hl.1 rfl (lv_room (Nat.le_of_ble_eq_true rfl)) dX0_hash_19 ⟨Nat.le_of_ble_eq_true rfl, Nat.le_of_ble_eq_true rfl⟩) hS xA_old (fun q h => hA q (Nat.le_trans hS.1 h)) (fun r_7 u t H locs ht hvm hw hB hz hk hS => ?_)
      replace hw : r_7 = (o_X1_hash (f p0.toNatClampNeg)) := hw
      subst r_7
      have hP := xP_keep hP hk
      have he : o_X0_hash f p0 p1 = (0, (o_X1_hash (f p0.toNatClampNeg))) := by (rw [o_X0_hash, if_pos c_3, if_pos c_6]) <;> rfl
      refine W.widen (k := 2) (n := 12) (by omega) (by omega) ?_
      refine vx_ret ?_
      exact W.iret (v := (o_X1_hash (f p0.toNatClampNeg))) hx hb hr (fun t ht hW => ⟨⟨_, (), rfl, ⟨(by (rw [he]) <;> rfl), (by (rw [he]) <;> rfl)⟩, trivial⟩, hS.F ht⟩) hS.2.2 dX0_hash_22
theorem cl_X0_isEndless_1 : ∀ w ∈ wsX0_isEndless_r1, w ∈ wsX0_isEndless := fun _ h => (List.mem_cons_of_mem _ (List.mem_append_left _ (List.mem_append_left _ (List.mem_append_left _ (List.mem_append_left _ (List.mem_append_left _ h))))))
theorem cl_X0_isEndless_2 : ∀ w ∈ wsX0_isEndless_r2, w ∈ wsX0_isEndless := fun _ h => (List.mem_cons_of_mem _ (List.mem_append_left _ (List.mem_append_left _ (List.mem_append_left _ (List.mem_append_left _ (List.mem_append_right _ h))))))
theorem cl_X0_isEndless_3 : ∀ w ∈ wsX00, w ∈ wsX0_isEndless := fun _ h => (List.mem_cons_of_mem _ (List.mem_append_left _ (List.mem_append_left _ (List.mem_append_left _ (List.mem_append_right _ h)))))
theorem cl_X0_isEndless_4 : ∀ w ∈ wsX10, w ∈ wsX0_isEndless := fun _ h => (List.mem_cons_of_mem _ (List.mem_append_left _ (List.mem_append_left _ (List.mem_append_right _ h))))
theorem cl_X0_isEndless_5 : ∀ w ∈ (vx_atS RX2 152 "java/lang/IndexOutOfBoundsException" ["java/lang/RuntimeException", "java/lang/Exception"]).filter goodWord, w ∈ wsX0_isEndless := fun _ h => (List.mem_cons_of_mem _ (List.mem_append_left _ (List.mem_append_right _ h)))
theorem cl_X0_isEndless_6 : ∀ w ∈ (vx_atS RX2 159 "java/lang/IllegalArgumentException" ["java/lang/RuntimeException", "java/lang/Exception"]).filter goodWord, w ∈ wsX0_isEndless := fun _ h => (List.mem_cons_of_mem _ (List.mem_append_right _ h))
set_option maxRecDepth 20000 in
theorem ggX0_isEndless_X2_checkCell : GoodIn wsX0_isEndless wsX2_checkCell := goodIn_sub (List.forall_mem_cons.mpr ⟨(cl_X0_isEndless_1 _ (List.mem_of_getElem? (i := 4) rfl)), fun w h => (List.mem_append.mp h).elim ((List.forall_mem_cons.mpr ⟨(cl_X0_isEndless_1 _ (List.mem_of_getElem? (i := 5) rfl)), List.forall_mem_cons.mpr ⟨(cl_X0_isEndless_1 _ (List.mem_of_getElem? (i := 6) rfl)), fun _ h => absurd h List.not_mem_nil⟩⟩) w) ((cl_X0_isEndless_5) w)⟩) (by decide +kernel)
set_option maxRecDepth 20000 in
theorem gX0_isEndless_X2_checkCell_n22 : GoodIn wsX0_isEndless (wsX2_checkCell) := ggX0_isEndless_X2_checkCell
set_option maxRecDepth 20000 in
theorem ggX0_isEndless_X2_checkChoice : GoodIn wsX0_isEndless wsX2_checkChoice := goodIn_sub (List.forall_mem_cons.mpr ⟨(cl_X0_isEndless_1 _ (List.mem_of_getElem? (i := 8) rfl)), fun w h => (List.mem_append.mp h).elim ((List.forall_mem_cons.mpr ⟨(cl_X0_isEndless_1 _ (List.mem_of_getElem? (i := 9) rfl)), List.forall_mem_cons.mpr ⟨(cl_X0_isEndless_1 _ (List.mem_of_getElem? (i := 10) rfl)), fun _ h => absurd h List.not_mem_nil⟩⟩) w) ((cl_X0_isEndless_6) w)⟩) (by decide +kernel)
set_option maxRecDepth 20000 in
theorem gX0_isEndless_X2_checkChoice_n55 : GoodIn wsX0_isEndless (wsX2_checkChoice) := ggX0_isEndless_X2_checkChoice
set_option maxRecDepth 20000 in
theorem ggX0_isEndless_X1_isEndless : GoodIn wsX0_isEndless wsX1_isEndless := goodIn_sub (List.forall_mem_cons.mpr ⟨(cl_X0_isEndless_1 _ (List.mem_of_getElem? (i := 15) rfl)), fun w h => (List.mem_append.mp h).elim ((List.forall_mem_cons.mpr ⟨(cl_X0_isEndless_1 _ (List.mem_of_getElem? (i := 16) rfl)), List.forall_mem_cons.mpr ⟨(cl_X0_isEndless_1 _ (List.mem_of_getElem? (i := 17) rfl)), List.forall_mem_cons.mpr ⟨(cl_X0_isEndless_1 _ (List.mem_of_getElem? (i := 18) rfl)), List.forall_mem_cons.mpr ⟨(cl_X0_isEndless_1 _ (List.mem_of_getElem? (i := 19) rfl)), List.forall_mem_cons.mpr ⟨(cl_X0_isEndless_1 _ (List.mem_of_getElem? (i := 14) rfl)), List.forall_mem_cons.mpr ⟨(cl_X0_isEndless_1 _ (List.mem_of_getElem? (i := 20) rfl)), List.forall_mem_cons.mpr ⟨(cl_X0_isEndless_1 _ (List.mem_of_getElem? (i := 21) rfl)), List.forall_mem_cons.mpr ⟨(cl_X0_isEndless_1 _ (List.mem_of_getElem? (i := 22) rfl)), List.forall_mem_cons.mpr ⟨(cl_X0_isEndless_1 _ (List.mem_of_getElem? (i := 23) rfl)), List.forall_mem_cons.mpr ⟨(cl_X0_isEndless_2 _ (List.mem_of_getElem? (i := 0) rfl)), List.forall_mem_cons.mpr ⟨(cl_X0_isEndless_2 _ (List.mem_of_getElem? (i := 1) rfl)), List.forall_mem_cons.mpr ⟨(cl_X0_isEndless_2 _ (List.mem_of_getElem? (i := 2) rfl)), fun _ h => absurd h List.not_mem_nil⟩⟩⟩⟩⟩⟩⟩⟩⟩⟩⟩⟩) w) ((cl_X0_isEndless_4) w)⟩) (by decide +kernel)
set_option maxRecDepth 20000 in
theorem gX0_isEndless_X1_isEndless : GoodIn wsX0_isEndless (wsV RX0 113 RX1 yX1_isEndless wsX1_isEndless) := goodIn_app (goodIn_sub (List.forall_mem_cons.mpr ⟨(cl_X0_isEndless_1 _ (List.mem_of_getElem? (i := 11) rfl)), List.forall_mem_cons.mpr ⟨(cl_X0_isEndless_1 _ (List.mem_of_getElem? (i := 12) rfl)), List.forall_mem_cons.mpr ⟨(cl_X0_isEndless_1 _ (List.mem_of_getElem? (i := 13) rfl)), List.forall_mem_cons.mpr ⟨(cl_X0_isEndless_1 _ (List.mem_of_getElem? (i := 14) rfl)), fun _ h => absurd h List.not_mem_nil⟩⟩⟩⟩) (by decide +kernel)) ggX0_isEndless_X1_isEndless
noncomputable def dz_p11_22 : List (Nat × Instr × Nat) := [(0, (.iload_n 1, 1)), (1, (.invokestatic 22, 3)), (4, (.iload_n 2, 1)), (5, (.iconst 2, 1)), (6, (.invokestatic 55, 3)), (9, (.aload_n 0, 1)), (10, (.getfield 9, 3)), (13, (.aload_n 0, 1)), (14, (.getfield 15, 3)), (17, (.iload_n 1, 1)), (18, (.laload, 1)), (19, (.invokevirtual 113, 3)), (22, (.ireturn, 1))]
theorem dy_p11_22 : dz_ok cX0_isEndless dz_p11_22 = true := by decide +kernel
theorem dX0_isEndless_0 : decode cX0_isEndless 0 = .ok (.iload_n 1, 1) := dz_at (i := 0) dy_p11_22 rfl
theorem dX0_isEndless_1 : decode cX0_isEndless 1 = .ok (.invokestatic 22, 3) := dz_at (i := 1) dy_p11_22 rfl
theorem dX0_isEndless_4 : decode cX0_isEndless 4 = .ok (.iload_n 2, 1) := dz_at (i := 2) dy_p11_22 rfl
theorem dX0_isEndless_5 : decode cX0_isEndless 5 = .ok (.iconst 2, 1) := dz_at (i := 3) dy_p11_22 rfl
theorem dX0_isEndless_6 : decode cX0_isEndless 6 = .ok (.invokestatic 55, 3) := dz_at (i := 4) dy_p11_22 rfl
theorem dX0_isEndless_9 : decode cX0_isEndless 9 = .ok (.aload_n 0, 1) := dz_at (i := 5) dy_p11_22 rfl
theorem dX0_isEndless_10 : decode cX0_isEndless 10 = .ok (.getfield 9, 3) := dz_at (i := 6) dy_p11_22 rfl
theorem dX0_isEndless_13 : decode cX0_isEndless 13 = .ok (.aload_n 0, 1) := dz_at (i := 7) dy_p11_22 rfl
theorem dX0_isEndless_14 : decode cX0_isEndless 14 = .ok (.getfield 15, 3) := dz_at (i := 8) dy_p11_22 rfl
theorem dX0_isEndless_17 : decode cX0_isEndless 17 = .ok (.iload_n 1, 1) := dz_at (i := 9) dy_p11_22 rfl
theorem dX0_isEndless_18 : decode cX0_isEndless 18 = .ok (.laload, 1) := dz_at (i := 10) dy_p11_22 rfl
theorem dX0_isEndless_19 : decode cX0_isEndless 19 = .ok (.invokevirtual 113, 3) := dz_at (i := 11) dy_p11_22 rfl
theorem dX0_isEndless_22 : decode cX0_isEndless 22 = .ok (.ireturn, 1) := dz_at (i := 12) dy_p11_22 rfl
noncomputable def o_X0_isEndless (w : Bool) (f : Nat → Int64) (p0 : Int32) (p1 : Int32) : Int32 × Bool :=
  if (o_X2_checkCell p0) = 0 then (if (o_X2_checkChoice p1 2) = 0 then (0, (o_X1_isEndless w (f p0.toNatClampNeg)))
    else ((o_X2_checkChoice p1 2), false))
  else ((o_X2_checkCell p0), false)
set_option maxHeartbeats 4000000 in
set_option maxRecDepth 100000 in
theorem k_X0_isEndless (l : Launch) (hfl : l.flags = flags0) (dC : Nat → ClassId) (dI : Nat → Nat → Nat) (cy : ClassId) (h0 : Nat) (aw : Nat) (ac : Nat) (ab : Nat) (w : Bool) (a : Int32) (rv : Int32) (f : Nat → Int64) (g : Nat → Int64) (sz : Nat) (N : Nat) (p0 : Int32) (p1 : Int32) : vx_Met l yX0_isEndless wsX0_isEndless ({ frames := 7, cells := 2, slots := 12, locals := 121 }) (va_Pc [.ref h0, .int p0, .int p1] (xM (dC, dI) xCl [(h0, eR aw ac ab a rv), (aw, eW w), (ac, eA cy f), (ab, eA cy g)] [(cy, .long)] sz N)) (va_Qi (fun (r : Int32) (_ : Unit) => (o_X0_isEndless w f p0 p1).1 = 0 ∧ r = b2i ((o_X0_isEndless w f p0 p1).2)) (fun _ _ => True) (aN sz)) (vx_X (fun _ : Unit => ¬ (o_X0_isEndless w f p0 p1).1 = 0) (fun E _ _ => E = xE (o_X0_isEndless w f p0 p1).1) (aN sz)) 2 12 (aN sz) := by
  refine vx_ofW (cc := cX0_isEndless) (maxL := 3) (ret := (some .boolean)) (by decide +kernel) rfl ?_
  intro p e s m args below meth c s₁ B hml hno hv
  obtain ⟨rfl, hsz, hP, hK, hD0, hN, hG⟩ := hv
  have hx := B.exec
  have hb := B.bytes
  have hr := B.returns
  have hts := atoms_spec (ws := wsX0_isEndless) B.pre
  have hown : s.vm.findClass RX0 = some m.cls := findClass_of_methodNamed B.named
  have hlocks := B.notSynchronized
  subst hsz
  have hA : ∀ q : Nat, s.heap.size ≤ q → aN s.heap.size q := fun _ h => h
  have hD := hD0
  have hAN : ∀ q, aN s.heap.size q → N ≤ q := fun q h => Nat.le_trans hN h
  have hS : va_S (aN s.heap.size) s.heap s.heap [] := va_S.rf
  have hP : va_P (dC, dI) xCl [(h0, eR aw ac ab a rv), (aw, eW w), (ac, eA cy f), (ab, eA cy g)] s.heap := hP
  have hl := lv_entry ([.ref h0, .int p0, .int p1]) (n := 3) (Nat.le_of_ble_eq_true rfl)
  rw [lg_entry_eq]
  generalize (lg_sl ([.ref h0, .int p0, .int p1]) ++ List.replicate (3 - (lg_sl ([.ref h0, .int p0, .int p1])).length) Slot.unset).toArray = ls at hl ⊢
  have hl : lv_has ls 3 [(0, .ref h0), (1, .int p0), (2, .int p1)] := hl
  refine lv_iload_n hx hb dX0_isEndless_0 rfl (lv_at hl 1 rfl) ?_
  have hPc := hP.sub (ws' := []) [] rfl
  have hDc := hD.sub (ws' := []) [] (by decide +kernel) rfl
  have hKc := hK.sub (tys' := []) [] rfl
  refine vx_callv (vx_runSN (As := [.int p0]) (rest := []) ⟨hx, hb, hml, hown, hts⟩ (k_X2_checkCell l hfl dC dI s.heap.size N p0) ⟨va_cnB 1 hts gX0_isEndless_X2_checkCell_n22 rfl rfl rfl (hG.1 (.methodLinkNest RX0 22 yX2_checkCell RX2) (List.mem_of_getElem? (i := 0) rfl)) (hts (.initialized RX2) (by decide +kernel)) (by decide +kernel) ⟨Nat.le_of_ble_eq_true rfl, Nat.le_of_ble_eq_true rfl⟩, hts (.static yX2_checkCell) (by decide +kernel), trivial⟩ (xM.preS hKc hPc hDc (fun _ h => h) (Nat.le_trans hN hS.1) (hG.kept hS hAN)) rfl rfl hl.1 rfl (lv_room (Nat.le_of_ble_eq_true rfl)) dX0_isEndless_1 ⟨Nat.le_of_ble_eq_true rfl, Nat.le_of_ble_eq_true rfl⟩) hS xA_old (fun q h => hA q (Nat.le_trans hS.1 h)) xA_old (fun E ce q9 u9 t H locs ht hvm hpx hbx hz hk hS hce hcv hcl => ?_) (fun u t H locs ht hvm hw hB hz hk hS => ?_)
  · have c_2 : ¬ (o_X2_checkCell p0) = 0 := hpx
    have hbe := hbx
    have hP := xP_keep hP hk
    have he : o_X0_isEndless w f p0 p1 = ((o_X2_checkCell p0), false) := by (rw [o_X0_isEndless, if_neg c_2]) <;> rfl
    exact vx_out (fun x hx => (hno x hx).elim) hlocks hce hcv hcl (fun t ht hvm => ⟨(), by rw [he]; exact c_2, by rw [he]; exact hbe, hS.F ht⟩) hS.2.2 (by omega) (by omega)
  · skip
    have c_3 := hw
    have c_3 : (o_X2_checkCell p0) = 0 := c_3
    have hP := xP_keep hP hk
    refine lv_iload_n hx hb dX0_isEndless_4 rfl (lv_at hl 2 rfl) ?_
    refine lv_iconst (v := 2) hx hb dX0_isEndless_5 (by decide +kernel) ?_
    have hPc := hP.sub (ws' := []) [] rfl
    have hDc := hD.sub (ws' := []) [] (by decide +kernel) rfl
    have hKc := hK.sub (tys' := []) [] rfl
    refine vx_callv (vx_runSN (As := [.int p1, .int 2]) (rest := []) ⟨hx, hb, hml, hown, hts⟩ (k_X2_checkChoice l hfl dC dI H.size N p1 2) ⟨va_cnB 2 hts gX0_isEndless_X2_checkChoice_n55 rfl rfl rfl (hG.1 (.methodLinkNest RX0 55 yX2_checkChoice RX2) (List.mem_of_getElem? (i := 1) rfl)) (hts (.initialized RX2) (by decide +kernel)) (by decide +kernel) ⟨Nat.le_of_ble_eq_true rfl, Nat.le_of_ble_eq_true rfl⟩, hts (.static yX2_checkChoice) (by decide +kernel), trivial⟩ (xM.preS hKc hPc hDc (fun _ h => h) (Nat.le_trans hN hS.1) (hG.kept hS hAN)) rfl rfl hl.1 rfl (lv_room (Nat.le_of_ble_eq_true rfl)) dX0_isEndless_6 ⟨Nat.le_of_ble_eq_true rfl, Nat.le_of_ble_eq_true rfl⟩) hS xA_old (fun q h => hA q (Nat.le_trans hS.1 h)) xA_old (fun E ce q9 u9 t H locs ht hvm hpx hbx hz hk hS hce hcv hcl => ?_) (fun u t H locs ht hvm hw hB hz hk hS => ?_)
    · have c_5 : ¬ (o_X2_checkChoice p1 2) = 0 := hpx
      have hbe := hbx
      have hP := xP_keep hP hk
      have he : o_X0_isEndless w f p0 p1 = ((o_X2_checkChoice p1 2), false) := by (rw [o_X0_isEndless, if_pos c_3, if_neg c_5]) <;> rfl
      exact vx_out (fun x hx => (hno x hx).elim) hlocks hce hcv hcl (fun t ht hvm => ⟨(), by rw [he]; exact c_5, by rw [he]; exact hbe, hS.F ht⟩) hS.2.2 (by omega) (by omega)
    · skip
      have c_6 := hw
      have c_6 : (o_X2_checkChoice p1 2) = 0 := c_6
      have hP := xP_keep hP hk
      refine lv_aload_n hx hb dX0_isEndless_9 rfl (lv_at hl 0 rfl) ?_
      refine va_get (D := (dC, dI)) (ci := 2) (v := .ref aw) (C := RX0) (T := TX0) (N := 5) hx hb hts (by decide +kernel) hown hK hP 0 rfl rfl 0 (by decide +kernel) (hts (.fieldLink RX0 9 "Edgefloats$Row" "width" "LEdgefloats$Width;") (by decide +kernel)) (fun _ h9 => h9) rfl dX0_isEndless_10 ?_
      refine lv_aload_n hx hb dX0_isEndless_13 rfl (lv_at hl 0 rfl) ?_
      refine va_get (D := (dC, dI)) (ci := 2) (v := .ref ac) (C := RX0) (T := TX0) (N := 5) hx hb hts (by decide +kernel) hown hK hP 0 rfl rfl 1 (by decide +kernel) (hts (.fieldLink RX0 15 "Edgefloats$Row" "cells" "[J") (by decide +kernel)) (fun _ h9 => h9) rfl dX0_isEndless_14 ?_
      refine lv_iload_n hx hb dX0_isEndless_17 rfl (lv_at hl 1 rfl) ?_
      refine xa_lald hx hb hK hP 2 0 (f := f) rfl rfl (k := p0.toNatClampNeg) (xm_cc c_3) rfl dX0_isEndless_18 ?_
      have hPc := hP.sub (ws' := [(aw, eW w)]) [1] rfl
      have hKc := hK.sub (tys' := []) [] rfl
      refine va_calli (va_runV (As := [.long (f p0.toNatClampNeg)]) (rest := []) ⟨hx, hb, hml, hown, hts⟩ (k_X1_isEndless l dC dI aw w H.size (f p0.toNatClampNeg)) (cwV 1 hts gX0_isEndless_X1_isEndless rfl rfl rfl (by decide +kernel) ⟨Nat.le_of_ble_eq_true rfl, Nat.le_of_ble_eq_true rfl⟩) (xB.preV hKc hPc (ci := 3) (q0 := 0) rfl rfl) rfl rfl hl.1 rfl (lv_room (Nat.le_of_ble_eq_true rfl)) dX0_isEndless_19 ⟨Nat.le_of_ble_eq_true rfl, Nat.le_of_ble_eq_true rfl⟩) hS xA_old (fun q h => hA q (Nat.le_trans hS.1 h)) (fun r_7 u t H locs ht hvm hw hB hz hk hS => ?_)
      replace hw : r_7 = b2i (o_X1_isEndless w (f p0.toNatClampNeg)) := hw
      subst r_7
      have hP := xP_keep hP hk
      have he : o_X0_isEndless w f p0 p1 = (0, (o_X1_isEndless w (f p0.toNatClampNeg))) := by (rw [o_X0_isEndless, if_pos c_3, if_pos c_6]) <;> rfl
      refine W.widen (k := 2) (n := 12) (by omega) (by omega) ?_
      refine vx_ret ?_
      exact W.zret (v := (b2i (o_X1_isEndless w (f p0.toNatClampNeg)))) (ty := .boolean) hx hb hr (b2i_nar _) (fun t ht hW => ⟨⟨_, (), rfl, ⟨(by (rw [he]) <;> rfl), (by (rw [he]) <;> rfl)⟩, trivial⟩, hS.F ht⟩) hS.2.2 dX0_isEndless_22
theorem cl_X0_quarters_1 : ∀ w ∈ wsX0_quarters_r1, w ∈ wsX0_quarters := fun _ h => (List.mem_cons_of_mem _ (List.mem_append_left _ (List.mem_append_left _ (List.mem_append_left _ (List.mem_append_left _ h)))))
theorem cl_X0_quarters_2 : ∀ w ∈ wsX0_quarters_r2, w ∈ wsX0_quarters := fun _ h => (List.mem_cons_of_mem _ (List.mem_append_left _ (List.mem_append_left _ (List.mem_append_left _ (List.mem_append_right _ h)))))
theorem cl_X0_quarters_3 : ∀ w ∈ wsX00, w ∈ wsX0_quarters := fun _ h => (List.mem_cons_of_mem _ (List.mem_append_left _ (List.mem_append_left _ (List.mem_append_right _ h))))
theorem cl_X0_quarters_4 : ∀ w ∈ wsX10, w ∈ wsX0_quarters := fun _ h => (List.mem_cons_of_mem _ (List.mem_append_left _ (List.mem_append_right _ h)))
theorem cl_X0_quarters_5 : ∀ w ∈ (vx_atS RX2 152 "java/lang/IndexOutOfBoundsException" ["java/lang/RuntimeException", "java/lang/Exception"]).filter goodWord, w ∈ wsX0_quarters := fun _ h => (List.mem_cons_of_mem _ (List.mem_append_right _ h))
set_option maxRecDepth 20000 in
theorem ggX0_quarters_X2_checkCell : GoodIn wsX0_quarters wsX2_checkCell := goodIn_sub (List.forall_mem_cons.mpr ⟨(cl_X0_quarters_1 _ (List.mem_of_getElem? (i := 4) rfl)), fun w h => (List.mem_append.mp h).elim ((List.forall_mem_cons.mpr ⟨(cl_X0_quarters_1 _ (List.mem_of_getElem? (i := 5) rfl)), List.forall_mem_cons.mpr ⟨(cl_X0_quarters_1 _ (List.mem_of_getElem? (i := 6) rfl)), fun _ h => absurd h List.not_mem_nil⟩⟩) w) ((cl_X0_quarters_5) w)⟩) (by decide +kernel)
set_option maxRecDepth 20000 in
theorem gX0_quarters_X2_checkCell_n22 : GoodIn wsX0_quarters (wsX2_checkCell) := ggX0_quarters_X2_checkCell
set_option maxRecDepth 20000 in
theorem ggX0_quarters_X1_quarters : GoodIn wsX0_quarters wsX1_quarters := goodIn_sub (List.forall_mem_cons.mpr ⟨(cl_X0_quarters_1 _ (List.mem_of_getElem? (i := 11) rfl)), fun w h => (List.mem_append.mp h).elim ((fun w h => (List.mem_append.mp h).elim ((List.forall_mem_cons.mpr ⟨(cl_X0_quarters_1 _ (List.mem_of_getElem? (i := 12) rfl)), List.forall_mem_cons.mpr ⟨(cl_X0_quarters_1 _ (List.mem_of_getElem? (i := 13) rfl)), List.forall_mem_cons.mpr ⟨(cl_X0_quarters_1 _ (List.mem_of_getElem? (i := 14) rfl)), List.forall_mem_cons.mpr ⟨(cl_X0_quarters_1 _ (List.mem_of_getElem? (i := 15) rfl)), List.forall_mem_cons.mpr ⟨(cl_X0_quarters_1 _ (List.mem_of_getElem? (i := 16) rfl)), List.forall_mem_cons.mpr ⟨(cl_X0_quarters_1 _ (List.mem_of_getElem? (i := 17) rfl)), List.forall_mem_cons.mpr ⟨(cl_X0_quarters_1 _ (List.mem_of_getElem? (i := 18) rfl)), List.forall_mem_cons.mpr ⟨(cl_X0_quarters_1 _ (List.mem_of_getElem? (i := 10) rfl)), List.forall_mem_cons.mpr ⟨(cl_X0_quarters_1 _ (List.mem_of_getElem? (i := 19) rfl)), List.forall_mem_cons.mpr ⟨(cl_X0_quarters_1 _ (List.mem_of_getElem? (i := 20) rfl)), List.forall_mem_cons.mpr ⟨(cl_X0_quarters_1 _ (List.mem_of_getElem? (i := 21) rfl)), List.forall_mem_cons.mpr ⟨(cl_X0_quarters_1 _ (List.mem_of_getElem? (i := 22) rfl)), List.forall_mem_cons.mpr ⟨(cl_X0_quarters_1 _ (List.mem_of_getElem? (i := 23) rfl)), List.forall_mem_cons.mpr ⟨(cl_X0_quarters_2 _ (List.mem_of_getElem? (i := 0) rfl)), List.forall_mem_cons.mpr ⟨(cl_X0_quarters_2 _ (List.mem_of_getElem? (i := 1) rfl)), List.forall_mem_cons.mpr ⟨(cl_X0_quarters_2 _ (List.mem_of_getElem? (i := 2) rfl)), List.forall_mem_cons.mpr ⟨(cl_X0_quarters_2 _ (List.mem_of_getElem? (i := 3) rfl)), List.forall_mem_cons.mpr ⟨(cl_X0_quarters_2 _ (List.mem_of_getElem? (i := 4) rfl)), List.forall_mem_cons.mpr ⟨(cl_X0_quarters_2 _ (List.mem_of_getElem? (i := 5) rfl)), List.forall_mem_cons.mpr ⟨(cl_X0_quarters_2 _ (List.mem_of_getElem? (i := 6) rfl)), List.forall_mem_cons.mpr ⟨(cl_X0_quarters_2 _ (List.mem_of_getElem? (i := 7) rfl)), List.forall_mem_cons.mpr ⟨(cl_X0_quarters_2 _ (List.mem_of_getElem? (i := 8) rfl)), List.forall_mem_cons.mpr ⟨(cl_X0_quarters_2 _ (List.mem_of_getElem? (i := 9) rfl)), List.forall_mem_cons.mpr ⟨(cl_X0_quarters_2 _ (List.mem_of_getElem? (i := 10) rfl)), fun _ h => absurd h List.not_mem_nil⟩⟩⟩⟩⟩⟩⟩⟩⟩⟩⟩⟩⟩⟩⟩⟩⟩⟩⟩⟩⟩⟩⟩⟩) w) ((List.forall_mem_cons.mpr ⟨(cl_X0_quarters_2 _ (List.mem_of_getElem? (i := 11) rfl)), List.forall_mem_cons.mpr ⟨(cl_X0_quarters_2 _ (List.mem_of_getElem? (i := 12) rfl)), List.forall_mem_cons.mpr ⟨(cl_X0_quarters_2 _ (List.mem_of_getElem? (i := 13) rfl)), List.forall_mem_cons.mpr ⟨(cl_X0_quarters_2 _ (List.mem_of_getElem? (i := 14) rfl)), List.forall_mem_cons.mpr ⟨(cl_X0_quarters_2 _ (List.mem_of_getElem? (i := 15) rfl)), fun _ h => absurd h List.not_mem_nil⟩⟩⟩⟩⟩) w)) w) ((cl_X0_quarters_4) w)⟩) (by decide +kernel)
set_option maxRecDepth 20000 in
theorem gX0_quarters_X1_quarters : GoodIn wsX0_quarters (wsV RX0 116 RX1 yX1_quarters wsX1_quarters) := goodIn_app (goodIn_sub (List.forall_mem_cons.mpr ⟨(cl_X0_quarters_1 _ (List.mem_of_getElem? (i := 7) rfl)), List.forall_mem_cons.mpr ⟨(cl_X0_quarters_1 _ (List.mem_of_getElem? (i := 8) rfl)), List.forall_mem_cons.mpr ⟨(cl_X0_quarters_1 _ (List.mem_of_getElem? (i := 9) rfl)), List.forall_mem_cons.mpr ⟨(cl_X0_quarters_1 _ (List.mem_of_getElem? (i := 10) rfl)), fun _ h => absurd h List.not_mem_nil⟩⟩⟩⟩) (by decide +kernel)) ggX0_quarters_X1_quarters
noncomputable def dz_p11_23 : List (Nat × Instr × Nat) := [(0, (.iload_n 1, 1)), (1, (.invokestatic 22, 3)), (4, (.aload_n 0, 1)), (5, (.getfield 9, 3)), (8, (.aload_n 0, 1)), (9, (.getfield 15, 3)), (12, (.iload_n 1, 1)), (13, (.laload, 1)), (14, (.invokevirtual 116, 3)), (17, (.ireturn, 1))]
theorem dy_p11_23 : dz_ok cX0_quarters dz_p11_23 = true := by decide +kernel
theorem dX0_quarters_0 : decode cX0_quarters 0 = .ok (.iload_n 1, 1) := dz_at (i := 0) dy_p11_23 rfl
theorem dX0_quarters_1 : decode cX0_quarters 1 = .ok (.invokestatic 22, 3) := dz_at (i := 1) dy_p11_23 rfl
theorem dX0_quarters_4 : decode cX0_quarters 4 = .ok (.aload_n 0, 1) := dz_at (i := 2) dy_p11_23 rfl
theorem dX0_quarters_5 : decode cX0_quarters 5 = .ok (.getfield 9, 3) := dz_at (i := 3) dy_p11_23 rfl
theorem dX0_quarters_8 : decode cX0_quarters 8 = .ok (.aload_n 0, 1) := dz_at (i := 4) dy_p11_23 rfl
theorem dX0_quarters_9 : decode cX0_quarters 9 = .ok (.getfield 15, 3) := dz_at (i := 5) dy_p11_23 rfl
theorem dX0_quarters_12 : decode cX0_quarters 12 = .ok (.iload_n 1, 1) := dz_at (i := 6) dy_p11_23 rfl
theorem dX0_quarters_13 : decode cX0_quarters 13 = .ok (.laload, 1) := dz_at (i := 7) dy_p11_23 rfl
theorem dX0_quarters_14 : decode cX0_quarters 14 = .ok (.invokevirtual 116, 3) := dz_at (i := 8) dy_p11_23 rfl
theorem dX0_quarters_17 : decode cX0_quarters 17 = .ok (.ireturn, 1) := dz_at (i := 9) dy_p11_23 rfl
noncomputable def o_X0_quarters (w : Bool) (f : Nat → Int64) (p0 : Int32) : Int32 × Int32 :=
  if (o_X2_checkCell p0) = 0 then (0, (o_X1_quarters w (f p0.toNatClampNeg)))
  else ((o_X2_checkCell p0), 0)
set_option maxHeartbeats 4000000 in
set_option maxRecDepth 100000 in
theorem k_X0_quarters (l : Launch) (hfl : l.flags = flags0) (dC : Nat → ClassId) (dI : Nat → Nat → Nat) (cy : ClassId) (h0 : Nat) (aw : Nat) (ac : Nat) (ab : Nat) (w : Bool) (a : Int32) (rv : Int32) (f : Nat → Int64) (g : Nat → Int64) (sz : Nat) (N : Nat) (p0 : Int32) : vx_Met l yX0_quarters wsX0_quarters ({ frames := 7, cells := 1, slots := 6, locals := 120 }) (va_Pc [.ref h0, .int p0] (xM (dC, dI) xCl [(h0, eR aw ac ab a rv), (aw, eW w), (ac, eA cy f), (ab, eA cy g)] [(cy, .long)] sz N)) (va_Qi (fun (r : Int32) (_ : Unit) => (o_X0_quarters w f p0).1 = 0 ∧ r = (o_X0_quarters w f p0).2) (fun _ _ => True) (aN sz)) (vx_X (fun _ : Unit => ¬ (o_X0_quarters w f p0).1 = 0) (fun E _ _ => E = xE (o_X0_quarters w f p0).1) (aN sz)) 1 6 (aN sz) := by
  refine vx_ofW (cc := cX0_quarters) (maxL := 2) (ret := (some .int)) (by decide +kernel) rfl ?_
  intro p e s m args below meth c s₁ B hml hno hv
  obtain ⟨rfl, hsz, hP, hK, hD0, hN, hG⟩ := hv
  have hx := B.exec
  have hb := B.bytes
  have hr := B.returns
  have hts := atoms_spec (ws := wsX0_quarters) B.pre
  have hown : s.vm.findClass RX0 = some m.cls := findClass_of_methodNamed B.named
  have hlocks := B.notSynchronized
  subst hsz
  have hA : ∀ q : Nat, s.heap.size ≤ q → aN s.heap.size q := fun _ h => h
  have hD := hD0
  have hAN : ∀ q, aN s.heap.size q → N ≤ q := fun q h => Nat.le_trans hN h
  have hS : va_S (aN s.heap.size) s.heap s.heap [] := va_S.rf
  have hP : va_P (dC, dI) xCl [(h0, eR aw ac ab a rv), (aw, eW w), (ac, eA cy f), (ab, eA cy g)] s.heap := hP
  have hl := lv_entry ([.ref h0, .int p0]) (n := 2) (Nat.le_of_ble_eq_true rfl)
  rw [lg_entry_eq]
  generalize (lg_sl ([.ref h0, .int p0]) ++ List.replicate (2 - (lg_sl ([.ref h0, .int p0])).length) Slot.unset).toArray = ls at hl ⊢
  have hl : lv_has ls 2 [(0, .ref h0), (1, .int p0)] := hl
  refine lv_iload_n hx hb dX0_quarters_0 rfl (lv_at hl 1 rfl) ?_
  have hPc := hP.sub (ws' := []) [] rfl
  have hDc := hD.sub (ws' := []) [] (by decide +kernel) rfl
  have hKc := hK.sub (tys' := []) [] rfl
  refine vx_callv (vx_runSN (As := [.int p0]) (rest := []) ⟨hx, hb, hml, hown, hts⟩ (k_X2_checkCell l hfl dC dI s.heap.size N p0) ⟨va_cnB 1 hts gX0_quarters_X2_checkCell_n22 rfl rfl rfl (hG.1 (.methodLinkNest RX0 22 yX2_checkCell RX2) (List.mem_of_getElem? (i := 0) rfl)) (hts (.initialized RX2) (by decide +kernel)) (by decide +kernel) ⟨Nat.le_of_ble_eq_true rfl, Nat.le_of_ble_eq_true rfl⟩, hts (.static yX2_checkCell) (by decide +kernel), trivial⟩ (xM.preS hKc hPc hDc (fun _ h => h) (Nat.le_trans hN hS.1) (hG.kept hS hAN)) rfl rfl hl.1 rfl (lv_room (Nat.le_of_ble_eq_true rfl)) dX0_quarters_1 ⟨Nat.le_of_ble_eq_true rfl, Nat.le_of_ble_eq_true rfl⟩) hS xA_old (fun q h => hA q (Nat.le_trans hS.1 h)) xA_old (fun E ce q9 u9 t H locs ht hvm hpx hbx hz hk hS hce hcv hcl => ?_) (fun u t H locs ht hvm hw hB hz hk hS => ?_)
  · have c_2 : ¬ (o_X2_checkCell p0) = 0 := hpx
    have hbe := hbx
    have hP := xP_keep hP hk
    have he : o_X0_quarters w f p0 = ((o_X2_checkCell p0), 0) := by (rw [o_X0_quarters, if_neg c_2]) <;> rfl
    exact vx_out (fun x hx => (hno x hx).elim) hlocks hce hcv hcl (fun t ht hvm => ⟨(), by rw [he]; exact c_2, by rw [he]; exact hbe, hS.F ht⟩) hS.2.2 (by omega) (by omega)
  · skip
    have c_3 := hw
    have c_3 : (o_X2_checkCell p0) = 0 := c_3
    have hP := xP_keep hP hk
    refine lv_aload_n hx hb dX0_quarters_4 rfl (lv_at hl 0 rfl) ?_
    refine va_get (D := (dC, dI)) (ci := 2) (v := .ref aw) (C := RX0) (T := TX0) (N := 5) hx hb hts (by decide +kernel) hown hK hP 0 rfl rfl 0 (by decide +kernel) (hts (.fieldLink RX0 9 "Edgefloats$Row" "width" "LEdgefloats$Width;") (by decide +kernel)) (fun _ h9 => h9) rfl dX0_quarters_5 ?_
    refine lv_aload_n hx hb dX0_quarters_8 rfl (lv_at hl 0 rfl) ?_
    refine va_get (D := (dC, dI)) (ci := 2) (v := .ref ac) (C := RX0) (T := TX0) (N := 5) hx hb hts (by decide +kernel) hown hK hP 0 rfl rfl 1 (by decide +kernel) (hts (.fieldLink RX0 15 "Edgefloats$Row" "cells" "[J") (by decide +kernel)) (fun _ h9 => h9) rfl dX0_quarters_9 ?_
    refine lv_iload_n hx hb dX0_quarters_12 rfl (lv_at hl 1 rfl) ?_
    refine xa_lald hx hb hK hP 2 0 (f := f) rfl rfl (k := p0.toNatClampNeg) (xm_cc c_3) rfl dX0_quarters_13 ?_
    have hPc := hP.sub (ws' := [(aw, eW w)]) [1] rfl
    have hKc := hK.sub (tys' := []) [] rfl
    refine va_calli (va_runV (As := [.long (f p0.toNatClampNeg)]) (rest := []) ⟨hx, hb, hml, hown, hts⟩ (k_X1_quarters l dC dI aw w H.size (f p0.toNatClampNeg)) (cwV 1 hts gX0_quarters_X1_quarters rfl rfl rfl (by decide +kernel) ⟨Nat.le_of_ble_eq_true rfl, Nat.le_of_ble_eq_true rfl⟩) (xB.preV hKc hPc (ci := 3) (q0 := 0) rfl rfl) rfl rfl hl.1 rfl (lv_room (Nat.le_of_ble_eq_true rfl)) dX0_quarters_14 ⟨Nat.le_of_ble_eq_true rfl, Nat.le_of_ble_eq_true rfl⟩) hS xA_old (fun q h => hA q (Nat.le_trans hS.1 h)) (fun r_4 u t H locs ht hvm hw hB hz hk hS => ?_)
    replace hw : r_4 = (o_X1_quarters w (f p0.toNatClampNeg)) := hw
    subst r_4
    have hP := xP_keep hP hk
    have he : o_X0_quarters w f p0 = (0, (o_X1_quarters w (f p0.toNatClampNeg))) := by (rw [o_X0_quarters, if_pos c_3]) <;> rfl
    refine W.widen (k := 1) (n := 6) (by omega) (by omega) ?_
    refine vx_ret ?_
    exact W.iret (v := (o_X1_quarters w (f p0.toNatClampNeg))) hx hb hr (fun t ht hW => ⟨⟨_, (), rfl, ⟨(by (rw [he]) <;> rfl), (by (rw [he]) <;> rfl)⟩, trivial⟩, hS.F ht⟩) hS.2.2 dX0_quarters_17
