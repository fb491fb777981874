noncomputable def dz_p10_1 : List (Nat × Instr × Nat) := [(0, (.aload_n 0, 1)), (1, (.getfield 16, 3)), (4, (.getfield 74, 3)), (7, (.iload_n 1, 1)), (8, (.laload, 1)), (9, (.bipush 32, 2)), (11, (.lshr, 1)), (12, (.l2i, 1)), (13, (.aload_n 0, 1)), (14, (.getfield 16, 3)), (17, (.getfield 74, 3)), (20, (.iload_n 1, 1)), (21, (.laload, 1)), (22, (.l2i, 1)), (23, (.ixor, 1)), (24, (.ireturn, 1))]
theorem dy_p10_1 : dz_ok cX5_hashOf dz_p10_1 = true := by decide +kernel
theorem dX5_hashOf_0 : decode cX5_hashOf 0 = .ok (.aload_n 0, 1) := dz_at (i := 0) dy_p10_1 rfl
theorem dX5_hashOf_1 : decode cX5_hashOf 1 = .ok (.getfield 16, 3) := dz_at (i := 1) dy_p10_1 rfl
theorem dX5_hashOf_4 : decode cX5_hashOf 4 = .ok (.getfield 74, 3) := dz_at (i := 2) dy_p10_1 rfl
theorem dX5_hashOf_7 : decode cX5_hashOf 7 = .ok (.iload_n 1, 1) := dz_at (i := 3) dy_p10_1 rfl
theorem dX5_hashOf_8 : decode cX5_hashOf 8 = .ok (.laload, 1) := dz_at (i := 4) dy_p10_1 rfl
theorem dX5_hashOf_9 : decode cX5_hashOf 9 = .ok (.bipush 32, 2) := dz_at (i := 5) dy_p10_1 rfl
theorem dX5_hashOf_11 : decode cX5_hashOf 11 = .ok (.lshr, 1) := dz_at (i := 6) dy_p10_1 rfl
theorem dX5_hashOf_12 : decode cX5_hashOf 12 = .ok (.l2i, 1) := dz_at (i := 7) dy_p10_1 rfl
theorem dX5_hashOf_13 : decode cX5_hashOf 13 = .ok (.aload_n 0, 1) := dz_at (i := 8) dy_p10_1 rfl
theorem dX5_hashOf_14 : decode cX5_hashOf 14 = .ok (.getfield 16, 3) := dz_at (i := 9) dy_p10_1 rfl
theorem dX5_hashOf_17 : decode cX5_hashOf 17 = .ok (.getfield 74, 3) := dz_at (i := 10) dy_p10_1 rfl
theorem dX5_hashOf_20 : decode cX5_hashOf 20 = .ok (.iload_n 1, 1) := dz_at (i := 11) dy_p10_1 rfl
theorem dX5_hashOf_21 : decode cX5_hashOf 21 = .ok (.laload, 1) := dz_at (i := 12) dy_p10_1 rfl
theorem dX5_hashOf_22 : decode cX5_hashOf 22 = .ok (.l2i, 1) := dz_at (i := 13) dy_p10_1 rfl
theorem dX5_hashOf_23 : decode cX5_hashOf 23 = .ok (.ixor, 1) := dz_at (i := 14) dy_p10_1 rfl
theorem dX5_hashOf_24 : decode cX5_hashOf 24 = .ok (.ireturn, 1) := dz_at (i := 15) dy_p10_1 rfl
noncomputable def o_X5_hashOf (f1 : Nat → Int64) (p0 : Int32) : Int32 :=
  (((jLshr (f1 p0.toNatClampNeg) 32).toInt32) ^^^ ((f1 p0.toNatClampNeg).toInt32))
set_option maxHeartbeats 4000000 in
set_option maxRecDepth 100000 in
theorem k_X5_hashOf (l : Launch) (dC : Nat → ClassId) (dI : Nat → Nat → Nat) (cy : ClassId) (h0 : Nat) (h1 : Nat) (hc1 : Nat) (h2 : Nat) (hc2 : Nat) (a1 : Int32) (f1 : Nat → Int64) (a2 : Int32) (f2 : Nat → Int64) (th : Int32) (rf : Int32) (kn : Int32) (sz : Nat) (p0 : Int32) (hin_p0 : vp_in p0 8) : Met l yX5_hashOf wsX5_hashOf ({ frames := 0, cells := 0, slots := 0, locals := 0 }) (va_Pc [.ref h0, .int p0] (xB (dC, dI) xCl [(h0, eM h1 h2 th rf kn), (h1, eMR true hc1 a1), (hc1, eA cy f1), (h2, eMR false hc2 a2), (hc2, eA cy f2)] [(cy, .long)] sz)) (va_Qi (fun (r : Int32) (_ : Unit) => r = (o_X5_hashOf f1 p0)) (fun _ _ => True) (aN sz)) 0 0 (aN sz) := by
  refine Met.ofW (cc := cX5_hashOf) (maxL := 2) (ret := (some .int)) (by decide +kernel) rfl ?_
  intro p e s m args below meth c s₁ B hml hv
  obtain ⟨rfl, hsz, hP, hK⟩ := hv
  have hx := B.exec
  have hb := B.bytes
  have hr := B.returns
  have hts := atoms_spec (ws := wsX5_hashOf) B.pre
  have hown : s.vm.findClass RX5 = some m.cls := findClass_of_methodNamed B.named
  have hlocks := B.notSynchronized
  subst hsz
  have hA : ∀ q : Nat, s.heap.size ≤ q → aN s.heap.size q := fun _ h => h
  have hS : va_S (aN s.heap.size) s.heap s.heap [] := va_S.rf
  have hP : va_P (dC, dI) xCl [(h0, eM h1 h2 th rf kn), (h1, eMR true hc1 a1), (hc1, eA cy f1), (h2, eMR false hc2 a2), (hc2, eA cy f2)] s.heap := hP
  have hl := lv_entry ([.ref h0, .int p0]) (n := 2) (Nat.le_of_ble_eq_true rfl)
  rw [lg_entry_eq]
  generalize (lg_sl ([.ref h0, .int p0]) ++ List.replicate (2 - (lg_sl ([.ref h0, .int p0])).length) Slot.unset).toArray = ls at hl ⊢
  have hl : lv_has ls 2 [(0, .ref h0), (1, .int p0)] := hl
  refine lv_aload_n hx hb dX5_hashOf_0 rfl (lv_at hl 0 rfl) ?_
  refine va_get (D := (dC, dI)) (ci := 7) (v := .ref h1) (C := RX5) (T := TX5) (N := 5) hx hb hts (by decide +kernel) hown hK hP 0 rfl rfl 0 (by decide +kernel) (hts (.fieldLink RX5 16 "EdgefloatsModel" "wide" "LEdgefloatsModel$Row;") (by decide +kernel)) (fun _ h9 => h9) rfl dX5_hashOf_1 ?_
  refine va_get (D := (dC, dI)) (ci := 6) (v := .ref hc1) (C := RX4) (T := TX4) (N := 5) hx hb hts (by decide +kernel) hown hK hP 1 rfl rfl 3 (by decide +kernel) (hts (.fieldLink RX5 74 "EdgefloatsModel$Row" "cells" "[J") (by decide +kernel)) (fun _ h9 => h9) rfl dX5_hashOf_4 ?_
  refine lv_iload_n hx hb dX5_hashOf_7 rfl (lv_at hl 1 rfl) ?_
  refine xa_lald hx hb hK hP 2 0 (f := f1) rfl rfl (k := p0.toNatClampNeg) hin_p0 rfl dX5_hashOf_8 ?_
  refine lv_bipush (v := 32) hx hb dX5_hashOf_9 (by decide +kernel) ?_
  refine lv_lshr (v := (jLshr (f1 p0.toNatClampNeg) 32)) hx hb dX5_hashOf_11 rfl ?_
  refine lv_l2i (v := ((jLshr (f1 p0.toNatClampNeg) 32).toInt32)) hx hb dX5_hashOf_12 rfl ?_
  refine lv_aload_n hx hb dX5_hashOf_13 rfl (lv_at hl 0 rfl) ?_
  refine va_get (D := (dC, dI)) (ci := 7) (v := .ref h1) (C := RX5) (T := TX5) (N := 5) hx hb hts (by decide +kernel) hown hK hP 0 rfl rfl 0 (by decide +kernel) (hts (.fieldLink RX5 16 "EdgefloatsModel" "wide" "LEdgefloatsModel$Row;") (by decide +kernel)) (fun _ h9 => h9) rfl dX5_hashOf_14 ?_
  refine va_get (D := (dC, dI)) (ci := 6) (v := .ref hc1) (C := RX4) (T := TX4) (N := 5) hx hb hts (by decide +kernel) hown hK hP 1 rfl rfl 3 (by decide +kernel) (hts (.fieldLink RX5 74 "EdgefloatsModel$Row" "cells" "[J") (by decide +kernel)) (fun _ h9 => h9) rfl dX5_hashOf_17 ?_
  refine lv_iload_n hx hb dX5_hashOf_20 rfl (lv_at hl 1 rfl) ?_
  refine xa_lald hx hb hK hP 2 0 (f := f1) rfl rfl (k := p0.toNatClampNeg) hin_p0 rfl dX5_hashOf_21 ?_
  refine lv_l2i (v := ((f1 p0.toNatClampNeg).toInt32)) hx hb dX5_hashOf_22 rfl ?_
  refine lv_ixor hx hb dX5_hashOf_23 ?_
  have he : o_X5_hashOf f1 p0 = (((jLshr (f1 p0.toNatClampNeg) 32).toInt32) ^^^ ((f1 p0.toNatClampNeg).toInt32)) := by (rw [o_X5_hashOf]) <;> rfl
  refine W.widen (k := 0) (n := 0) (by omega) (by omega) ?_
  exact W.iret (v := (((jLshr (f1 p0.toNatClampNeg) 32).toInt32) ^^^ ((f1 p0.toNatClampNeg).toInt32))) hx hb hr (fun t ht hW => ⟨⟨_, (), rfl, (by (rw [he]) <;> rfl), trivial⟩, hS.F ht⟩) hS.2.2 dX5_hashOf_24
theorem cl_X5_putWide_1 : ∀ w ∈ wsX5_putWide_r1, w ∈ wsX5_putWide := fun _ h => (List.mem_cons_of_mem _ (List.mem_append_left _ (List.mem_append_left _ (List.mem_append_left _ h))))
theorem cl_X5_putWide_2 : ∀ w ∈ wsX5_putWide_r2, w ∈ wsX5_putWide := fun _ h => (List.mem_cons_of_mem _ (List.mem_append_left _ (List.mem_append_left _ (List.mem_append_right _ (List.mem_append_left _ h)))))
theorem cl_X5_putWide_3 : ∀ w ∈ wsX5_putWide_r3, w ∈ wsX5_putWide := fun _ h => (List.mem_cons_of_mem _ (List.mem_append_left _ (List.mem_append_left _ (List.mem_append_right _ (List.mem_append_right _ h)))))
theorem cl_X5_putWide_4 : ∀ w ∈ wsX50, w ∈ wsX5_putWide := fun _ h => (List.mem_cons_of_mem _ (List.mem_append_left _ (List.mem_append_right _ h)))
theorem cl_X5_putWide_5 : ∀ w ∈ wsX40, w ∈ wsX5_putWide := fun _ h => (List.mem_cons_of_mem _ (List.mem_append_right _ h))
set_option maxRecDepth 20000 in
theorem ggX5_putWide_X5_put : GoodIn wsX5_putWide wsX5_put := goodIn_sub (List.forall_mem_cons.mpr ⟨(cl_X5_putWide_1 _ (List.mem_of_getElem? (i := 6) rfl)), fun w h => (List.mem_append.mp h).elim ((fun w h => (List.mem_append.mp h).elim ((fun w h => (List.mem_append.mp h).elim ((List.forall_mem_cons.mpr ⟨(cl_X5_putWide_1 _ (List.mem_of_getElem? (i := 7) rfl)), List.forall_mem_cons.mpr ⟨(cl_X5_putWide_1 _ (List.mem_of_getElem? (i := 8) rfl)), List.forall_mem_cons.mpr ⟨(cl_X5_putWide_1 _ (List.mem_of_getElem? (i := 5) rfl)), List.forall_mem_cons.mpr ⟨(cl_X5_putWide_1 _ (List.mem_of_getElem? (i := 9) rfl)), List.forall_mem_cons.mpr ⟨(cl_X5_putWide_1 _ (List.mem_of_getElem? (i := 10) rfl)), List.forall_mem_cons.mpr ⟨(cl_X5_putWide_1 _ (List.mem_of_getElem? (i := 11) rfl)), List.forall_mem_cons.mpr ⟨(cl_X5_putWide_1 _ (List.mem_of_getElem? (i := 12) rfl)), List.forall_mem_cons.mpr ⟨(cl_X5_putWide_1 _ (List.mem_of_getElem? (i := 13) rfl)), List.forall_mem_cons.mpr ⟨(cl_X5_putWide_1 _ (List.mem_of_getElem? (i := 14) rfl)), List.forall_mem_cons.mpr ⟨(cl_X5_putWide_1 _ (List.mem_of_getElem? (i := 15) rfl)), List.forall_mem_cons.mpr ⟨(cl_X5_putWide_1 _ (List.mem_of_getElem? (i := 16) rfl)), List.forall_mem_cons.mpr ⟨(cl_X5_putWide_1 _ (List.mem_of_getElem? (i := 17) rfl)), List.forall_mem_cons.mpr ⟨(cl_X5_putWide_1 _ (List.mem_of_getElem? (i := 18) rfl)), List.forall_mem_cons.mpr ⟨(cl_X5_putWide_1 _ (List.mem_of_getElem? (i := 19) rfl)), List.forall_mem_cons.mpr ⟨(cl_X5_putWide_1 _ (List.mem_of_getElem? (i := 20) rfl)), List.forall_mem_cons.mpr ⟨(cl_X5_putWide_1 _ (List.mem_of_getElem? (i := 21) rfl)), List.forall_mem_cons.mpr ⟨(cl_X5_putWide_1 _ (List.mem_of_getElem? (i := 22) rfl)), List.forall_mem_cons.mpr ⟨(cl_X5_putWide_1 _ (List.mem_of_getElem? (i := 23) rfl)), List.forall_mem_cons.mpr ⟨(cl_X5_putWide_2 _ (List.mem_of_getElem? (i := 0) rfl)), List.forall_mem_cons.mpr ⟨(cl_X5_putWide_2 _ (List.mem_of_getElem? (i := 1) rfl)), List.forall_mem_cons.mpr ⟨(cl_X5_putWide_2 _ (List.mem_of_getElem? (i := 2) rfl)), List.forall_mem_cons.mpr ⟨(cl_X5_putWide_2 _ (List.mem_of_getElem? (i := 3) rfl)), List.forall_mem_cons.mpr ⟨(cl_X5_putWide_2 _ (List.mem_of_getElem? (i := 4) rfl)), List.forall_mem_cons.mpr ⟨(cl_X5_putWide_2 _ (List.mem_of_getElem? (i := 5) rfl)), fun _ h => absurd h List.not_mem_nil⟩⟩⟩⟩⟩⟩⟩⟩⟩⟩⟩⟩⟩⟩⟩⟩⟩⟩⟩⟩⟩⟩⟩⟩) w) ((List.forall_mem_cons.mpr ⟨(cl_X5_putWide_2 _ (List.mem_of_getElem? (i := 6) rfl)), List.forall_mem_cons.mpr ⟨(cl_X5_putWide_2 _ (List.mem_of_getElem? (i := 7) rfl)), List.forall_mem_cons.mpr ⟨(cl_X5_putWide_2 _ (List.mem_of_getElem? (i := 8) rfl)), List.forall_mem_cons.mpr ⟨(cl_X5_putWide_2 _ (List.mem_of_getElem? (i := 9) rfl)), List.forall_mem_cons.mpr ⟨(cl_X5_putWide_2 _ (List.mem_of_getElem? (i := 10) rfl)), List.forall_mem_cons.mpr ⟨(cl_X5_putWide_2 _ (List.mem_of_getElem? (i := 11) rfl)), List.forall_mem_cons.mpr ⟨(cl_X5_putWide_2 _ (List.mem_of_getElem? (i := 12) rfl)), List.forall_mem_cons.mpr ⟨(cl_X5_putWide_2 _ (List.mem_of_getElem? (i := 13) rfl)), List.forall_mem_cons.mpr ⟨(cl_X5_putWide_2 _ (List.mem_of_getElem? (i := 14) rfl)), List.forall_mem_cons.mpr ⟨(cl_X5_putWide_2 _ (List.mem_of_getElem? (i := 15) rfl)), List.forall_mem_cons.mpr ⟨(cl_X5_putWide_2 _ (List.mem_of_getElem? (i := 16) rfl)), List.forall_mem_cons.mpr ⟨(cl_X5_putWide_2 _ (List.mem_of_getElem? (i := 17) rfl)), List.forall_mem_cons.mpr ⟨(cl_X5_putWide_2 _ (List.mem_of_getElem? (i := 18) rfl)), List.forall_mem_cons.mpr ⟨(cl_X5_putWide_2 _ (List.mem_of_getElem? (i := 19) rfl)), List.forall_mem_cons.mpr ⟨(cl_X5_putWide_2 _ (List.mem_of_getElem? (i := 20) rfl)), List.forall_mem_cons.mpr ⟨(cl_X5_putWide_2 _ (List.mem_of_getElem? (i := 21) rfl)), List.forall_mem_cons.mpr ⟨(cl_X5_putWide_2 _ (List.mem_of_getElem? (i := 22) rfl)), List.forall_mem_cons.mpr ⟨(cl_X5_putWide_2 _ (List.mem_of_getElem? (i := 23) rfl)), List.forall_mem_cons.mpr ⟨(cl_X5_putWide_3 _ (List.mem_of_getElem? (i := 0) rfl)), fun _ h => absurd h List.not_mem_nil⟩⟩⟩⟩⟩⟩⟩⟩⟩⟩⟩⟩⟩⟩⟩⟩⟩⟩⟩) w)) w) ((cl_X5_putWide_4) w)) w) ((cl_X5_putWide_5) w)⟩) (by decide +kernel)
set_option maxRecDepth 20000 in
theorem gX5_putWide_X5_put : GoodIn wsX5_putWide (wsV RX5 127 RX5 yX5_put wsX5_put) := goodIn_app (goodIn_sub (List.forall_mem_cons.mpr ⟨(cl_X5_putWide_1 _ (List.mem_of_getElem? (i := 2) rfl)), List.forall_mem_cons.mpr ⟨(cl_X5_putWide_1 _ (List.mem_of_getElem? (i := 3) rfl)), List.forall_mem_cons.mpr ⟨(cl_X5_putWide_1 _ (List.mem_of_getElem? (i := 4) rfl)), List.forall_mem_cons.mpr ⟨(cl_X5_putWide_1 _ (List.mem_of_getElem? (i := 5) rfl)), fun _ h => absurd h List.not_mem_nil⟩⟩⟩⟩) (by decide +kernel)) ggX5_putWide_X5_put
noncomputable def dz_p10_2 : List (Nat × Instr × Nat) := [(0, (.aload_n 0, 1)), (1, (.aload_n 0, 1)), (2, (.getfield 16, 3)), (5, (.iload_n 1, 1)), (6, (.iload_n 2, 1)), (7, (.i2l, 1)), (8, (.bipush 32, 2)), (10, (.lshl, 1)), (11, (.iload_n 3, 1)), (12, (.i2l, 1)), (13, (.ldc2_w 125, 3)), (16, (.land, 1)), (17, (.lor, 1)), (18, (.invokevirtual 127, 3)), (21, (.ireturn, 1))]
theorem dy_p10_2 : dz_ok cX5_putWide dz_p10_2 = true := by decide +kernel
theorem dX5_putWide_0 : decode cX5_putWide 0 = .ok (.aload_n 0, 1) := dz_at (i := 0) dy_p10_2 rfl
theorem dX5_putWide_1 : decode cX5_putWide 1 = .ok (.aload_n 0, 1) := dz_at (i := 1) dy_p10_2 rfl
theorem dX5_putWide_2 : decode cX5_putWide 2 = .ok (.getfield 16, 3) := dz_at (i := 2) dy_p10_2 rfl
theorem dX5_putWide_5 : decode cX5_putWide 5 = .ok (.iload_n 1, 1) := dz_at (i := 3) dy_p10_2 rfl
theorem dX5_putWide_6 : decode cX5_putWide 6 = .ok (.iload_n 2, 1) := dz_at (i := 4) dy_p10_2 rfl
theorem dX5_putWide_7 : decode cX5_putWide 7 = .ok (.i2l, 1) := dz_at (i := 5) dy_p10_2 rfl
theorem dX5_putWide_8 : decode cX5_putWide 8 = .ok (.bipush 32, 2) := dz_at (i := 6) dy_p10_2 rfl
theorem dX5_putWide_10 : decode cX5_putWide 10 = .ok (.lshl, 1) := dz_at (i := 7) dy_p10_2 rfl
theorem dX5_putWide_11 : decode cX5_putWide 11 = .ok (.iload_n 3, 1) := dz_at (i := 8) dy_p10_2 rfl
theorem dX5_putWide_12 : decode cX5_putWide 12 = .ok (.i2l, 1) := dz_at (i := 9) dy_p10_2 rfl
theorem dX5_putWide_13 : decode cX5_putWide 13 = .ok (.ldc2_w 125, 3) := dz_at (i := 10) dy_p10_2 rfl
theorem dX5_putWide_16 : decode cX5_putWide 16 = .ok (.land, 1) := dz_at (i := 11) dy_p10_2 rfl
theorem dX5_putWide_17 : decode cX5_putWide 17 = .ok (.lor, 1) := dz_at (i := 12) dy_p10_2 rfl
theorem dX5_putWide_18 : decode cX5_putWide 18 = .ok (.invokevirtual 127, 3) := dz_at (i := 13) dy_p10_2 rfl
theorem dX5_putWide_21 : decode cX5_putWide 21 = .ok (.ireturn, 1) := dz_at (i := 14) dy_p10_2 rfl
noncomputable def o_X5_putWide (a1 : Int32) (f1 : Nat → Int64) (rf : Int32) (p0 : Int32) (p1 : Int32) (p2 : Int32) : Int32 × Int32 × (Nat → Int64) × Int32 × Int32 :=
  ((o_X5_put true a1 f1 rf p0 ((jLshl p1.toInt64 32) ||| (p2.toInt64 &&& 4294967295))).1, (o_X5_put true a1 f1 rf p0 ((jLshl p1.toInt64 32) ||| (p2.toInt64 &&& 4294967295))).2.1, (o_X5_put true a1 f1 rf p0 ((jLshl p1.toInt64 32) ||| (p2.toInt64 &&& 4294967295))).2.2.1, (o_X5_put true a1 f1 rf p0 ((jLshl p1.toInt64 32) ||| (p2.toInt64 &&& 4294967295))).2.2.2.1, (o_X5_put true a1 f1 rf p0 ((jLshl p1.toInt64 32) ||| (p2.toInt64 &&& 4294967295))).2.2.2.2)
set_option maxHeartbeats 4000000 in
set_option maxRecDepth 100000 in
theorem k_X5_putWide (l : Launch) (dC : Nat → ClassId) (dI : Nat → Nat → Nat) (cy : ClassId) (h0 : Nat) (h1 : Nat) (hc1 : Nat) (h2 : Nat) (hc2 : Nat) (a1 : Int32) (f1 : Nat → Int64) (a2 : Int32) (f2 : Nat → Int64) (th : Int32) (rf : Int32) (kn : Int32) (sz : Nat) (N : Nat) (p0 : Int32) (p1 : Int32) (p2 : Int32) : Met l yX5_putWide wsX5_putWide ({ frames := 4, cells := 0, slots := 0, locals := 88 }) (va_Pc [.ref h0, .int p0, .int p1, .int p2] (xM (dC, dI) xCl [(h0, eM h1 h2 th rf kn), (h1, eMR true hc1 a1), (hc1, eA cy f1), (h2, eMR false hc2 a2), (hc2, eA cy f2)] [(cy, .long)] sz N)) (va_Qi (fun (r : Int32) (_ : Unit) => r = (o_X5_putWide a1 f1 rf p0 p1 p2).1) (fun _ t => xW (dC, dI) xCl [(h0, eM h1 h2 (o_X5_putWide a1 f1 rf p0 p1 p2).2.2.2.1 (o_X5_putWide a1 f1 rf p0 p1 p2).2.2.2.2 kn), (h1, eMR true hc1 (o_X5_putWide a1 f1 rf p0 p1 p2).2.1), (hc1, eA cy (o_X5_putWide a1 f1 rf p0 p1 p2).2.2.1), (h2, eMR false hc2 a2), (hc2, eA cy f2)] (va_A [(h0, eM h1 h2 th rf kn), (h1, eMR true hc1 a1), (hc1, eA cy f1), (h2, eMR false hc2 a2), (hc2, eA cy f2)] sz) t) (va_A [(h0, eM h1 h2 th rf kn), (h1, eMR true hc1 a1), (hc1, eA cy f1), (h2, eMR false hc2 a2), (hc2, eA cy f2)] sz)) 0 0 (va_A [(h0, eM h1 h2 th rf kn), (h1, eMR true hc1 a1), (hc1, eA cy f1), (h2, eMR false hc2 a2), (hc2, eA cy f2)] sz) := by
  refine Met.ofW (cc := cX5_putWide) (maxL := 4) (ret := (some .int)) (by decide +kernel) rfl ?_
  intro p e s m args below meth c s₁ B hml hv
  obtain ⟨rfl, hsz, hP, hK, hD0, hN, hG⟩ := hv
  have hx := B.exec
  have hb := B.bytes
  have hr := B.returns
  have hts := atoms_spec (ws := wsX5_putWide) B.pre
  have hown : s.vm.findClass RX5 = some m.cls := findClass_of_methodNamed B.named
  have hlocks := B.notSynchronized
  subst hsz
  have hAN : ∀ q, va_A [(h0, eM h1 h2 th rf kn), (h1, eMR true hc1 a1), (hc1, eA cy f1), (h2, eMR false hc2 a2), (hc2, eA cy f2)] s.heap.size q → N ≤ q := xA_N hD0 hN
  have hD := hD0.self (sz := s.heap.size)
  generalize hAe : va_A [(h0, eM h1 h2 th rf kn), (h1, eMR true hc1 a1), (hc1, eA cy f1), (h2, eMR false hc2 a2), (hc2, eA cy f2)] s.heap.size = A at hD hAN ⊢
  have hA : ∀ q : Nat, s.heap.size ≤ q → A q := fun q h => by rw [← hAe]; exact Or.inr h
  have hS : va_S A s.heap s.heap [] := va_S.rf
  have hP : va_P (dC, dI) xCl [(h0, eM h1 h2 th rf kn), (h1, eMR true hc1 a1), (hc1, eA cy f1), (h2, eMR false hc2 a2), (hc2, eA cy f2)] s.heap := hP
  have hl := lv_entry ([.ref h0, .int p0, .int p1, .int p2]) (n := 4) (Nat.le_of_ble_eq_true rfl)
  rw [lg_entry_eq]
  generalize (lg_sl ([.ref h0, .int p0, .int p1, .int p2]) ++ List.replicate (4 - (lg_sl ([.ref h0, .int p0, .int p1, .int p2])).length) Slot.unset).toArray = ls at hl ⊢
  have hl : lv_has ls 4 [(0, .ref h0), (1, .int p0), (2, .int p1), (3, .int p2)] := hl
  refine lv_aload_n hx hb dX5_putWide_0 rfl (lv_at hl 0 rfl) ?_
  refine lv_aload_n hx hb dX5_putWide_1 rfl (lv_at hl 0 rfl) ?_
  refine va_get (D := (dC, dI)) (ci := 7) (v := .ref h1) (C := RX5) (T := TX5) (N := 5) hx hb hts (by decide +kernel) hown hK hP 0 rfl rfl 0 (by decide +kernel) (hts (.fieldLink RX5 16 "EdgefloatsModel" "wide" "LEdgefloatsModel$Row;") (by decide +kernel)) (fun _ h9 => h9) rfl dX5_putWide_2 ?_
  refine lv_iload_n hx hb dX5_putWide_5 rfl (lv_at hl 1 rfl) ?_
  refine lv_iload_n hx hb dX5_putWide_6 rfl (lv_at hl 2 rfl) ?_
  refine lv_i2l (v := p1.toInt64) hx hb dX5_putWide_7 rfl ?_
  refine lv_bipush (v := 32) hx hb dX5_putWide_8 (by decide +kernel) ?_
  refine lv_lshl (v := (jLshl p1.toInt64 32)) hx hb dX5_putWide_10 rfl ?_
  refine lv_iload_n hx hb dX5_putWide_11 rfl (lv_at hl 3 rfl) ?_
  refine lv_i2l (v := p2.toInt64) hx hb dX5_putWide_12 rfl ?_
  refine lv_ldc2 (own := RX5) (index := 125) (v := 4294967295) hx hb hown (hts (.constantLong RX5 125 (4294967295)) (by decide +kernel)) dX5_putWide_13 ?_
  refine lv_land hx hb dX5_putWide_16 ?_
  refine lv_lor hx hb dX5_putWide_17 ?_
  have hPc := hP.sub (ws' := [(h0, eM h1 h2 th rf kn), (h1, eMR true hc1 a1), (hc1, eA cy f1)]) [0, 1, 2] rfl
  have hDc := hD.sub (ws' := [(h0, eM h1 h2 th rf kn), (h1, eMR true hc1 a1), (hc1, eA cy f1)]) [0, 1, 2] (by decide +kernel) rfl
  have hKc := hK.sub (tys' := [(cy, .long)]) [0] rfl
  have hFc := va_free (wc := [(h0, eM h1 h2 th rf kn), (h1, eMR true hc1 a1), (hc1, eA cy f1)]) hD hS hA [0, 1, 2] rfl
  refine va_calli (va_runV (As := [.ref h1, .int p0, .long ((jLshl p1.toInt64 32) ||| (p2.toInt64 &&& 4294967295))]) (rest := []) ⟨hx, hb, hml, hown, hts⟩ (k_X5_put l dC dI cy h0 h1 h2 h1 hc1 true a1 f1 th rf kn s.heap.size N p0 ((jLshl p1.toInt64 32) ||| (p2.toInt64 &&& 4294967295))) (cwV 3 hts gX5_putWide_X5_put rfl rfl rfl (by decide +kernel) ⟨Nat.le_of_ble_eq_true rfl, Nat.le_of_ble_eq_true rfl⟩) (xM.preV hKc hPc hDc hAN (Nat.le_trans hN hS.1) (hG.kept hS hAN) (ci := 7) (q0 := 0) rfl rfl) rfl rfl hl.1 rfl (lv_room (Nat.le_of_ble_eq_true rfl)) dX5_putWide_18 ⟨Nat.le_of_ble_eq_true rfl, Nat.le_of_ble_eq_true rfl⟩) hS (fun q _ h => hFc q h) hFc (fun r_1 u t H locs ht hvm hw hB hz hk hS => ?_)
  replace hw : r_1 = (o_X5_put true a1 f1 rf p0 ((jLshl p1.toInt64 32) ||| (p2.toInt64 &&& 4294967295))).1 := hw
  subst r_1
  obtain ⟨hP1, hD1⟩ := hB
  rw [ht] at hP1
  obtain ⟨hP, hD⟩ := va_join (wr := [(h2, eMR false hc2 a2), (hc2, eA cy f2)]) (w1 := [(h0, eM h1 h2 (o_X5_put true a1 f1 rf p0 ((jLshl p1.toInt64 32) ||| (p2.toInt64 &&& 4294967295))).2.2.2.1 (o_X5_put true a1 f1 rf p0 ((jLshl p1.toInt64 32) ||| (p2.toInt64 &&& 4294967295))).2.2.2.2 kn), (h1, eMR true hc1 (o_X5_put true a1 f1 rf p0 ((jLshl p1.toInt64 32) ||| (p2.toInt64 &&& 4294967295))).2.1), (hc1, eA cy (o_X5_put true a1 f1 rf p0 ((jLshl p1.toInt64 32) ||| (p2.toInt64 &&& 4294967295))).2.2.1)]) hP hD [0, 1, 2] [3, 4] rfl rfl (by decide +kernel) (by decide +kernel) hk hFc hP1 hD1
  have hP := hP.sub (ws' := [(h0, eM h1 h2 (o_X5_put true a1 f1 rf p0 ((jLshl p1.toInt64 32) ||| (p2.toInt64 &&& 4294967295))).2.2.2.1 (o_X5_put true a1 f1 rf p0 ((jLshl p1.toInt64 32) ||| (p2.toInt64 &&& 4294967295))).2.2.2.2 kn), (h1, eMR true hc1 (o_X5_put true a1 f1 rf p0 ((jLshl p1.toInt64 32) ||| (p2.toInt64 &&& 4294967295))).2.1), (hc1, eA cy (o_X5_put true a1 f1 rf p0 ((jLshl p1.toInt64 32) ||| (p2.toInt64 &&& 4294967295))).2.2.1), (h2, eMR false hc2 a2), (hc2, eA cy f2)]) [2, 3, 4, 0, 1] rfl
  have hD := hD.sub (ws' := [(h0, eM h1 h2 (o_X5_put true a1 f1 rf p0 ((jLshl p1.toInt64 32) ||| (p2.toInt64 &&& 4294967295))).2.2.2.1 (o_X5_put true a1 f1 rf p0 ((jLshl p1.toInt64 32) ||| (p2.toInt64 &&& 4294967295))).2.2.2.2 kn), (h1, eMR true hc1 (o_X5_put true a1 f1 rf p0 ((jLshl p1.toInt64 32) ||| (p2.toInt64 &&& 4294967295))).2.1), (hc1, eA cy (o_X5_put true a1 f1 rf p0 ((jLshl p1.toInt64 32) ||| (p2.toInt64 &&& 4294967295))).2.2.1), (h2, eMR false hc2 a2), (hc2, eA cy f2)]) [2, 3, 4, 0, 1] (by decide +kernel) rfl
  have he : o_X5_putWide a1 f1 rf p0 p1 p2 = ((o_X5_put true a1 f1 rf p0 ((jLshl p1.toInt64 32) ||| (p2.toInt64 &&& 4294967295))).1, (o_X5_put true a1 f1 rf p0 ((jLshl p1.toInt64 32) ||| (p2.toInt64 &&& 4294967295))).2.1, (o_X5_put true a1 f1 rf p0 ((jLshl p1.toInt64 32) ||| (p2.toInt64 &&& 4294967295))).2.2.1, (o_X5_put true a1 f1 rf p0 ((jLshl p1.toInt64 32) ||| (p2.toInt64 &&& 4294967295))).2.2.2.1, (o_X5_put true a1 f1 rf p0 ((jLshl p1.toInt64 32) ||| (p2.toInt64 &&& 4294967295))).2.2.2.2) := by (rw [o_X5_putWide]) <;> rfl
  refine W.widen (k := 0) (n := 0) (by omega) (by omega) ?_
  exact W.iret (v := ((o_X5_put true a1 f1 rf p0 ((jLshl p1.toInt64 32) ||| (p2.toInt64 &&& 4294967295))).1)) hx hb hr (fun t ht hW => ⟨⟨_, (), rfl, (by (rw [he]) <;> rfl), (by rw [he]; exact ⟨by rw [ht]; exact hP, hD⟩)⟩, hS.F ht⟩) hS.2.2 dX5_putWide_21
theorem cl_X5_wideQuarters_1 : ∀ w ∈ wsX5_wideQuarters_r1, w ∈ wsX5_wideQuarters := fun _ h => (List.mem_cons_of_mem _ (List.mem_append_left _ (List.mem_append_left _ (List.mem_append_left _ h))))
theorem cl_X5_wideQuarters_2 : ∀ w ∈ wsX5_wideQuarters_r2, w ∈ wsX5_wideQuarters := fun _ h => (List.mem_cons_of_mem _ (List.mem_append_left _ (List.mem_append_left _ (List.mem_append_right _ h))))
theorem cl_X5_wideQuarters_3 : ∀ w ∈ wsX50, w ∈ wsX5_wideQuarters := fun _ h => (List.mem_cons_of_mem _ (List.mem_append_left _ (List.mem_append_right _ h)))
theorem cl_X5_wideQuarters_4 : ∀ w ∈ wsX40, w ∈ wsX5_wideQuarters := fun _ h => (List.mem_cons_of_mem _ (List.mem_append_right _ h))
set_option maxRecDepth 20000 in
theorem ggX5_wideQuarters_X5_quarters : GoodIn wsX5_wideQuarters wsX5_quarters := goodIn_sub (List.forall_mem_cons.mpr ⟨(cl_X5_wideQuarters_1 _ (List.mem_of_getElem? (i := 5) rfl)), fun w h => (List.mem_append.mp h).elim ((fun w h => (List.mem_append.mp h).elim ((fun w h => (List.mem_append.mp h).elim ((List.forall_mem_cons.mpr ⟨(cl_X5_wideQuarters_1 _ (List.mem_of_getElem? (i := 6) rfl)), List.forall_mem_cons.mpr ⟨(cl_X5_wideQuarters_1 _ (List.mem_of_getElem? (i := 7) rfl)), List.forall_mem_cons.mpr ⟨(cl_X5_wideQuarters_1 _ (List.mem_of_getElem? (i := 8) rfl)), List.forall_mem_cons.mpr ⟨(cl_X5_wideQuarters_1 _ (List.mem_of_getElem? (i := 4) rfl)), List.forall_mem_cons.mpr ⟨(cl_X5_wideQuarters_1 _ (List.mem_of_getElem? (i := 9) rfl)), List.forall_mem_cons.mpr ⟨(cl_X5_wideQuarters_1 _ (List.mem_of_getElem? (i := 10) rfl)), List.forall_mem_cons.mpr ⟨(cl_X5_wideQuarters_1 _ (List.mem_of_getElem? (i := 11) rfl)), List.forall_mem_cons.mpr ⟨(cl_X5_wideQuarters_1 _ (List.mem_of_getElem? (i := 12) rfl)), List.forall_mem_cons.mpr ⟨(cl_X5_wideQuarters_1 _ (List.mem_of_getElem? (i := 13) rfl)), List.forall_mem_cons.mpr ⟨(cl_X5_wideQuarters_1 _ (List.mem_of_getElem? (i := 14) rfl)), List.forall_mem_cons.mpr ⟨(cl_X5_wideQuarters_1 _ (List.mem_of_getElem? (i := 15) rfl)), List.forall_mem_cons.mpr ⟨(cl_X5_wideQuarters_1 _ (List.mem_of_getElem? (i := 16) rfl)), List.forall_mem_cons.mpr ⟨(cl_X5_wideQuarters_1 _ (List.mem_of_getElem? (i := 17) rfl)), List.forall_mem_cons.mpr ⟨(cl_X5_wideQuarters_1 _ (List.mem_of_getElem? (i := 18) rfl)), List.forall_mem_cons.mpr ⟨(cl_X5_wideQuarters_1 _ (List.mem_of_getElem? (i := 19) rfl)), List.forall_mem_cons.mpr ⟨(cl_X5_wideQuarters_1 _ (List.mem_of_getElem? (i := 20) rfl)), List.forall_mem_cons.mpr ⟨(cl_X5_wideQuarters_1 _ (List.mem_of_getElem? (i := 21) rfl)), List.forall_mem_cons.mpr ⟨(cl_X5_wideQuarters_1 _ (List.mem_of_getElem? (i := 22) rfl)), List.forall_mem_cons.mpr ⟨(cl_X5_wideQuarters_1 _ (List.mem_of_getElem? (i := 23) rfl)), List.forall_mem_cons.mpr ⟨(cl_X5_wideQuarters_2 _ (List.mem_of_getElem? (i := 0) rfl)), List.forall_mem_cons.mpr ⟨(cl_X5_wideQuarters_2 _ (List.mem_of_getElem? (i := 1) rfl)), List.forall_mem_cons.mpr ⟨(cl_X5_wideQuarters_2 _ (List.mem_of_getElem? (i := 2) rfl)), List.forall_mem_cons.mpr ⟨(cl_X5_wideQuarters_2 _ (List.mem_of_getElem? (i := 3) rfl)), List.forall_mem_cons.mpr ⟨(cl_X5_wideQuarters_2 _ (List.mem_of_getElem? (i := 4) rfl)), fun _ h => absurd h List.not_mem_nil⟩⟩⟩⟩⟩⟩⟩⟩⟩⟩⟩⟩⟩⟩⟩⟩⟩⟩⟩⟩⟩⟩⟩⟩) w) ((List.forall_mem_cons.mpr ⟨(cl_X5_wideQuarters_2 _ (List.mem_of_getElem? (i := 5) rfl)), List.forall_mem_cons.mpr ⟨(cl_X5_wideQuarters_2 _ (List.mem_of_getElem? (i := 6) rfl)), List.forall_mem_cons.mpr ⟨(cl_X5_wideQuarters_2 _ (List.mem_of_getElem? (i := 7) rfl)), List.forall_mem_cons.mpr ⟨(cl_X5_wideQuarters_2 _ (List.mem_of_getElem? (i := 8) rfl)), List.forall_mem_cons.mpr ⟨(cl_X5_wideQuarters_2 _ (List.mem_of_getElem? (i := 9) rfl)), List.forall_mem_cons.mpr ⟨(cl_X5_wideQuarters_2 _ (List.mem_of_getElem? (i := 10) rfl)), List.forall_mem_cons.mpr ⟨(cl_X5_wideQuarters_2 _ (List.mem_of_getElem? (i := 11) rfl)), List.forall_mem_cons.mpr ⟨(cl_X5_wideQuarters_2 _ (List.mem_of_getElem? (i := 12) rfl)), fun _ h => absurd h List.not_mem_nil⟩⟩⟩⟩⟩⟩⟩⟩) w)) w) ((cl_X5_wideQuarters_4) w)) w) ((cl_X5_wideQuarters_3) w)⟩) (by decide +kernel)
set_option maxRecDepth 20000 in
theorem gX5_wideQuarters_X5_quarters : GoodIn wsX5_wideQuarters (wsV RX5 131 RX5 yX5_quarters wsX5_quarters) := goodIn_app (goodIn_sub (List.forall_mem_cons.mpr ⟨(cl_X5_wideQuarters_1 _ (List.mem_of_getElem? (i := 1) rfl)), List.forall_mem_cons.mpr ⟨(cl_X5_wideQuarters_1 _ (List.mem_of_getElem? (i := 2) rfl)), List.forall_mem_cons.mpr ⟨(cl_X5_wideQuarters_1 _ (List.mem_of_getElem? (i := 3) rfl)), List.forall_mem_cons.mpr ⟨(cl_X5_wideQuarters_1 _ (List.mem_of_getElem? (i := 4) rfl)), fun _ h => absurd h List.not_mem_nil⟩⟩⟩⟩) (by decide +kernel)) ggX5_wideQuarters_X5_quarters
noncomputable def dz_p10_3 : List (Nat × Instr × Nat) := [(0, (.aload_n 0, 1)), (1, (.aload_n 0, 1)), (2, (.getfield 16, 3)), (5, (.iload_n 1, 1)), (6, (.iload_n 2, 1)), (7, (.invokevirtual 131, 3)), (10, (.ireturn, 1))]
theorem dy_p10_3 : dz_ok cX5_wideQuarters dz_p10_3 = true := by decide +kernel
theorem dX5_wideQuarters_0 : decode cX5_wideQuarters 0 = .ok (.aload_n 0, 1) := dz_at (i := 0) dy_p10_3 rfl
theorem dX5_wideQuarters_1 : decode cX5_wideQuarters 1 = .ok (.aload_n 0, 1) := dz_at (i := 1) dy_p10_3 rfl
theorem dX5_wideQuarters_2 : decode cX5_wideQuarters 2 = .ok (.getfield 16, 3) := dz_at (i := 2) dy_p10_3 rfl
theorem dX5_wideQuarters_5 : decode cX5_wideQuarters 5 = .ok (.iload_n 1, 1) := dz_at (i := 3) dy_p10_3 rfl
theorem dX5_wideQuarters_6 : decode cX5_wideQuarters 6 = .ok (.iload_n 2, 1) := dz_at (i := 4) dy_p10_3 rfl
theorem dX5_wideQuarters_7 : decode cX5_wideQuarters 7 = .ok (.invokevirtual 131, 3) := dz_at (i := 5) dy_p10_3 rfl
theorem dX5_wideQuarters_10 : decode cX5_wideQuarters 10 = .ok (.ireturn, 1) := dz_at (i := 6) dy_p10_3 rfl
noncomputable def o_X5_wideQuarters (a1 : Int32) (f1 : Nat → Int64) (p0 : Int32) (p1 : Int32) : Int32 × Int32 × (Nat → Int64) × Int32 :=
  ((o_X5_quarters true a1 f1 p0 p1).1, (o_X5_quarters true a1 f1 p0 p1).2.1, (o_X5_quarters true a1 f1 p0 p1).2.2.1, (o_X5_quarters true a1 f1 p0 p1).2.2.2)
set_option maxHeartbeats 4000000 in
set_option maxRecDepth 100000 in
theorem k_X5_wideQuarters (l : Launch) (dC : Nat → ClassId) (dI : Nat → Nat → Nat) (cy : ClassId) (h0 : Nat) (h1 : Nat) (hc1 : Nat) (h2 : Nat) (hc2 : Nat) (a1 : Int32) (f1 : Nat → Int64) (a2 : Int32) (f2 : Nat → Int64) (th : Int32) (rf : Int32) (kn : Int32) (sz : Nat) (N : Nat) (p0 : Int32) (p1 : Int32) : Met l yX5_wideQuarters wsX5_wideQuarters ({ frames := 3, cells := 0, slots := 0, locals := 69 }) (va_Pc [.ref h0, .int p0, .int p1] (xM (dC, dI) xCl [(h0, eM h1 h2 th rf kn), (h1, eMR true hc1 a1), (hc1, eA cy f1), (h2, eMR false hc2 a2), (hc2, eA cy f2)] [(cy, .long)] sz N)) (va_Qi (fun (r : Int32) (_ : Unit) => r = (o_X5_wideQuarters a1 f1 p0 p1).1) (fun _ t => xW (dC, dI) xCl [(h0, eM h1 h2 (o_X5_wideQuarters a1 f1 p0 p1).2.2.2 rf kn), (h1, eMR true hc1 (o_X5_wideQuarters a1 f1 p0 p1).2.1), (hc1, eA cy (o_X5_wideQuarters a1 f1 p0 p1).2.2.1), (h2, eMR false hc2 a2), (hc2, eA cy f2)] (va_A [(h0, eM h1 h2 th rf kn), (h1, eMR true hc1 a1), (hc1, eA cy f1), (h2, eMR false hc2 a2), (hc2, eA cy f2)] sz) t) (va_A [(h0, eM h1 h2 th rf kn), (h1, eMR true hc1 a1), (hc1, eA cy f1), (h2, eMR false hc2 a2), (hc2, eA cy f2)] sz)) 0 0 (va_A [(h0, eM h1 h2 th rf kn), (h1, eMR true hc1 a1), (hc1, eA cy f1), (h2, eMR false hc2 a2), (hc2, eA cy f2)] sz) := by
  refine Met.ofW (cc := cX5_wideQuarters) (maxL := 3) (ret := (some .int)) (by decide +kernel) rfl ?_
  intro p e s m args below meth c s₁ B hml hv
  obtain ⟨rfl, hsz, hP, hK, hD0, hN, hG⟩ := hv
  have hx := B.exec
  have hb := B.bytes
  have hr := B.returns
  have hts := atoms_spec (ws := wsX5_wideQuarters) B.pre
  have hown : s.vm.findClass RX5 = some m.cls := findClass_of_methodNamed B.named
  have hlocks := B.notSynchronized
  subst hsz
  have hAN : ∀ q, va_A [(h0, eM h1 h2 th rf kn), (h1, eMR true hc1 a1), (hc1, eA cy f1), (h2, eMR false hc2 a2), (hc2, eA cy f2)] s.heap.size q → N ≤ q := xA_N hD0 hN
  have hD := hD0.self (sz := s.heap.size)
  generalize hAe : va_A [(h0, eM h1 h2 th rf kn), (h1, eMR true hc1 a1), (hc1, eA cy f1), (h2, eMR false hc2 a2), (hc2, eA cy f2)] s.heap.size = A at hD hAN ⊢
  have hA : ∀ q : Nat, s.heap.size ≤ q → A q := fun q h => by rw [← hAe]; exact Or.inr h
  have hS : va_S A s.heap s.heap [] := va_S.rf
  have hP : va_P (dC, dI) xCl [(h0, eM h1 h2 th rf kn), (h1, eMR true hc1 a1), (hc1, eA cy f1), (h2, eMR false hc2 a2), (hc2, eA cy f2)] s.heap := hP
  have hl := lv_entry ([.ref h0, .int p0, .int p1]) (n := 3) (Nat.le_of_ble_eq_true rfl)
  rw [lg_entry_eq]
  generalize (lg_sl ([.ref h0, .int p0, .int p1]) ++ List.replicate (3 - (lg_sl ([.ref h0, .int p0, .int p1])).length) Slot.unset).toArray = ls at hl ⊢
  have hl : lv_has ls 3 [(0, .ref h0), (1, .int p0), (2, .int p1)] := hl
  refine lv_aload_n hx hb dX5_wideQuarters_0 rfl (lv_at hl 0 rfl) ?_
  refine lv_aload_n hx hb dX5_wideQuarters_1 rfl (lv_at hl 0 rfl) ?_
  refine va_get (D := (dC, dI)) (ci := 7) (v := .ref h1) (C := RX5) (T := TX5) (N := 5) hx hb hts (by decide +kernel) hown hK hP 0 rfl rfl 0 (by decide +kernel) (hts (.fieldLink RX5 16 "EdgefloatsModel" "wide" "LEdgefloatsModel$Row;") (by decide +kernel)) (fun _ h9 => h9) rfl dX5_wideQuarters_2 ?_
  refine lv_iload_n hx hb dX5_wideQuarters_5 rfl (lv_at hl 1 rfl) ?_
  refine lv_iload_n hx hb dX5_wideQuarters_6 rfl (lv_at hl 2 rfl) ?_
  have hPc := hP.sub (ws' := [(h0, eM h1 h2 th rf kn), (h1, eMR true hc1 a1), (hc1, eA cy f1)]) [0, 1, 2] rfl
  have hDc := hD.sub (ws' := [(h0, eM h1 h2 th rf kn), (h1, eMR true hc1 a1), (hc1, eA cy f1)]) [0, 1, 2] (by decide +kernel) rfl
  have hKc := hK.sub (tys' := [(cy, .long)]) [0] rfl
  have hFc := va_free (wc := [(h0, eM h1 h2 th rf kn), (h1, eMR true hc1 a1), (hc1, eA cy f1)]) hD hS hA [0, 1, 2] rfl
  refine va_calli (va_runV (As := [.ref h1, .int p0, .int p1]) (rest := []) ⟨hx, hb, hml, hown, hts⟩ (k_X5_quarters l dC dI cy h0 h1 h2 h1 hc1 true a1 f1 th rf kn s.heap.size N p0 p1) (cwV 3 hts gX5_wideQuarters_X5_quarters rfl rfl rfl (by decide +kernel) ⟨Nat.le_of_ble_eq_true rfl, Nat.le_of_ble_eq_true rfl⟩) (xM.preV hKc hPc hDc hAN (Nat.le_trans hN hS.1) (hG.kept hS hAN) (ci := 7) (q0 := 0) rfl rfl) rfl rfl hl.1 rfl (lv_room (Nat.le_of_ble_eq_true rfl)) dX5_wideQuarters_7 ⟨Nat.le_of_ble_eq_true rfl, Nat.le_of_ble_eq_true rfl⟩) hS (fun q _ h => hFc q h) hFc (fun r_1 u t H locs ht hvm hw hB hz hk hS => ?_)
  replace hw : r_1 = (o_X5_quarters true a1 f1 p0 p1).1 := hw
  subst r_1
  obtain ⟨hP1, hD1⟩ := hB
  rw [ht] at hP1
  obtain ⟨hP, hD⟩ := va_join (wr := [(h2, eMR false hc2 a2), (hc2, eA cy f2)]) (w1 := [(h0, eM h1 h2 (o_X5_quarters true a1 f1 p0 p1).2.2.2 rf kn), (h1, eMR true hc1 (o_X5_quarters true a1 f1 p0 p1).2.1), (hc1, eA cy (o_X5_quarters true a1 f1 p0 p1).2.2.1)]) hP hD [0, 1, 2] [3, 4] rfl rfl (by decide +kernel) (by decide +kernel) hk hFc hP1 hD1
  have hP := hP.sub (ws' := [(h0, eM h1 h2 (o_X5_quarters true a1 f1 p0 p1).2.2.2 rf kn), (h1, eMR true hc1 (o_X5_quarters true a1 f1 p0 p1).2.1), (hc1, eA cy (o_X5_quarters true a1 f1 p0 p1).2.2.1), (h2, eMR false hc2 a2), (hc2, eA cy f2)]) [2, 3, 4, 0, 1] rfl
  have hD := hD.sub (ws' := [(h0, eM h1 h2 (o_X5_quarters true a1 f1 p0 p1).2.2.2 rf kn), (h1, eMR true hc1 (o_X5_quarters true a1 f1 p0 p1).2.1), (hc1, eA cy (o_X5_quarters true a1 f1 p0 p1).2.2.1), (h2, eMR false hc2 a2), (hc2, eA cy f2)]) [2, 3, 4, 0, 1] (by decide +kernel) rfl
  have he : o_X5_wideQuarters a1 f1 p0 p1 = ((o_X5_quarters true a1 f1 p0 p1).1, (o_X5_quarters true a1 f1 p0 p1).2.1, (o_X5_quarters true a1 f1 p0 p1).2.2.1, (o_X5_quarters true a1 f1 p0 p1).2.2.2) := by (rw [o_X5_wideQuarters]) <;> rfl
  refine W.widen (k := 0) (n := 0) (by omega) (by omega) ?_
  exact W.iret (v := ((o_X5_quarters true a1 f1 p0 p1).1)) hx hb hr (fun t ht hW => ⟨⟨_, (), rfl, (by (rw [he]) <;> rfl), (by rw [he]; exact ⟨by rw [ht]; exact hP, hD⟩)⟩, hS.F ht⟩) hS.2.2 dX5_wideQuarters_10
theorem cl_X5_wideKnown_1 : ∀ w ∈ wsX5_wideKnown_r1, w ∈ wsX5_wideKnown := fun _ h => (List.mem_cons_of_mem _ (List.mem_append_left _ (List.mem_append_left _ (List.mem_append_left _ h))))
theorem cl_X5_wideKnown_2 : ∀ w ∈ wsX5_wideKnown_r2, w ∈ wsX5_wideKnown := fun _ h => (List.mem_cons_of_mem _ (List.mem_append_left _ (List.mem_append_left _ (List.mem_append_right _ h))))
theorem cl_X5_wideKnown_3 : ∀ w ∈ wsX50, w ∈ wsX5_wideKnown := fun _ h => (List.mem_cons_of_mem _ (List.mem_append_left _ (List.mem_append_right _ h)))
theorem cl_X5_wideKnown_4 : ∀ w ∈ wsX40, w ∈ wsX5_wideKnown := fun _ h => (List.mem_cons_of_mem _ (List.mem_append_right _ h))
set_option maxRecDepth 20000 in
theorem ggX5_wideKnown_X5_known : GoodIn wsX5_wideKnown wsX5_known := goodIn_sub (List.forall_mem_cons.mpr ⟨(cl_X5_wideKnown_1 _ (List.mem_of_getElem? (i := 5) rfl)), fun w h => (List.mem_append.mp h).elim ((fun w h => (List.mem_append.mp h).elim ((fun w h => (List.mem_append.mp h).elim ((List.forall_mem_cons.mpr ⟨(cl_X5_wideKnown_1 _ (List.mem_of_getElem? (i := 6) rfl)), List.forall_mem_cons.mpr ⟨(cl_X5_wideKnown_1 _ (List.mem_of_getElem? (i := 7) rfl)), List.forall_mem_cons.mpr ⟨(cl_X5_wideKnown_1 _ (List.mem_of_getElem? (i := 4) rfl)), List.forall_mem_cons.mpr ⟨(cl_X5_wideKnown_1 _ (List.mem_of_getElem? (i := 8) rfl)), List.forall_mem_cons.mpr ⟨(cl_X5_wideKnown_1 _ (List.mem_of_getElem? (i := 9) rfl)), List.forall_mem_cons.mpr ⟨(cl_X5_wideKnown_1 _ (List.mem_of_getElem? (i := 10) rfl)), List.forall_mem_cons.mpr ⟨(cl_X5_wideKnown_1 _ (List.mem_of_getElem? (i := 11) rfl)), List.forall_mem_cons.mpr ⟨(cl_X5_wideKnown_1 _ (List.mem_of_getElem? (i := 12) rfl)), List.forall_mem_cons.mpr ⟨(cl_X5_wideKnown_1 _ (List.mem_of_getElem? (i := 13) rfl)), List.forall_mem_cons.mpr ⟨(cl_X5_wideKnown_1 _ (List.mem_of_getElem? (i := 14) rfl)), List.forall_mem_cons.mpr ⟨(cl_X5_wideKnown_1 _ (List.mem_of_getElem? (i := 15) rfl)), List.forall_mem_cons.mpr ⟨(cl_X5_wideKnown_1 _ (List.mem_of_getElem? (i := 16) rfl)), List.forall_mem_cons.mpr ⟨(cl_X5_wideKnown_1 _ (List.mem_of_getElem? (i := 17) rfl)), List.forall_mem_cons.mpr ⟨(cl_X5_wideKnown_1 _ (List.mem_of_getElem? (i := 18) rfl)), List.forall_mem_cons.mpr ⟨(cl_X5_wideKnown_1 _ (List.mem_of_getElem? (i := 19) rfl)), List.forall_mem_cons.mpr ⟨(cl_X5_wideKnown_1 _ (List.mem_of_getElem? (i := 20) rfl)), List.forall_mem_cons.mpr ⟨(cl_X5_wideKnown_1 _ (List.mem_of_getElem? (i := 21) rfl)), List.forall_mem_cons.mpr ⟨(cl_X5_wideKnown_1 _ (List.mem_of_getElem? (i := 22) rfl)), List.forall_mem_cons.mpr ⟨(cl_X5_wideKnown_1 _ (List.mem_of_getElem? (i := 23) rfl)), List.forall_mem_cons.mpr ⟨(cl_X5_wideKnown_2 _ (List.mem_of_getElem? (i := 0) rfl)), List.forall_mem_cons.mpr ⟨(cl_X5_wideKnown_2 _ (List.mem_of_getElem? (i := 1) rfl)), List.forall_mem_cons.mpr ⟨(cl_X5_wideKnown_2 _ (List.mem_of_getElem? (i := 2) rfl)), List.forall_mem_cons.mpr ⟨(cl_X5_wideKnown_2 _ (List.mem_of_getElem? (i := 3) rfl)), List.forall_mem_cons.mpr ⟨(cl_X5_wideKnown_2 _ (List.mem_of_getElem? (i := 4) rfl)), fun _ h => absurd h List.not_mem_nil⟩⟩⟩⟩⟩⟩⟩⟩⟩⟩⟩⟩⟩⟩⟩⟩⟩⟩⟩⟩⟩⟩⟩⟩) w) ((List.forall_mem_cons.mpr ⟨(cl_X5_wideKnown_2 _ (List.mem_of_getElem? (i := 5) rfl)), List.forall_mem_cons.mpr ⟨(cl_X5_wideKnown_2 _ (List.mem_of_getElem? (i := 6) rfl)), List.forall_mem_cons.mpr ⟨(cl_X5_wideKnown_2 _ (List.mem_of_getElem? (i := 7) rfl)), List.forall_mem_cons.mpr ⟨(cl_X5_wideKnown_2 _ (List.mem_of_getElem? (i := 8) rfl)), List.forall_mem_cons.mpr ⟨(cl_X5_wideKnown_2 _ (List.mem_of_getElem? (i := 9) rfl)), List.forall_mem_cons.mpr ⟨(cl_X5_wideKnown_2 _ (List.mem_of_getElem? (i := 10) rfl)), List.forall_mem_cons.mpr ⟨(cl_X5_wideKnown_2 _ (List.mem_of_getElem? (i := 11) rfl)), List.forall_mem_cons.mpr ⟨(cl_X5_wideKnown_2 _ (List.mem_of_getElem? (i := 12) rfl)), List.forall_mem_cons.mpr ⟨(cl_X5_wideKnown_2 _ (List.mem_of_getElem? (i := 13) rfl)), fun _ h => absurd h List.not_mem_nil⟩⟩⟩⟩⟩⟩⟩⟩⟩) w)) w) ((cl_X5_wideKnown_3) w)) w) ((cl_X5_wideKnown_4) w)⟩) (by decide +kernel)
set_option maxRecDepth 20000 in
theorem gX5_wideKnown_X5_known : GoodIn wsX5_wideKnown (wsV RX5 135 RX5 yX5_known wsX5_known) := goodIn_app (goodIn_sub (List.forall_mem_cons.mpr ⟨(cl_X5_wideKnown_1 _ (List.mem_of_getElem? (i := 1) rfl)), List.forall_mem_cons.mpr ⟨(cl_X5_wideKnown_1 _ (List.mem_of_getElem? (i := 2) rfl)), List.forall_mem_cons.mpr ⟨(cl_X5_wideKnown_1 _ (List.mem_of_getElem? (i := 3) rfl)), List.forall_mem_cons.mpr ⟨(cl_X5_wideKnown_1 _ (List.mem_of_getElem? (i := 4) rfl)), fun _ h => absurd h List.not_mem_nil⟩⟩⟩⟩) (by decide +kernel)) ggX5_wideKnown_X5_known
noncomputable def dz_p10_4 : List (Nat × Instr × Nat) := [(0, (.aload_n 0, 1)), (1, (.aload_n 0, 1)), (2, (.getfield 16, 3)), (5, (.iload_n 1, 1)), (6, (.iload_n 2, 1)), (7, (.invokevirtual 135, 3)), (10, (.ireturn, 1))]
theorem dy_p10_4 : dz_ok cX5_wideKnown dz_p10_4 = true := by decide +kernel
theorem dX5_wideKnown_0 : decode cX5_wideKnown 0 = .ok (.aload_n 0, 1) := dz_at (i := 0) dy_p10_4 rfl
theorem dX5_wideKnown_1 : decode cX5_wideKnown 1 = .ok (.aload_n 0, 1) := dz_at (i := 1) dy_p10_4 rfl
theorem dX5_wideKnown_2 : decode cX5_wideKnown 2 = .ok (.getfield 16, 3) := dz_at (i := 2) dy_p10_4 rfl
theorem dX5_wideKnown_5 : decode cX5_wideKnown 5 = .ok (.iload_n 1, 1) := dz_at (i := 3) dy_p10_4 rfl
theorem dX5_wideKnown_6 : decode cX5_wideKnown 6 = .ok (.iload_n 2, 1) := dz_at (i := 4) dy_p10_4 rfl
theorem dX5_wideKnown_7 : decode cX5_wideKnown 7 = .ok (.invokevirtual 135, 3) := dz_at (i := 5) dy_p10_4 rfl
theorem dX5_wideKnown_10 : decode cX5_wideKnown 10 = .ok (.ireturn, 1) := dz_at (i := 6) dy_p10_4 rfl
noncomputable def o_X5_wideKnown (a1 : Int32) (f1 : Nat → Int64) (p0 : Int32) (p1 : Int32) : Int32 × Int32 × (Nat → Int64) × Int32 :=
  ((o_X5_known true a1 f1 p0 p1).1, (o_X5_known true a1 f1 p0 p1).2.1, (o_X5_known true a1 f1 p0 p1).2.2.1, (o_X5_known true a1 f1 p0 p1).2.2.2)
set_option maxHeartbeats 4000000 in
set_option maxRecDepth 100000 in
theorem k_X5_wideKnown (l : Launch) (dC : Nat → ClassId) (dI : Nat → Nat → Nat) (cy : ClassId) (h0 : Nat) (h1 : Nat) (hc1 : Nat) (h2 : Nat) (hc2 : Nat) (a1 : Int32) (f1 : Nat → Int64) (a2 : Int32) (f2 : Nat → Int64) (th : Int32) (rf : Int32) (kn : Int32) (sz : Nat) (N : Nat) (p0 : Int32) (p1 : Int32) : Met l yX5_wideKnown wsX5_wideKnown ({ frames := 3, cells := 0, slots := 0, locals := 65 }) (va_Pc [.ref h0, .int p0, .int p1] (xM (dC, dI) xCl [(h0, eM h1 h2 th rf kn), (h1, eMR true hc1 a1), (hc1, eA cy f1), (h2, eMR false hc2 a2), (hc2, eA cy f2)] [(cy, .long)] sz N)) (va_Qi (fun (r : Int32) (_ : Unit) => r = (o_X5_wideKnown a1 f1 p0 p1).1) (fun _ t => xW (dC, dI) xCl [(h0, eM h1 h2 (o_X5_wideKnown a1 f1 p0 p1).2.2.2 rf kn), (h1, eMR true hc1 (o_X5_wideKnown a1 f1 p0 p1).2.1), (hc1, eA cy (o_X5_wideKnown a1 f1 p0 p1).2.2.1), (h2, eMR false hc2 a2), (hc2, eA cy f2)] (va_A [(h0, eM h1 h2 th rf kn), (h1, eMR true hc1 a1), (hc1, eA cy f1), (h2, eMR false hc2 a2), (hc2, eA cy f2)] sz) t) (va_A [(h0, eM h1 h2 th rf kn), (h1, eMR true hc1 a1), (hc1, eA cy f1), (h2, eMR false hc2 a2), (hc2, eA cy f2)] sz)) 0 0 (va_A [(h0, eM h1 h2 th rf kn), (h1, eMR true hc1 a1), (hc1, eA cy f1), (h2, eMR false hc2 a2), (hc2, eA cy f2)] sz) := by
  refine Met.ofW (cc := cX5_wideKnown) (maxL := 3) (ret := (some .int)) (by decide +kernel) rfl ?_
  intro p e s m args below meth c s₁ B hml hv
  obtain ⟨rfl, hsz, hP, hK, hD0, hN, hG⟩ := hv
  have hx := B.exec
  have hb := B.bytes
  have hr := B.returns
  have hts := atoms_spec (ws := wsX5_wideKnown) B.pre
  have hown : s.vm.findClass RX5 = some m.cls := findClass_of_methodNamed B.named
  have hlocks := B.notSynchronized
  subst hsz
  have hAN : ∀ q, va_A [(h0, eM h1 h2 th rf kn), (h1, eMR true hc1 a1), (hc1, eA cy f1), (h2, eMR false hc2 a2), (hc2, eA cy f2)] s.heap.size q → N ≤ q := xA_N hD0 hN
  have hD := hD0.self (sz := s.heap.size)
  generalize hAe : va_A [(h0, eM h1 h2 th rf kn), (h1, eMR true hc1 a1), (hc1, eA cy f1), (h2, eMR false hc2 a2), (hc2, eA cy f2)] s.heap.size = A at hD hAN ⊢
  have hA : ∀ q : Nat, s.heap.size ≤ q → A q := fun q h => by rw [← hAe]; exact Or.inr h
  have hS : va_S A s.heap s.heap [] := va_S.rf
  have hP : va_P (dC, dI) xCl [(h0, eM h1 h2 th rf kn), (h1, eMR true hc1 a1), (hc1, eA cy f1), (h2, eMR false hc2 a2), (hc2, eA cy f2)] s.heap := hP
  have hl := lv_entry ([.ref h0, .int p0, .int p1]) (n := 3) (Nat.le_of_ble_eq_true rfl)
  rw [lg_entry_eq]
  generalize (lg_sl ([.ref h0, .int p0, .int p1]) ++ List.replicate (3 - (lg_sl ([.ref h0, .int p0, .int p1])).length) Slot.unset).toArray = ls at hl ⊢
  have hl : lv_has ls 3 [(0, .ref h0), (1, .int p0), (2, .int p1)] := hl
  refine lv_aload_n hx hb dX5_wideKnown_0 rfl (lv_at hl 0 rfl) ?_
  refine lv_aload_n hx hb dX5_wideKnown_1 rfl (lv_at hl 0 rfl) ?_
  refine va_get (D := (dC, dI)) (ci := 7) (v := .ref h1) (C := RX5) (T := TX5) (N := 5) hx hb hts (by decide +kernel) hown hK hP 0 rfl rfl 0 (by decide +kernel) (hts (.fieldLink RX5 16 "EdgefloatsModel" "wide" "LEdgefloatsModel$Row;") (by decide +kernel)) (fun _ h9 => h9) rfl dX5_wideKnown_2 ?_
  refine lv_iload_n hx hb dX5_wideKnown_5 rfl (lv_at hl 1 rfl) ?_
  refine lv_iload_n hx hb dX5_wideKnown_6 rfl (lv_at hl 2 rfl) ?_
  have hPc := hP.sub (ws' := [(h0, eM h1 h2 th rf kn), (h1, eMR true hc1 a1), (hc1, eA cy f1)]) [0, 1, 2] rfl
  have hDc := hD.sub (ws' := [(h0, eM h1 h2 th rf kn), (h1, eMR true hc1 a1), (hc1, eA cy f1)]) [0, 1, 2] (by decide +kernel) rfl
  have hKc := hK.sub (tys' := [(cy, .long)]) [0] rfl
  have hFc := va_free (wc := [(h0, eM h1 h2 th rf kn), (h1, eMR true hc1 a1), (hc1, eA cy f1)]) hD hS hA [0, 1, 2] rfl
  refine va_calli (va_runV (As := [.ref h1, .int p0, .int p1]) (rest := []) ⟨hx, hb, hml, hown, hts⟩ (k_X5_known l dC dI cy h0 h1 h2 h1 hc1 true a1 f1 th rf kn s.heap.size N p0 p1) (cwV 3 hts gX5_wideKnown_X5_known rfl rfl rfl (by decide +kernel) ⟨Nat.le_of_ble_eq_true rfl, Nat.le_of_ble_eq_true rfl⟩) (xM.preV hKc hPc hDc hAN (Nat.le_trans hN hS.1) (hG.kept hS hAN) (ci := 7) (q0 := 0) rfl rfl) rfl rfl hl.1 rfl (lv_room (Nat.le_of_ble_eq_true rfl)) dX5_wideKnown_7 ⟨Nat.le_of_ble_eq_true rfl, Nat.le_of_ble_eq_true rfl⟩) hS (fun q _ h => hFc q h) hFc (fun r_1 u t H locs ht hvm hw hB hz hk hS => ?_)
  replace hw : r_1 = (o_X5_known true a1 f1 p0 p1).1 := hw
  subst r_1
  obtain ⟨hP1, hD1⟩ := hB
  rw [ht] at hP1
  obtain ⟨hP, hD⟩ := va_join (wr := [(h2, eMR false hc2 a2), (hc2, eA cy f2)]) (w1 := [(h0, eM h1 h2 (o_X5_known true a1 f1 p0 p1).2.2.2 rf kn), (h1, eMR true hc1 (o_X5_known true a1 f1 p0 p1).2.1), (hc1, eA cy (o_X5_known true a1 f1 p0 p1).2.2.1)]) hP hD [0, 1, 2] [3, 4] rfl rfl (by decide +kernel) (by decide +kernel) hk hFc hP1 hD1
  have hP := hP.sub (ws' := [(h0, eM h1 h2 (o_X5_known true a1 f1 p0 p1).2.2.2 rf kn), (h1, eMR true hc1 (o_X5_known true a1 f1 p0 p1).2.1), (hc1, eA cy (o_X5_known true a1 f1 p0 p1).2.2.1), (h2, eMR false hc2 a2), (hc2, eA cy f2)]) [2, 3, 4, 0, 1] rfl
  have hD := hD.sub (ws' := [(h0, eM h1 h2 (o_X5_known true a1 f1 p0 p1).2.2.2 rf kn), (h1, eMR true hc1 (o_X5_known true a1 f1 p0 p1).2.1), (hc1, eA cy (o_X5_known true a1 f1 p0 p1).2.2.1), (h2, eMR false hc2 a2), (hc2, eA cy f2)]) [2, 3, 4, 0, 1] (by decide +kernel) rfl
  have he : o_X5_wideKnown a1 f1 p0 p1 = ((o_X5_known true a1 f1 p0 p1).1, (o_X5_known true a1 f1 p0 p1).2.1, (o_X5_known true a1 f1 p0 p1).2.2.1, (o_X5_known true a1 f1 p0 p1).2.2.2) := by (rw [o_X5_wideKnown]) <;> rfl
  refine W.widen (k := 0) (n := 0) (by omega) (by omega) ?_
  exact W.iret (v := ((o_X5_known true a1 f1 p0 p1).1)) hx hb hr (fun t ht hW => ⟨⟨_, (), rfl, (by (rw [he]) <;> rfl), (by rw [he]; exact ⟨by rw [ht]; exact hP, hD⟩)⟩, hS.F ht⟩) hS.2.2 dX5_wideKnown_10
theorem cl_X5_wideCopy_1 : ∀ w ∈ wsX5_wideCopy_r1, w ∈ wsX5_wideCopy := fun _ h => (List.mem_cons_of_mem _ (List.mem_append_left _ (List.mem_append_left _ (List.mem_append_left _ h))))
theorem cl_X5_wideCopy_2 : ∀ w ∈ wsX5_wideCopy_r2, w ∈ wsX5_wideCopy := fun _ h => (List.mem_cons_of_mem _ (List.mem_append_left _ (List.mem_append_left _ (List.mem_append_right _ h))))
theorem cl_X5_wideCopy_3 : ∀ w ∈ wsX50, w ∈ wsX5_wideCopy := fun _ h => (List.mem_cons_of_mem _ (List.mem_append_left _ (List.mem_append_right _ h)))
theorem cl_X5_wideCopy_4 : ∀ w ∈ wsX40, w ∈ wsX5_wideCopy := fun _ h => (List.mem_cons_of_mem _ (List.mem_append_right _ h))
set_option maxRecDepth 20000 in
theorem ggX5_wideCopy_X5_copy : GoodIn wsX5_wideCopy wsX5_copy := goodIn_sub (List.forall_mem_cons.mpr ⟨(cl_X5_wideCopy_1 _ (List.mem_of_getElem? (i := 5) rfl)), fun w h => (List.mem_append.mp h).elim ((fun w h => (List.mem_append.mp h).elim ((List.forall_mem_cons.mpr ⟨(cl_X5_wideCopy_1 _ (List.mem_of_getElem? (i := 6) rfl)), List.forall_mem_cons.mpr ⟨(cl_X5_wideCopy_1 _ (List.mem_of_getElem? (i := 7) rfl)), List.forall_mem_cons.mpr ⟨(cl_X5_wideCopy_1 _ (List.mem_of_getElem? (i := 8) rfl)), List.forall_mem_cons.mpr ⟨(cl_X5_wideCopy_1 _ (List.mem_of_getElem? (i := 4) rfl)), List.forall_mem_cons.mpr ⟨(cl_X5_wideCopy_1 _ (List.mem_of_getElem? (i := 9) rfl)), List.forall_mem_cons.mpr ⟨(cl_X5_wideCopy_1 _ (List.mem_of_getElem? (i := 10) rfl)), List.forall_mem_cons.mpr ⟨(cl_X5_wideCopy_1 _ (List.mem_of_getElem? (i := 11) rfl)), List.forall_mem_cons.mpr ⟨(cl_X5_wideCopy_1 _ (List.mem_of_getElem? (i := 12) rfl)), List.forall_mem_cons.mpr ⟨(cl_X5_wideCopy_1 _ (List.mem_of_getElem? (i := 13) rfl)), List.forall_mem_cons.mpr ⟨(cl_X5_wideCopy_1 _ (List.mem_of_getElem? (i := 14) rfl)), List.forall_mem_cons.mpr ⟨(cl_X5_wideCopy_1 _ (List.mem_of_getElem? (i := 15) rfl)), List.forall_mem_cons.mpr ⟨(cl_X5_wideCopy_1 _ (List.mem_of_getElem? (i := 16) rfl)), List.forall_mem_cons.mpr ⟨(cl_X5_wideCopy_1 _ (List.mem_of_getElem? (i := 17) rfl)), List.forall_mem_cons.mpr ⟨(cl_X5_wideCopy_1 _ (List.mem_of_getElem? (i := 18) rfl)), List.forall_mem_cons.mpr ⟨(cl_X5_wideCopy_1 _ (List.mem_of_getElem? (i := 19) rfl)), List.forall_mem_cons.mpr ⟨(cl_X5_wideCopy_1 _ (List.mem_of_getElem? (i := 20) rfl)), List.forall_mem_cons.mpr ⟨(cl_X5_wideCopy_1 _ (List.mem_of_getElem? (i := 21) rfl)), List.forall_mem_cons.mpr ⟨(cl_X5_wideCopy_1 _ (List.mem_of_getElem? (i := 22) rfl)), List.forall_mem_cons.mpr ⟨(cl_X5_wideCopy_1 _ (List.mem_of_getElem? (i := 23) rfl)), List.forall_mem_cons.mpr ⟨(cl_X5_wideCopy_2 _ (List.mem_of_getElem? (i := 0) rfl)), List.forall_mem_cons.mpr ⟨(cl_X5_wideCopy_2 _ (List.mem_of_getElem? (i := 1) rfl)), List.forall_mem_cons.mpr ⟨(cl_X5_wideCopy_2 _ (List.mem_of_getElem? (i := 2) rfl)), List.forall_mem_cons.mpr ⟨(cl_X5_wideCopy_2 _ (List.mem_of_getElem? (i := 3) rfl)), fun _ h => absurd h List.not_mem_nil⟩⟩⟩⟩⟩⟩⟩⟩⟩⟩⟩⟩⟩⟩⟩⟩⟩⟩⟩⟩⟩⟩⟩) w) ((cl_X5_wideCopy_4) w)) w) ((cl_X5_wideCopy_3) w)⟩) (by decide +kernel)
set_option maxRecDepth 20000 in
theorem gX5_wideCopy_X5_copy : GoodIn wsX5_wideCopy (wsV RX5 137 RX5 yX5_copy wsX5_copy) := goodIn_app (goodIn_sub (List.forall_mem_cons.mpr ⟨(cl_X5_wideCopy_1 _ (List.mem_of_getElem? (i := 1) rfl)), List.forall_mem_cons.mpr ⟨(cl_X5_wideCopy_1 _ (List.mem_of_getElem? (i := 2) rfl)), List.forall_mem_cons.mpr ⟨(cl_X5_wideCopy_1 _ (List.mem_of_getElem? (i := 3) rfl)), List.forall_mem_cons.mpr ⟨(cl_X5_wideCopy_1 _ (List.mem_of_getElem? (i := 4) rfl)), fun _ h => absurd h List.not_mem_nil⟩⟩⟩⟩) (by decide +kernel)) ggX5_wideCopy_X5_copy
noncomputable def dz_p10_5 : List (Nat × Instr × Nat) := [(0, (.aload_n 0, 1)), (1, (.aload_n 0, 1)), (2, (.getfield 16, 3)), (5, (.iload_n 1, 1)), (6, (.iload_n 2, 1)), (7, (.invokevirtual 137, 3)), (10, (.ireturn, 1))]
theorem dy_p10_5 : dz_ok cX5_wideCopy dz_p10_5 = true := by decide +kernel
theorem dX5_wideCopy_0 : decode cX5_wideCopy 0 = .ok (.aload_n 0, 1) := dz_at (i := 0) dy_p10_5 rfl
theorem dX5_wideCopy_1 : decode cX5_wideCopy 1 = .ok (.aload_n 0, 1) := dz_at (i := 1) dy_p10_5 rfl
theorem dX5_wideCopy_2 : decode cX5_wideCopy 2 = .ok (.getfield 16, 3) := dz_at (i := 2) dy_p10_5 rfl
theorem dX5_wideCopy_5 : decode cX5_wideCopy 5 = .ok (.iload_n 1, 1) := dz_at (i := 3) dy_p10_5 rfl
theorem dX5_wideCopy_6 : decode cX5_wideCopy 6 = .ok (.iload_n 2, 1) := dz_at (i := 4) dy_p10_5 rfl
theorem dX5_wideCopy_7 : decode cX5_wideCopy 7 = .ok (.invokevirtual 137, 3) := dz_at (i := 5) dy_p10_5 rfl
theorem dX5_wideCopy_10 : decode cX5_wideCopy 10 = .ok (.ireturn, 1) := dz_at (i := 6) dy_p10_5 rfl
noncomputable def o_X5_wideCopy (a1 : Int32) (f1 : Nat → Int64) (p0 : Int32) (p1 : Int32) : Int32 × Int32 × (Nat → Int64) × Int32 :=
  ((o_X5_copy a1 f1 p0 p1).1, (o_X5_copy a1 f1 p0 p1).2.1, (o_X5_copy a1 f1 p0 p1).2.2.1, (o_X5_copy a1 f1 p0 p1).2.2.2)
set_option maxHeartbeats 4000000 in
set_option maxRecDepth 100000 in
theorem k_X5_wideCopy (l : Launch) (dC : Nat → ClassId) (dI : Nat → Nat → Nat) (cy : ClassId) (h0 : Nat) (h1 : Nat) (hc1 : Nat) (h2 : Nat) (hc2 : Nat) (a1 : Int32) (f1 : Nat → Int64) (a2 : Int32) (f2 : Nat → Int64) (th : Int32) (rf : Int32) (kn : Int32) (sz : Nat) (N : Nat) (p0 : Int32) (p1 : Int32) : Met l yX5_wideCopy wsX5_wideCopy ({ frames := 4, cells := 0, slots := 0, locals := 86 }) (va_Pc [.ref h0, .int p0, .int p1] (xM (dC, dI) xCl [(h0, eM h1 h2 th rf kn), (h1, eMR true hc1 a1), (hc1, eA cy f1), (h2, eMR false hc2 a2), (hc2, eA cy f2)] [(cy, .long)] sz N)) (va_Qi (fun (r : Int32) (_ : Unit) => r = (o_X5_wideCopy a1 f1 p0 p1).1) (fun _ t => xW (dC, dI) xCl [(h0, eM h1 h2 (o_X5_wideCopy a1 f1 p0 p1).2.2.2 rf kn), (h1, eMR true hc1 (o_X5_wideCopy a1 f1 p0 p1).2.1), (hc1, eA cy (o_X5_wideCopy a1 f1 p0 p1).2.2.1), (h2, eMR false hc2 a2), (hc2, eA cy f2)] (va_A [(h0, eM h1 h2 th rf kn), (h1, eMR true hc1 a1), (hc1, eA cy f1), (h2, eMR false hc2 a2), (hc2, eA cy f2)] sz) t) (va_A [(h0, eM h1 h2 th rf kn), (h1, eMR true hc1 a1), (hc1, eA cy f1), (h2, eMR false hc2 a2), (hc2, eA cy f2)] sz)) 0 0 (va_A [(h0, eM h1 h2 th rf kn), (h1, eMR true hc1 a1), (hc1, eA cy f1), (h2, eMR false hc2 a2), (hc2, eA cy f2)] sz) := by
  refine Met.ofW (cc := cX5_wideCopy) (maxL := 3) (ret := (some .int)) (by decide +kernel) rfl ?_
  intro p e s m args below meth c s₁ B hml hv
  obtain ⟨rfl, hsz, hP, hK, hD0, hN, hG⟩ := hv
  have hx := B.exec
  have hb := B.bytes
  have hr := B.returns
  have hts := atoms_spec (ws := wsX5_wideCopy) B.pre
  have hown : s.vm.findClass RX5 = some m.cls := findClass_of_methodNamed B.named
  have hlocks := B.notSynchronized
  subst hsz
  have hAN : ∀ q, va_A [(h0, eM h1 h2 th rf kn), (h1, eMR true hc1 a1), (hc1, eA cy f1), (h2, eMR false hc2 a2), (hc2, eA cy f2)] s.heap.size q → N ≤ q := xA_N hD0 hN
  have hD := hD0.self (sz := s.heap.size)
  generalize hAe : va_A [(h0, eM h1 h2 th rf kn), (h1, eMR true hc1 a1), (hc1, eA cy f1), (h2, eMR false hc2 a2), (hc2, eA cy f2)] s.heap.size = A at hD hAN ⊢
  have hA : ∀ q : Nat, s.heap.size ≤ q → A q := fun q h => by rw [← hAe]; exact Or.inr h
  have hS : va_S A s.heap s.heap [] := va_S.rf
  have hP : va_P (dC, dI) xCl [(h0, eM h1 h2 th rf kn), (h1, eMR true hc1 a1), (hc1, eA cy f1), (h2, eMR false hc2 a2), (hc2, eA cy f2)] s.heap := hP
  have hl := lv_entry ([.ref h0, .int p0, .int p1]) (n := 3) (Nat.le_of_ble_eq_true rfl)
  rw [lg_entry_eq]
  generalize (lg_sl ([.ref h0, .int p0, .int p1]) ++ List.replicate (3 - (lg_sl ([.ref h0, .int p0, .int p1])).length) Slot.unset).toArray = ls at hl ⊢
  have hl : lv_has ls 3 [(0, .ref h0), (1, .int p0), (2, .int p1)] := hl
  refine lv_aload_n hx hb dX5_wideCopy_0 rfl (lv_at hl 0 rfl) ?_
  refine lv_aload_n hx hb dX5_wideCopy_1 rfl (lv_at hl 0 rfl) ?_
  refine va_get (D := (dC, dI)) (ci := 7) (v := .ref h1) (C := RX5) (T := TX5) (N := 5) hx hb hts (by decide +kernel) hown hK hP 0 rfl rfl 0 (by decide +kernel) (hts (.fieldLink RX5 16 "EdgefloatsModel" "wide" "LEdgefloatsModel$Row;") (by decide +kernel)) (fun _ h9 => h9) rfl dX5_wideCopy_2 ?_
  refine lv_iload_n hx hb dX5_wideCopy_5 rfl (lv_at hl 1 rfl) ?_
  refine lv_iload_n hx hb dX5_wideCopy_6 rfl (lv_at hl 2 rfl) ?_
  have hPc := hP.sub (ws' := [(h0, eM h1 h2 th rf kn), (h1, eMR true hc1 a1), (hc1, eA cy f1)]) [0, 1, 2] rfl
  have hDc := hD.sub (ws' := [(h0, eM h1 h2 th rf kn), (h1, eMR true hc1 a1), (hc1, eA cy f1)]) [0, 1, 2] (by decide +kernel) rfl
  have hKc := hK.sub (tys' := [(cy, .long)]) [0] rfl
  have hFc := va_free (wc := [(h0, eM h1 h2 th rf kn), (h1, eMR true hc1 a1), (hc1, eA cy f1)]) hD hS hA [0, 1, 2] rfl
  refine va_calli (va_runV (As := [.ref h1, .int p0, .int p1]) (rest := []) ⟨hx, hb, hml, hown, hts⟩ (k_X5_copy l dC dI cy h0 h1 h2 h1 hc1 true a1 f1 th rf kn s.heap.size N p0 p1) (cwV 3 hts gX5_wideCopy_X5_copy rfl rfl rfl (by decide +kernel) ⟨Nat.le_of_ble_eq_true rfl, Nat.le_of_ble_eq_true rfl⟩) (xM.preV hKc hPc hDc hAN (Nat.le_trans hN hS.1) (hG.kept hS hAN) (ci := 7) (q0 := 0) rfl rfl) rfl rfl hl.1 rfl (lv_room (Nat.le_of_ble_eq_true rfl)) dX5_wideCopy_7 ⟨Nat.le_of_ble_eq_true rfl, Nat.le_of_ble_eq_true rfl⟩) hS (fun q _ h => hFc q h) hFc (fun r_1 u t H locs ht hvm hw hB hz hk hS => ?_)
  replace hw : r_1 = (o_X5_copy a1 f1 p0 p1).1 := hw
  subst r_1
  obtain ⟨hP1, hD1⟩ := hB
  rw [ht] at hP1
  obtain ⟨hP, hD⟩ := va_join (wr := [(h2, eMR false hc2 a2), (hc2, eA cy f2)]) (w1 := [(h0, eM h1 h2 (o_X5_copy a1 f1 p0 p1).2.2.2 rf kn), (h1, eMR true hc1 (o_X5_copy a1 f1 p0 p1).2.1), (hc1, eA cy (o_X5_copy a1 f1 p0 p1).2.2.1)]) hP hD [0, 1, 2] [3, 4] rfl rfl (by decide +kernel) (by decide +kernel) hk hFc hP1 hD1
  have hP := hP.sub (ws' := [(h0, eM h1 h2 (o_X5_copy a1 f1 p0 p1).2.2.2 rf kn), (h1, eMR true hc1 (o_X5_copy a1 f1 p0 p1).2.1), (hc1, eA cy (o_X5_copy a1 f1 p0 p1).2.2.1), (h2, eMR false hc2 a2), (hc2, eA cy f2)]) [2, 3, 4, 0, 1] rfl
  have hD := hD.sub (ws' := [(h0, eM h1 h2 (o_X5_copy a1 f1 p0 p1).2.2.2 rf kn), (h1, eMR true hc1 (o_X5_copy a1 f1 p0 p1).2.1), (hc1, eA cy (o_X5_copy a1 f1 p0 p1).2.2.1), (h2, eMR false hc2 a2), (hc2, eA cy f2)]) [2, 3, 4, 0, 1] (by decide +kernel) rfl
  have he : o_X5_wideCopy a1 f1 p0 p1 = ((o_X5_copy a1 f1 p0 p1).1, (o_X5_copy a1 f1 p0 p1).2.1, (o_X5_copy a1 f1 p0 p1).2.2.1, (o_X5_copy a1 f1 p0 p1).2.2.2) := by (rw [o_X5_wideCopy]) <;> rfl
  refine W.widen (k := 0) (n := 0) (by omega) (by omega) ?_
  exact W.iret (v := ((o_X5_copy a1 f1 p0 p1).1)) hx hb hr (fun t ht hW => ⟨⟨_, (), rfl, (by (rw [he]) <;> rfl), (by rw [he]; exact ⟨by rw [ht]; exact hP, hD⟩)⟩, hS.F ht⟩) hS.2.2 dX5_wideCopy_10
theorem cl_X5_wideSwap_1 : ∀ w ∈ wsX5_wideSwap_r1, w ∈ wsX5_wideSwap := fun _ h => (List.mem_cons_of_mem _ (List.mem_append_left _ (List.mem_append_left _ (List.mem_append_left _ h))))
theorem cl_X5_wideSwap_2 : ∀ w ∈ wsX5_wideSwap_r2, w ∈ wsX5_wideSwap := fun _ h => (List.mem_cons_of_mem _ (List.mem_append_left _ (List.mem_append_left _ (List.mem_append_right _ h))))
theorem cl_X5_wideSwap_3 : ∀ w ∈ wsX50, w ∈ wsX5_wideSwap := fun _ h => (List.mem_cons_of_mem _ (List.mem_append_left _ (List.mem_append_right _ h)))
theorem cl_X5_wideSwap_4 : ∀ w ∈ wsX40, w ∈ wsX5_wideSwap := fun _ h => (List.mem_cons_of_mem _ (List.mem_append_right _ h))
set_option maxRecDepth 20000 in
theorem ggX5_wideSwap_X5_swap : GoodIn wsX5_wideSwap wsX5_swap := goodIn_sub (List.forall_mem_cons.mpr ⟨(cl_X5_wideSwap_1 _ (List.mem_of_getElem? (i := 5) rfl)), fun w h => (List.mem_append.mp h).elim ((fun w h => (List.mem_append.mp h).elim ((fun w h => (List.mem_append.mp h).elim ((List.forall_mem_cons.mpr ⟨(cl_X5_wideSwap_1 _ (List.mem_of_getElem? (i := 6) rfl)), List.forall_mem_cons.mpr ⟨(cl_X5_wideSwap_1 _ (List.mem_of_getElem? (i := 7) rfl)), List.forall_mem_cons.mpr ⟨(cl_X5_wideSwap_1 _ (List.mem_of_getElem? (i := 4) rfl)), List.forall_mem_cons.mpr ⟨(cl_X5_wideSwap_1 _ (List.mem_of_getElem? (i := 8) rfl)), List.forall_mem_cons.mpr ⟨(cl_X5_wideSwap_1 _ (List.mem_of_getElem? (i := 9) rfl)), List.forall_mem_cons.mpr ⟨(cl_X5_wideSwap_1 _ (List.mem_of_getElem? (i := 10) rfl)), List.forall_mem_cons.mpr ⟨(cl_X5_wideSwap_1 _ (List.mem_of_getElem? (i := 11) rfl)), List.forall_mem_cons.mpr ⟨(cl_X5_wideSwap_1 _ (List.mem_of_getElem? (i := 12) rfl)), List.forall_mem_cons.mpr ⟨(cl_X5_wideSwap_1 _ (List.mem_of_getElem? (i := 13) rfl)), List.forall_mem_cons.mpr ⟨(cl_X5_wideSwap_1 _ (List.mem_of_getElem? (i := 14) rfl)), List.forall_mem_cons.mpr ⟨(cl_X5_wideSwap_1 _ (List.mem_of_getElem? (i := 15) rfl)), List.forall_mem_cons.mpr ⟨(cl_X5_wideSwap_1 _ (List.mem_of_getElem? (i := 16) rfl)), List.forall_mem_cons.mpr ⟨(cl_X5_wideSwap_1 _ (List.mem_of_getElem? (i := 17) rfl)), List.forall_mem_cons.mpr ⟨(cl_X5_wideSwap_1 _ (List.mem_of_getElem? (i := 18) rfl)), List.forall_mem_cons.mpr ⟨(cl_X5_wideSwap_1 _ (List.mem_of_getElem? (i := 19) rfl)), List.forall_mem_cons.mpr ⟨(cl_X5_wideSwap_1 _ (List.mem_of_getElem? (i := 20) rfl)), List.forall_mem_cons.mpr ⟨(cl_X5_wideSwap_1 _ (List.mem_of_getElem? (i := 21) rfl)), List.forall_mem_cons.mpr ⟨(cl_X5_wideSwap_1 _ (List.mem_of_getElem? (i := 22) rfl)), List.forall_mem_cons.mpr ⟨(cl_X5_wideSwap_1 _ (List.mem_of_getElem? (i := 23) rfl)), List.forall_mem_cons.mpr ⟨(cl_X5_wideSwap_2 _ (List.mem_of_getElem? (i := 0) rfl)), List.forall_mem_cons.mpr ⟨(cl_X5_wideSwap_2 _ (List.mem_of_getElem? (i := 1) rfl)), List.forall_mem_cons.mpr ⟨(cl_X5_wideSwap_2 _ (List.mem_of_getElem? (i := 2) rfl)), List.forall_mem_cons.mpr ⟨(cl_X5_wideSwap_2 _ (List.mem_of_getElem? (i := 3) rfl)), List.forall_mem_cons.mpr ⟨(cl_X5_wideSwap_2 _ (List.mem_of_getElem? (i := 4) rfl)), fun _ h => absurd h List.not_mem_nil⟩⟩⟩⟩⟩⟩⟩⟩⟩⟩⟩⟩⟩⟩⟩⟩⟩⟩⟩⟩⟩⟩⟩⟩) w) ((List.forall_mem_cons.mpr ⟨(cl_X5_wideSwap_2 _ (List.mem_of_getElem? (i := 5) rfl)), List.forall_mem_cons.mpr ⟨(cl_X5_wideSwap_2 _ (List.mem_of_getElem? (i := 6) rfl)), fun _ h => absurd h List.not_mem_nil⟩⟩) w)) w) ((cl_X5_wideSwap_3) w)) w) ((cl_X5_wideSwap_4) w)⟩) (by decide +kernel)
set_option maxRecDepth 20000 in
theorem gX5_wideSwap_X5_swap : GoodIn wsX5_wideSwap (wsV RX5 140 RX5 yX5_swap wsX5_swap) := goodIn_app (goodIn_sub (List.forall_mem_cons.mpr ⟨(cl_X5_wideSwap_1 _ (List.mem_of_getElem? (i := 1) rfl)), List.forall_mem_cons.mpr ⟨(cl_X5_wideSwap_1 _ (List.mem_of_getElem? (i := 2) rfl)), List.forall_mem_cons.mpr ⟨(cl_X5_wideSwap_1 _ (List.mem_of_getElem? (i := 3) rfl)), List.forall_mem_cons.mpr ⟨(cl_X5_wideSwap_1 _ (List.mem_of_getElem? (i := 4) rfl)), fun _ h => absurd h List.not_mem_nil⟩⟩⟩⟩) (by decide +kernel)) ggX5_wideSwap_X5_swap
noncomputable def dz_p10_6 : List (Nat × Instr × Nat) := [(0, (.aload_n 0, 1)), (1, (.aload_n 0, 1)), (2, (.getfield 16, 3)), (5, (.iload_n 1, 1)), (6, (.iload_n 2, 1)), (7, (.invokevirtual 140, 3)), (10, (.ireturn, 1))]
theorem dy_p10_6 : dz_ok cX5_wideSwap dz_p10_6 = true := by decide +kernel
theorem dX5_wideSwap_0 : decode cX5_wideSwap 0 = .ok (.aload_n 0, 1) := dz_at (i := 0) dy_p10_6 rfl
theorem dX5_wideSwap_1 : decode cX5_wideSwap 1 = .ok (.aload_n 0, 1) := dz_at (i := 1) dy_p10_6 rfl
theorem dX5_wideSwap_2 : decode cX5_wideSwap 2 = .ok (.getfield 16, 3) := dz_at (i := 2) dy_p10_6 rfl
theorem dX5_wideSwap_5 : decode cX5_wideSwap 5 = .ok (.iload_n 1, 1) := dz_at (i := 3) dy_p10_6 rfl
theorem dX5_wideSwap_6 : decode cX5_wideSwap 6 = .ok (.iload_n 2, 1) := dz_at (i := 4) dy_p10_6 rfl
theorem dX5_wideSwap_7 : decode cX5_wideSwap 7 = .ok (.invokevirtual 140, 3) := dz_at (i := 5) dy_p10_6 rfl
theorem dX5_wideSwap_10 : decode cX5_wideSwap 10 = .ok (.ireturn, 1) := dz_at (i := 6) dy_p10_6 rfl
noncomputable def o_X5_wideSwap (a1 : Int32) (f1 : Nat → Int64) (p0 : Int32) (p1 : Int32) : Int32 × Int32 × (Nat → Int64) × Int32 :=
  ((o_X5_swap a1 f1 p0 p1).1, (o_X5_swap a1 f1 p0 p1).2.1, (o_X5_swap a1 f1 p0 p1).2.2.1, (o_X5_swap a1 f1 p0 p1).2.2.2)
set_option maxHeartbeats 4000000 in
set_option maxRecDepth 100000 in
theorem k_X5_wideSwap (l : Launch) (dC : Nat → ClassId) (dI : Nat → Nat → Nat) (cy : ClassId) (h0 : Nat) (h1 : Nat) (hc1 : Nat) (h2 : Nat) (hc2 : Nat) (a1 : Int32) (f1 : Nat → Int64) (a2 : Int32) (f2 : Nat → Int64) (th : Int32) (rf : Int32) (kn : Int32) (sz : Nat) (N : Nat) (p0 : Int32) (p1 : Int32) : Met l yX5_wideSwap wsX5_wideSwap ({ frames := 4, cells := 0, slots := 0, locals := 86 }) (va_Pc [.ref h0, .int p0, .int p1] (xM (dC, dI) xCl [(h0, eM h1 h2 th rf kn), (h1, eMR true hc1 a1), (hc1, eA cy f1), (h2, eMR false hc2 a2), (hc2, eA cy f2)] [(cy, .long)] sz N)) (va_Qi (fun (r : Int32) (_ : Unit) => r = (o_X5_wideSwap a1 f1 p0 p1).1) (fun _ t => xW (dC, dI) xCl [(h0, eM h1 h2 (o_X5_wideSwap a1 f1 p0 p1).2.2.2 rf kn), (h1, eMR true hc1 (o_X5_wideSwap a1 f1 p0 p1).2.1), (hc1, eA cy (o_X5_wideSwap a1 f1 p0 p1).2.2.1), (h2, eMR false hc2 a2), (hc2, eA cy f2)] (va_A [(h0, eM h1 h2 th rf kn), (h1, eMR true hc1 a1), (hc1, eA cy f1), (h2, eMR false hc2 a2), (hc2, eA cy f2)] sz) t) (va_A [(h0, eM h1 h2 th rf kn), (h1, eMR true hc1 a1), (hc1, eA cy f1), (h2, eMR false hc2 a2), (hc2, eA cy f2)] sz)) 0 0 (va_A [(h0, eM h1 h2 th rf kn), (h1, eMR true hc1 a1), (hc1, eA cy f1), (h2, eMR false hc2 a2), (hc2, eA cy f2)] sz) := by
  refine Met.ofW (cc := cX5_wideSwap) (maxL := 3) (ret := (some .int)) (by decide +kernel) rfl ?_
  intro p e s m args below meth c s₁ B hml hv
  obtain ⟨rfl, hsz, hP, hK, hD0, hN, hG⟩ := hv
  have hx := B.exec
  have hb := B.bytes
  have hr := B.returns
  have hts := atoms_spec (ws := wsX5_wideSwap) B.pre
  have hown : s.vm.findClass RX5 = some m.cls := findClass_of_methodNamed B.named
  have hlocks := B.notSynchronized
  subst hsz
  have hAN : ∀ q, va_A [(h0, eM h1 h2 th rf kn), (h1, eMR true hc1 a1), (hc1, eA cy f1), (h2, eMR false hc2 a2), (hc2, eA cy f2)] s.heap.size q → N ≤ q := xA_N hD0 hN
  have hD := hD0.self (sz := s.heap.size)
  generalize hAe : va_A [(h0, eM h1 h2 th rf kn), (h1, eMR true hc1 a1), (hc1, eA cy f1), (h2, eMR false hc2 a2), (hc2, eA cy f2)] s.heap.size = A at hD hAN ⊢
  have hA : ∀ q : Nat, s.heap.size ≤ q → A q := fun q h => by rw [← hAe]; exact Or.inr h
  have hS : va_S A s.heap s.heap [] := va_S.rf
  have hP : va_P (dC, dI) xCl [(h0, eM h1 h2 th rf kn), (h1, eMR true hc1 a1), (hc1, eA cy f1), (h2, eMR false hc2 a2), (hc2, eA cy f2)] s.heap := hP
  have hl := lv_entry ([.ref h0, .int p0, .int p1]) (n := 3) (Nat.le_of_ble_eq_true rfl)
  rw [lg_entry_eq]
  generalize (lg_sl ([.ref h0, .int p0, .int p1]) ++ List.replicate (3 - (lg_sl ([.ref h0, .int p0, .int p1])).length) Slot.unset).toArray = ls at hl ⊢
  have hl : lv_has ls 3 [(0, .ref h0), (1, .int p0), (2, .int p1)] := hl
  refine lv_aload_n hx hb dX5_wideSwap_0 rfl (lv_at hl 0 rfl) ?_
  refine lv_aload_n hx hb dX5_wideSwap_1 rfl (lv_at hl 0 rfl) ?_
  refine va_get (D := (dC, dI)) (ci := 7) (v := .ref h1) (C := RX5) (T := TX5) (N := 5) hx hb hts (by decide +kernel) hown hK hP 0 rfl rfl 0 (by decide +kernel) (hts (.fieldLink RX5 16 "EdgefloatsModel" "wide" "LEdgefloatsModel$Row;") (by decide +kernel)) (fun _ h9 => h9) rfl dX5_wideSwap_2 ?_
  refine lv_iload_n hx hb dX5_wideSwap_5 rfl (lv_at hl 1 rfl) ?_
  refine lv_iload_n hx hb dX5_wideSwap_6 rfl (lv_at hl 2 rfl) ?_
  have hPc := hP.sub (ws' := [(h0, eM h1 h2 th rf kn), (h1, eMR true hc1 a1), (hc1, eA cy f1)]) [0, 1, 2] rfl
  have hDc := hD.sub (ws' := [(h0, eM h1 h2 th rf kn), (h1, eMR true hc1 a1), (hc1, eA cy f1)]) [0, 1, 2] (by decide +kernel) rfl
  have hKc := hK.sub (tys' := [(cy, .long)]) [0] rfl
  have hFc := va_free (wc := [(h0, eM h1 h2 th rf kn), (h1, eMR true hc1 a1), (hc1, eA cy f1)]) hD hS hA [0, 1, 2] rfl
  refine va_calli (va_runV (As := [.ref h1, .int p0, .int p1]) (rest := []) ⟨hx, hb, hml, hown, hts⟩ (k_X5_swap l dC dI cy h0 h1 h2 h1 hc1 true a1 f1 th rf kn s.heap.size N p0 p1) (cwV 3 hts gX5_wideSwap_X5_swap rfl rfl rfl (by decide +kernel) ⟨Nat.le_of_ble_eq_true rfl, Nat.le_of_ble_eq_true rfl⟩) (xM.preV hKc hPc hDc hAN (Nat.le_trans hN hS.1) (hG.kept hS hAN) (ci := 7) (q0 := 0) rfl rfl) rfl rfl hl.1 rfl (lv_room (Nat.le_of_ble_eq_true rfl)) dX5_wideSwap_7 ⟨Nat.le_of_ble_eq_true rfl, Nat.le_of_ble_eq_true rfl⟩) hS (fun q _ h => hFc q h) hFc (fun r_1 u t H locs ht hvm hw hB hz hk hS => ?_)
  replace hw : r_1 = (o_X5_swap a1 f1 p0 p1).1 := hw
  subst r_1
  obtain ⟨hP1, hD1⟩ := hB
  rw [ht] at hP1
  obtain ⟨hP, hD⟩ := va_join (wr := [(h2, eMR false hc2 a2), (hc2, eA cy f2)]) (w1 := [(h0, eM h1 h2 (o_X5_swap a1 f1 p0 p1).2.2.2 rf kn), (h1, eMR true hc1 (o_X5_swap a1 f1 p0 p1).2.1), (hc1, eA cy (o_X5_swap a1 f1 p0 p1).2.2.1)]) hP hD [0, 1, 2] [3, 4] rfl rfl (by decide +kernel) (by decide +kernel) hk hFc hP1 hD1
  have hP := hP.sub (ws' := [(h0, eM h1 h2 (o_X5_swap a1 f1 p0 p1).2.2.2 rf kn), (h1, eMR true hc1 (o_X5_swap a1 f1 p0 p1).2.1), (hc1, eA cy (o_X5_swap a1 f1 p0 p1).2.2.1), (h2, eMR false hc2 a2), (hc2, eA cy f2)]) [2, 3, 4, 0, 1] rfl
  have hD := hD.sub (ws' := [(h0, eM h1 h2 (o_X5_swap a1 f1 p0 p1).2.2.2 rf kn), (h1, eMR true hc1 (o_X5_swap a1 f1 p0 p1).2.1), (hc1, eA cy (o_X5_swap a1 f1 p0 p1).2.2.1), (h2, eMR false hc2 a2), (hc2, eA cy f2)]) [2, 3, 4, 0, 1] (by decide +kernel) rfl
  have he : o_X5_wideSwap a1 f1 p0 p1 = ((o_X5_swap a1 f1 p0 p1).1, (o_X5_swap a1 f1 p0 p1).2.1, (o_X5_swap a1 f1 p0 p1).2.2.1, (o_X5_swap a1 f1 p0 p1).2.2.2) := by (rw [o_X5_wideSwap]) <;> rfl
  refine W.widen (k := 0) (n := 0) (by omega) (by omega) ?_
  exact W.iret (v := ((o_X5_swap a1 f1 p0 p1).1)) hx hb hr (fun t ht hW => ⟨⟨_, (), rfl, (by (rw [he]) <;> rfl), (by rw [he]; exact ⟨by rw [ht]; exact hP, hD⟩)⟩, hS.F ht⟩) hS.2.2 dX5_wideSwap_10
theorem cl_X5_wideMax_1 : ∀ w ∈ wsX5_wideMax_r1, w ∈ wsX5_wideMax := fun _ h => (List.mem_cons_of_mem _ (List.mem_append_left _ (List.mem_append_left _ (List.mem_append_left _ h))))
theorem cl_X5_wideMax_2 : ∀ w ∈ wsX5_wideMax_r2, w ∈ wsX5_wideMax := fun _ h => (List.mem_cons_of_mem _ (List.mem_append_left _ (List.mem_append_left _ (List.mem_append_right _ (List.mem_append_left _ h)))))
theorem cl_X5_wideMax_3 : ∀ w ∈ wsX5_wideMax_r3, w ∈ wsX5_wideMax := fun _ h => (List.mem_cons_of_mem _ (List.mem_append_left _ (List.mem_append_left _ (List.mem_append_right _ (List.mem_append_right _ h)))))
theorem cl_X5_wideMax_4 : ∀ w ∈ wsX50, w ∈ wsX5_wideMax := fun _ h => (List.mem_cons_of_mem _ (List.mem_append_left _ (List.mem_append_right _ h)))
theorem cl_X5_wideMax_5 : ∀ w ∈ wsX40, w ∈ wsX5_wideMax := fun _ h => (List.mem_cons_of_mem _ (List.mem_append_right _ h))
set_option maxRecDepth 20000 in
theorem ggX5_wideMax_X5_choose : GoodIn wsX5_wideMax wsX5_choose := goodIn_sub (List.forall_mem_cons.mpr ⟨(cl_X5_wideMax_1 _ (List.mem_of_getElem? (i := 5) rfl)), fun w h => (List.mem_append.mp h).elim ((fun w h => (List.mem_append.mp h).elim ((fun w h => (List.mem_append.mp h).elim ((List.forall_mem_cons.mpr ⟨(cl_X5_wideMax_1 _ (List.mem_of_getElem? (i := 6) rfl)), List.forall_mem_cons.mpr ⟨(cl_X5_wideMax_1 _ (List.mem_of_getElem? (i := 7) rfl)), List.forall_mem_cons.mpr ⟨(cl_X5_wideMax_1 _ (List.mem_of_getElem? (i := 8) rfl)), List.forall_mem_cons.mpr ⟨(cl_X5_wideMax_1 _ (List.mem_of_getElem? (i := 4) rfl)), List.forall_mem_cons.mpr ⟨(cl_X5_wideMax_1 _ (List.mem_of_getElem? (i := 9) rfl)), List.forall_mem_cons.mpr ⟨(cl_X5_wideMax_1 _ (List.mem_of_getElem? (i := 10) rfl)), List.forall_mem_cons.mpr ⟨(cl_X5_wideMax_1 _ (List.mem_of_getElem? (i := 11) rfl)), List.forall_mem_cons.mpr ⟨(cl_X5_wideMax_1 _ (List.mem_of_getElem? (i := 12) rfl)), List.forall_mem_cons.mpr ⟨(cl_X5_wideMax_1 _ (List.mem_of_getElem? (i := 13) rfl)), List.forall_mem_cons.mpr ⟨(cl_X5_wideMax_1 _ (List.mem_of_getElem? (i := 14) rfl)), List.forall_mem_cons.mpr ⟨(cl_X5_wideMax_1 _ (List.mem_of_getElem? (i := 15) rfl)), List.forall_mem_cons.mpr ⟨(cl_X5_wideMax_1 _ (List.mem_of_getElem? (i := 16) rfl)), List.forall_mem_cons.mpr ⟨(cl_X5_wideMax_1 _ (List.mem_of_getElem? (i := 17) rfl)), List.forall_mem_cons.mpr ⟨(cl_X5_wideMax_1 _ (List.mem_of_getElem? (i := 18) rfl)), List.forall_mem_cons.mpr ⟨(cl_X5_wideMax_1 _ (List.mem_of_getElem? (i := 19) rfl)), List.forall_mem_cons.mpr ⟨(cl_X5_wideMax_1 _ (List.mem_of_getElem? (i := 20) rfl)), List.forall_mem_cons.mpr ⟨(cl_X5_wideMax_1 _ (List.mem_of_getElem? (i := 21) rfl)), List.forall_mem_cons.mpr ⟨(cl_X5_wideMax_1 _ (List.mem_of_getElem? (i := 22) rfl)), List.forall_mem_cons.mpr ⟨(cl_X5_wideMax_1 _ (List.mem_of_getElem? (i := 23) rfl)), List.forall_mem_cons.mpr ⟨(cl_X5_wideMax_2 _ (List.mem_of_getElem? (i := 0) rfl)), List.forall_mem_cons.mpr ⟨(cl_X5_wideMax_2 _ (List.mem_of_getElem? (i := 1) rfl)), List.forall_mem_cons.mpr ⟨(cl_X5_wideMax_2 _ (List.mem_of_getElem? (i := 2) rfl)), List.forall_mem_cons.mpr ⟨(cl_X5_wideMax_2 _ (List.mem_of_getElem? (i := 3) rfl)), List.forall_mem_cons.mpr ⟨(cl_X5_wideMax_2 _ (List.mem_of_getElem? (i := 4) rfl)), fun _ h => absurd h List.not_mem_nil⟩⟩⟩⟩⟩⟩⟩⟩⟩⟩⟩⟩⟩⟩⟩⟩⟩⟩⟩⟩⟩⟩⟩⟩) w) ((List.forall_mem_cons.mpr ⟨(cl_X5_wideMax_2 _ (List.mem_of_getElem? (i := 5) rfl)), List.forall_mem_cons.mpr ⟨(cl_X5_wideMax_2 _ (List.mem_of_getElem? (i := 6) rfl)), List.forall_mem_cons.mpr ⟨(cl_X5_wideMax_2 _ (List.mem_of_getElem? (i := 7) rfl)), List.forall_mem_cons.mpr ⟨(cl_X5_wideMax_2 _ (List.mem_of_getElem? (i := 8) rfl)), List.forall_mem_cons.mpr ⟨(cl_X5_wideMax_2 _ (List.mem_of_getElem? (i := 9) rfl)), List.forall_mem_cons.mpr ⟨(cl_X5_wideMax_2 _ (List.mem_of_getElem? (i := 10) rfl)), List.forall_mem_cons.mpr ⟨(cl_X5_wideMax_2 _ (List.mem_of_getElem? (i := 11) rfl)), List.forall_mem_cons.mpr ⟨(cl_X5_wideMax_2 _ (List.mem_of_getElem? (i := 12) rfl)), List.forall_mem_cons.mpr ⟨(cl_X5_wideMax_2 _ (List.mem_of_getElem? (i := 13) rfl)), List.forall_mem_cons.mpr ⟨(cl_X5_wideMax_2 _ (List.mem_of_getElem? (i := 14) rfl)), List.forall_mem_cons.mpr ⟨(cl_X5_wideMax_2 _ (List.mem_of_getElem? (i := 15) rfl)), List.forall_mem_cons.mpr ⟨(cl_X5_wideMax_2 _ (List.mem_of_getElem? (i := 16) rfl)), List.forall_mem_cons.mpr ⟨(cl_X5_wideMax_2 _ (List.mem_of_getElem? (i := 17) rfl)), List.forall_mem_cons.mpr ⟨(cl_X5_wideMax_2 _ (List.mem_of_getElem? (i := 18) rfl)), List.forall_mem_cons.mpr ⟨(cl_X5_wideMax_2 _ (List.mem_of_getElem? (i := 19) rfl)), List.forall_mem_cons.mpr ⟨(cl_X5_wideMax_2 _ (List.mem_of_getElem? (i := 20) rfl)), List.forall_mem_cons.mpr ⟨(cl_X5_wideMax_2 _ (List.mem_of_getElem? (i := 21) rfl)), List.forall_mem_cons.mpr ⟨(cl_X5_wideMax_2 _ (List.mem_of_getElem? (i := 22) rfl)), List.forall_mem_cons.mpr ⟨(cl_X5_wideMax_2 _ (List.mem_of_getElem? (i := 23) rfl)), List.forall_mem_cons.mpr ⟨(cl_X5_wideMax_3 _ (List.mem_of_getElem? (i := 0) rfl)), List.forall_mem_cons.mpr ⟨(cl_X5_wideMax_3 _ (List.mem_of_getElem? (i := 1) rfl)), List.forall_mem_cons.mpr ⟨(cl_X5_wideMax_3 _ (List.mem_of_getElem? (i := 2) rfl)), fun _ h => absurd h List.not_mem_nil⟩⟩⟩⟩⟩⟩⟩⟩⟩⟩⟩⟩⟩⟩⟩⟩⟩⟩⟩⟩⟩⟩) w)) w) ((cl_X5_wideMax_5) w)) w) ((cl_X5_wideMax_4) w)⟩) (by decide +kernel)
set_option maxRecDepth 20000 in
theorem gX5_wideMax_X5_choose : GoodIn wsX5_wideMax (wsV RX5 142 RX5 yX5_choose wsX5_choose) := goodIn_app (goodIn_sub (List.forall_mem_cons.mpr ⟨(cl_X5_wideMax_1 _ (List.mem_of_getElem? (i := 1) rfl)), List.forall_mem_cons.mpr ⟨(cl_X5_wideMax_1 _ (List.mem_of_getElem? (i := 2) rfl)), List.forall_mem_cons.mpr ⟨(cl_X5_wideMax_1 _ (List.mem_of_getElem? (i := 3) rfl)), List.forall_mem_cons.mpr ⟨(cl_X5_wideMax_1 _ (List.mem_of_getElem? (i := 4) rfl)), fun _ h => absurd h List.not_mem_nil⟩⟩⟩⟩) (by decide +kernel)) ggX5_wideMax_X5_choose
noncomputable def dz_p10_7 : List (Nat × Instr × Nat) := [(0, (.aload_n 0, 1)), (1, (.aload_n 0, 1)), (2, (.getfield 16, 3)), (5, (.iload_n 1, 1)), (6, (.iload_n 2, 1)), (7, (.iload_n 3, 1)), (8, (.iconst 1, 1)), (9, (.invokevirtual 142, 3)), (12, (.ireturn, 1))]
theorem dy_p10_7 : dz_ok cX5_wideMax dz_p10_7 = true := by decide +kernel
theorem dX5_wideMax_0 : decode cX5_wideMax 0 = .ok (.aload_n 0, 1) := dz_at (i := 0) dy_p10_7 rfl
theorem dX5_wideMax_1 : decode cX5_wideMax 1 = .ok (.aload_n 0, 1) := dz_at (i := 1) dy_p10_7 rfl
theorem dX5_wideMax_2 : decode cX5_wideMax 2 = .ok (.getfield 16, 3) := dz_at (i := 2) dy_p10_7 rfl
theorem dX5_wideMax_5 : decode cX5_wideMax 5 = .ok (.iload_n 1, 1) := dz_at (i := 3) dy_p10_7 rfl
theorem dX5_wideMax_6 : decode cX5_wideMax 6 = .ok (.iload_n 2, 1) := dz_at (i := 4) dy_p10_7 rfl
theorem dX5_wideMax_7 : decode cX5_wideMax 7 = .ok (.iload_n 3, 1) := dz_at (i := 5) dy_p10_7 rfl
theorem dX5_wideMax_8 : decode cX5_wideMax 8 = .ok (.iconst 1, 1) := dz_at (i := 6) dy_p10_7 rfl
theorem dX5_wideMax_9 : decode cX5_wideMax 9 = .ok (.invokevirtual 142, 3) := dz_at (i := 7) dy_p10_7 rfl
theorem dX5_wideMax_12 : decode cX5_wideMax 12 = .ok (.ireturn, 1) := dz_at (i := 8) dy_p10_7 rfl
noncomputable def o_X5_wideMax (a1 : Int32) (f1 : Nat → Int64) (p0 : Int32) (p1 : Int32) (p2 : Int32) : Int32 × Int32 × (Nat → Int64) × Int32 :=
  ((o_X5_choose true a1 f1 p0 p1 p2 1).1, (o_X5_choose true a1 f1 p0 p1 p2 1).2.1, (o_X5_choose true a1 f1 p0 p1 p2 1).2.2.1, (o_X5_choose true a1 f1 p0 p1 p2 1).2.2.2)
set_option maxHeartbeats 4000000 in
set_option maxRecDepth 100000 in
theorem k_X5_wideMax (l : Launch) (dC : Nat → ClassId) (dI : Nat → Nat → Nat) (cy : ClassId) (h0 : Nat) (h1 : Nat) (hc1 : Nat) (h2 : Nat) (hc2 : Nat) (a1 : Int32) (f1 : Nat → Int64) (a2 : Int32) (f2 : Nat → Int64) (th : Int32) (rf : Int32) (kn : Int32) (sz : Nat) (N : Nat) (p0 : Int32) (p1 : Int32) (p2 : Int32) : Met l yX5_wideMax wsX5_wideMax ({ frames := 5, cells := 0, slots := 0, locals := 114 }) (va_Pc [.ref h0, .int p0, .int p1, .int p2] (xM (dC, dI) xCl [(h0, eM h1 h2 th rf kn), (h1, eMR true hc1 a1), (hc1, eA cy f1), (h2, eMR false hc2 a2), (hc2, eA cy f2)] [(cy, .long)] sz N)) (va_Qi (fun (r : Int32) (_ : Unit) => r = (o_X5_wideMax a1 f1 p0 p1 p2).1) (fun _ t => xW (dC, dI) xCl [(h0, eM h1 h2 (o_X5_wideMax a1 f1 p0 p1 p2).2.2.2 rf kn), (h1, eMR true hc1 (o_X5_wideMax a1 f1 p0 p1 p2).2.1), (hc1, eA cy (o_X5_wideMax a1 f1 p0 p1 p2).2.2.1), (h2, eMR false hc2 a2), (hc2, eA cy f2)] (va_A [(h0, eM h1 h2 th rf kn), (h1, eMR true hc1 a1), (hc1, eA cy f1), (h2, eMR false hc2 a2), (hc2, eA cy f2)] sz) t) (va_A [(h0, eM h1 h2 th rf kn), (h1, eMR true hc1 a1), (hc1, eA cy f1), (h2, eMR false hc2 a2), (hc2, eA cy f2)] sz)) 0 0 (va_A [(h0, eM h1 h2 th rf kn), (h1, eMR true hc1 a1), (hc1, eA cy f1), (h2, eMR false hc2 a2), (hc2, eA cy f2)] sz) := by
  refine Met.ofW (cc := cX5_wideMax) (maxL := 4) (ret := (some .int)) (by decide +kernel) rfl ?_
  intro p e s m args below meth c s₁ B hml hv
  obtain ⟨rfl, hsz, hP, hK, hD0, hN, hG⟩ := hv
  have hx := B.exec
  have hb := B.bytes
  have hr := B.returns
  have hts := atoms_spec (ws := wsX5_wideMax) B.pre
  have hown : s.vm.findClass RX5 = some m.cls := findClass_of_methodNamed B.named
  have hlocks := B.notSynchronized
  subst hsz
  have hAN : ∀ q, va_A [(h0, eM h1 h2 th rf kn), (h1, eMR true hc1 a1), (hc1, eA cy f1), (h2, eMR false hc2 a2), (hc2, eA cy f2)] s.heap.size q → N ≤ q := xA_N hD0 hN
  have hD := hD0.self (sz := s.heap.size)
  generalize hAe : va_A [(h0, eM h1 h2 th rf kn), (h1, eMR true hc1 a1), (hc1, eA cy f1), (h2, eMR false hc2 a2), (hc2, eA cy f2)] s.heap.size = A at hD hAN ⊢
  have hA : ∀ q : Nat, s.heap.size ≤ q → A q := fun q h => by rw [← hAe]; exact Or.inr h
  have hS : va_S A s.heap s.heap [] := va_S.rf
  have hP : va_P (dC, dI) xCl [(h0, eM h1 h2 th rf kn), (h1, eMR true hc1 a1), (hc1, eA cy f1), (h2, eMR false hc2 a2), (hc2, eA cy f2)] s.heap := hP
  have hl := lv_entry ([.ref h0, .int p0, .int p1, .int p2]) (n := 4) (Nat.le_of_ble_eq_true rfl)
  rw [lg_entry_eq]
  generalize (lg_sl ([.ref h0, .int p0, .int p1, .int p2]) ++ List.replicate (4 - (lg_sl ([.ref h0, .int p0, .int p1, .int p2])).length) Slot.unset).toArray = ls at hl ⊢
  have hl : lv_has ls 4 [(0, .ref h0), (1, .int p0), (2, .int p1), (3, .int p2)] := hl
  refine lv_aload_n hx hb dX5_wideMax_0 rfl (lv_at hl 0 rfl) ?_
  refine lv_aload_n hx hb dX5_wideMax_1 rfl (lv_at hl 0 rfl) ?_
  refine va_get (D := (dC, dI)) (ci := 7) (v := .ref h1) (C := RX5) (T := TX5) (N := 5) hx hb hts (by decide +kernel) hown hK hP 0 rfl rfl 0 (by decide +kernel) (hts (.fieldLink RX5 16 "EdgefloatsModel" "wide" "LEdgefloatsModel$Row;") (by decide +kernel)) (fun _ h9 => h9) rfl dX5_wideMax_2 ?_
  refine lv_iload_n hx hb dX5_wideMax_5 rfl (lv_at hl 1 rfl) ?_
  refine lv_iload_n hx hb dX5_wideMax_6 rfl (lv_at hl 2 rfl) ?_
  refine lv_iload_n hx hb dX5_wideMax_7 rfl (lv_at hl 3 rfl) ?_
  refine lv_iconst (v := 1) hx hb dX5_wideMax_8 (by decide +kernel) ?_
  have hPc := hP.sub (ws' := [(h0, eM h1 h2 th rf kn), (h1, eMR true hc1 a1), (hc1, eA cy f1)]) [0, 1, 2] rfl
  have hDc := hD.sub (ws' := [(h0, eM h1 h2 th rf kn), (h1, eMR true hc1 a1), (hc1, eA cy f1)]) [0, 1, 2] (by decide +kernel) rfl
  have hKc := hK.sub (tys' := [(cy, .long)]) [0] rfl
  have hFc := va_free (wc := [(h0, eM h1 h2 th rf kn), (h1, eMR true hc1 a1), (hc1, eA cy f1)]) hD hS hA [0, 1, 2] rfl
  refine va_calli (va_runV (As := [.ref h1, .int p0, .int p1, .int p2, .int 1]) (rest := []) ⟨hx, hb, hml, hown, hts⟩ (k_X5_choose l dC dI cy h0 h1 h2 h1 hc1 true a1 f1 th rf kn s.heap.size N p0 p1 p2 1) (cwV 5 hts gX5_wideMax_X5_choose rfl rfl rfl (by decide +kernel) ⟨Nat.le_of_ble_eq_true rfl, Nat.le_of_ble_eq_true rfl⟩) (xM.preV hKc hPc hDc hAN (Nat.le_trans hN hS.1) (hG.kept hS hAN) (ci := 7) (q0 := 0) rfl rfl) rfl rfl hl.1 rfl (lv_room (Nat.le_of_ble_eq_true rfl)) dX5_wideMax_9 ⟨Nat.le_of_ble_eq_true rfl, Nat.le_of_ble_eq_true rfl⟩) hS (fun q _ h => hFc q h) hFc (fun r_1 u t H locs ht hvm hw hB hz hk hS => ?_)
  replace hw : r_1 = (o_X5_choose true a1 f1 p0 p1 p2 1).1 := hw
  subst r_1
  obtain ⟨hP1, hD1⟩ := hB
  rw [ht] at hP1
  obtain ⟨hP, hD⟩ := va_join (wr := [(h2, eMR false hc2 a2), (hc2, eA cy f2)]) (w1 := [(h0, eM h1 h2 (o_X5_choose true a1 f1 p0 p1 p2 1).2.2.2 rf kn), (h1, eMR true hc1 (o_X5_choose true a1 f1 p0 p1 p2 1).2.1), (hc1, eA cy (o_X5_choose true a1 f1 p0 p1 p2 1).2.2.1)]) hP hD [0, 1, 2] [3, 4] rfl rfl (by decide +kernel) (by decide +kernel) hk hFc hP1 hD1
  have hP := hP.sub (ws' := [(h0, eM h1 h2 (o_X5_choose true a1 f1 p0 p1 p2 1).2.2.2 rf kn), (h1, eMR true hc1 (o_X5_choose true a1 f1 p0 p1 p2 1).2.1), (hc1, eA cy (o_X5_choose true a1 f1 p0 p1 p2 1).2.2.1), (h2, eMR false hc2 a2), (hc2, eA cy f2)]) [2, 3, 4, 0, 1] rfl
  have hD := hD.sub (ws' := [(h0, eM h1 h2 (o_X5_choose true a1 f1 p0 p1 p2 1).2.2.2 rf kn), (h1, eMR true hc1 (o_X5_choose true a1 f1 p0 p1 p2 1).2.1), (hc1, eA cy (o_X5_choose true a1 f1 p0 p1 p2 1).2.2.1), (h2, eMR false hc2 a2), (hc2, eA cy f2)]) [2, 3, 4, 0, 1] (by decide +kernel) rfl
  have he : o_X5_wideMax a1 f1 p0 p1 p2 = ((o_X5_choose true a1 f1 p0 p1 p2 1).1, (o_X5_choose true a1 f1 p0 p1 p2 1).2.1, (o_X5_choose true a1 f1 p0 p1 p2 1).2.2.1, (o_X5_choose true a1 f1 p0 p1 p2 1).2.2.2) := by (rw [o_X5_wideMax]) <;> rfl
  refine W.widen (k := 0) (n := 0) (by omega) (by omega) ?_
  exact W.iret (v := ((o_X5_choose true a1 f1 p0 p1 p2 1).1)) hx hb hr (fun t ht hW => ⟨⟨_, (), rfl, (by (rw [he]) <;> rfl), (by rw [he]; exact ⟨by rw [ht]; exact hP, hD⟩)⟩, hS.F ht⟩) hS.2.2 dX5_wideMax_12
theorem cl_X5_wideMin_1 : ∀ w ∈ wsX5_wideMin_r1, w ∈ wsX5_wideMin := fun _ h => (List.mem_cons_of_mem _ (List.mem_append_left _ (List.mem_append_left _ (List.mem_append_left _ h))))
theorem cl_X5_wideMin_2 : ∀ w ∈ wsX5_wideMin_r2, w ∈ wsX5_wideMin := fun _ h => (List.mem_cons_of_mem _ (List.mem_append_left _ (List.mem_append_left _ (List.mem_append_right _ (List.mem_append_left _ h)))))
theorem cl_X5_wideMin_3 : ∀ w ∈ wsX5_wideMin_r3, w ∈ wsX5_wideMin := fun _ h => (List.mem_cons_of_mem _ (List.mem_append_left _ (List.mem_append_left _ (List.mem_append_right _ (List.mem_append_right _ h)))))
theorem cl_X5_wideMin_4 : ∀ w ∈ wsX50, w ∈ wsX5_wideMin := fun _ h => (List.mem_cons_of_mem _ (List.mem_append_left _ (List.mem_append_right _ h)))
theorem cl_X5_wideMin_5 : ∀ w ∈ wsX40, w ∈ wsX5_wideMin := fun _ h => (List.mem_cons_of_mem _ (List.mem_append_right _ h))
set_option maxRecDepth 20000 in
theorem ggX5_wideMin_X5_choose : GoodIn wsX5_wideMin wsX5_choose := goodIn_sub (List.forall_mem_cons.mpr ⟨(cl_X5_wideMin_1 _ (List.mem_of_getElem? (i := 5) rfl)), fun w h => (List.mem_append.mp h).elim ((fun w h => (List.mem_append.mp h).elim ((fun w h => (List.mem_append.mp h).elim ((List.forall_mem_cons.mpr ⟨(cl_X5_wideMin_1 _ (List.mem_of_getElem? (i := 6) rfl)), List.forall_mem_cons.mpr ⟨(cl_X5_wideMin_1 _ (List.mem_of_getElem? (i := 7) rfl)), List.forall_mem_cons.mpr ⟨(cl_X5_wideMin_1 _ (List.mem_of_getElem? (i := 8) rfl)), List.forall_mem_cons.mpr ⟨(cl_X5_wideMin_1 _ (List.mem_of_getElem? (i := 4) rfl)), List.forall_mem_cons.mpr ⟨(cl_X5_wideMin_1 _ (List.mem_of_getElem? (i := 9) rfl)), List.forall_mem_cons.mpr ⟨(cl_X5_wideMin_1 _ (List.mem_of_getElem? (i := 10) rfl)), List.forall_mem_cons.mpr ⟨(cl_X5_wideMin_1 _ (List.mem_of_getElem? (i := 11) rfl)), List.forall_mem_cons.mpr ⟨(cl_X5_wideMin_1 _ (List.mem_of_getElem? (i := 12) rfl)), List.forall_mem_cons.mpr ⟨(cl_X5_wideMin_1 _ (List.mem_of_getElem? (i := 13) rfl)), List.forall_mem_cons.mpr ⟨(cl_X5_wideMin_1 _ (List.mem_of_getElem? (i := 14) rfl)), List.forall_mem_cons.mpr ⟨(cl_X5_wideMin_1 _ (List.mem_of_getElem? (i := 15) rfl)), List.forall_mem_cons.mpr ⟨(cl_X5_wideMin_1 _ (List.mem_of_getElem? (i := 16) rfl)), List.forall_mem_cons.mpr ⟨(cl_X5_wideMin_1 _ (List.mem_of_getElem? (i := 17) rfl)), List.forall_mem_cons.mpr ⟨(cl_X5_wideMin_1 _ (List.mem_of_getElem? (i := 18) rfl)), List.forall_mem_cons.mpr ⟨(cl_X5_wideMin_1 _ (List.mem_of_getElem? (i := 19) rfl)), List.forall_mem_cons.mpr ⟨(cl_X5_wideMin_1 _ (List.mem_of_getElem? (i := 20) rfl)), List.forall_mem_cons.mpr ⟨(cl_X5_wideMin_1 _ (List.mem_of_getElem? (i := 21) rfl)), List.forall_mem_cons.mpr ⟨(cl_X5_wideMin_1 _ (List.mem_of_getElem? (i := 22) rfl)), List.forall_mem_cons.mpr ⟨(cl_X5_wideMin_1 _ (List.mem_of_getElem? (i := 23) rfl)), List.forall_mem_cons.mpr ⟨(cl_X5_wideMin_2 _ (List.mem_of_getElem? (i := 0) rfl)), List.forall_mem_cons.mpr ⟨(cl_X5_wideMin_2 _ (List.mem_of_getElem? (i := 1) rfl)), List.forall_mem_cons.mpr ⟨(cl_X5_wideMin_2 _ (List.mem_of_getElem? (i := 2) rfl)), List.forall_mem_cons.mpr ⟨(cl_X5_wideMin_2 _ (List.mem_of_getElem? (i := 3) rfl)), List.forall_mem_cons.mpr ⟨(cl_X5_wideMin_2 _ (List.mem_of_getElem? (i := 4) rfl)), fun _ h => absurd h List.not_mem_nil⟩⟩⟩⟩⟩⟩⟩⟩⟩⟩⟩⟩⟩⟩⟩⟩⟩⟩⟩⟩⟩⟩⟩⟩) w) ((List.forall_mem_cons.mpr ⟨(cl_X5_wideMin_2 _ (List.mem_of_getElem? (i := 5) rfl)), List.forall_mem_cons.mpr ⟨(cl_X5_wideMin_2 _ (List.mem_of_getElem? (i := 6) rfl)), List.forall_mem_cons.mpr ⟨(cl_X5_wideMin_2 _ (List.mem_of_getElem? (i := 7) rfl)), List.forall_mem_cons.mpr ⟨(cl_X5_wideMin_2 _ (List.mem_of_getElem? (i := 8) rfl)), List.forall_mem_cons.mpr ⟨(cl_X5_wideMin_2 _ (List.mem_of_getElem? (i := 9) rfl)), List.forall_mem_cons.mpr ⟨(cl_X5_wideMin_2 _ (List.mem_of_getElem? (i := 10) rfl)), List.forall_mem_cons.mpr ⟨(cl_X5_wideMin_2 _ (List.mem_of_getElem? (i := 11) rfl)), List.forall_mem_cons.mpr ⟨(cl_X5_wideMin_2 _ (List.mem_of_getElem? (i := 12) rfl)), List.forall_mem_cons.mpr ⟨(cl_X5_wideMin_2 _ (List.mem_of_getElem? (i := 13) rfl)), List.forall_mem_cons.mpr ⟨(cl_X5_wideMin_2 _ (List.mem_of_getElem? (i := 14) rfl)), List.forall_mem_cons.mpr ⟨(cl_X5_wideMin_2 _ (List.mem_of_getElem? (i := 15) rfl)), List.forall_mem_cons.mpr ⟨(cl_X5_wideMin_2 _ (List.mem_of_getElem? (i := 16) rfl)), List.forall_mem_cons.mpr ⟨(cl_X5_wideMin_2 _ (List.mem_of_getElem? (i := 17) rfl)), List.forall_mem_cons.mpr ⟨(cl_X5_wideMin_2 _ (List.mem_of_getElem? (i := 18) rfl)), List.forall_mem_cons.mpr ⟨(cl_X5_wideMin_2 _ (List.mem_of_getElem? (i := 19) rfl)), List.forall_mem_cons.mpr ⟨(cl_X5_wideMin_2 _ (List.mem_of_getElem? (i := 20) rfl)), List.forall_mem_cons.mpr ⟨(cl_X5_wideMin_2 _ (List.mem_of_getElem? (i := 21) rfl)), List.forall_mem_cons.mpr ⟨(cl_X5_wideMin_2 _ (List.mem_of_getElem? (i := 22) rfl)), List.forall_mem_cons.mpr ⟨(cl_X5_wideMin_2 _ (List.mem_of_getElem? (i := 23) rfl)), List.forall_mem_cons.mpr ⟨(cl_X5_wideMin_3 _ (List.mem_of_getElem? (i := 0) rfl)), List.forall_mem_cons.mpr ⟨(cl_X5_wideMin_3 _ (List.mem_of_getElem? (i := 1) rfl)), List.forall_mem_cons.mpr ⟨(cl_X5_wideMin_3 _ (List.mem_of_getElem? (i := 2) rfl)), fun _ h => absurd h List.not_mem_nil⟩⟩⟩⟩⟩⟩⟩⟩⟩⟩⟩⟩⟩⟩⟩⟩⟩⟩⟩⟩⟩⟩) w)) w) ((cl_X5_wideMin_5) w)) w) ((cl_X5_wideMin_4) w)⟩) (by decide +kernel)
set_option maxRecDepth 20000 in
theorem gX5_wideMin_X5_choose : GoodIn wsX5_wideMin (wsV RX5 142 RX5 yX5_choose wsX5_choose) := goodIn_app (goodIn_sub (List.forall_mem_cons.mpr ⟨(cl_X5_wideMin_1 _ (List.mem_of_getElem? (i := 1) rfl)), List.forall_mem_cons.mpr ⟨(cl_X5_wideMin_1 _ (List.mem_of_getElem? (i := 2) rfl)), List.forall_mem_cons.mpr ⟨(cl_X5_wideMin_1 _ (List.mem_of_getElem? (i := 3) rfl)), List.forall_mem_cons.mpr ⟨(cl_X5_wideMin_1 _ (List.mem_of_getElem? (i := 4) rfl)), fun _ h => absurd h List.not_mem_nil⟩⟩⟩⟩) (by decide +kernel)) ggX5_wideMin_X5_choose
noncomputable def dz_p10_8 : List (Nat × Instr × Nat) := [(0, (.aload_n 0, 1)), (1, (.aload_n 0, 1)), (2, (.getfield 16, 3)), (5, (.iload_n 1, 1)), (6, (.iload_n 2, 1)), (7, (.iload_n 3, 1)), (8, (.iconst (-1), 1)), (9, (.invokevirtual 142, 3)), (12, (.ireturn, 1))]
theorem dy_p10_8 : dz_ok cX5_wideMin dz_p10_8 = true := by decide +kernel
theorem dX5_wideMin_0 : decode cX5_wideMin 0 = .ok (.aload_n 0, 1) := dz_at (i := 0) dy_p10_8 rfl
theorem dX5_wideMin_1 : decode cX5_wideMin 1 = .ok (.aload_n 0, 1) := dz_at (i := 1) dy_p10_8 rfl
theorem dX5_wideMin_2 : decode cX5_wideMin 2 = .ok (.getfield 16, 3) := dz_at (i := 2) dy_p10_8 rfl
theorem dX5_wideMin_5 : decode cX5_wideMin 5 = .ok (.iload_n 1, 1) := dz_at (i := 3) dy_p10_8 rfl
theorem dX5_wideMin_6 : decode cX5_wideMin 6 = .ok (.iload_n 2, 1) := dz_at (i := 4) dy_p10_8 rfl
theorem dX5_wideMin_7 : decode cX5_wideMin 7 = .ok (.iload_n 3, 1) := dz_at (i := 5) dy_p10_8 rfl
theorem dX5_wideMin_8 : decode cX5_wideMin 8 = .ok (.iconst (-1), 1) := dz_at (i := 6) dy_p10_8 rfl
theorem dX5_wideMin_9 : decode cX5_wideMin 9 = .ok (.invokevirtual 142, 3) := dz_at (i := 7) dy_p10_8 rfl
theorem dX5_wideMin_12 : decode cX5_wideMin 12 = .ok (.ireturn, 1) := dz_at (i := 8) dy_p10_8 rfl
noncomputable def o_X5_wideMin (a1 : Int32) (f1 : Nat → Int64) (p0 : Int32) (p1 : Int32) (p2 : Int32) : Int32 × Int32 × (Nat → Int64) × Int32 :=
  ((o_X5_choose true a1 f1 p0 p1 p2 (-1)).1, (o_X5_choose true a1 f1 p0 p1 p2 (-1)).2.1, (o_X5_choose true a1 f1 p0 p1 p2 (-1)).2.2.1, (o_X5_choose true a1 f1 p0 p1 p2 (-1)).2.2.2)
set_option maxHeartbeats 4000000 in
set_option maxRecDepth 100000 in
theorem k_X5_wideMin (l : Launch) (dC : Nat → ClassId) (dI : Nat → Nat → Nat) (cy : ClassId) (h0 : Nat) (h1 : Nat) (hc1 : Nat) (h2 : Nat) (hc2 : Nat) (a1 : Int32) (f1 : Nat → Int64) (a2 : Int32) (f2 : Nat → Int64) (th : Int32) (rf : Int32) (kn : Int32) (sz : Nat) (N : Nat) (p0 : Int32) (p1 : Int32) (p2 : Int32) : Met l yX5_wideMin wsX5_wideMin ({ frames := 5, cells := 0, slots := 0, locals := 114 }) (va_Pc [.ref h0, .int p0, .int p1, .int p2] (xM (dC, dI) xCl [(h0, eM h1 h2 th rf kn), (h1, eMR true hc1 a1), (hc1, eA cy f1), (h2, eMR false hc2 a2), (hc2, eA cy f2)] [(cy, .long)] sz N)) (va_Qi (fun (r : Int32) (_ : Unit) => r = (o_X5_wideMin a1 f1 p0 p1 p2).1) (fun _ t => xW (dC, dI) xCl [(h0, eM h1 h2 (o_X5_wideMin a1 f1 p0 p1 p2).2.2.2 rf kn), (h1, eMR true hc1 (o_X5_wideMin a1 f1 p0 p1 p2).2.1), (hc1, eA cy (o_X5_wideMin a1 f1 p0 p1 p2).2.2.1), (h2, eMR false hc2 a2), (hc2, eA cy f2)] (va_A [(h0, eM h1 h2 th rf kn), (h1, eMR true hc1 a1), (hc1, eA cy f1), (h2, eMR false hc2 a2), (hc2, eA cy f2)] sz) t) (va_A [(h0, eM h1 h2 th rf kn), (h1, eMR true hc1 a1), (hc1, eA cy f1), (h2, eMR false hc2 a2), (hc2, eA cy f2)] sz)) 0 0 (va_A [(h0, eM h1 h2 th rf kn), (h1, eMR true hc1 a1), (hc1, eA cy f1), (h2, eMR false hc2 a2), (hc2, eA cy f2)] sz) := by
  refine Met.ofW (cc := cX5_wideMin) (maxL := 4) (ret := (some .int)) (by decide +kernel) rfl ?_
  intro p e s m args below meth c s₁ B hml hv
  obtain ⟨rfl, hsz, hP, hK, hD0, hN, hG⟩ := hv
  have hx := B.exec
  have hb := B.bytes
  have hr := B.returns
  have hts := atoms_spec (ws := wsX5_wideMin) B.pre
  have hown : s.vm.findClass RX5 = some m.cls := findClass_of_methodNamed B.named
  have hlocks := B.notSynchronized
  subst hsz
  have hAN : ∀ q, va_A [(h0, eM h1 h2 th rf kn), (h1, eMR true hc1 a1), (hc1, eA cy f1), (h2, eMR false hc2 a2), (hc2, eA cy f2)] s.heap.size q → N ≤ q := xA_N hD0 hN
  have hD := hD0.self (sz := s.heap.size)
  generalize hAe : va_A [(h0, eM h1 h2 th rf kn), (h1, eMR true hc1 a1), (hc1, eA cy f1), (h2, eMR false hc2 a2), (hc2, eA cy f2)] s.heap.size = A at hD hAN ⊢
  have hA : ∀ q : Nat, s.heap.size ≤ q → A q := fun q h => by rw [← hAe]; exact Or.inr h
  have hS : va_S A s.heap s.heap [] := va_S.rf
  have hP : va_P (dC, dI) xCl [(h0, eM h1 h2 th rf kn), (h1, eMR true hc1 a1), (hc1, eA cy f1), (h2, eMR false hc2 a2), (hc2, eA cy f2)] s.heap := hP
  have hl := lv_entry ([.ref h0, .int p0, .int p1, .int p2]) (n := 4) (Nat.le_of_ble_eq_true rfl)
  rw [lg_entry_eq]
  generalize (lg_sl ([.ref h0, .int p0, .int p1, .int p2]) ++ List.replicate (4 - (lg_sl ([.ref h0, .int p0, .int p1, .int p2])).length) Slot.unset).toArray = ls at hl ⊢
  have hl : lv_has ls 4 [(0, .ref h0), (1, .int p0), (2, .int p1), (3, .int p2)] := hl
  refine lv_aload_n hx hb dX5_wideMin_0 rfl (lv_at hl 0 rfl) ?_
  refine lv_aload_n hx hb dX5_wideMin_1 rfl (lv_at hl 0 rfl) ?_
  refine va_get (D := (dC, dI)) (ci := 7) (v := .ref h1) (C := RX5) (T := TX5) (N := 5) hx hb hts (by decide +kernel) hown hK hP 0 rfl rfl 0 (by decide +kernel) (hts (.fieldLink RX5 16 "EdgefloatsModel" "wide" "LEdgefloatsModel$Row;") (by decide +kernel)) (fun _ h9 => h9) rfl dX5_wideMin_2 ?_
  refine lv_iload_n hx hb dX5_wideMin_5 rfl (lv_at hl 1 rfl) ?_
  refine lv_iload_n hx hb dX5_wideMin_6 rfl (lv_at hl 2 rfl) ?_
  refine lv_iload_n hx hb dX5_wideMin_7 rfl (lv_at hl 3 rfl) ?_
  refine lv_iconst (v := (-1)) hx hb dX5_wideMin_8 (by decide +kernel) ?_
  have hPc := hP.sub (ws' := [(h0, eM h1 h2 th rf kn), (h1, eMR true hc1 a1), (hc1, eA cy f1)]) [0, 1, 2] rfl
  have hDc := hD.sub (ws' := [(h0, eM h1 h2 th rf kn), (h1, eMR true hc1 a1), (hc1, eA cy f1)]) [0, 1, 2] (by decide +kernel) rfl
  have hKc := hK.sub (tys' := [(cy, .long)]) [0] rfl
  have hFc := va_free (wc := [(h0, eM h1 h2 th rf kn), (h1, eMR true hc1 a1), (hc1, eA cy f1)]) hD hS hA [0, 1, 2] rfl
  refine va_calli (va_runV (As := [.ref h1, .int p0, .int p1, .int p2, .int (-1)]) (rest := []) ⟨hx, hb, hml, hown, hts⟩ (k_X5_choose l dC dI cy h0 h1 h2 h1 hc1 true a1 f1 th rf kn s.heap.size N p0 p1 p2 (-1)) (cwV 5 hts gX5_wideMin_X5_choose rfl rfl rfl (by decide +kernel) ⟨Nat.le_of_ble_eq_true rfl, Nat.le_of_ble_eq_true rfl⟩) (xM.preV hKc hPc hDc hAN (Nat.le_trans hN hS.1) (hG.kept hS hAN) (ci := 7) (q0 := 0) rfl rfl) rfl rfl hl.1 rfl (lv_room (Nat.le_of_ble_eq_true rfl)) dX5_wideMin_9 ⟨Nat.le_of_ble_eq_true rfl, Nat.le_of_ble_eq_true rfl⟩) hS (fun q _ h => hFc q h) hFc (fun r_1 u t H locs ht hvm hw hB hz hk hS => ?_)
  replace hw : r_1 = (o_X5_choose true a1 f1 p0 p1 p2 (-1)).1 := hw
  subst r_1
  obtain ⟨hP1, hD1⟩ := hB
  rw [ht] at hP1
  obtain ⟨hP, hD⟩ := va_join (wr := [(h2, eMR false hc2 a2), (hc2, eA cy f2)]) (w1 := [(h0, eM h1 h2 (o_X5_choose true a1 f1 p0 p1 p2 (-1)).2.2.2 rf kn), (h1, eMR true hc1 (o_X5_choose true a1 f1 p0 p1 p2 (-1)).2.1), (hc1, eA cy (o_X5_choose true a1 f1 p0 p1 p2 (-1)).2.2.1)]) hP hD [0, 1, 2] [3, 4] rfl rfl (by decide +kernel) (by decide +kernel) hk hFc hP1 hD1
  have hP := hP.sub (ws' := [(h0, eM h1 h2 (o_X5_choose true a1 f1 p0 p1 p2 (-1)).2.2.2 rf kn), (h1, eMR true hc1 (o_X5_choose true a1 f1 p0 p1 p2 (-1)).2.1), (hc1, eA cy (o_X5_choose true a1 f1 p0 p1 p2 (-1)).2.2.1), (h2, eMR false hc2 a2), (hc2, eA cy f2)]) [2, 3, 4, 0, 1] rfl
  have hD := hD.sub (ws' := [(h0, eM h1 h2 (o_X5_choose true a1 f1 p0 p1 p2 (-1)).2.2.2 rf kn), (h1, eMR true hc1 (o_X5_choose true a1 f1 p0 p1 p2 (-1)).2.1), (hc1, eA cy (o_X5_choose true a1 f1 p0 p1 p2 (-1)).2.2.1), (h2, eMR false hc2 a2), (hc2, eA cy f2)]) [2, 3, 4, 0, 1] (by decide +kernel) rfl
  have he : o_X5_wideMin a1 f1 p0 p1 p2 = ((o_X5_choose true a1 f1 p0 p1 p2 (-1)).1, (o_X5_choose true a1 f1 p0 p1 p2 (-1)).2.1, (o_X5_choose true a1 f1 p0 p1 p2 (-1)).2.2.1, (o_X5_choose true a1 f1 p0 p1 p2 (-1)).2.2.2) := by (rw [o_X5_wideMin]) <;> rfl
  refine W.widen (k := 0) (n := 0) (by omega) (by omega) ?_
  exact W.iret (v := ((o_X5_choose true a1 f1 p0 p1 p2 (-1)).1)) hx hb hr (fun t ht hW => ⟨⟨_, (), rfl, (by (rw [he]) <;> rfl), (by rw [he]; exact ⟨by rw [ht]; exact hP, hD⟩)⟩, hS.F ht⟩) hS.2.2 dX5_wideMin_12
theorem cl_X5_wideSum_1 : ∀ w ∈ wsX5_wideSum_r1, w ∈ wsX5_wideSum := fun _ h => (List.mem_cons_of_mem _ (List.mem_append_left _ (List.mem_append_left _ (List.mem_append_left _ h))))
theorem cl_X5_wideSum_2 : ∀ w ∈ wsX5_wideSum_r2, w ∈ wsX5_wideSum := fun _ h => (List.mem_cons_of_mem _ (List.mem_append_left _ (List.mem_append_left _ (List.mem_append_right _ (List.mem_append_left _ h)))))
theorem cl_X5_wideSum_3 : ∀ w ∈ wsX5_wideSum_r3, w ∈ wsX5_wideSum := fun _ h => (List.mem_cons_of_mem _ (List.mem_append_left _ (List.mem_append_left _ (List.mem_append_right _ (List.mem_append_right _ (List.mem_append_left _ h))))))
theorem cl_X5_wideSum_4 : ∀ w ∈ wsX5_wideSum_r4, w ∈ wsX5_wideSum := fun _ h => (List.mem_cons_of_mem _ (List.mem_append_left _ (List.mem_append_left _ (List.mem_append_right _ (List.mem_append_right _ (List.mem_append_right _ h))))))
theorem cl_X5_wideSum_5 : ∀ w ∈ wsX50, w ∈ wsX5_wideSum := fun _ h => (List.mem_cons_of_mem _ (List.mem_append_left _ (List.mem_append_right _ h)))
theorem cl_X5_wideSum_6 : ∀ w ∈ wsX40, w ∈ wsX5_wideSum := fun _ h => (List.mem_cons_of_mem _ (List.mem_append_right _ h))
set_option maxRecDepth 20000 in
theorem ggX5_wideSum_X5_sum : GoodIn wsX5_wideSum wsX5_sum := goodIn_sub (List.forall_mem_cons.mpr ⟨(cl_X5_wideSum_1 _ (List.mem_of_getElem? (i := 5) rfl)), fun w h => (List.mem_append.mp h).elim ((fun w h => (List.mem_append.mp h).elim ((fun w h => (List.mem_append.mp h).elim ((List.forall_mem_cons.mpr ⟨(cl_X5_wideSum_1 _ (List.mem_of_getElem? (i := 6) rfl)), List.forall_mem_cons.mpr ⟨(cl_X5_wideSum_1 _ (List.mem_of_getElem? (i := 7) rfl)), List.forall_mem_cons.mpr ⟨(cl_X5_wideSum_1 _ (List.mem_of_getElem? (i := 8) rfl)), List.forall_mem_cons.mpr ⟨(cl_X5_wideSum_1 _ (List.mem_of_getElem? (i := 4) rfl)), List.forall_mem_cons.mpr ⟨(cl_X5_wideSum_1 _ (List.mem_of_getElem? (i := 9) rfl)), List.forall_mem_cons.mpr ⟨(cl_X5_wideSum_1 _ (List.mem_of_getElem? (i := 10) rfl)), List.forall_mem_cons.mpr ⟨(cl_X5_wideSum_1 _ (List.mem_of_getElem? (i := 11) rfl)), List.forall_mem_cons.mpr ⟨(cl_X5_wideSum_1 _ (List.mem_of_getElem? (i := 12) rfl)), List.forall_mem_cons.mpr ⟨(cl_X5_wideSum_1 _ (List.mem_of_getElem? (i := 13) rfl)), List.forall_mem_cons.mpr ⟨(cl_X5_wideSum_1 _ (List.mem_of_getElem? (i := 14) rfl)), List.forall_mem_cons.mpr ⟨(cl_X5_wideSum_1 _ (List.mem_of_getElem? (i := 15) rfl)), List.forall_mem_cons.mpr ⟨(cl_X5_wideSum_1 _ (List.mem_of_getElem? (i := 16) rfl)), List.forall_mem_cons.mpr ⟨(cl_X5_wideSum_1 _ (List.mem_of_getElem? (i := 17) rfl)), List.forall_mem_cons.mpr ⟨(cl_X5_wideSum_1 _ (List.mem_of_getElem? (i := 18) rfl)), List.forall_mem_cons.mpr ⟨(cl_X5_wideSum_1 _ (List.mem_of_getElem? (i := 19) rfl)), List.forall_mem_cons.mpr ⟨(cl_X5_wideSum_1 _ (List.mem_of_getElem? (i := 20) rfl)), List.forall_mem_cons.mpr ⟨(cl_X5_wideSum_1 _ (List.mem_of_getElem? (i := 21) rfl)), List.forall_mem_cons.mpr ⟨(cl_X5_wideSum_1 _ (List.mem_of_getElem? (i := 22) rfl)), List.forall_mem_cons.mpr ⟨(cl_X5_wideSum_1 _ (List.mem_of_getElem? (i := 23) rfl)), List.forall_mem_cons.mpr ⟨(cl_X5_wideSum_2 _ (List.mem_of_getElem? (i := 0) rfl)), List.forall_mem_cons.mpr ⟨(cl_X5_wideSum_2 _ (List.mem_of_getElem? (i := 1) rfl)), List.forall_mem_cons.mpr ⟨(cl_X5_wideSum_2 _ (List.mem_of_getElem? (i := 2) rfl)), List.forall_mem_cons.mpr ⟨(cl_X5_wideSum_2 _ (List.mem_of_getElem? (i := 3) rfl)), List.forall_mem_cons.mpr ⟨(cl_X5_wideSum_2 _ (List.mem_of_getElem? (i := 4) rfl)), fun _ h => absurd h List.not_mem_nil⟩⟩⟩⟩⟩⟩⟩⟩⟩⟩⟩⟩⟩⟩⟩⟩⟩⟩⟩⟩⟩⟩⟩⟩) w) ((fun w h => (List.mem_append.mp h).elim ((List.forall_mem_cons.mpr ⟨(cl_X5_wideSum_2 _ (List.mem_of_getElem? (i := 5) rfl)), List.forall_mem_cons.mpr ⟨(cl_X5_wideSum_2 _ (List.mem_of_getElem? (i := 6) rfl)), List.forall_mem_cons.mpr ⟨(cl_X5_wideSum_2 _ (List.mem_of_getElem? (i := 7) rfl)), List.forall_mem_cons.mpr ⟨(cl_X5_wideSum_2 _ (List.mem_of_getElem? (i := 8) rfl)), List.forall_mem_cons.mpr ⟨(cl_X5_wideSum_2 _ (List.mem_of_getElem? (i := 9) rfl)), List.forall_mem_cons.mpr ⟨(cl_X5_wideSum_2 _ (List.mem_of_getElem? (i := 10) rfl)), List.forall_mem_cons.mpr ⟨(cl_X5_wideSum_2 _ (List.mem_of_getElem? (i := 11) rfl)), List.forall_mem_cons.mpr ⟨(cl_X5_wideSum_2 _ (List.mem_of_getElem? (i := 12) rfl)), List.forall_mem_cons.mpr ⟨(cl_X5_wideSum_2 _ (List.mem_of_getElem? (i := 13) rfl)), List.forall_mem_cons.mpr ⟨(cl_X5_wideSum_2 _ (List.mem_of_getElem? (i := 14) rfl)), List.forall_mem_cons.mpr ⟨(cl_X5_wideSum_2 _ (List.mem_of_getElem? (i := 15) rfl)), List.forall_mem_cons.mpr ⟨(cl_X5_wideSum_2 _ (List.mem_of_getElem? (i := 16) rfl)), List.forall_mem_cons.mpr ⟨(cl_X5_wideSum_2 _ (List.mem_of_getElem? (i := 17) rfl)), List.forall_mem_cons.mpr ⟨(cl_X5_wideSum_2 _ (List.mem_of_getElem? (i := 18) rfl)), List.forall_mem_cons.mpr ⟨(cl_X5_wideSum_2 _ (List.mem_of_getElem? (i := 19) rfl)), List.forall_mem_cons.mpr ⟨(cl_X5_wideSum_2 _ (List.mem_of_getElem? (i := 20) rfl)), List.forall_mem_cons.mpr ⟨(cl_X5_wideSum_2 _ (List.mem_of_getElem? (i := 21) rfl)), List.forall_mem_cons.mpr ⟨(cl_X5_wideSum_2 _ (List.mem_of_getElem? (i := 22) rfl)), List.forall_mem_cons.mpr ⟨(cl_X5_wideSum_2 _ (List.mem_of_getElem? (i := 23) rfl)), List.forall_mem_cons.mpr ⟨(cl_X5_wideSum_3 _ (List.mem_of_getElem? (i := 0) rfl)), List.forall_mem_cons.mpr ⟨(cl_X5_wideSum_3 _ (List.mem_of_getElem? (i := 1) rfl)), List.forall_mem_cons.mpr ⟨(cl_X5_wideSum_3 _ (List.mem_of_getElem? (i := 2) rfl)), List.forall_mem_cons.mpr ⟨(cl_X5_wideSum_3 _ (List.mem_of_getElem? (i := 3) rfl)), List.forall_mem_cons.mpr ⟨(cl_X5_wideSum_3 _ (List.mem_of_getElem? (i := 4) rfl)), fun _ h => absurd h List.not_mem_nil⟩⟩⟩⟩⟩⟩⟩⟩⟩⟩⟩⟩⟩⟩⟩⟩⟩⟩⟩⟩⟩⟩⟩⟩) w) ((fun w h => (List.mem_append.mp h).elim ((List.forall_mem_cons.mpr ⟨(cl_X5_wideSum_3 _ (List.mem_of_getElem? (i := 5) rfl)), List.forall_mem_cons.mpr ⟨(cl_X5_wideSum_3 _ (List.mem_of_getElem? (i := 6) rfl)), List.forall_mem_cons.mpr ⟨(cl_X5_wideSum_3 _ (List.mem_of_getElem? (i := 7) rfl)), List.forall_mem_cons.mpr ⟨(cl_X5_wideSum_3 _ (List.mem_of_getElem? (i := 8) rfl)), List.forall_mem_cons.mpr ⟨(cl_X5_wideSum_3 _ (List.mem_of_getElem? (i := 9) rfl)), List.forall_mem_cons.mpr ⟨(cl_X5_wideSum_3 _ (List.mem_of_getElem? (i := 10) rfl)), List.forall_mem_cons.mpr ⟨(cl_X5_wideSum_3 _ (List.mem_of_getElem? (i := 11) rfl)), List.forall_mem_cons.mpr ⟨(cl_X5_wideSum_3 _ (List.mem_of_getElem? (i := 12) rfl)), List.forall_mem_cons.mpr ⟨(cl_X5_wideSum_3 _ (List.mem_of_getElem? (i := 13) rfl)), List.forall_mem_cons.mpr ⟨(cl_X5_wideSum_3 _ (List.mem_of_getElem? (i := 14) rfl)), List.forall_mem_cons.mpr ⟨(cl_X5_wideSum_3 _ (List.mem_of_getElem? (i := 15) rfl)), List.forall_mem_cons.mpr ⟨(cl_X5_wideSum_3 _ (List.mem_of_getElem? (i := 16) rfl)), List.forall_mem_cons.mpr ⟨(cl_X5_wideSum_3 _ (List.mem_of_getElem? (i := 17) rfl)), List.forall_mem_cons.mpr ⟨(cl_X5_wideSum_3 _ (List.mem_of_getElem? (i := 18) rfl)), List.forall_mem_cons.mpr ⟨(cl_X5_wideSum_3 _ (List.mem_of_getElem? (i := 19) rfl)), List.forall_mem_cons.mpr ⟨(cl_X5_wideSum_3 _ (List.mem_of_getElem? (i := 20) rfl)), List.forall_mem_cons.mpr ⟨(cl_X5_wideSum_3 _ (List.mem_of_getElem? (i := 21) rfl)), List.forall_mem_cons.mpr ⟨(cl_X5_wideSum_3 _ (List.mem_of_getElem? (i := 22) rfl)), List.forall_mem_cons.mpr ⟨(cl_X5_wideSum_3 _ (List.mem_of_getElem? (i := 23) rfl)), List.forall_mem_cons.mpr ⟨(cl_X5_wideSum_4 _ (List.mem_of_getElem? (i := 0) rfl)), List.forall_mem_cons.mpr ⟨(cl_X5_wideSum_4 _ (List.mem_of_getElem? (i := 1) rfl)), List.forall_mem_cons.mpr ⟨(cl_X5_wideSum_4 _ (List.mem_of_getElem? (i := 2) rfl)), List.forall_mem_cons.mpr ⟨(cl_X5_wideSum_4 _ (List.mem_of_getElem? (i := 3) rfl)), List.forall_mem_cons.mpr ⟨(cl_X5_wideSum_4 _ (List.mem_of_getElem? (i := 4) rfl)), fun _ h => absurd h List.not_mem_nil⟩⟩⟩⟩⟩⟩⟩⟩⟩⟩⟩⟩⟩⟩⟩⟩⟩⟩⟩⟩⟩⟩⟩⟩) w) ((List.forall_mem_cons.mpr ⟨(cl_X5_wideSum_4 _ (List.mem_of_getElem? (i := 5) rfl)), List.forall_mem_cons.mpr ⟨(cl_X5_wideSum_4 _ (List.mem_of_getElem? (i := 6) rfl)), List.forall_mem_cons.mpr ⟨(cl_X5_wideSum_4 _ (List.mem_of_getElem? (i := 7) rfl)), List.forall_mem_cons.mpr ⟨(cl_X5_wideSum_4 _ (List.mem_of_getElem? (i := 8) rfl)), List.forall_mem_cons.mpr ⟨(cl_X5_wideSum_4 _ (List.mem_of_getElem? (i := 9) rfl)), List.forall_mem_cons.mpr ⟨(cl_X5_wideSum_4 _ (List.mem_of_getElem? (i := 10) rfl)), List.forall_mem_cons.mpr ⟨(cl_X5_wideSum_4 _ (List.mem_of_getElem? (i := 11) rfl)), List.forall_mem_cons.mpr ⟨(cl_X5_wideSum_4 _ (List.mem_of_getElem? (i := 12) rfl)), List.forall_mem_cons.mpr ⟨(cl_X5_wideSum_4 _ (List.mem_of_getElem? (i := 13) rfl)), List.forall_mem_cons.mpr ⟨(cl_X5_wideSum_4 _ (List.mem_of_getElem? (i := 14) rfl)), List.forall_mem_cons.mpr ⟨(cl_X5_wideSum_4 _ (List.mem_of_getElem? (i := 15) rfl)), fun _ h => absurd h List.not_mem_nil⟩⟩⟩⟩⟩⟩⟩⟩⟩⟩⟩) w)) w)) w)) w) ((cl_X5_wideSum_6) w)) w) ((cl_X5_wideSum_5) w)⟩) (by decide +kernel)
set_option maxRecDepth 20000 in
theorem gX5_wideSum_X5_sum : GoodIn wsX5_wideSum (wsV RX5 146 RX5 yX5_sum wsX5_sum) := goodIn_app (goodIn_sub (List.forall_mem_cons.mpr ⟨(cl_X5_wideSum_1 _ (List.mem_of_getElem? (i := 1) rfl)), List.forall_mem_cons.mpr ⟨(cl_X5_wideSum_1 _ (List.mem_of_getElem? (i := 2) rfl)), List.forall_mem_cons.mpr ⟨(cl_X5_wideSum_1 _ (List.mem_of_getElem? (i := 3) rfl)), List.forall_mem_cons.mpr ⟨(cl_X5_wideSum_1 _ (List.mem_of_getElem? (i := 4) rfl)), fun _ h => absurd h List.not_mem_nil⟩⟩⟩⟩) (by decide +kernel)) ggX5_wideSum_X5_sum
noncomputable def dz_p10_9 : List (Nat × Instr × Nat) := [(0, (.aload_n 0, 1)), (1, (.aload_n 0, 1)), (2, (.getfield 16, 3)), (5, (.iload_n 1, 1)), (6, (.iload_n 2, 1)), (7, (.iload_n 3, 1)), (8, (.invokevirtual 146, 3)), (11, (.ireturn, 1))]
theorem dy_p10_9 : dz_ok cX5_wideSum dz_p10_9 = true := by decide +kernel
theorem dX5_wideSum_0 : decode cX5_wideSum 0 = .ok (.aload_n 0, 1) := dz_at (i := 0) dy_p10_9 rfl
theorem dX5_wideSum_1 : decode cX5_wideSum 1 = .ok (.aload_n 0, 1) := dz_at (i := 1) dy_p10_9 rfl
theorem dX5_wideSum_2 : decode cX5_wideSum 2 = .ok (.getfield 16, 3) := dz_at (i := 2) dy_p10_9 rfl
theorem dX5_wideSum_5 : decode cX5_wideSum 5 = .ok (.iload_n 1, 1) := dz_at (i := 3) dy_p10_9 rfl
theorem dX5_wideSum_6 : decode cX5_wideSum 6 = .ok (.iload_n 2, 1) := dz_at (i := 4) dy_p10_9 rfl
theorem dX5_wideSum_7 : decode cX5_wideSum 7 = .ok (.iload_n 3, 1) := dz_at (i := 5) dy_p10_9 rfl
theorem dX5_wideSum_8 : decode cX5_wideSum 8 = .ok (.invokevirtual 146, 3) := dz_at (i := 6) dy_p10_9 rfl
theorem dX5_wideSum_11 : decode cX5_wideSum 11 = .ok (.ireturn, 1) := dz_at (i := 7) dy_p10_9 rfl
noncomputable def o_X5_wideSum (a1 : Int32) (f1 : Nat → Int64) (rf : Int32) (p0 : Int32) (p1 : Int32) (p2 : Int32) : Int32 × Int32 × (Nat → Int64) × Int32 × Int32 :=
  ((o_X5_sum true a1 f1 rf p0 p1 p2).1, (o_X5_sum true a1 f1 rf p0 p1 p2).2.1, (o_X5_sum true a1 f1 rf p0 p1 p2).2.2.1, (o_X5_sum true a1 f1 rf p0 p1 p2).2.2.2.1, (o_X5_sum true a1 f1 rf p0 p1 p2).2.2.2.2)
set_option maxHeartbeats 4000000 in
set_option maxRecDepth 100000 in
theorem k_X5_wideSum (l : Launch) (dC : Nat → ClassId) (dI : Nat → Nat → Nat) (cy : ClassId) (h0 : Nat) (h1 : Nat) (hc1 : Nat) (h2 : Nat) (hc2 : Nat) (a1 : Int32) (f1 : Nat → Int64) (a2 : Int32) (f2 : Nat → Int64) (th : Int32) (rf : Int32) (kn : Int32) (sz : Nat) (N : Nat) (p0 : Int32) (p1 : Int32) (p2 : Int32) : Met l yX5_wideSum wsX5_wideSum ({ frames := 7, cells := 0, slots := 0, locals := 168 }) (va_Pc [.ref h0, .int p0, .int p1, .int p2] (xM (dC, dI) xCl [(h0, eM h1 h2 th rf kn), (h1, eMR true hc1 a1), (hc1, eA cy f1), (h2, eMR false hc2 a2), (hc2, eA cy f2)] [(cy, .long)] sz N)) (va_Qi (fun (r : Int32) (_ : Unit) => r = (o_X5_wideSum a1 f1 rf p0 p1 p2).1) (fun _ t => xW (dC, dI) xCl [(h0, eM h1 h2 (o_X5_wideSum a1 f1 rf p0 p1 p2).2.2.2.1 (o_X5_wideSum a1 f1 rf p0 p1 p2).2.2.2.2 kn), (h1, eMR true hc1 (o_X5_wideSum a1 f1 rf p0 p1 p2).2.1), (hc1, eA cy (o_X5_wideSum a1 f1 rf p0 p1 p2).2.2.1), (h2, eMR false hc2 a2), (hc2, eA cy f2)] (va_A [(h0, eM h1 h2 th rf kn), (h1, eMR true hc1 a1), (hc1, eA cy f1), (h2, eMR false hc2 a2), (hc2, eA cy f2)] sz) t) (va_A [(h0, eM h1 h2 th rf kn), (h1, eMR true hc1 a1), (hc1, eA cy f1), (h2, eMR false hc2 a2), (hc2, eA cy f2)] sz)) 0 0 (va_A [(h0, eM h1 h2 th rf kn), (h1, eMR true hc1 a1), (hc1, eA cy f1), (h2, eMR false hc2 a2), (hc2, eA cy f2)] sz) := by
  refine Met.ofW (cc := cX5_wideSum) (maxL := 4) (ret := (some .int)) (by decide +kernel) rfl ?_
  intro p e s m args below meth c s₁ B hml hv
  obtain ⟨rfl, hsz, hP, hK, hD0, hN, hG⟩ := hv
  have hx := B.exec
  have hb := B.bytes
  have hr := B.returns
  have hts := atoms_spec (ws := wsX5_wideSum) B.pre
  have hown : s.vm.findClass RX5 = some m.cls := findClass_of_methodNamed B.named
  have hlocks := B.notSynchronized
  subst hsz
  have hAN : ∀ q, va_A [(h0, eM h1 h2 th rf kn), (h1, eMR true hc1 a1), (hc1, eA cy f1), (h2, eMR false hc2 a2), (hc2, eA cy f2)] s.heap.size q → N ≤ q := xA_N hD0 hN
  have hD := hD0.self (sz := s.heap.size)
  generalize hAe : va_A [(h0, eM h1 h2 th rf kn), (h1, eMR true hc1 a1), (hc1, eA cy f1), (h2, eMR false hc2 a2), (hc2, eA cy f2)] s.heap.size = A at hD hAN ⊢
  have hA : ∀ q : Nat, s.heap.size ≤ q → A q := fun q h => by rw [← hAe]; exact Or.inr h
  have hS : va_S A s.heap s.heap [] := va_S.rf
  have hP : va_P (dC, dI) xCl [(h0, eM h1 h2 th rf kn), (h1, eMR true hc1 a1), (hc1, eA cy f1), (h2, eMR false hc2 a2), (hc2, eA cy f2)] s.heap := hP
  have hl := lv_entry ([.ref h0, .int p0, .int p1, .int p2]) (n := 4) (Nat.le_of_ble_eq_true rfl)
  rw [lg_entry_eq]
  generalize (lg_sl ([.ref h0, .int p0, .int p1, .int p2]) ++ List.replicate (4 - (lg_sl ([.ref h0, .int p0, .int p1, .int p2])).length) Slot.unset).toArray = ls at hl ⊢
  have hl : lv_has ls 4 [(0, .ref h0), (1, .int p0), (2, .int p1), (3, .int p2)] := hl
  refine lv_aload_n hx hb dX5_wideSum_0 rfl (lv_at hl 0 rfl) ?_
  refine lv_aload_n hx hb dX5_wideSum_1 rfl (lv_at hl 0 rfl) ?_
  refine va_get (D := (dC, dI)) (ci := 7) (v := .ref h1) (C := RX5) (T := TX5) (N := 5) hx hb hts (by decide +kernel) hown hK hP 0 rfl rfl 0 (by decide +kernel) (hts (.fieldLink RX5 16 "EdgefloatsModel" "wide" "LEdgefloatsModel$Row;") (by decide +kernel)) (fun _ h9 => h9) rfl dX5_wideSum_2 ?_
  refine lv_iload_n hx hb dX5_wideSum_5 rfl (lv_at hl 1 rfl) ?_
  refine lv_iload_n hx hb dX5_wideSum_6 rfl (lv_at hl 2 rfl) ?_
  refine lv_iload_n hx hb dX5_wideSum_7 rfl (lv_at hl 3 rfl) ?_
  have hPc := hP.sub (ws' := [(h0, eM h1 h2 th rf kn), (h1, eMR true hc1 a1), (hc1, eA cy f1)]) [0, 1, 2] rfl
  have hDc := hD.sub (ws' := [(h0, eM h1 h2 th rf kn), (h1, eMR true hc1 a1), (hc1, eA cy f1)]) [0, 1, 2] (by decide +kernel) rfl
  have hKc := hK.sub (tys' := [(cy, .long)]) [0] rfl
  have hFc := va_free (wc := [(h0, eM h1 h2 th rf kn), (h1, eMR true hc1 a1), (hc1, eA cy f1)]) hD hS hA [0, 1, 2] rfl
  refine va_calli (va_runV (As := [.ref h1, .int p0, .int p1, .int p2]) (rest := []) ⟨hx, hb, hml, hown, hts⟩ (k_X5_sum l dC dI cy h0 h1 h2 h1 hc1 true a1 f1 th rf kn s.heap.size N p0 p1 p2 (okF_true _)) (cwV 4 hts gX5_wideSum_X5_sum rfl rfl rfl (by decide +kernel) ⟨Nat.le_of_ble_eq_true rfl, Nat.le_of_ble_eq_true rfl⟩) (xM.preV hKc hPc hDc hAN (Nat.le_trans hN hS.1) (hG.kept hS hAN) (ci := 7) (q0 := 0) rfl rfl) rfl rfl hl.1 rfl (lv_room (Nat.le_of_ble_eq_true rfl)) dX5_wideSum_8 ⟨Nat.le_of_ble_eq_true rfl, Nat.le_of_ble_eq_true rfl⟩) hS (fun q _ h => hFc q h) hFc (fun r_1 u t H locs ht hvm hw hB hz hk hS => ?_)
  replace hw : r_1 = (o_X5_sum true a1 f1 rf p0 p1 p2).1 := hw
  subst r_1
  obtain ⟨hP1, hD1⟩ := hB
  rw [ht] at hP1
  obtain ⟨hP, hD⟩ := va_join (wr := [(h2, eMR false hc2 a2), (hc2, eA cy f2)]) (w1 := [(h0, eM h1 h2 (o_X5_sum true a1 f1 rf p0 p1 p2).2.2.2.1 (o_X5_sum true a1 f1 rf p0 p1 p2).2.2.2.2 kn), (h1, eMR true hc1 (o_X5_sum true a1 f1 rf p0 p1 p2).2.1), (hc1, eA cy (o_X5_sum true a1 f1 rf p0 p1 p2).2.2.1)]) hP hD [0, 1, 2] [3, 4] rfl rfl (by decide +kernel) (by decide +kernel) hk hFc hP1 hD1
  have hP := hP.sub (ws' := [(h0, eM h1 h2 (o_X5_sum true a1 f1 rf p0 p1 p2).2.2.2.1 (o_X5_sum true a1 f1 rf p0 p1 p2).2.2.2.2 kn), (h1, eMR true hc1 (o_X5_sum true a1 f1 rf p0 p1 p2).2.1), (hc1, eA cy (o_X5_sum true a1 f1 rf p0 p1 p2).2.2.1), (h2, eMR false hc2 a2), (hc2, eA cy f2)]) [2, 3, 4, 0, 1] rfl
  have hD := hD.sub (ws' := [(h0, eM h1 h2 (o_X5_sum true a1 f1 rf p0 p1 p2).2.2.2.1 (o_X5_sum true a1 f1 rf p0 p1 p2).2.2.2.2 kn), (h1, eMR true hc1 (o_X5_sum true a1 f1 rf p0 p1 p2).2.1), (hc1, eA cy (o_X5_sum true a1 f1 rf p0 p1 p2).2.2.1), (h2, eMR false hc2 a2), (hc2, eA cy f2)]) [2, 3, 4, 0, 1] (by decide +kernel) rfl
  have he : o_X5_wideSum a1 f1 rf p0 p1 p2 = ((o_X5_sum true a1 f1 rf p0 p1 p2).1, (o_X5_sum true a1 f1 rf p0 p1 p2).2.1, (o_X5_sum true a1 f1 rf p0 p1 p2).2.2.1, (o_X5_sum true a1 f1 rf p0 p1 p2).2.2.2.1, (o_X5_sum true a1 f1 rf p0 p1 p2).2.2.2.2) := by (rw [o_X5_wideSum]) <;> rfl
  refine W.widen (k := 0) (n := 0) (by omega) (by omega) ?_
  exact W.iret (v := ((o_X5_sum true a1 f1 rf p0 p1 p2).1)) hx hb hr (fun t ht hW => ⟨⟨_, (), rfl, (by (rw [he]) <;> rfl), (by rw [he]; exact ⟨by rw [ht]; exact hP, hD⟩)⟩, hS.F ht⟩) hS.2.2 dX5_wideSum_11
theorem cl_X5_wideSort_1 : ∀ w ∈ wsX5_wideSort_r1, w ∈ wsX5_wideSort := fun _ h => (List.mem_cons_of_mem _ (List.mem_append_left _ (List.mem_append_left _ (List.mem_append_left _ h))))
theorem cl_X5_wideSort_2 : ∀ w ∈ wsX5_wideSort_r2, w ∈ wsX5_wideSort := fun _ h => (List.mem_cons_of_mem _ (List.mem_append_left _ (List.mem_append_left _ (List.mem_append_right _ h))))
theorem cl_X5_wideSort_3 : ∀ w ∈ wsX50, w ∈ wsX5_wideSort := fun _ h => (List.mem_cons_of_mem _ (List.mem_append_left _ (List.mem_append_right _ h)))
theorem cl_X5_wideSort_4 : ∀ w ∈ wsX40, w ∈ wsX5_wideSort := fun _ h => (List.mem_cons_of_mem _ (List.mem_append_right _ h))
set_option maxRecDepth 20000 in
theorem ggX5_wideSort_X5_sort : GoodIn wsX5_wideSort wsX5_sort := goodIn_sub (List.forall_mem_cons.mpr ⟨(cl_X5_wideSort_1 _ (List.mem_of_getElem? (i := 5) rfl)), fun w h => (List.mem_append.mp h).elim ((fun w h => (List.mem_append.mp h).elim ((fun w h => (List.mem_append.mp h).elim ((List.forall_mem_cons.mpr ⟨(cl_X5_wideSort_1 _ (List.mem_of_getElem? (i := 6) rfl)), List.forall_mem_cons.mpr ⟨(cl_X5_wideSort_1 _ (List.mem_of_getElem? (i := 7) rfl)), List.forall_mem_cons.mpr ⟨(cl_X5_wideSort_1 _ (List.mem_of_getElem? (i := 4) rfl)), List.forall_mem_cons.mpr ⟨(cl_X5_wideSort_1 _ (List.mem_of_getElem? (i := 8) rfl)), List.forall_mem_cons.mpr ⟨(cl_X5_wideSort_1 _ (List.mem_of_getElem? (i := 9) rfl)), List.forall_mem_cons.mpr ⟨(cl_X5_wideSort_1 _ (List.mem_of_getElem? (i := 10) rfl)), List.forall_mem_cons.mpr ⟨(cl_X5_wideSort_1 _ (List.mem_of_getElem? (i := 11) rfl)), List.forall_mem_cons.mpr ⟨(cl_X5_wideSort_1 _ (List.mem_of_getElem? (i := 12) rfl)), List.forall_mem_cons.mpr ⟨(cl_X5_wideSort_1 _ (List.mem_of_getElem? (i := 13) rfl)), List.forall_mem_cons.mpr ⟨(cl_X5_wideSort_1 _ (List.mem_of_getElem? (i := 14) rfl)), List.forall_mem_cons.mpr ⟨(cl_X5_wideSort_1 _ (List.mem_of_getElem? (i := 15) rfl)), List.forall_mem_cons.mpr ⟨(cl_X5_wideSort_1 _ (List.mem_of_getElem? (i := 16) rfl)), List.forall_mem_cons.mpr ⟨(cl_X5_wideSort_1 _ (List.mem_of_getElem? (i := 17) rfl)), List.forall_mem_cons.mpr ⟨(cl_X5_wideSort_1 _ (List.mem_of_getElem? (i := 18) rfl)), List.forall_mem_cons.mpr ⟨(cl_X5_wideSort_1 _ (List.mem_of_getElem? (i := 19) rfl)), List.forall_mem_cons.mpr ⟨(cl_X5_wideSort_1 _ (List.mem_of_getElem? (i := 20) rfl)), List.forall_mem_cons.mpr ⟨(cl_X5_wideSort_1 _ (List.mem_of_getElem? (i := 21) rfl)), List.forall_mem_cons.mpr ⟨(cl_X5_wideSort_1 _ (List.mem_of_getElem? (i := 22) rfl)), List.forall_mem_cons.mpr ⟨(cl_X5_wideSort_1 _ (List.mem_of_getElem? (i := 23) rfl)), List.forall_mem_cons.mpr ⟨(cl_X5_wideSort_2 _ (List.mem_of_getElem? (i := 0) rfl)), List.forall_mem_cons.mpr ⟨(cl_X5_wideSort_2 _ (List.mem_of_getElem? (i := 1) rfl)), List.forall_mem_cons.mpr ⟨(cl_X5_wideSort_2 _ (List.mem_of_getElem? (i := 2) rfl)), List.forall_mem_cons.mpr ⟨(cl_X5_wideSort_2 _ (List.mem_of_getElem? (i := 3) rfl)), List.forall_mem_cons.mpr ⟨(cl_X5_wideSort_2 _ (List.mem_of_getElem? (i := 4) rfl)), fun _ h => absurd h List.not_mem_nil⟩⟩⟩⟩⟩⟩⟩⟩⟩⟩⟩⟩⟩⟩⟩⟩⟩⟩⟩⟩⟩⟩⟩⟩) w) ((List.forall_mem_cons.mpr ⟨(cl_X5_wideSort_2 _ (List.mem_of_getElem? (i := 5) rfl)), List.forall_mem_cons.mpr ⟨(cl_X5_wideSort_2 _ (List.mem_of_getElem? (i := 6) rfl)), List.forall_mem_cons.mpr ⟨(cl_X5_wideSort_2 _ (List.mem_of_getElem? (i := 7) rfl)), List.forall_mem_cons.mpr ⟨(cl_X5_wideSort_2 _ (List.mem_of_getElem? (i := 8) rfl)), List.forall_mem_cons.mpr ⟨(cl_X5_wideSort_2 _ (List.mem_of_getElem? (i := 9) rfl)), List.forall_mem_cons.mpr ⟨(cl_X5_wideSort_2 _ (List.mem_of_getElem? (i := 10) rfl)), List.forall_mem_cons.mpr ⟨(cl_X5_wideSort_2 _ (List.mem_of_getElem? (i := 11) rfl)), List.forall_mem_cons.mpr ⟨(cl_X5_wideSort_2 _ (List.mem_of_getElem? (i := 12) rfl)), List.forall_mem_cons.mpr ⟨(cl_X5_wideSort_2 _ (List.mem_of_getElem? (i := 13) rfl)), List.forall_mem_cons.mpr ⟨(cl_X5_wideSort_2 _ (List.mem_of_getElem? (i := 14) rfl)), List.forall_mem_cons.mpr ⟨(cl_X5_wideSort_2 _ (List.mem_of_getElem? (i := 15) rfl)), List.forall_mem_cons.mpr ⟨(cl_X5_wideSort_2 _ (List.mem_of_getElem? (i := 16) rfl)), List.forall_mem_cons.mpr ⟨(cl_X5_wideSort_2 _ (List.mem_of_getElem? (i := 17) rfl)), List.forall_mem_cons.mpr ⟨(cl_X5_wideSort_2 _ (List.mem_of_getElem? (i := 18) rfl)), List.forall_mem_cons.mpr ⟨(cl_X5_wideSort_2 _ (List.mem_of_getElem? (i := 19) rfl)), List.forall_mem_cons.mpr ⟨(cl_X5_wideSort_2 _ (List.mem_of_getElem? (i := 20) rfl)), fun _ h => absurd h List.not_mem_nil⟩⟩⟩⟩⟩⟩⟩⟩⟩⟩⟩⟩⟩⟩⟩⟩) w)) w) ((cl_X5_wideSort_3) w)) w) ((cl_X5_wideSort_4) w)⟩) (by decide +kernel)
set_option maxRecDepth 20000 in
theorem gX5_wideSort_X5_sort : GoodIn wsX5_wideSort (wsV RX5 149 RX5 yX5_sort wsX5_sort) := goodIn_app (goodIn_sub (List.forall_mem_cons.mpr ⟨(cl_X5_wideSort_1 _ (List.mem_of_getElem? (i := 1) rfl)), List.forall_mem_cons.mpr ⟨(cl_X5_wideSort_1 _ (List.mem_of_getElem? (i := 2) rfl)), List.forall_mem_cons.mpr ⟨(cl_X5_wideSort_1 _ (List.mem_of_getElem? (i := 3) rfl)), List.forall_mem_cons.mpr ⟨(cl_X5_wideSort_1 _ (List.mem_of_getElem? (i := 4) rfl)), fun _ h => absurd h List.not_mem_nil⟩⟩⟩⟩) (by decide +kernel)) ggX5_wideSort_X5_sort
noncomputable def dz_p10_10 : List (Nat × Instr × Nat) := [(0, (.aload_n 0, 1)), (1, (.aload_n 0, 1)), (2, (.getfield 16, 3)), (5, (.iload_n 1, 1)), (6, (.invokevirtual 149, 3)), (9, (.ireturn, 1))]
theorem dy_p10_10 : dz_ok cX5_wideSort dz_p10_10 = true := by decide +kernel
theorem dX5_wideSort_0 : decode cX5_wideSort 0 = .ok (.aload_n 0, 1) := dz_at (i := 0) dy_p10_10 rfl
theorem dX5_wideSort_1 : decode cX5_wideSort 1 = .ok (.aload_n 0, 1) := dz_at (i := 1) dy_p10_10 rfl
theorem dX5_wideSort_2 : decode cX5_wideSort 2 = .ok (.getfield 16, 3) := dz_at (i := 2) dy_p10_10 rfl
theorem dX5_wideSort_5 : decode cX5_wideSort 5 = .ok (.iload_n 1, 1) := dz_at (i := 3) dy_p10_10 rfl
theorem dX5_wideSort_6 : decode cX5_wideSort 6 = .ok (.invokevirtual 149, 3) := dz_at (i := 4) dy_p10_10 rfl
theorem dX5_wideSort_9 : decode cX5_wideSort 9 = .ok (.ireturn, 1) := dz_at (i := 5) dy_p10_10 rfl
noncomputable def o_X5_wideSort (a1 : Int32) (f1 : Nat → Int64) (p0 : Int32) : Int32 × Int32 × (Nat → Int64) × Int32 :=
  ((o_X5_sort true a1 f1 p0).1, (o_X5_sort true a1 f1 p0).2.1, (o_X5_sort true a1 f1 p0).2.2.1, (o_X5_sort true a1 f1 p0).2.2.2)
set_option maxHeartbeats 4000000 in
set_option maxRecDepth 100000 in
theorem k_X5_wideSort (l : Launch) (dC : Nat → ClassId) (dI : Nat → Nat → Nat) (cy : ClassId) (h0 : Nat) (h1 : Nat) (hc1 : Nat) (h2 : Nat) (hc2 : Nat) (a1 : Int32) (f1 : Nat → Int64) (a2 : Int32) (f2 : Nat → Int64) (th : Int32) (rf : Int32) (kn : Int32) (sz : Nat) (N : Nat) (p0 : Int32) : Met l yX5_wideSort wsX5_wideSort ({ frames := 6, cells := 1, slots := 8, locals := 135 }) (va_Pc [.ref h0, .int p0] (xM (dC, dI) xCl [(h0, eM h1 h2 th rf kn), (h1, eMR true hc1 a1), (hc1, eA cy f1), (h2, eMR false hc2 a2), (hc2, eA cy f2)] [(cy, .long)] sz N)) (va_Qi (fun (r : Int32) (_ : Unit) => r = (o_X5_wideSort a1 f1 p0).1) (fun _ t => xW (dC, dI) xCl [(h0, eM h1 h2 (o_X5_wideSort a1 f1 p0).2.2.2 rf kn), (h1, eMR true hc1 (o_X5_wideSort a1 f1 p0).2.1), (hc1, eA cy (o_X5_wideSort a1 f1 p0).2.2.1), (h2, eMR false hc2 a2), (hc2, eA cy f2)] (va_A [(h0, eM h1 h2 th rf kn), (h1, eMR true hc1 a1), (hc1, eA cy f1), (h2, eMR false hc2 a2), (hc2, eA cy f2)] sz) t) (va_A [(h0, eM h1 h2 th rf kn), (h1, eMR true hc1 a1), (hc1, eA cy f1), (h2, eMR false hc2 a2), (hc2, eA cy f2)] sz)) 1 8 (va_A [(h0, eM h1 h2 th rf kn), (h1, eMR true hc1 a1), (hc1, eA cy f1), (h2, eMR false hc2 a2), (hc2, eA cy f2)] sz) := by
  refine Met.ofW (cc := cX5_wideSort) (maxL := 2) (ret := (some .int)) (by decide +kernel) rfl ?_
  intro p e s m args below meth c s₁ B hml hv
  obtain ⟨rfl, hsz, hP, hK, hD0, hN, hG⟩ := hv
  have hx := B.exec
  have hb := B.bytes
  have hr := B.returns
  have hts := atoms_spec (ws := wsX5_wideSort) B.pre
  have hown : s.vm.findClass RX5 = some m.cls := findClass_of_methodNamed B.named
  have hlocks := B.notSynchronized
  subst hsz
  have hAN : ∀ q, va_A [(h0, eM h1 h2 th rf kn), (h1, eMR true hc1 a1), (hc1, eA cy f1), (h2, eMR false hc2 a2), (hc2, eA cy f2)] s.heap.size q → N ≤ q := xA_N hD0 hN
  have hD := hD0.self (sz := s.heap.size)
  generalize hAe : va_A [(h0, eM h1 h2 th rf kn), (h1, eMR true hc1 a1), (hc1, eA cy f1), (h2, eMR false hc2 a2), (hc2, eA cy f2)] s.heap.size = A at hD hAN ⊢
  have hA : ∀ q : Nat, s.heap.size ≤ q → A q := fun q h => by rw [← hAe]; exact Or.inr h
  have hS : va_S A s.heap s.heap [] := va_S.rf
  have hP : va_P (dC, dI) xCl [(h0, eM h1 h2 th rf kn), (h1, eMR true hc1 a1), (hc1, eA cy f1), (h2, eMR false hc2 a2), (hc2, eA cy f2)] s.heap := hP
  have hl := lv_entry ([.ref h0, .int p0]) (n := 2) (Nat.le_of_ble_eq_true rfl)
  rw [lg_entry_eq]
  generalize (lg_sl ([.ref h0, .int p0]) ++ List.replicate (2 - (lg_sl ([.ref h0, .int p0])).length) Slot.unset).toArray = ls at hl ⊢
  have hl : lv_has ls 2 [(0, .ref h0), (1, .int p0)] := hl
  refine lv_aload_n hx hb dX5_wideSort_0 rfl (lv_at hl 0 rfl) ?_
  refine lv_aload_n hx hb dX5_wideSort_1 rfl (lv_at hl 0 rfl) ?_
  refine va_get (D := (dC, dI)) (ci := 7) (v := .ref h1) (C := RX5) (T := TX5) (N := 5) hx hb hts (by decide +kernel) hown hK hP 0 rfl rfl 0 (by decide +kernel) (hts (.fieldLink RX5 16 "EdgefloatsModel" "wide" "LEdgefloatsModel$Row;") (by decide +kernel)) (fun _ h9 => h9) rfl dX5_wideSort_2 ?_
  refine lv_iload_n hx hb dX5_wideSort_5 rfl (lv_at hl 1 rfl) ?_
  have hPc := hP.sub (ws' := [(h0, eM h1 h2 th rf kn), (h1, eMR true hc1 a1), (hc1, eA cy f1)]) [0, 1, 2] rfl
  have hDc := hD.sub (ws' := [(h0, eM h1 h2 th rf kn), (h1, eMR true hc1 a1), (hc1, eA cy f1)]) [0, 1, 2] (by decide +kernel) rfl
  have hKc := hK.sub (tys' := [(cy, .long)]) [0] rfl
  have hFc := va_free (wc := [(h0, eM h1 h2 th rf kn), (h1, eMR true hc1 a1), (hc1, eA cy f1)]) hD hS hA [0, 1, 2] rfl
  refine va_calli (va_runV (As := [.ref h1, .int p0]) (rest := []) ⟨hx, hb, hml, hown, hts⟩ (k_X5_sort l dC dI cy h0 h1 h2 h1 hc1 true a1 f1 th rf kn s.heap.size N p0) (cwV 2 hts gX5_wideSort_X5_sort rfl rfl rfl (by decide +kernel) ⟨Nat.le_of_ble_eq_true rfl, Nat.le_of_ble_eq_true rfl⟩) (xM.preV hKc hPc hDc hAN (Nat.le_trans hN hS.1) (hG.kept hS hAN) (ci := 7) (q0 := 0) rfl rfl) rfl rfl hl.1 rfl (lv_room (Nat.le_of_ble_eq_true rfl)) dX5_wideSort_6 ⟨Nat.le_of_ble_eq_true rfl, Nat.le_of_ble_eq_true rfl⟩) hS (fun q _ h => hFc q h) hFc (fun r_1 u t H locs ht hvm hw hB hz hk hS => ?_)
  replace hw : r_1 = (o_X5_sort true a1 f1 p0).1 := hw
  subst r_1
  obtain ⟨hP1, hD1⟩ := hB
  rw [ht] at hP1
  obtain ⟨hP, hD⟩ := va_join (wr := [(h2, eMR false hc2 a2), (hc2, eA cy f2)]) (w1 := [(h0, eM h1 h2 (o_X5_sort true a1 f1 p0).2.2.2 rf kn), (h1, eMR true hc1 (o_X5_sort true a1 f1 p0).2.1), (hc1, eA cy (o_X5_sort true a1 f1 p0).2.2.1)]) hP hD [0, 1, 2] [3, 4] rfl rfl (by decide +kernel) (by decide +kernel) hk hFc hP1 hD1
  have hP := hP.sub (ws' := [(h0, eM h1 h2 (o_X5_sort true a1 f1 p0).2.2.2 rf kn), (h1, eMR true hc1 (o_X5_sort true a1 f1 p0).2.1), (hc1, eA cy (o_X5_sort true a1 f1 p0).2.2.1), (h2, eMR false hc2 a2), (hc2, eA cy f2)]) [2, 3, 4, 0, 1] rfl
  have hD := hD.sub (ws' := [(h0, eM h1 h2 (o_X5_sort true a1 f1 p0).2.2.2 rf kn), (h1, eMR true hc1 (o_X5_sort true a1 f1 p0).2.1), (hc1, eA cy (o_X5_sort true a1 f1 p0).2.2.1), (h2, eMR false hc2 a2), (hc2, eA cy f2)]) [2, 3, 4, 0, 1] (by decide +kernel) rfl
  have he : o_X5_wideSort a1 f1 p0 = ((o_X5_sort true a1 f1 p0).1, (o_X5_sort true a1 f1 p0).2.1, (o_X5_sort true a1 f1 p0).2.2.1, (o_X5_sort true a1 f1 p0).2.2.2) := by (rw [o_X5_wideSort]) <;> rfl
  refine W.widen (k := 1) (n := 8) (by omega) (by omega) ?_
  exact W.iret (v := ((o_X5_sort true a1 f1 p0).1)) hx hb hr (fun t ht hW => ⟨⟨_, (), rfl, (by (rw [he]) <;> rfl), (by rw [he]; exact ⟨by rw [ht]; exact hP, hD⟩)⟩, hS.F ht⟩) hS.2.2 dX5_wideSort_9
theorem cl_X5_wideEnd_1 : ∀ w ∈ wsX5_wideEnd_r1, w ∈ wsX5_wideEnd := fun _ h => (List.mem_cons_of_mem _ (List.mem_append_left _ (List.mem_append_left _ (List.mem_append_left _ h))))
theorem cl_X5_wideEnd_2 : ∀ w ∈ wsX5_wideEnd_r2, w ∈ wsX5_wideEnd := fun _ h => (List.mem_cons_of_mem _ (List.mem_append_left _ (List.mem_append_left _ (List.mem_append_right _ (List.mem_append_left _ h)))))
theorem cl_X5_wideEnd_3 : ∀ w ∈ wsX5_wideEnd_r3, w ∈ wsX5_wideEnd := fun _ h => (List.mem_cons_of_mem _ (List.mem_append_left _ (List.mem_append_left _ (List.mem_append_right _ (List.mem_append_right _ h)))))
theorem cl_X5_wideEnd_4 : ∀ w ∈ wsX50, w ∈ wsX5_wideEnd := fun _ h => (List.mem_cons_of_mem _ (List.mem_append_left _ (List.mem_append_right _ h)))
theorem cl_X5_wideEnd_5 : ∀ w ∈ wsX40, w ∈ wsX5_wideEnd := fun _ h => (List.mem_cons_of_mem _ (List.mem_append_right _ h))
set_option maxRecDepth 20000 in
theorem ggX5_wideEnd_X5_end : GoodIn wsX5_wideEnd wsX5_end := goodIn_sub (List.forall_mem_cons.mpr ⟨(cl_X5_wideEnd_1 _ (List.mem_of_getElem? (i := 5) rfl)), fun w h => (List.mem_append.mp h).elim ((fun w h => (List.mem_append.mp h).elim ((fun w h => (List.mem_append.mp h).elim ((List.forall_mem_cons.mpr ⟨(cl_X5_wideEnd_1 _ (List.mem_of_getElem? (i := 6) rfl)), List.forall_mem_cons.mpr ⟨(cl_X5_wideEnd_1 _ (List.mem_of_getElem? (i := 7) rfl)), List.forall_mem_cons.mpr ⟨(cl_X5_wideEnd_1 _ (List.mem_of_getElem? (i := 4) rfl)), List.forall_mem_cons.mpr ⟨(cl_X5_wideEnd_1 _ (List.mem_of_getElem? (i := 8) rfl)), List.forall_mem_cons.mpr ⟨(cl_X5_wideEnd_1 _ (List.mem_of_getElem? (i := 9) rfl)), List.forall_mem_cons.mpr ⟨(cl_X5_wideEnd_1 _ (List.mem_of_getElem? (i := 10) rfl)), List.forall_mem_cons.mpr ⟨(cl_X5_wideEnd_1 _ (List.mem_of_getElem? (i := 11) rfl)), List.forall_mem_cons.mpr ⟨(cl_X5_wideEnd_1 _ (List.mem_of_getElem? (i := 12) rfl)), List.forall_mem_cons.mpr ⟨(cl_X5_wideEnd_1 _ (List.mem_of_getElem? (i := 13) rfl)), List.forall_mem_cons.mpr ⟨(cl_X5_wideEnd_1 _ (List.mem_of_getElem? (i := 14) rfl)), List.forall_mem_cons.mpr ⟨(cl_X5_wideEnd_1 _ (List.mem_of_getElem? (i := 15) rfl)), List.forall_mem_cons.mpr ⟨(cl_X5_wideEnd_1 _ (List.mem_of_getElem? (i := 16) rfl)), List.forall_mem_cons.mpr ⟨(cl_X5_wideEnd_1 _ (List.mem_of_getElem? (i := 17) rfl)), List.forall_mem_cons.mpr ⟨(cl_X5_wideEnd_1 _ (List.mem_of_getElem? (i := 18) rfl)), List.forall_mem_cons.mpr ⟨(cl_X5_wideEnd_1 _ (List.mem_of_getElem? (i := 19) rfl)), List.forall_mem_cons.mpr ⟨(cl_X5_wideEnd_1 _ (List.mem_of_getElem? (i := 20) rfl)), List.forall_mem_cons.mpr ⟨(cl_X5_wideEnd_1 _ (List.mem_of_getElem? (i := 21) rfl)), List.forall_mem_cons.mpr ⟨(cl_X5_wideEnd_1 _ (List.mem_of_getElem? (i := 22) rfl)), List.forall_mem_cons.mpr ⟨(cl_X5_wideEnd_1 _ (List.mem_of_getElem? (i := 23) rfl)), List.forall_mem_cons.mpr ⟨(cl_X5_wideEnd_2 _ (List.mem_of_getElem? (i := 0) rfl)), List.forall_mem_cons.mpr ⟨(cl_X5_wideEnd_2 _ (List.mem_of_getElem? (i := 1) rfl)), List.forall_mem_cons.mpr ⟨(cl_X5_wideEnd_2 _ (List.mem_of_getElem? (i := 2) rfl)), List.forall_mem_cons.mpr ⟨(cl_X5_wideEnd_2 _ (List.mem_of_getElem? (i := 3) rfl)), List.forall_mem_cons.mpr ⟨(cl_X5_wideEnd_2 _ (List.mem_of_getElem? (i := 4) rfl)), fun _ h => absurd h List.not_mem_nil⟩⟩⟩⟩⟩⟩⟩⟩⟩⟩⟩⟩⟩⟩⟩⟩⟩⟩⟩⟩⟩⟩⟩⟩) w) ((List.forall_mem_cons.mpr ⟨(cl_X5_wideEnd_2 _ (List.mem_of_getElem? (i := 5) rfl)), List.forall_mem_cons.mpr ⟨(cl_X5_wideEnd_2 _ (List.mem_of_getElem? (i := 6) rfl)), List.forall_mem_cons.mpr ⟨(cl_X5_wideEnd_2 _ (List.mem_of_getElem? (i := 7) rfl)), List.forall_mem_cons.mpr ⟨(cl_X5_wideEnd_2 _ (List.mem_of_getElem? (i := 8) rfl)), List.forall_mem_cons.mpr ⟨(cl_X5_wideEnd_2 _ (List.mem_of_getElem? (i := 9) rfl)), List.forall_mem_cons.mpr ⟨(cl_X5_wideEnd_2 _ (List.mem_of_getElem? (i := 10) rfl)), List.forall_mem_cons.mpr ⟨(cl_X5_wideEnd_2 _ (List.mem_of_getElem? (i := 11) rfl)), List.forall_mem_cons.mpr ⟨(cl_X5_wideEnd_2 _ (List.mem_of_getElem? (i := 12) rfl)), List.forall_mem_cons.mpr ⟨(cl_X5_wideEnd_2 _ (List.mem_of_getElem? (i := 13) rfl)), List.forall_mem_cons.mpr ⟨(cl_X5_wideEnd_2 _ (List.mem_of_getElem? (i := 14) rfl)), List.forall_mem_cons.mpr ⟨(cl_X5_wideEnd_2 _ (List.mem_of_getElem? (i := 15) rfl)), List.forall_mem_cons.mpr ⟨(cl_X5_wideEnd_2 _ (List.mem_of_getElem? (i := 16) rfl)), List.forall_mem_cons.mpr ⟨(cl_X5_wideEnd_2 _ (List.mem_of_getElem? (i := 17) rfl)), List.forall_mem_cons.mpr ⟨(cl_X5_wideEnd_2 _ (List.mem_of_getElem? (i := 18) rfl)), List.forall_mem_cons.mpr ⟨(cl_X5_wideEnd_2 _ (List.mem_of_getElem? (i := 19) rfl)), List.forall_mem_cons.mpr ⟨(cl_X5_wideEnd_2 _ (List.mem_of_getElem? (i := 20) rfl)), List.forall_mem_cons.mpr ⟨(cl_X5_wideEnd_2 _ (List.mem_of_getElem? (i := 21) rfl)), List.forall_mem_cons.mpr ⟨(cl_X5_wideEnd_2 _ (List.mem_of_getElem? (i := 22) rfl)), List.forall_mem_cons.mpr ⟨(cl_X5_wideEnd_2 _ (List.mem_of_getElem? (i := 23) rfl)), List.forall_mem_cons.mpr ⟨(cl_X5_wideEnd_3 _ (List.mem_of_getElem? (i := 0) rfl)), List.forall_mem_cons.mpr ⟨(cl_X5_wideEnd_3 _ (List.mem_of_getElem? (i := 1) rfl)), List.forall_mem_cons.mpr ⟨(cl_X5_wideEnd_3 _ (List.mem_of_getElem? (i := 2) rfl)), fun _ h => absurd h List.not_mem_nil⟩⟩⟩⟩⟩⟩⟩⟩⟩⟩⟩⟩⟩⟩⟩⟩⟩⟩⟩⟩⟩⟩) w)) w) ((cl_X5_wideEnd_4) w)) w) ((cl_X5_wideEnd_5) w)⟩) (by decide +kernel)
set_option maxRecDepth 20000 in
theorem gX5_wideEnd_X5_end : GoodIn wsX5_wideEnd (wsV RX5 152 RX5 yX5_end wsX5_end) := goodIn_app (goodIn_sub (List.forall_mem_cons.mpr ⟨(cl_X5_wideEnd_1 _ (List.mem_of_getElem? (i := 1) rfl)), List.forall_mem_cons.mpr ⟨(cl_X5_wideEnd_1 _ (List.mem_of_getElem? (i := 2) rfl)), List.forall_mem_cons.mpr ⟨(cl_X5_wideEnd_1 _ (List.mem_of_getElem? (i := 3) rfl)), List.forall_mem_cons.mpr ⟨(cl_X5_wideEnd_1 _ (List.mem_of_getElem? (i := 4) rfl)), fun _ h => absurd h List.not_mem_nil⟩⟩⟩⟩) (by decide +kernel)) ggX5_wideEnd_X5_end
noncomputable def dz_p10_11 : List (Nat × Instr × Nat) := [(0, (.aload_n 0, 1)), (1, (.aload_n 0, 1)), (2, (.getfield 16, 3)), (5, (.iload_n 1, 1)), (6, (.iload_n 2, 1)), (7, (.invokevirtual 152, 3)), (10, (.ireturn, 1))]
theorem dy_p10_11 : dz_ok cX5_wideEnd dz_p10_11 = true := by decide +kernel
theorem dX5_wideEnd_0 : decode cX5_wideEnd 0 = .ok (.aload_n 0, 1) := dz_at (i := 0) dy_p10_11 rfl
theorem dX5_wideEnd_1 : decode cX5_wideEnd 1 = .ok (.aload_n 0, 1) := dz_at (i := 1) dy_p10_11 rfl
theorem dX5_wideEnd_2 : decode cX5_wideEnd 2 = .ok (.getfield 16, 3) := dz_at (i := 2) dy_p10_11 rfl
theorem dX5_wideEnd_5 : decode cX5_wideEnd 5 = .ok (.iload_n 1, 1) := dz_at (i := 3) dy_p10_11 rfl
theorem dX5_wideEnd_6 : decode cX5_wideEnd 6 = .ok (.iload_n 2, 1) := dz_at (i := 4) dy_p10_11 rfl
theorem dX5_wideEnd_7 : decode cX5_wideEnd 7 = .ok (.invokevirtual 152, 3) := dz_at (i := 5) dy_p10_11 rfl
theorem dX5_wideEnd_10 : decode cX5_wideEnd 10 = .ok (.ireturn, 1) := dz_at (i := 6) dy_p10_11 rfl
noncomputable def o_X5_wideEnd (a1 : Int32) (f1 : Nat → Int64) (p0 : Bool) (p1 : Int32) : Int32 × Int32 × (Nat → Int64) × Int32 :=
  ((o_X5_end true a1 f1 p0 p1).1, (o_X5_end true a1 f1 p0 p1).2.1, (o_X5_end true a1 f1 p0 p1).2.2.1, (o_X5_end true a1 f1 p0 p1).2.2.2)
set_option maxHeartbeats 4000000 in
set_option maxRecDepth 100000 in
theorem k_X5_wideEnd (l : Launch) (dC : Nat → ClassId) (dI : Nat → Nat → Nat) (cy : ClassId) (h0 : Nat) (h1 : Nat) (hc1 : Nat) (h2 : Nat) (hc2 : Nat) (a1 : Int32) (f1 : Nat → Int64) (a2 : Int32) (f2 : Nat → Int64) (th : Int32) (rf : Int32) (kn : Int32) (sz : Nat) (N : Nat) (p0 : Bool) (p1 : Int32) : Met l yX5_wideEnd wsX5_wideEnd ({ frames := 6, cells := 0, slots := 0, locals := 139 }) (va_Pc [.ref h0, .int (b2i p0), .int p1] (xM (dC, dI) xCl [(h0, eM h1 h2 th rf kn), (h1, eMR true hc1 a1), (hc1, eA cy f1), (h2, eMR false hc2 a2), (hc2, eA cy f2)] [(cy, .long)] sz N)) (va_Qi (fun (r : Int32) (_ : Unit) => r = (o_X5_wideEnd a1 f1 p0 p1).1) (fun _ t => xW (dC, dI) xCl [(h0, eM h1 h2 (o_X5_wideEnd a1 f1 p0 p1).2.2.2 rf kn), (h1, eMR true hc1 (o_X5_wideEnd a1 f1 p0 p1).2.1), (hc1, eA cy (o_X5_wideEnd a1 f1 p0 p1).2.2.1), (h2, eMR false hc2 a2), (hc2, eA cy f2)] (va_A [(h0, eM h1 h2 th rf kn), (h1, eMR true hc1 a1), (hc1, eA cy f1), (h2, eMR false hc2 a2), (hc2, eA cy f2)] sz) t) (va_A [(h0, eM h1 h2 th rf kn), (h1, eMR true hc1 a1), (hc1, eA cy f1), (h2, eMR false hc2 a2), (hc2, eA cy f2)] sz)) 0 0 (va_A [(h0, eM h1 h2 th rf kn), (h1, eMR true hc1 a1), (hc1, eA cy f1), (h2, eMR false hc2 a2), (hc2, eA cy f2)] sz) := by
  refine Met.ofW (cc := cX5_wideEnd) (maxL := 3) (ret := (some .int)) (by decide +kernel) rfl ?_
  intro p e s m args below meth c s₁ B hml hv
  obtain ⟨rfl, hsz, hP, hK, hD0, hN, hG⟩ := hv
  have hx := B.exec
  have hb := B.bytes
  have hr := B.returns
  have hts := atoms_spec (ws := wsX5_wideEnd) B.pre
  have hown : s.vm.findClass RX5 = some m.cls := findClass_of_methodNamed B.named
  have hlocks := B.notSynchronized
  subst hsz
  have hAN : ∀ q, va_A [(h0, eM h1 h2 th rf kn), (h1, eMR true hc1 a1), (hc1, eA cy f1), (h2, eMR false hc2 a2), (hc2, eA cy f2)] s.heap.size q → N ≤ q := xA_N hD0 hN
  have hD := hD0.self (sz := s.heap.size)
  generalize hAe : va_A [(h0, eM h1 h2 th rf kn), (h1, eMR true hc1 a1), (hc1, eA cy f1), (h2, eMR false hc2 a2), (hc2, eA cy f2)] s.heap.size = A at hD hAN ⊢
  have hA : ∀ q : Nat, s.heap.size ≤ q → A q := fun q h => by rw [← hAe]; exact Or.inr h
  have hS : va_S A s.heap s.heap [] := va_S.rf
  have hP : va_P (dC, dI) xCl [(h0, eM h1 h2 th rf kn), (h1, eMR true hc1 a1), (hc1, eA cy f1), (h2, eMR false hc2 a2), (hc2, eA cy f2)] s.heap := hP
  have hl := lv_entry ([.ref h0, .int (b2i p0), .int p1]) (n := 3) (Nat.le_of_ble_eq_true rfl)
  rw [lg_entry_eq]
  generalize (lg_sl ([.ref h0, .int (b2i p0), .int p1]) ++ List.replicate (3 - (lg_sl ([.ref h0, .int (b2i p0), .int p1])).length) Slot.unset).toArray = ls at hl ⊢
  have hl : lv_has ls 3 [(0, .ref h0), (1, .int (b2i p0)), (2, .int p1)] := hl
  refine lv_aload_n hx hb dX5_wideEnd_0 rfl (lv_at hl 0 rfl) ?_
  refine lv_aload_n hx hb dX5_wideEnd_1 rfl (lv_at hl 0 rfl) ?_
  refine va_get (D := (dC, dI)) (ci := 7) (v := .ref h1) (C := RX5) (T := TX5) (N := 5) hx hb hts (by decide +kernel) hown hK hP 0 rfl rfl 0 (by decide +kernel) (hts (.fieldLink RX5 16 "EdgefloatsModel" "wide" "LEdgefloatsModel$Row;") (by decide +kernel)) (fun _ h9 => h9) rfl dX5_wideEnd_2 ?_
  refine lv_iload_n hx hb dX5_wideEnd_5 rfl (lv_at hl 1 rfl) ?_
  refine lv_iload_n hx hb dX5_wideEnd_6 rfl (lv_at hl 2 rfl) ?_
  have hPc := hP.sub (ws' := [(h0, eM h1 h2 th rf kn), (h1, eMR true hc1 a1), (hc1, eA cy f1)]) [0, 1, 2] rfl
  have hDc := hD.sub (ws' := [(h0, eM h1 h2 th rf kn), (h1, eMR true hc1 a1), (hc1, eA cy f1)]) [0, 1, 2] (by decide +kernel) rfl
  have hKc := hK.sub (tys' := [(cy, .long)]) [0] rfl
  have hFc := va_free (wc := [(h0, eM h1 h2 th rf kn), (h1, eMR true hc1 a1), (hc1, eA cy f1)]) hD hS hA [0, 1, 2] rfl
  refine va_calli (va_runV (As := [.ref h1, .int (b2i p0), .int p1]) (rest := []) ⟨hx, hb, hml, hown, hts⟩ (k_X5_end l dC dI cy h0 h1 h2 h1 hc1 true a1 f1 th rf kn s.heap.size N p0 p1) (cwV 3 hts gX5_wideEnd_X5_end rfl rfl rfl (by decide +kernel) ⟨Nat.le_of_ble_eq_true rfl, Nat.le_of_ble_eq_true rfl⟩) (xM.preV hKc hPc hDc hAN (Nat.le_trans hN hS.1) (hG.kept hS hAN) (ci := 7) (q0 := 0) rfl rfl) rfl rfl hl.1 rfl (lv_room (Nat.le_of_ble_eq_true rfl)) dX5_wideEnd_7 ⟨Nat.le_of_ble_eq_true rfl, Nat.le_of_ble_eq_true rfl⟩) hS (fun q _ h => hFc q h) hFc (fun r_1 u t H locs ht hvm hw hB hz hk hS => ?_)
  replace hw : r_1 = (o_X5_end true a1 f1 p0 p1).1 := hw
  subst r_1
  obtain ⟨hP1, hD1⟩ := hB
  rw [ht] at hP1
  obtain ⟨hP, hD⟩ := va_join (wr := [(h2, eMR false hc2 a2), (hc2, eA cy f2)]) (w1 := [(h0, eM h1 h2 (o_X5_end true a1 f1 p0 p1).2.2.2 rf kn), (h1, eMR true hc1 (o_X5_end true a1 f1 p0 p1).2.1), (hc1, eA cy (o_X5_end true a1 f1 p0 p1).2.2.1)]) hP hD [0, 1, 2] [3, 4] rfl rfl (by decide +kernel) (by decide +kernel) hk hFc hP1 hD1
  have hP := hP.sub (ws' := [(h0, eM h1 h2 (o_X5_end true a1 f1 p0 p1).2.2.2 rf kn), (h1, eMR true hc1 (o_X5_end true a1 f1 p0 p1).2.1), (hc1, eA cy (o_X5_end true a1 f1 p0 p1).2.2.1), (h2, eMR false hc2 a2), (hc2, eA cy f2)]) [2, 3, 4, 0, 1] rfl
  have hD := hD.sub (ws' := [(h0, eM h1 h2 (o_X5_end true a1 f1 p0 p1).2.2.2 rf kn), (h1, eMR true hc1 (o_X5_end true a1 f1 p0 p1).2.1), (hc1, eA cy (o_X5_end true a1 f1 p0 p1).2.2.1), (h2, eMR false hc2 a2), (hc2, eA cy f2)]) [2, 3, 4, 0, 1] (by decide +kernel) rfl
  have he : o_X5_wideEnd a1 f1 p0 p1 = ((o_X5_end true a1 f1 p0 p1).1, (o_X5_end true a1 f1 p0 p1).2.1, (o_X5_end true a1 f1 p0 p1).2.2.1, (o_X5_end true a1 f1 p0 p1).2.2.2) := by (rw [o_X5_wideEnd]) <;> rfl
  refine W.widen (k := 0) (n := 0) (by omega) (by omega) ?_
  exact W.iret (v := ((o_X5_end true a1 f1 p0 p1).1)) hx hb hr (fun t ht hW => ⟨⟨_, (), rfl, (by (rw [he]) <;> rfl), (by rw [he]; exact ⟨by rw [ht]; exact hP, hD⟩)⟩, hS.F ht⟩) hS.2.2 dX5_wideEnd_10
theorem cl_X5_upper_1 : ∀ w ∈ [.fieldLink RX5 16 "EdgefloatsModel" "wide" "LEdgefloatsModel$Row;", .fieldLink RX5 74 "EdgefloatsModel$Row" "cells" "[J", .methodLink RX5 35 yX5_isNo, .static yX5_isNo, .initialized RX5, .code yX5_isNo cX5_isNo 1 (some .boolean), .methodLink RX5 31 yX5_isIn, .static yX5_isIn, .code yX5_isIn cX5_isIn 3 (some .boolean), .methodLink RX5 42 yX5_fails, .instanceMethod yX5_fails, .selects RX5 yX5_fails yX5_fails, .code yX5_fails cX5_fails 3 (some .boolean), .fieldLink RX5 27 "EdgefloatsModel" "thrown" "I"], w ∈ wsX5_upper := fun _ h => (List.mem_cons_of_mem _ (List.mem_append_left _ (List.mem_append_left _ h)))
theorem cl_X5_upper_2 : ∀ w ∈ wsX50, w ∈ wsX5_upper := fun _ h => (List.mem_cons_of_mem _ (List.mem_append_left _ (List.mem_append_right _ h)))
theorem cl_X5_upper_3 : ∀ w ∈ wsX40, w ∈ wsX5_upper := fun _ h => (List.mem_cons_of_mem _ (List.mem_append_right _ h))
set_option maxRecDepth 20000 in
theorem ggX5_upper_X5_isNo : GoodIn wsX5_upper wsX5_isNo := goodIn_sub (List.forall_mem_cons.mpr ⟨(cl_X5_upper_1 _ (List.mem_of_getElem? (i := 5) rfl)), List.forall_mem_cons.mpr ⟨(cl_X5_upper_1 _ (List.mem_of_getElem? (i := 6) rfl)), List.forall_mem_cons.mpr ⟨(cl_X5_upper_1 _ (List.mem_of_getElem? (i := 7) rfl)), List.forall_mem_cons.mpr ⟨(cl_X5_upper_1 _ (List.mem_of_getElem? (i := 4) rfl)), List.forall_mem_cons.mpr ⟨(cl_X5_upper_1 _ (List.mem_of_getElem? (i := 8) rfl)), fun _ h => absurd h List.not_mem_nil⟩⟩⟩⟩⟩) (by decide +kernel)
set_option maxRecDepth 20000 in
theorem gX5_upper_X5_isNo : GoodIn wsX5_upper (va_wsS RX5 35 yX5_isNo wsX5_isNo) := goodIn_app (goodIn_sub (List.forall_mem_cons.mpr ⟨(cl_X5_upper_1 _ (List.mem_of_getElem? (i := 2) rfl)), List.forall_mem_cons.mpr ⟨(cl_X5_upper_1 _ (List.mem_of_getElem? (i := 3) rfl)), List.forall_mem_cons.mpr ⟨(cl_X5_upper_1 _ (List.mem_of_getElem? (i := 4) rfl)), fun _ h => absurd h List.not_mem_nil⟩⟩⟩) (by decide +kernel)) ggX5_upper_X5_isNo
set_option maxRecDepth 20000 in
theorem ggX5_upper_X5_fails : GoodIn wsX5_upper wsX5_fails := goodIn_sub (List.forall_mem_cons.mpr ⟨(cl_X5_upper_1 _ (List.mem_of_getElem? (i := 12) rfl)), fun w h => (List.mem_append.mp h).elim ((List.forall_mem_cons.mpr ⟨(cl_X5_upper_1 _ (List.mem_of_getElem? (i := 13) rfl)), fun _ h => absurd h List.not_mem_nil⟩) w) ((cl_X5_upper_2) w)⟩) (by decide +kernel)
set_option maxRecDepth 20000 in
theorem gX5_upper_X5_fails : GoodIn wsX5_upper (wsV RX5 42 RX5 yX5_fails wsX5_fails) := goodIn_app (goodIn_sub (List.forall_mem_cons.mpr ⟨(cl_X5_upper_1 _ (List.mem_of_getElem? (i := 9) rfl)), List.forall_mem_cons.mpr ⟨(cl_X5_upper_1 _ (List.mem_of_getElem? (i := 10) rfl)), List.forall_mem_cons.mpr ⟨(cl_X5_upper_1 _ (List.mem_of_getElem? (i := 11) rfl)), List.forall_mem_cons.mpr ⟨(cl_X5_upper_1 _ (List.mem_of_getElem? (i := 4) rfl)), fun _ h => absurd h List.not_mem_nil⟩⟩⟩⟩) (by decide +kernel)) ggX5_upper_X5_fails
noncomputable def dz_p10_12 : List (Nat × Instr × Nat) := [(0, (.aload_n 0, 1)), (1, (.iload_n 1, 1)), (2, (.invokestatic 35, 3)), (5, (.iconst 0, 1)), (6, (.invokevirtual 42, 3)), (9, (.ifCond .eq 7, 3)), (12, (.iconst 0, 1)), (13, (.goto 16, 3)), (16, (.aload_n 0, 1)), (17, (.getfield 16, 3)), (20, (.getfield 74, 3)), (23, (.iload_n 1, 1)), (24, (.laload, 1)), (25, (.bipush 32, 2)), (27, (.lshr, 1)), (28, (.l2i, 1)), (29, (.ireturn, 1))]
theorem dy_p10_12 : dz_ok cX5_upper dz_p10_12 = true := by decide +kernel
theorem dX5_upper_0 : decode cX5_upper 0 = .ok (.aload_n 0, 1) := dz_at (i := 0) dy_p10_12 rfl
theorem dX5_upper_1 : decode cX5_upper 1 = .ok (.iload_n 1, 1) := dz_at (i := 1) dy_p10_12 rfl
theorem dX5_upper_2 : decode cX5_upper 2 = .ok (.invokestatic 35, 3) := dz_at (i := 2) dy_p10_12 rfl
theorem dX5_upper_5 : decode cX5_upper 5 = .ok (.iconst 0, 1) := dz_at (i := 3) dy_p10_12 rfl
theorem dX5_upper_6 : decode cX5_upper 6 = .ok (.invokevirtual 42, 3) := dz_at (i := 4) dy_p10_12 rfl
theorem dX5_upper_9 : decode cX5_upper 9 = .ok (.ifCond .eq 7, 3) := dz_at (i := 5) dy_p10_12 rfl
theorem dX5_upper_12 : decode cX5_upper 12 = .ok (.iconst 0, 1) := dz_at (i := 6) dy_p10_12 rfl
theorem dX5_upper_13 : decode cX5_upper 13 = .ok (.goto 16, 3) := dz_at (i := 7) dy_p10_12 rfl
theorem dX5_upper_16 : decode cX5_upper 16 = .ok (.aload_n 0, 1) := dz_at (i := 8) dy_p10_12 rfl
theorem dX5_upper_17 : decode cX5_upper 17 = .ok (.getfield 16, 3) := dz_at (i := 9) dy_p10_12 rfl
theorem dX5_upper_20 : decode cX5_upper 20 = .ok (.getfield 74, 3) := dz_at (i := 10) dy_p10_12 rfl
theorem dX5_upper_23 : decode cX5_upper 23 = .ok (.iload_n 1, 1) := dz_at (i := 11) dy_p10_12 rfl
theorem dX5_upper_24 : decode cX5_upper 24 = .ok (.laload, 1) := dz_at (i := 12) dy_p10_12 rfl
theorem dX5_upper_25 : decode cX5_upper 25 = .ok (.bipush 32, 2) := dz_at (i := 13) dy_p10_12 rfl
theorem dX5_upper_27 : decode cX5_upper 27 = .ok (.lshr, 1) := dz_at (i := 14) dy_p10_12 rfl
theorem dX5_upper_28 : decode cX5_upper 28 = .ok (.l2i, 1) := dz_at (i := 15) dy_p10_12 rfl
theorem dX5_upper_29 : decode cX5_upper 29 = .ok (.ireturn, 1) := dz_at (i := 16) dy_p10_12 rfl
noncomputable def o_X5_upper (f1 : Nat → Int64) (p0 : Int32) : Int32 × Int32 :=
  if (o_X5_fails (o_X5_isNo p0) false).1 = true then (0, (o_X5_fails (o_X5_isNo p0) false).2)
  else (((jLshr (f1 p0.toNatClampNeg) 32).toInt32), (o_X5_fails (o_X5_isNo p0) false).2)
set_option maxHeartbeats 4000000 in
set_option maxRecDepth 100000 in
theorem k_X5_upper (l : Launch) (dC : Nat → ClassId) (dI : Nat → Nat → Nat) (cy : ClassId) (h0 : Nat) (h1 : Nat) (hc1 : Nat) (h2 : Nat) (hc2 : Nat) (a1 : Int32) (f1 : Nat → Int64) (a2 : Int32) (f2 : Nat → Int64) (th : Int32) (rf : Int32) (kn : Int32) (sz : Nat) (N : Nat) (p0 : Int32) : Met l yX5_upper wsX5_upper ({ frames := 2, cells := 0, slots := 0, locals := 42 }) (va_Pc [.ref h0, .int p0] (xM (dC, dI) xCl [(h0, eM h1 h2 th rf kn), (h1, eMR true hc1 a1), (hc1, eA cy f1), (h2, eMR false hc2 a2), (hc2, eA cy f2)] [(cy, .long)] sz N)) (va_Qi (fun (r : Int32) (_ : Unit) => r = (o_X5_upper f1 p0).1) (fun _ t => xW (dC, dI) xCl [(h0, eM h1 h2 (o_X5_upper f1 p0).2 rf kn), (h1, eMR true hc1 a1), (hc1, eA cy f1), (h2, eMR false hc2 a2), (hc2, eA cy f2)] (va_A [(h0, eM h1 h2 th rf kn), (h1, eMR true hc1 a1), (hc1, eA cy f1), (h2, eMR false hc2 a2), (hc2, eA cy f2)] sz) t) (va_A [(h0, eM h1 h2 th rf kn), (h1, eMR true hc1 a1), (hc1, eA cy f1), (h2, eMR false hc2 a2), (hc2, eA cy f2)] sz)) 0 0 (va_A [(h0, eM h1 h2 th rf kn), (h1, eMR true hc1 a1), (hc1, eA cy f1), (h2, eMR false hc2 a2), (hc2, eA cy f2)] sz) := by
  refine Met.ofW (cc := cX5_upper) (maxL := 2) (ret := (some .int)) (by decide +kernel) rfl ?_
  intro p e s m args below meth c s₁ B hml hv
  obtain ⟨rfl, hsz, hP, hK, hD0, hN, hG⟩ := hv
  have hx := B.exec
  have hb := B.bytes
  have hr := B.returns
  have hts := atoms_spec (ws := wsX5_upper) B.pre
  have hown : s.vm.findClass RX5 = some m.cls := findClass_of_methodNamed B.named
  have hlocks := B.notSynchronized
  subst hsz
  have hAN : ∀ q, va_A [(h0, eM h1 h2 th rf kn), (h1, eMR true hc1 a1), (hc1, eA cy f1), (h2, eMR false hc2 a2), (hc2, eA cy f2)] s.heap.size q → N ≤ q := xA_N hD0 hN
  have hD := hD0.self (sz := s.heap.size)
  generalize hAe : va_A [(h0, eM h1 h2 th rf kn), (h1, eMR true hc1 a1), (hc1, eA cy f1), (h2, eMR false hc2 a2), (hc2, eA cy f2)] s.heap.size = A at hD hAN ⊢
  have hA : ∀ q : Nat, s.heap.size ≤ q → A q := fun q h => by rw [← hAe]; exact Or.inr h
  have hS : va_S A s.heap s.heap [] := va_S.rf
  have hP : va_P (dC, dI) xCl [(h0, eM h1 h2 th rf kn), (h1, eMR true hc1 a1), (hc1, eA cy f1), (h2, eMR false hc2 a2), (hc2, eA cy f2)] s.heap := hP
  have hl := lv_entry ([.ref h0, .int p0]) (n := 2) (Nat.le_of_ble_eq_true rfl)
  rw [lg_entry_eq]
  generalize (lg_sl ([.ref h0, .int p0]) ++ List.replicate (2 - (lg_sl ([.ref h0, .int p0])).length) Slot.unset).toArray = ls at hl ⊢
  have hl : lv_has ls 2 [(0, .ref h0), (1, .int p0)] := hl
  refine lv_aload_n hx hb dX5_upper_0 rfl (lv_at hl 0 rfl) ?_
  refine lv_iload_n hx hb dX5_upper_1 rfl (lv_at hl 1 rfl) ?_
  have hPc := hP.sub (ws' := []) [] rfl
  have hKc := hK.sub (tys' := []) [] rfl
  refine va_calli (va_runS (As := [.int p0]) (rest := [.ref h0]) ⟨hx, hb, hml, hown, hts⟩ (k_X5_isNo l dC dI s.heap.size p0) (va_cwS 1 hts gX5_upper_X5_isNo rfl rfl rfl (by decide +kernel) ⟨Nat.le_of_ble_eq_true rfl, Nat.le_of_ble_eq_true rfl⟩) (xB.preS hKc hPc) rfl rfl hl.1 rfl (lv_room (Nat.le_of_ble_eq_true rfl)) dX5_upper_2 ⟨Nat.le_of_ble_eq_true rfl, Nat.le_of_ble_eq_true rfl⟩) hS xA_old (fun q h => hA q (Nat.le_trans hS.1 h)) (fun r_1 u t H locs ht hvm hw hB hz hk hS => ?_)
  replace hw : r_1 = b2i (o_X5_isNo p0) := hw
  subst r_1
  have hP := xP_keep hP hk
  refine lv_iconst (v := 0) hx hb dX5_upper_5 (by decide +kernel) ?_
  have hPc := hP.sub (ws' := [(h0, eM h1 h2 th rf kn)]) [0] rfl
  have hDc := hD.sub (ws' := [(h0, eM h1 h2 th rf kn)]) [0] (by decide +kernel) rfl
  have hKc := hK.sub (tys' := []) [] rfl
  have hFc := va_free (wc := [(h0, eM h1 h2 th rf kn)]) hD hS hA [0] rfl
  refine va_calli (va_runV (As := [.int (b2i (o_X5_isNo p0)), .int 0]) (rest := []) ⟨hx, hb, hml, hown, hts⟩ (k_X5_fails l dC dI h0 h1 h2 th rf kn H.size N (o_X5_isNo p0) false) (cwV 2 hts gX5_upper_X5_fails rfl rfl rfl (by decide +kernel) ⟨Nat.le_of_ble_eq_true rfl, Nat.le_of_ble_eq_true rfl⟩) (xM.preV hKc hPc hDc hAN (Nat.le_trans hN hS.1) (hG.kept hS hAN) (ci := 7) (q0 := 0) rfl rfl) rfl rfl hl.1 rfl (lv_room (Nat.le_of_ble_eq_true rfl)) dX5_upper_6 ⟨Nat.le_of_ble_eq_true rfl, Nat.le_of_ble_eq_true rfl⟩) hS (fun q _ h => hFc q h) hFc (fun r_2 u t H locs ht hvm hw hB hz hk hS => ?_)
  replace hw : r_2 = b2i ((o_X5_fails (o_X5_isNo p0) false).1) := hw
  subst r_2
  obtain ⟨hP1, hD1⟩ := hB
  rw [ht] at hP1
  obtain ⟨hP, hD⟩ := va_join (wr := [(h1, eMR true hc1 a1), (hc1, eA cy f1), (h2, eMR false hc2 a2), (hc2, eA cy f2)]) (w1 := [(h0, eM h1 h2 (o_X5_fails (o_X5_isNo p0) false).2 rf kn)]) hP hD [0] [1, 2, 3, 4] rfl rfl (by decide +kernel) (by decide +kernel) hk hFc hP1 hD1
  have hP := hP.sub (ws' := [(h0, eM h1 h2 (o_X5_fails (o_X5_isNo p0) false).2 rf kn), (h1, eMR true hc1 a1), (hc1, eA cy f1), (h2, eMR false hc2 a2), (hc2, eA cy f2)]) [4, 0, 1, 2, 3] rfl
  have hD := hD.sub (ws' := [(h0, eM h1 h2 (o_X5_fails (o_X5_isNo p0) false).2 rf kn), (h1, eMR true hc1 a1), (hc1, eA cy f1), (h2, eMR false hc2 a2), (hc2, eA cy f2)]) [4, 0, 1, 2, 3] (by decide +kernel) rfl
  refine xz_eq (tgt := 16) hx hb dX5_upper_9 (by decide +kernel) (fun c_3 => ?_) (fun c_3 => ?_)
  · skip
    refine lv_aload_n hx hb dX5_upper_16 rfl (lv_at hl 0 rfl) ?_
    refine va_get (D := (dC, dI)) (ci := 7) (v := .ref h1) (C := RX5) (T := TX5) (N := 5) hx hb hts (by decide +kernel) hown hK hP 0 rfl rfl 0 (by decide +kernel) (hts (.fieldLink RX5 16 "EdgefloatsModel" "wide" "LEdgefloatsModel$Row;") (by decide +kernel)) (fun _ h9 => h9) rfl dX5_upper_17 ?_
    refine va_get (D := (dC, dI)) (ci := 6) (v := .ref hc1) (C := RX4) (T := TX4) (N := 5) hx hb hts (by decide +kernel) hown hK hP 1 rfl rfl 3 (by decide +kernel) (hts (.fieldLink RX5 74 "EdgefloatsModel$Row" "cells" "[J") (by decide +kernel)) (fun _ h9 => h9) rfl dX5_upper_20 ?_
    refine lv_iload_n hx hb dX5_upper_23 rfl (lv_at hl 1 rfl) ?_
    refine xa_lald hx hb hK hP 2 0 (f := f1) rfl rfl (k := p0.toNatClampNeg) (xm_isNo (xm_fails c_3)) rfl dX5_upper_24 ?_
    refine lv_bipush (v := 32) hx hb dX5_upper_25 (by decide +kernel) ?_
    refine lv_lshr (v := (jLshr (f1 p0.toNatClampNeg) 32)) hx hb dX5_upper_27 rfl ?_
    refine lv_l2i (v := ((jLshr (f1 p0.toNatClampNeg) 32).toInt32)) hx hb dX5_upper_28 rfl ?_
    have he : o_X5_upper f1 p0 = (((jLshr (f1 p0.toNatClampNeg) 32).toInt32), (o_X5_fails (o_X5_isNo p0) false).2) := by (rw [o_X5_upper, if_neg c_3]) <;> rfl
    refine W.widen (k := 0) (n := 0) (by omega) (by omega) ?_
    exact W.iret (v := ((jLshr (f1 p0.toNatClampNeg) 32).toInt32)) hx hb hr (fun t ht hW => ⟨⟨_, (), rfl, (by (rw [he]) <;> rfl), (by rw [he]; exact ⟨by rw [ht]; exact hP, hD⟩)⟩, hS.F ht⟩) hS.2.2 dX5_upper_29
  · skip
    refine lv_iconst (v := 0) hx hb dX5_upper_12 (by decide +kernel) ?_
    refine lv_goto (tgt := 29) hx hb dX5_upper_13 (by decide +kernel) ?_
    have he : o_X5_upper f1 p0 = (0, (o_X5_fails (o_X5_isNo p0) false).2) := by (rw [o_X5_upper, if_pos c_3]) <;> rfl
    refine W.widen (k := 0) (n := 0) (by omega) (by omega) ?_
    exact W.iret (v := 0) hx hb hr (fun t ht hW => ⟨⟨_, (), rfl, (by (rw [he]) <;> rfl), (by rw [he]; exact ⟨by rw [ht]; exact hP, hD⟩)⟩, hS.F ht⟩) hS.2.2 dX5_upper_29
theorem cl_X5_lower_1 : ∀ w ∈ [.fieldLink RX5 16 "EdgefloatsModel" "wide" "LEdgefloatsModel$Row;", .fieldLink RX5 74 "EdgefloatsModel$Row" "cells" "[J", .methodLink RX5 35 yX5_isNo, .static yX5_isNo, .initialized RX5, .code yX5_isNo cX5_isNo 1 (some .boolean), .methodLink RX5 31 yX5_isIn, .static yX5_isIn, .code yX5_isIn cX5_isIn 3 (some .boolean), .methodLink RX5 42 yX5_fails, .instanceMethod yX5_fails, .selects RX5 yX5_fails yX5_fails, .code yX5_fails cX5_fails 3 (some .boolean), .fieldLink RX5 27 "EdgefloatsModel" "thrown" "I"], w ∈ wsX5_lower := fun _ h => (List.mem_cons_of_mem _ (List.mem_append_left _ (List.mem_append_left _ h)))
theorem cl_X5_lower_2 : ∀ w ∈ wsX50, w ∈ wsX5_lower := fun _ h => (List.mem_cons_of_mem _ (List.mem_append_left _ (List.mem_append_right _ h)))
theorem cl_X5_lower_3 : ∀ w ∈ wsX40, w ∈ wsX5_lower := fun _ h => (List.mem_cons_of_mem _ (List.mem_append_right _ h))
set_option maxRecDepth 20000 in
theorem ggX5_lower_X5_isNo : GoodIn wsX5_lower wsX5_isNo := goodIn_sub (List.forall_mem_cons.mpr ⟨(cl_X5_lower_1 _ (List.mem_of_getElem? (i := 5) rfl)), List.forall_mem_cons.mpr ⟨(cl_X5_lower_1 _ (List.mem_of_getElem? (i := 6) rfl)), List.forall_mem_cons.mpr ⟨(cl_X5_lower_1 _ (List.mem_of_getElem? (i := 7) rfl)), List.forall_mem_cons.mpr ⟨(cl_X5_lower_1 _ (List.mem_of_getElem? (i := 4) rfl)), List.forall_mem_cons.mpr ⟨(cl_X5_lower_1 _ (List.mem_of_getElem? (i := 8) rfl)), fun _ h => absurd h List.not_mem_nil⟩⟩⟩⟩⟩) (by decide +kernel)
set_option maxRecDepth 20000 in
theorem gX5_lower_X5_isNo : GoodIn wsX5_lower (va_wsS RX5 35 yX5_isNo wsX5_isNo) := goodIn_app (goodIn_sub (List.forall_mem_cons.mpr ⟨(cl_X5_lower_1 _ (List.mem_of_getElem? (i := 2) rfl)), List.forall_mem_cons.mpr ⟨(cl_X5_lower_1 _ (List.mem_of_getElem? (i := 3) rfl)), List.forall_mem_cons.mpr ⟨(cl_X5_lower_1 _ (List.mem_of_getElem? (i := 4) rfl)), fun _ h => absurd h List.not_mem_nil⟩⟩⟩) (by decide +kernel)) ggX5_lower_X5_isNo
set_option maxRecDepth 20000 in
theorem ggX5_lower_X5_fails : GoodIn wsX5_lower wsX5_fails := goodIn_sub (List.forall_mem_cons.mpr ⟨(cl_X5_lower_1 _ (List.mem_of_getElem? (i := 12) rfl)), fun w h => (List.mem_append.mp h).elim ((List.forall_mem_cons.mpr ⟨(cl_X5_lower_1 _ (List.mem_of_getElem? (i := 13) rfl)), fun _ h => absurd h List.not_mem_nil⟩) w) ((cl_X5_lower_2) w)⟩) (by decide +kernel)
set_option maxRecDepth 20000 in
theorem gX5_lower_X5_fails : GoodIn wsX5_lower (wsV RX5 42 RX5 yX5_fails wsX5_fails) := goodIn_app (goodIn_sub (List.forall_mem_cons.mpr ⟨(cl_X5_lower_1 _ (List.mem_of_getElem? (i := 9) rfl)), List.forall_mem_cons.mpr ⟨(cl_X5_lower_1 _ (List.mem_of_getElem? (i := 10) rfl)), List.forall_mem_cons.mpr ⟨(cl_X5_lower_1 _ (List.mem_of_getElem? (i := 11) rfl)), List.forall_mem_cons.mpr ⟨(cl_X5_lower_1 _ (List.mem_of_getElem? (i := 4) rfl)), fun _ h => absurd h List.not_mem_nil⟩⟩⟩⟩) (by decide +kernel)) ggX5_lower_X5_fails
noncomputable def dz_p10_13 : List (Nat × Instr × Nat) := [(0, (.aload_n 0, 1)), (1, (.iload_n 1, 1)), (2, (.invokestatic 35, 3)), (5, (.iconst 0, 1)), (6, (.invokevirtual 42, 3)), (9, (.ifCond .eq 7, 3)), (12, (.iconst 0, 1)), (13, (.goto 13, 3)), (16, (.aload_n 0, 1)), (17, (.getfield 16, 3)), (20, (.getfield 74, 3)), (23, (.iload_n 1, 1)), (24, (.laload, 1)), (25, (.l2i, 1)), (26, (.ireturn, 1))]
theorem dy_p10_13 : dz_ok cX5_lower dz_p10_13 = true := by decide +kernel
theorem dX5_lower_0 : decode cX5_lower 0 = .ok (.aload_n 0, 1) := dz_at (i := 0) dy_p10_13 rfl
theorem dX5_lower_1 : decode cX5_lower 1 = .ok (.iload_n 1, 1) := dz_at (i := 1) dy_p10_13 rfl
theorem dX5_lower_2 : decode cX5_lower 2 = .ok (.invokestatic 35, 3) := dz_at (i := 2) dy_p10_13 rfl
theorem dX5_lower_5 : decode cX5_lower 5 = .ok (.iconst 0, 1) := dz_at (i := 3) dy_p10_13 rfl
theorem dX5_lower_6 : decode cX5_lower 6 = .ok (.invokevirtual 42, 3) := dz_at (i := 4) dy_p10_13 rfl
theorem dX5_lower_9 : decode cX5_lower 9 = .ok (.ifCond .eq 7, 3) := dz_at (i := 5) dy_p10_13 rfl
theorem dX5_lower_12 : decode cX5_lower 12 = .ok (.iconst 0, 1) := dz_at (i := 6) dy_p10_13 rfl
theorem dX5_lower_13 : decode cX5_lower 13 = .ok (.goto 13, 3) := dz_at (i := 7) dy_p10_13 rfl
theorem dX5_lower_16 : decode cX5_lower 16 = .ok (.aload_n 0, 1) := dz_at (i := 8) dy_p10_13 rfl
theorem dX5_lower_17 : decode cX5_lower 17 = .ok (.getfield 16, 3) := dz_at (i := 9) dy_p10_13 rfl
theorem dX5_lower_20 : decode cX5_lower 20 = .ok (.getfield 74, 3) := dz_at (i := 10) dy_p10_13 rfl
theorem dX5_lower_23 : decode cX5_lower 23 = .ok (.iload_n 1, 1) := dz_at (i := 11) dy_p10_13 rfl
theorem dX5_lower_24 : decode cX5_lower 24 = .ok (.laload, 1) := dz_at (i := 12) dy_p10_13 rfl
theorem dX5_lower_25 : decode cX5_lower 25 = .ok (.l2i, 1) := dz_at (i := 13) dy_p10_13 rfl
theorem dX5_lower_26 : decode cX5_lower 26 = .ok (.ireturn, 1) := dz_at (i := 14) dy_p10_13 rfl
noncomputable def o_X5_lower (f1 : Nat → Int64) (p0 : Int32) : Int32 × Int32 :=
  if (o_X5_fails (o_X5_isNo p0) false).1 = true then (0, (o_X5_fails (o_X5_isNo p0) false).2)
  else (((f1 p0.toNatClampNeg).toInt32), (o_X5_fails (o_X5_isNo p0) false).2)
set_option maxHeartbeats 4000000 in
set_option maxRecDepth 100000 in
theorem k_X5_lower (l : Launch) (dC : Nat → ClassId) (dI : Nat → Nat → Nat) (cy : ClassId) (h0 : Nat) (h1 : Nat) (hc1 : Nat) (h2 : Nat) (hc2 : Nat) (a1 : Int32) (f1 : Nat → Int64) (a2 : Int32) (f2 : Nat → Int64) (th : Int32) (rf : Int32) (kn : Int32) (sz : Nat) (N : Nat) (p0 : Int32) : Met l yX5_lower wsX5_lower ({ frames := 2, cells := 0, slots := 0, locals := 42 }) (va_Pc [.ref h0, .int p0] (xM (dC, dI) xCl [(h0, eM h1 h2 th rf kn), (h1, eMR true hc1 a1), (hc1, eA cy f1), (h2, eMR false hc2 a2), (hc2, eA cy f2)] [(cy, .long)] sz N)) (va_Qi (fun (r : Int32) (_ : Unit) => r = (o_X5_lower f1 p0).1) (fun _ t => xW (dC, dI) xCl [(h0, eM h1 h2 (o_X5_lower f1 p0).2 rf kn), (h1, eMR true hc1 a1), (hc1, eA cy f1), (h2, eMR false hc2 a2), (hc2, eA cy f2)] (va_A [(h0, eM h1 h2 th rf kn), (h1, eMR true hc1 a1), (hc1, eA cy f1), (h2, eMR false hc2 a2), (hc2, eA cy f2)] sz) t) (va_A [(h0, eM h1 h2 th rf kn), (h1, eMR true hc1 a1), (hc1, eA cy f1), (h2, eMR false hc2 a2), (hc2, eA cy f2)] sz)) 0 0 (va_A [(h0, eM h1 h2 th rf kn), (h1, eMR true hc1 a1), (hc1, eA cy f1), (h2, eMR false hc2 a2), (hc2, eA cy f2)] sz) := by
  refine Met.ofW (cc := cX5_lower) (maxL := 2) (ret := (some .int)) (by decide +kernel) rfl ?_
  intro p e s m args below meth c s₁ B hml hv
  obtain ⟨rfl, hsz, hP, hK, hD0, hN, hG⟩ := hv
  have hx := B.exec
  have hb := B.bytes
  have hr := B.returns
  have hts := atoms_spec (ws := wsX5_lower) B.pre
  have hown : s.vm.findClass RX5 = some m.cls := findClass_of_methodNamed B.named
  have hlocks := B.notSynchronized
  subst hsz
  have hAN : ∀ q, va_A [(h0, eM h1 h2 th rf kn), (h1, eMR true hc1 a1), (hc1, eA cy f1), (h2, eMR false hc2 a2), (hc2, eA cy f2)] s.heap.size q → N ≤ q := xA_N hD0 hN
  have hD := hD0.self (sz := s.heap.size)
  generalize hAe : va_A [(h0, eM h1 h2 th rf kn), (h1, eMR true hc1 a1), (hc1, eA cy f1), (h2, eMR false hc2 a2), (hc2, eA cy f2)] s.heap.size = A at hD hAN ⊢
  have hA : ∀ q : Nat, s.heap.size ≤ q → A q := fun q h => by rw [← hAe]; exact Or.inr h
  have hS : va_S A s.heap s.heap [] := va_S.rf
  have hP : va_P (dC, dI) xCl [(h0, eM h1 h2 th rf kn), (h1, eMR true hc1 a1), (hc1, eA cy f1), (h2, eMR false hc2 a2), (hc2, eA cy f2)] s.heap := hP
  have hl := lv_entry ([.ref h0, .int p0]) (n := 2) (Nat.le_of_ble_eq_true rfl)
  rw [lg_entry_eq]
  generalize (lg_sl ([.ref h0, .int p0]) ++ List.replicate (2 - (lg_sl ([.ref h0, .int p0])).length) Slot.unset).toArray = ls at hl ⊢
  have hl : lv_has ls 2 [(0, .ref h0), (1, .int p0)] := hl
  refine lv_aload_n hx hb dX5_lower_0 rfl (lv_at hl 0 rfl) ?_
  refine lv_iload_n hx hb dX5_lower_1 rfl (lv_at hl 1 rfl) ?_
  have hPc := hP.sub (ws' := []) [] rfl
  have hKc := hK.sub (tys' := []) [] rfl
  refine va_calli (va_runS (As := [.int p0]) (rest := [.ref h0]) ⟨hx, hb, hml, hown, hts⟩ (k_X5_isNo l dC dI s.heap.size p0) (va_cwS 1 hts gX5_lower_X5_isNo rfl rfl rfl (by decide +kernel) ⟨Nat.le_of_ble_eq_true rfl, Nat.le_of_ble_eq_true rfl⟩) (xB.preS hKc hPc) rfl rfl hl.1 rfl (lv_room (Nat.le_of_ble_eq_true rfl)) dX5_lower_2 ⟨Nat.le_of_ble_eq_true rfl, Nat.le_of_ble_eq_true rfl⟩) hS xA_old (fun q h => hA q (Nat.le_trans hS.1 h)) (fun r_1 u t H locs ht hvm hw hB hz hk hS => ?_)
  replace hw : r_1 = b2i (o_X5_isNo p0) := hw
  subst r_1
  have hP := xP_keep hP hk
  refine lv_iconst (v := 0) hx hb dX5_lower_5 (by decide +kernel) ?_
  have hPc := hP.sub (ws' := [(h0, eM h1 h2 th rf kn)]) [0] rfl
  have hDc := hD.sub (ws' := [(h0, eM h1 h2 th rf kn)]) [0] (by decide +kernel) rfl
  have hKc := hK.sub (tys' := []) [] rfl
  have hFc := va_free (wc := [(h0, eM h1 h2 th rf kn)]) hD hS hA [0] rfl
  refine va_calli (va_runV (As := [.int (b2i (o_X5_isNo p0)), .int 0]) (rest := []) ⟨hx, hb, hml, hown, hts⟩ (k_X5_fails l dC dI h0 h1 h2 th rf kn H.size N (o_X5_isNo p0) false) (cwV 2 hts gX5_lower_X5_fails rfl rfl rfl (by decide +kernel) ⟨Nat.le_of_ble_eq_true rfl, Nat.le_of_ble_eq_true rfl⟩) (xM.preV hKc hPc hDc hAN (Nat.le_trans hN hS.1) (hG.kept hS hAN) (ci := 7) (q0 := 0) rfl rfl) rfl rfl hl.1 rfl (lv_room (Nat.le_of_ble_eq_true rfl)) dX5_lower_6 ⟨Nat.le_of_ble_eq_true rfl, Nat.le_of_ble_eq_true rfl⟩) hS (fun q _ h => hFc q h) hFc (fun r_2 u t H locs ht hvm hw hB hz hk hS => ?_)
  replace hw : r_2 = b2i ((o_X5_fails (o_X5_isNo p0) false).1) := hw
  subst r_2
  obtain ⟨hP1, hD1⟩ := hB
  rw [ht] at hP1
  obtain ⟨hP, hD⟩ := va_join (wr := [(h1, eMR true hc1 a1), (hc1, eA cy f1), (h2, eMR false hc2 a2), (hc2, eA cy f2)]) (w1 := [(h0, eM h1 h2 (o_X5_fails (o_X5_isNo p0) false).2 rf kn)]) hP hD [0] [1, 2, 3, 4] rfl rfl (by decide +kernel) (by decide +kernel) hk hFc hP1 hD1
  have hP := hP.sub (ws' := [(h0, eM h1 h2 (o_X5_fails (o_X5_isNo p0) false).2 rf kn), (h1, eMR true hc1 a1), (hc1, eA cy f1), (h2, eMR false hc2 a2), (hc2, eA cy f2)]) [4, 0, 1, 2, 3] rfl
  have hD := hD.sub (ws' := [(h0, eM h1 h2 (o_X5_fails (o_X5_isNo p0) false).2 rf kn), (h1, eMR true hc1 a1), (hc1, eA cy f1), (h2, eMR false hc2 a2), (hc2, eA cy f2)]) [4, 0, 1, 2, 3] (by decide +kernel) rfl
  refine xz_eq (tgt := 16) hx hb dX5_lower_9 (by decide +kernel) (fun c_3 => ?_) (fun c_3 => ?_)
  · skip
    refine lv_aload_n hx hb dX5_lower_16 rfl (lv_at hl 0 rfl) ?_
    refine va_get (D := (dC, dI)) (ci := 7) (v := .ref h1) (C := RX5) (T := TX5) (N := 5) hx hb hts (by decide +kernel) hown hK hP 0 rfl rfl 0 (by decide +kernel) (hts (.fieldLink RX5 16 "EdgefloatsModel" "wide" "LEdgefloatsModel$Row;") (by decide +kernel)) (fun _ h9 => h9) rfl dX5_lower_17 ?_
    refine va_get (D := (dC, dI)) (ci := 6) (v := .ref hc1) (C := RX4) (T := TX4) (N := 5) hx hb hts (by decide +kernel) hown hK hP 1 rfl rfl 3 (by decide +kernel) (hts (.fieldLink RX5 74 "EdgefloatsModel$Row" "cells" "[J") (by decide +kernel)) (fun _ h9 => h9) rfl dX5_lower_20 ?_
    refine lv_iload_n hx hb dX5_lower_23 rfl (lv_at hl 1 rfl) ?_
    refine xa_lald hx hb hK hP 2 0 (f := f1) rfl rfl (k := p0.toNatClampNeg) (xm_isNo (xm_fails c_3)) rfl dX5_lower_24 ?_
    refine lv_l2i (v := ((f1 p0.toNatClampNeg).toInt32)) hx hb dX5_lower_25 rfl ?_
    have he : o_X5_lower f1 p0 = (((f1 p0.toNatClampNeg).toInt32), (o_X5_fails (o_X5_isNo p0) false).2) := by (rw [o_X5_lower, if_neg c_3]) <;> rfl
    refine W.widen (k := 0) (n := 0) (by omega) (by omega) ?_
    exact W.iret (v := ((f1 p0.toNatClampNeg).toInt32)) hx hb hr (fun t ht hW => ⟨⟨_, (), rfl, (by (rw [he]) <;> rfl), (by rw [he]; exact ⟨by rw [ht]; exact hP, hD⟩)⟩, hS.F ht⟩) hS.2.2 dX5_lower_26
  · skip
    refine lv_iconst (v := 0) hx hb dX5_lower_12 (by decide +kernel) ?_
    refine lv_goto (tgt := 26) hx hb dX5_lower_13 (by decide +kernel) ?_
    have he : o_X5_lower f1 p0 = (0, (o_X5_fails (o_X5_isNo p0) false).2) := by (rw [o_X5_lower, if_pos c_3]) <;> rfl
    refine W.widen (k := 0) (n := 0) (by omega) (by omega) ?_
    exact W.iret (v := 0) hx hb hr (fun t ht hW => ⟨⟨_, (), rfl, (by (rw [he]) <;> rfl), (by rw [he]; exact ⟨by rw [ht]; exact hP, hD⟩)⟩, hS.F ht⟩) hS.2.2 dX5_lower_26
theorem cl_X5_wideOrder_1 : ∀ w ∈ wsX5_wideOrder_r1, w ∈ wsX5_wideOrder := fun _ h => (List.mem_cons_of_mem _ (List.mem_append_left _ (List.mem_append_left _ (List.mem_append_left _ h))))
theorem cl_X5_wideOrder_2 : ∀ w ∈ wsX5_wideOrder_r2, w ∈ wsX5_wideOrder := fun _ h => (List.mem_cons_of_mem _ (List.mem_append_left _ (List.mem_append_left _ (List.mem_append_right _ h))))
theorem cl_X5_wideOrder_3 : ∀ w ∈ wsX50, w ∈ wsX5_wideOrder := fun _ h => (List.mem_cons_of_mem _ (List.mem_append_left _ (List.mem_append_right _ h)))
theorem cl_X5_wideOrder_4 : ∀ w ∈ wsX40, w ∈ wsX5_wideOrder := fun _ h => (List.mem_cons_of_mem _ (List.mem_append_right _ h))
set_option maxRecDepth 20000 in
theorem ggX5_wideOrder_X5_order : GoodIn wsX5_wideOrder wsX5_order := goodIn_sub (List.forall_mem_cons.mpr ⟨(cl_X5_wideOrder_1 _ (List.mem_of_getElem? (i := 5) rfl)), fun w h => (List.mem_append.mp h).elim ((fun w h => (List.mem_append.mp h).elim ((fun w h => (List.mem_append.mp h).elim ((List.forall_mem_cons.mpr ⟨(cl_X5_wideOrder_1 _ (List.mem_of_getElem? (i := 6) rfl)), List.forall_mem_cons.mpr ⟨(cl_X5_wideOrder_1 _ (List.mem_of_getElem? (i := 7) rfl)), List.forall_mem_cons.mpr ⟨(cl_X5_wideOrder_1 _ (List.mem_of_getElem? (i := 8) rfl)), List.forall_mem_cons.mpr ⟨(cl_X5_wideOrder_1 _ (List.mem_of_getElem? (i := 4) rfl)), List.forall_mem_cons.mpr ⟨(cl_X5_wideOrder_1 _ (List.mem_of_getElem? (i := 9) rfl)), List.forall_mem_cons.mpr ⟨(cl_X5_wideOrder_1 _ (List.mem_of_getElem? (i := 10) rfl)), List.forall_mem_cons.mpr ⟨(cl_X5_wideOrder_1 _ (List.mem_of_getElem? (i := 11) rfl)), List.forall_mem_cons.mpr ⟨(cl_X5_wideOrder_1 _ (List.mem_of_getElem? (i := 12) rfl)), List.forall_mem_cons.mpr ⟨(cl_X5_wideOrder_1 _ (List.mem_of_getElem? (i := 13) rfl)), List.forall_mem_cons.mpr ⟨(cl_X5_wideOrder_1 _ (List.mem_of_getElem? (i := 14) rfl)), List.forall_mem_cons.mpr ⟨(cl_X5_wideOrder_1 _ (List.mem_of_getElem? (i := 15) rfl)), List.forall_mem_cons.mpr ⟨(cl_X5_wideOrder_1 _ (List.mem_of_getElem? (i := 16) rfl)), List.forall_mem_cons.mpr ⟨(cl_X5_wideOrder_1 _ (List.mem_of_getElem? (i := 17) rfl)), List.forall_mem_cons.mpr ⟨(cl_X5_wideOrder_1 _ (List.mem_of_getElem? (i := 18) rfl)), List.forall_mem_cons.mpr ⟨(cl_X5_wideOrder_1 _ (List.mem_of_getElem? (i := 19) rfl)), List.forall_mem_cons.mpr ⟨(cl_X5_wideOrder_1 _ (List.mem_of_getElem? (i := 20) rfl)), List.forall_mem_cons.mpr ⟨(cl_X5_wideOrder_1 _ (List.mem_of_getElem? (i := 21) rfl)), List.forall_mem_cons.mpr ⟨(cl_X5_wideOrder_1 _ (List.mem_of_getElem? (i := 22) rfl)), List.forall_mem_cons.mpr ⟨(cl_X5_wideOrder_1 _ (List.mem_of_getElem? (i := 23) rfl)), List.forall_mem_cons.mpr ⟨(cl_X5_wideOrder_2 _ (List.mem_of_getElem? (i := 0) rfl)), List.forall_mem_cons.mpr ⟨(cl_X5_wideOrder_2 _ (List.mem_of_getElem? (i := 1) rfl)), List.forall_mem_cons.mpr ⟨(cl_X5_wideOrder_2 _ (List.mem_of_getElem? (i := 2) rfl)), List.forall_mem_cons.mpr ⟨(cl_X5_wideOrder_2 _ (List.mem_of_getElem? (i := 3) rfl)), List.forall_mem_cons.mpr ⟨(cl_X5_wideOrder_2 _ (List.mem_of_getElem? (i := 4) rfl)), fun _ h => absurd h List.not_mem_nil⟩⟩⟩⟩⟩⟩⟩⟩⟩⟩⟩⟩⟩⟩⟩⟩⟩⟩⟩⟩⟩⟩⟩⟩) w) ((List.forall_mem_cons.mpr ⟨(cl_X5_wideOrder_2 _ (List.mem_of_getElem? (i := 5) rfl)), List.forall_mem_cons.mpr ⟨(cl_X5_wideOrder_2 _ (List.mem_of_getElem? (i := 6) rfl)), List.forall_mem_cons.mpr ⟨(cl_X5_wideOrder_2 _ (List.mem_of_getElem? (i := 7) rfl)), List.forall_mem_cons.mpr ⟨(cl_X5_wideOrder_2 _ (List.mem_of_getElem? (i := 8) rfl)), List.forall_mem_cons.mpr ⟨(cl_X5_wideOrder_2 _ (List.mem_of_getElem? (i := 9) rfl)), List.forall_mem_cons.mpr ⟨(cl_X5_wideOrder_2 _ (List.mem_of_getElem? (i := 10) rfl)), List.forall_mem_cons.mpr ⟨(cl_X5_wideOrder_2 _ (List.mem_of_getElem? (i := 11) rfl)), List.forall_mem_cons.mpr ⟨(cl_X5_wideOrder_2 _ (List.mem_of_getElem? (i := 12) rfl)), List.forall_mem_cons.mpr ⟨(cl_X5_wideOrder_2 _ (List.mem_of_getElem? (i := 13) rfl)), List.forall_mem_cons.mpr ⟨(cl_X5_wideOrder_2 _ (List.mem_of_getElem? (i := 14) rfl)), List.forall_mem_cons.mpr ⟨(cl_X5_wideOrder_2 _ (List.mem_of_getElem? (i := 15) rfl)), List.forall_mem_cons.mpr ⟨(cl_X5_wideOrder_2 _ (List.mem_of_getElem? (i := 16) rfl)), List.forall_mem_cons.mpr ⟨(cl_X5_wideOrder_2 _ (List.mem_of_getElem? (i := 17) rfl)), List.forall_mem_cons.mpr ⟨(cl_X5_wideOrder_2 _ (List.mem_of_getElem? (i := 18) rfl)), List.forall_mem_cons.mpr ⟨(cl_X5_wideOrder_2 _ (List.mem_of_getElem? (i := 19) rfl)), List.forall_mem_cons.mpr ⟨(cl_X5_wideOrder_2 _ (List.mem_of_getElem? (i := 20) rfl)), fun _ h => absurd h List.not_mem_nil⟩⟩⟩⟩⟩⟩⟩⟩⟩⟩⟩⟩⟩⟩⟩⟩) w)) w) ((cl_X5_wideOrder_4) w)) w) ((cl_X5_wideOrder_3) w)⟩) (by decide +kernel)
set_option maxRecDepth 20000 in
theorem gX5_wideOrder_X5_order : GoodIn wsX5_wideOrder (wsV RX5 158 RX5 yX5_order wsX5_order) := goodIn_app (goodIn_sub (List.forall_mem_cons.mpr ⟨(cl_X5_wideOrder_1 _ (List.mem_of_getElem? (i := 1) rfl)), List.forall_mem_cons.mpr ⟨(cl_X5_wideOrder_1 _ (List.mem_of_getElem? (i := 2) rfl)), List.forall_mem_cons.mpr ⟨(cl_X5_wideOrder_1 _ (List.mem_of_getElem? (i := 3) rfl)), List.forall_mem_cons.mpr ⟨(cl_X5_wideOrder_1 _ (List.mem_of_getElem? (i := 4) rfl)), fun _ h => absurd h List.not_mem_nil⟩⟩⟩⟩) (by decide +kernel)) ggX5_wideOrder_X5_order
noncomputable def dz_p10_14 : List (Nat × Instr × Nat) := [(0, (.aload_n 0, 1)), (1, (.aload_n 0, 1)), (2, (.getfield 16, 3)), (5, (.iload_n 1, 1)), (6, (.iload_n 2, 1)), (7, (.iload_n 3, 1)), (8, (.invokevirtual 158, 3)), (11, (.ireturn, 1))]
theorem dy_p10_14 : dz_ok cX5_wideOrder dz_p10_14 = true := by decide +kernel
theorem dX5_wideOrder_0 : decode cX5_wideOrder 0 = .ok (.aload_n 0, 1) := dz_at (i := 0) dy_p10_14 rfl
theorem dX5_wideOrder_1 : decode cX5_wideOrder 1 = .ok (.aload_n 0, 1) := dz_at (i := 1) dy_p10_14 rfl
theorem dX5_wideOrder_2 : decode cX5_wideOrder 2 = .ok (.getfield 16, 3) := dz_at (i := 2) dy_p10_14 rfl
theorem dX5_wideOrder_5 : decode cX5_wideOrder 5 = .ok (.iload_n 1, 1) := dz_at (i := 3) dy_p10_14 rfl
theorem dX5_wideOrder_6 : decode cX5_wideOrder 6 = .ok (.iload_n 2, 1) := dz_at (i := 4) dy_p10_14 rfl
theorem dX5_wideOrder_7 : decode cX5_wideOrder 7 = .ok (.iload_n 3, 1) := dz_at (i := 5) dy_p10_14 rfl
theorem dX5_wideOrder_8 : decode cX5_wideOrder 8 = .ok (.invokevirtual 158, 3) := dz_at (i := 6) dy_p10_14 rfl
theorem dX5_wideOrder_11 : decode cX5_wideOrder 11 = .ok (.ireturn, 1) := dz_at (i := 7) dy_p10_14 rfl
noncomputable def o_X5_wideOrder (f1 : Nat → Int64) (p0 : Int32) (p1 : Int32) (p2 : Int32) : Int32 × Int32 :=
  ((o_X5_order true f1 p0 p1 p2).1, (o_X5_order true f1 p0 p1 p2).2)
set_option maxHeartbeats 4000000 in
set_option maxRecDepth 100000 in
theorem k_X5_wideOrder (l : Launch) (dC : Nat → ClassId) (dI : Nat → Nat → Nat) (cy : ClassId) (h0 : Nat) (h1 : Nat) (hc1 : Nat) (h2 : Nat) (hc2 : Nat) (a1 : Int32) (f1 : Nat → Int64) (a2 : Int32) (f2 : Nat → Int64) (th : Int32) (rf : Int32) (kn : Int32) (sz : Nat) (N : Nat) (p0 : Int32) (p1 : Int32) (p2 : Int32) : Met l yX5_wideOrder wsX5_wideOrder ({ frames := 5, cells := 0, slots := 0, locals := 112 }) (va_Pc [.ref h0, .int p0, .int p1, .int p2] (xM (dC, dI) xCl [(h0, eM h1 h2 th rf kn), (h1, eMR true hc1 a1), (hc1, eA cy f1), (h2, eMR false hc2 a2), (hc2, eA cy f2)] [(cy, .long)] sz N)) (va_Qi (fun (r : Int32) (_ : Unit) => r = (o_X5_wideOrder f1 p0 p1 p2).1) (fun _ t => xW (dC, dI) xCl [(h0, eM h1 h2 (o_X5_wideOrder f1 p0 p1 p2).2 rf kn), (h1, eMR true hc1 a1), (hc1, eA cy f1), (h2, eMR false hc2 a2), (hc2, eA cy f2)] (va_A [(h0, eM h1 h2 th rf kn), (h1, eMR true hc1 a1), (hc1, eA cy f1), (h2, eMR false hc2 a2), (hc2, eA cy f2)] sz) t) (va_A [(h0, eM h1 h2 th rf kn), (h1, eMR true hc1 a1), (hc1, eA cy f1), (h2, eMR false hc2 a2), (hc2, eA cy f2)] sz)) 0 0 (va_A [(h0, eM h1 h2 th rf kn), (h1, eMR true hc1 a1), (hc1, eA cy f1), (h2, eMR false hc2 a2), (hc2, eA cy f2)] sz) := by
  refine Met.ofW (cc := cX5_wideOrder) (maxL := 4) (ret := (some .int)) (by decide +kernel) rfl ?_
  intro p e s m args below meth c s₁ B hml hv
  obtain ⟨rfl, hsz, hP, hK, hD0, hN, hG⟩ := hv
  have hx := B.exec
  have hb := B.bytes
  have hr := B.returns
  have hts := atoms_spec (ws := wsX5_wideOrder) B.pre
  have hown : s.vm.findClass RX5 = some m.cls := findClass_of_methodNamed B.named
  have hlocks := B.notSynchronized
  subst hsz
  have hAN : ∀ q, va_A [(h0, eM h1 h2 th rf kn), (h1, eMR true hc1 a1), (hc1, eA cy f1), (h2, eMR false hc2 a2), (hc2, eA cy f2)] s.heap.size q → N ≤ q := xA_N hD0 hN
  have hD := hD0.self (sz := s.heap.size)
  generalize hAe : va_A [(h0, eM h1 h2 th rf kn), (h1, eMR true hc1 a1), (hc1, eA cy f1), (h2, eMR false hc2 a2), (hc2, eA cy f2)] s.heap.size = A at hD hAN ⊢
  have hA : ∀ q : Nat, s.heap.size ≤ q → A q := fun q h => by rw [← hAe]; exact Or.inr h
  have hS : va_S A s.heap s.heap [] := va_S.rf
  have hP : va_P (dC, dI) xCl [(h0, eM h1 h2 th rf kn), (h1, eMR true hc1 a1), (hc1, eA cy f1), (h2, eMR false hc2 a2), (hc2, eA cy f2)] s.heap := hP
  have hl := lv_entry ([.ref h0, .int p0, .int p1, .int p2]) (n := 4) (Nat.le_of_ble_eq_true rfl)
  rw [lg_entry_eq]
  generalize (lg_sl ([.ref h0, .int p0, .int p1, .int p2]) ++ List.replicate (4 - (lg_sl ([.ref h0, .int p0, .int p1, .int p2])).length) Slot.unset).toArray = ls at hl ⊢
  have hl : lv_has ls 4 [(0, .ref h0), (1, .int p0), (2, .int p1), (3, .int p2)] := hl
  refine lv_aload_n hx hb dX5_wideOrder_0 rfl (lv_at hl 0 rfl) ?_
  refine lv_aload_n hx hb dX5_wideOrder_1 rfl (lv_at hl 0 rfl) ?_
  refine va_get (D := (dC, dI)) (ci := 7) (v := .ref h1) (C := RX5) (T := TX5) (N := 5) hx hb hts (by decide +kernel) hown hK hP 0 rfl rfl 0 (by decide +kernel) (hts (.fieldLink RX5 16 "EdgefloatsModel" "wide" "LEdgefloatsModel$Row;") (by decide +kernel)) (fun _ h9 => h9) rfl dX5_wideOrder_2 ?_
  refine lv_iload_n hx hb dX5_wideOrder_5 rfl (lv_at hl 1 rfl) ?_
  refine lv_iload_n hx hb dX5_wideOrder_6 rfl (lv_at hl 2 rfl) ?_
  refine lv_iload_n hx hb dX5_wideOrder_7 rfl (lv_at hl 3 rfl) ?_
  have hPc := hP.sub (ws' := [(h0, eM h1 h2 th rf kn), (h1, eMR true hc1 a1), (hc1, eA cy f1)]) [0, 1, 2] rfl
  have hDc := hD.sub (ws' := [(h0, eM h1 h2 th rf kn), (h1, eMR true hc1 a1), (hc1, eA cy f1)]) [0, 1, 2] (by decide +kernel) rfl
  have hKc := hK.sub (tys' := [(cy, .long)]) [0] rfl
  have hFc := va_free (wc := [(h0, eM h1 h2 th rf kn), (h1, eMR true hc1 a1), (hc1, eA cy f1)]) hD hS hA [0, 1, 2] rfl
  refine va_calli (va_runV (As := [.ref h1, .int p0, .int p1, .int p2]) (rest := []) ⟨hx, hb, hml, hown, hts⟩ (k_X5_order l dC dI cy h0 h1 h2 h1 hc1 true a1 f1 th rf kn s.heap.size N p0 p1 p2) (cwV 4 hts gX5_wideOrder_X5_order rfl rfl rfl (by decide +kernel) ⟨Nat.le_of_ble_eq_true rfl, Nat.le_of_ble_eq_true rfl⟩) (xM.preV hKc hPc hDc hAN (Nat.le_trans hN hS.1) (hG.kept hS hAN) (ci := 7) (q0 := 0) rfl rfl) rfl rfl hl.1 rfl (lv_room (Nat.le_of_ble_eq_true rfl)) dX5_wideOrder_8 ⟨Nat.le_of_ble_eq_true rfl, Nat.le_of_ble_eq_true rfl⟩) hS (fun q _ h => hFc q h) hFc (fun r_1 u t H locs ht hvm hw hB hz hk hS => ?_)
  replace hw : r_1 = (o_X5_order true f1 p0 p1 p2).1 := hw
  subst r_1
  obtain ⟨hP1, hD1⟩ := hB
  rw [ht] at hP1
  obtain ⟨hP, hD⟩ := va_join (wr := [(h2, eMR false hc2 a2), (hc2, eA cy f2)]) (w1 := [(h0, eM h1 h2 (o_X5_order true f1 p0 p1 p2).2 rf kn), (h1, eMR true hc1 a1), (hc1, eA cy f1)]) hP hD [0, 1, 2] [3, 4] rfl rfl (by decide +kernel) (by decide +kernel) hk hFc hP1 hD1
  have hP := hP.sub (ws' := [(h0, eM h1 h2 (o_X5_order true f1 p0 p1 p2).2 rf kn), (h1, eMR true hc1 a1), (hc1, eA cy f1), (h2, eMR false hc2 a2), (hc2, eA cy f2)]) [2, 3, 4, 0, 1] rfl
  have hD := hD.sub (ws' := [(h0, eM h1 h2 (o_X5_order true f1 p0 p1 p2).2 rf kn), (h1, eMR true hc1 a1), (hc1, eA cy f1), (h2, eMR false hc2 a2), (hc2, eA cy f2)]) [2, 3, 4, 0, 1] (by decide +kernel) rfl
  have he : o_X5_wideOrder f1 p0 p1 p2 = ((o_X5_order true f1 p0 p1 p2).1, (o_X5_order true f1 p0 p1 p2).2) := by (rw [o_X5_wideOrder]) <;> rfl
  refine W.widen (k := 0) (n := 0) (by omega) (by omega) ?_
  exact W.iret (v := ((o_X5_order true f1 p0 p1 p2).1)) hx hb hr (fun t ht hW => ⟨⟨_, (), rfl, (by (rw [he]) <;> rfl), (by rw [he]; exact ⟨by rw [ht]; exact hP, hD⟩)⟩, hS.F ht⟩) hS.2.2 dX5_wideOrder_11
theorem cl_X5_wideSame_1 : ∀ w ∈ [.fieldLink RX5 16 "EdgefloatsModel" "wide" "LEdgefloatsModel$Row;", .methodLink RX5 160 yX5_same, .instanceMethod yX5_same, .selects RX5 yX5_same yX5_same, .initialized RX5, .code yX5_same cX5_same 5 (some .boolean), .fieldLink RX5 74 "EdgefloatsModel$Row" "cells" "[J", .methodLink RX5 70 yX5_areNo, .static yX5_areNo, .code yX5_areNo cX5_areNo 2 (some .boolean), .methodLink RX5 35 yX5_isNo, .static yX5_isNo, .code yX5_isNo cX5_isNo 1 (some .boolean), .methodLink RX5 31 yX5_isIn, .static yX5_isIn, .code yX5_isIn cX5_isIn 3 (some .boolean), .methodLink RX5 42 yX5_fails, .instanceMethod yX5_fails, .selects RX5 yX5_fails yX5_fails, .code yX5_fails cX5_fails 3 (some .boolean), .fieldLink RX5 27 "EdgefloatsModel" "thrown" "I"], w ∈ wsX5_wideSame := fun _ h => (List.mem_cons_of_mem _ (List.mem_append_left _ (List.mem_append_left _ h)))
theorem cl_X5_wideSame_2 : ∀ w ∈ wsX50, w ∈ wsX5_wideSame := fun _ h => (List.mem_cons_of_mem _ (List.mem_append_left _ (List.mem_append_right _ h)))
theorem cl_X5_wideSame_3 : ∀ w ∈ wsX40, w ∈ wsX5_wideSame := fun _ h => (List.mem_cons_of_mem _ (List.mem_append_right _ h))
set_option maxRecDepth 20000 in
theorem ggX5_wideSame_X5_same : GoodIn wsX5_wideSame wsX5_same := goodIn_sub (List.forall_mem_cons.mpr ⟨(cl_X5_wideSame_1 _ (List.mem_of_getElem? (i := 5) rfl)), fun w h => (List.mem_append.mp h).elim ((fun w h => (List.mem_append.mp h).elim ((List.forall_mem_cons.mpr ⟨(cl_X5_wideSame_1 _ (List.mem_of_getElem? (i := 6) rfl)), List.forall_mem_cons.mpr ⟨(cl_X5_wideSame_1 _ (List.mem_of_getElem? (i := 7) rfl)), List.forall_mem_cons.mpr ⟨(cl_X5_wideSame_1 _ (List.mem_of_getElem? (i := 8) rfl)), List.forall_mem_cons.mpr ⟨(cl_X5_wideSame_1 _ (List.mem_of_getElem? (i := 4) rfl)), List.forall_mem_cons.mpr ⟨(cl_X5_wideSame_1 _ (List.mem_of_getElem? (i := 9) rfl)), List.forall_mem_cons.mpr ⟨(cl_X5_wideSame_1 _ (List.mem_of_getElem? (i := 10) rfl)), List.forall_mem_cons.mpr ⟨(cl_X5_wideSame_1 _ (List.mem_of_getElem? (i := 11) rfl)), List.forall_mem_cons.mpr ⟨(cl_X5_wideSame_1 _ (List.mem_of_getElem? (i := 12) rfl)), List.forall_mem_cons.mpr ⟨(cl_X5_wideSame_1 _ (List.mem_of_getElem? (i := 13) rfl)), List.forall_mem_cons.mpr ⟨(cl_X5_wideSame_1 _ (List.mem_of_getElem? (i := 14) rfl)), List.forall_mem_cons.mpr ⟨(cl_X5_wideSame_1 _ (List.mem_of_getElem? (i := 15) rfl)), List.forall_mem_cons.mpr ⟨(cl_X5_wideSame_1 _ (List.mem_of_getElem? (i := 16) rfl)), List.forall_mem_cons.mpr ⟨(cl_X5_wideSame_1 _ (List.mem_of_getElem? (i := 17) rfl)), List.forall_mem_cons.mpr ⟨(cl_X5_wideSame_1 _ (List.mem_of_getElem? (i := 18) rfl)), List.forall_mem_cons.mpr ⟨(cl_X5_wideSame_1 _ (List.mem_of_getElem? (i := 19) rfl)), List.forall_mem_cons.mpr ⟨(cl_X5_wideSame_1 _ (List.mem_of_getElem? (i := 20) rfl)), fun _ h => absurd h List.not_mem_nil⟩⟩⟩⟩⟩⟩⟩⟩⟩⟩⟩⟩⟩⟩⟩⟩) w) ((cl_X5_wideSame_3) w)) w) ((cl_X5_wideSame_2) w)⟩) (by decide +kernel)
set_option maxRecDepth 20000 in
theorem gX5_wideSame_X5_same : GoodIn wsX5_wideSame (wsV RX5 160 RX5 yX5_same wsX5_same) := goodIn_app (goodIn_sub (List.forall_mem_cons.mpr ⟨(cl_X5_wideSame_1 _ (List.mem_of_getElem? (i := 1) rfl)), List.forall_mem_cons.mpr ⟨(cl_X5_wideSame_1 _ (List.mem_of_getElem? (i := 2) rfl)), List.forall_mem_cons.mpr ⟨(cl_X5_wideSame_1 _ (List.mem_of_getElem? (i := 3) rfl)), List.forall_mem_cons.mpr ⟨(cl_X5_wideSame_1 _ (List.mem_of_getElem? (i := 4) rfl)), fun _ h => absurd h List.not_mem_nil⟩⟩⟩⟩) (by decide +kernel)) ggX5_wideSame_X5_same
noncomputable def dz_p10_15 : List (Nat × Instr × Nat) := [(0, (.aload_n 0, 1)), (1, (.aload_n 0, 1)), (2, (.getfield 16, 3)), (5, (.iload_n 1, 1)), (6, (.iload_n 2, 1)), (7, (.iload_n 3, 1)), (8, (.invokevirtual 160, 3)), (11, (.ireturn, 1))]
theorem dy_p10_15 : dz_ok cX5_wideSame dz_p10_15 = true := by decide +kernel
theorem dX5_wideSame_0 : decode cX5_wideSame 0 = .ok (.aload_n 0, 1) := dz_at (i := 0) dy_p10_15 rfl
theorem dX5_wideSame_1 : decode cX5_wideSame 1 = .ok (.aload_n 0, 1) := dz_at (i := 1) dy_p10_15 rfl
theorem dX5_wideSame_2 : decode cX5_wideSame 2 = .ok (.getfield 16, 3) := dz_at (i := 2) dy_p10_15 rfl
theorem dX5_wideSame_5 : decode cX5_wideSame 5 = .ok (.iload_n 1, 1) := dz_at (i := 3) dy_p10_15 rfl
theorem dX5_wideSame_6 : decode cX5_wideSame 6 = .ok (.iload_n 2, 1) := dz_at (i := 4) dy_p10_15 rfl
theorem dX5_wideSame_7 : decode cX5_wideSame 7 = .ok (.iload_n 3, 1) := dz_at (i := 5) dy_p10_15 rfl
theorem dX5_wideSame_8 : decode cX5_wideSame 8 = .ok (.invokevirtual 160, 3) := dz_at (i := 6) dy_p10_15 rfl
theorem dX5_wideSame_11 : decode cX5_wideSame 11 = .ok (.ireturn, 1) := dz_at (i := 7) dy_p10_15 rfl
noncomputable def o_X5_wideSame (f1 : Nat → Int64) (p0 : Int32) (p1 : Int32) (p2 : Int32) : Bool × Int32 :=
  ((o_X5_same f1 p0 p1 p2).1, (o_X5_same f1 p0 p1 p2).2)
set_option maxHeartbeats 4000000 in
set_option maxRecDepth 100000 in
theorem k_X5_wideSame (l : Launch) (dC : Nat → ClassId) (dI : Nat → Nat → Nat) (cy : ClassId) (h0 : Nat) (h1 : Nat) (hc1 : Nat) (h2 : Nat) (hc2 : Nat) (a1 : Int32) (f1 : Nat → Int64) (a2 : Int32) (f2 : Nat → Int64) (th : Int32) (rf : Int32) (kn : Int32) (sz : Nat) (N : Nat) (p0 : Int32) (p1 : Int32) (p2 : Int32) : Met l yX5_wideSame wsX5_wideSame ({ frames := 4, cells := 0, slots := 0, locals := 87 }) (va_Pc [.ref h0, .int p0, .int p1, .int p2] (xM (dC, dI) xCl [(h0, eM h1 h2 th rf kn), (h1, eMR true hc1 a1), (hc1, eA cy f1), (h2, eMR false hc2 a2), (hc2, eA cy f2)] [(cy, .long)] sz N)) (va_Qi (fun (r : Int32) (_ : Unit) => r = b2i ((o_X5_wideSame f1 p0 p1 p2).1)) (fun _ t => xW (dC, dI) xCl [(h0, eM h1 h2 (o_X5_wideSame f1 p0 p1 p2).2 rf kn), (h1, eMR true hc1 a1), (hc1, eA cy f1), (h2, eMR false hc2 a2), (hc2, eA cy f2)] (va_A [(h0, eM h1 h2 th rf kn), (h1, eMR true hc1 a1), (hc1, eA cy f1), (h2, eMR false hc2 a2), (hc2, eA cy f2)] sz) t) (va_A [(h0, eM h1 h2 th rf kn), (h1, eMR true hc1 a1), (hc1, eA cy f1), (h2, eMR false hc2 a2), (hc2, eA cy f2)] sz)) 0 0 (va_A [(h0, eM h1 h2 th rf kn), (h1, eMR true hc1 a1), (hc1, eA cy f1), (h2, eMR false hc2 a2), (hc2, eA cy f2)] sz) := by
  refine Met.ofW (cc := cX5_wideSame) (maxL := 4) (ret := (some .boolean)) (by decide +kernel) rfl ?_
  intro p e s m args below meth c s₁ B hml hv
  obtain ⟨rfl, hsz, hP, hK, hD0, hN, hG⟩ := hv
  have hx := B.exec
  have hb := B.bytes
  have hr := B.returns
  have hts := atoms_spec (ws := wsX5_wideSame) B.pre
  have hown : s.vm.findClass RX5 = some m.cls := findClass_of_methodNamed B.named
  have hlocks := B.notSynchronized
  subst hsz
  have hAN : ∀ q, va_A [(h0, eM h1 h2 th rf kn), (h1, eMR true hc1 a1), (hc1, eA cy f1), (h2, eMR false hc2 a2), (hc2, eA cy f2)] s.heap.size q → N ≤ q := xA_N hD0 hN
  have hD := hD0.self (sz := s.heap.size)
  generalize hAe : va_A [(h0, eM h1 h2 th rf kn), (h1, eMR true hc1 a1), (hc1, eA cy f1), (h2, eMR false hc2 a2), (hc2, eA cy f2)] s.heap.size = A at hD hAN ⊢
  have hA : ∀ q : Nat, s.heap.size ≤ q → A q := fun q h => by rw [← hAe]; exact Or.inr h
  have hS : va_S A s.heap s.heap [] := va_S.rf
  have hP : va_P (dC, dI) xCl [(h0, eM h1 h2 th rf kn), (h1, eMR true hc1 a1), (hc1, eA cy f1), (h2, eMR false hc2 a2), (hc2, eA cy f2)] s.heap := hP
  have hl := lv_entry ([.ref h0, .int p0, .int p1, .int p2]) (n := 4) (Nat.le_of_ble_eq_true rfl)
  rw [lg_entry_eq]
  generalize (lg_sl ([.ref h0, .int p0, .int p1, .int p2]) ++ List.replicate (4 - (lg_sl ([.ref h0, .int p0, .int p1, .int p2])).length) Slot.unset).toArray = ls at hl ⊢
  have hl : lv_has ls 4 [(0, .ref h0), (1, .int p0), (2, .int p1), (3, .int p2)] := hl
  refine lv_aload_n hx hb dX5_wideSame_0 rfl (lv_at hl 0 rfl) ?_
  refine lv_aload_n hx hb dX5_wideSame_1 rfl (lv_at hl 0 rfl) ?_
  refine va_get (D := (dC, dI)) (ci := 7) (v := .ref h1) (C := RX5) (T := TX5) (N := 5) hx hb hts (by decide +kernel) hown hK hP 0 rfl rfl 0 (by decide +kernel) (hts (.fieldLink RX5 16 "EdgefloatsModel" "wide" "LEdgefloatsModel$Row;") (by decide +kernel)) (fun _ h9 => h9) rfl dX5_wideSame_2 ?_
  refine lv_iload_n hx hb dX5_wideSame_5 rfl (lv_at hl 1 rfl) ?_
  refine lv_iload_n hx hb dX5_wideSame_6 rfl (lv_at hl 2 rfl) ?_
  refine lv_iload_n hx hb dX5_wideSame_7 rfl (lv_at hl 3 rfl) ?_
  have hPc := hP.sub (ws' := [(h0, eM h1 h2 th rf kn), (h1, eMR true hc1 a1), (hc1, eA cy f1)]) [0, 1, 2] rfl
  have hDc := hD.sub (ws' := [(h0, eM h1 h2 th rf kn), (h1, eMR true hc1 a1), (hc1, eA cy f1)]) [0, 1, 2] (by decide +kernel) rfl
  have hKc := hK.sub (tys' := [(cy, .long)]) [0] rfl
  have hFc := va_free (wc := [(h0, eM h1 h2 th rf kn), (h1, eMR true hc1 a1), (hc1, eA cy f1)]) hD hS hA [0, 1, 2] rfl
  refine va_calli (va_runV (As := [.ref h1, .int p0, .int p1, .int p2]) (rest := []) ⟨hx, hb, hml, hown, hts⟩ (k_X5_same l dC dI cy h0 h1 h2 h1 hc1 true a1 f1 th rf kn s.heap.size N p0 p1 p2) (cwV 4 hts gX5_wideSame_X5_same rfl rfl rfl (by decide +kernel) ⟨Nat.le_of_ble_eq_true rfl, Nat.le_of_ble_eq_true rfl⟩) (xM.preV hKc hPc hDc hAN (Nat.le_trans hN hS.1) (hG.kept hS hAN) (ci := 7) (q0 := 0) rfl rfl) rfl rfl hl.1 rfl (lv_room (Nat.le_of_ble_eq_true rfl)) dX5_wideSame_8 ⟨Nat.le_of_ble_eq_true rfl, Nat.le_of_ble_eq_true rfl⟩) hS (fun q _ h => hFc q h) hFc (fun r_1 u t H locs ht hvm hw hB hz hk hS => ?_)
  replace hw : r_1 = b2i ((o_X5_same f1 p0 p1 p2).1) := hw
  subst r_1
  obtain ⟨hP1, hD1⟩ := hB
  rw [ht] at hP1
  obtain ⟨hP, hD⟩ := va_join (wr := [(h2, eMR false hc2 a2), (hc2, eA cy f2)]) (w1 := [(h0, eM h1 h2 (o_X5_same f1 p0 p1 p2).2 rf kn), (h1, eMR true hc1 a1), (hc1, eA cy f1)]) hP hD [0, 1, 2] [3, 4] rfl rfl (by decide +kernel) (by decide +kernel) hk hFc hP1 hD1
  have hP := hP.sub (ws' := [(h0, eM h1 h2 (o_X5_same f1 p0 p1 p2).2 rf kn), (h1, eMR true hc1 a1), (hc1, eA cy f1), (h2, eMR false hc2 a2), (hc2, eA cy f2)]) [2, 3, 4, 0, 1] rfl
  have hD := hD.sub (ws' := [(h0, eM h1 h2 (o_X5_same f1 p0 p1 p2).2 rf kn), (h1, eMR true hc1 a1), (hc1, eA cy f1), (h2, eMR false hc2 a2), (hc2, eA cy f2)]) [2, 3, 4, 0, 1] (by decide +kernel) rfl
  have he : o_X5_wideSame f1 p0 p1 p2 = ((o_X5_same f1 p0 p1 p2).1, (o_X5_same f1 p0 p1 p2).2) := by (rw [o_X5_wideSame]) <;> rfl
  refine W.widen (k := 0) (n := 0) (by omega) (by omega) ?_
  exact W.zret (v := (b2i ((o_X5_same f1 p0 p1 p2).1))) (ty := .boolean) hx hb hr (b2i_nar _) (fun t ht hW => ⟨⟨_, (), rfl, (by (rw [he]) <;> rfl), (by rw [he]; exact ⟨by rw [ht]; exact hP, hD⟩)⟩, hS.F ht⟩) hS.2.2 dX5_wideSame_11
theorem cl_X5_wideOther_1 : ∀ w ∈ [.methodLink RX5 164 yX5_other, .instanceMethod yX5_other, .selects RX5 yX5_other yX5_other, .initialized RX5, .code yX5_other cX5_other 3 (some .boolean), .methodLink RX5 35 yX5_isNo, .static yX5_isNo, .code yX5_isNo cX5_isNo 1 (some .boolean), .methodLink RX5 31 yX5_isIn, .static yX5_isIn, .code yX5_isIn cX5_isIn 3 (some .boolean), .methodLink RX5 42 yX5_fails, .instanceMethod yX5_fails, .selects RX5 yX5_fails yX5_fails, .code yX5_fails cX5_fails 3 (some .boolean), .fieldLink RX5 27 "EdgefloatsModel" "thrown" "I"], w ∈ wsX5_wideOther := fun _ h => (List.mem_cons_of_mem _ (List.mem_append_left _ h))
theorem cl_X5_wideOther_2 : ∀ w ∈ wsX50, w ∈ wsX5_wideOther := fun _ h => (List.mem_cons_of_mem _ (List.mem_append_right _ h))
set_option maxRecDepth 20000 in
theorem ggX5_wideOther_X5_other : GoodIn wsX5_wideOther wsX5_other := goodIn_sub (List.forall_mem_cons.mpr ⟨(cl_X5_wideOther_1 _ (List.mem_of_getElem? (i := 4) rfl)), fun w h => (List.mem_append.mp h).elim ((List.forall_mem_cons.mpr ⟨(cl_X5_wideOther_1 _ (List.mem_of_getElem? (i := 5) rfl)), List.forall_mem_cons.mpr ⟨(cl_X5_wideOther_1 _ (List.mem_of_getElem? (i := 6) rfl)), List.forall_mem_cons.mpr ⟨(cl_X5_wideOther_1 _ (List.mem_of_getElem? (i := 3) rfl)), List.forall_mem_cons.mpr ⟨(cl_X5_wideOther_1 _ (List.mem_of_getElem? (i := 7) rfl)), List.forall_mem_cons.mpr ⟨(cl_X5_wideOther_1 _ (List.mem_of_getElem? (i := 8) rfl)), List.forall_mem_cons.mpr ⟨(cl_X5_wideOther_1 _ (List.mem_of_getElem? (i := 9) rfl)), List.forall_mem_cons.mpr ⟨(cl_X5_wideOther_1 _ (List.mem_of_getElem? (i := 10) rfl)), List.forall_mem_cons.mpr ⟨(cl_X5_wideOther_1 _ (List.mem_of_getElem? (i := 11) rfl)), List.forall_mem_cons.mpr ⟨(cl_X5_wideOther_1 _ (List.mem_of_getElem? (i := 12) rfl)), List.forall_mem_cons.mpr ⟨(cl_X5_wideOther_1 _ (List.mem_of_getElem? (i := 13) rfl)), List.forall_mem_cons.mpr ⟨(cl_X5_wideOther_1 _ (List.mem_of_getElem? (i := 14) rfl)), List.forall_mem_cons.mpr ⟨(cl_X5_wideOther_1 _ (List.mem_of_getElem? (i := 15) rfl)), fun _ h => absurd h List.not_mem_nil⟩⟩⟩⟩⟩⟩⟩⟩⟩⟩⟩⟩) w) ((cl_X5_wideOther_2) w)⟩) (by decide +kernel)
set_option maxRecDepth 20000 in
theorem gX5_wideOther_X5_other : GoodIn wsX5_wideOther (wsV RX5 164 RX5 yX5_other wsX5_other) := goodIn_app (goodIn_sub (List.forall_mem_cons.mpr ⟨(cl_X5_wideOther_1 _ (List.mem_of_getElem? (i := 0) rfl)), List.forall_mem_cons.mpr ⟨(cl_X5_wideOther_1 _ (List.mem_of_getElem? (i := 1) rfl)), List.forall_mem_cons.mpr ⟨(cl_X5_wideOther_1 _ (List.mem_of_getElem? (i := 2) rfl)), List.forall_mem_cons.mpr ⟨(cl_X5_wideOther_1 _ (List.mem_of_getElem? (i := 3) rfl)), fun _ h => absurd h List.not_mem_nil⟩⟩⟩⟩) (by decide +kernel)) ggX5_wideOther_X5_other
noncomputable def dz_p10_16 : List (Nat × Instr × Nat) := [(0, (.aload_n 0, 1)), (1, (.iload_n 1, 1)), (2, (.iload_n 2, 1)), (3, (.invokevirtual 164, 3)), (6, (.ireturn, 1))]
theorem dy_p10_16 : dz_ok cX5_wideOther dz_p10_16 = true := by decide +kernel
theorem dX5_wideOther_0 : decode cX5_wideOther 0 = .ok (.aload_n 0, 1) := dz_at (i := 0) dy_p10_16 rfl
theorem dX5_wideOther_1 : decode cX5_wideOther 1 = .ok (.iload_n 1, 1) := dz_at (i := 1) dy_p10_16 rfl
theorem dX5_wideOther_2 : decode cX5_wideOther 2 = .ok (.iload_n 2, 1) := dz_at (i := 2) dy_p10_16 rfl
theorem dX5_wideOther_3 : decode cX5_wideOther 3 = .ok (.invokevirtual 164, 3) := dz_at (i := 3) dy_p10_16 rfl
theorem dX5_wideOther_6 : decode cX5_wideOther 6 = .ok (.ireturn, 1) := dz_at (i := 4) dy_p10_16 rfl
noncomputable def o_X5_wideOther  (p0 : Int32) (p1 : Int32) : Bool × Int32 :=
  ((o_X5_other p0 p1).1, (o_X5_other p0 p1).2)
set_option maxHeartbeats 4000000 in
set_option maxRecDepth 100000 in
theorem k_X5_wideOther (l : Launch) (dC : Nat → ClassId) (dI : Nat → Nat → Nat) (cy : ClassId) (h0 : Nat) (h1 : Nat) (hc1 : Nat) (h2 : Nat) (hc2 : Nat) (a1 : Int32) (f1 : Nat → Int64) (a2 : Int32) (f2 : Nat → Int64) (th : Int32) (rf : Int32) (kn : Int32) (sz : Nat) (N : Nat) (p0 : Int32) (p1 : Int32) : Met l yX5_wideOther wsX5_wideOther ({ frames := 3, cells := 0, slots := 0, locals := 64 }) (va_Pc [.ref h0, .int p0, .int p1] (xM (dC, dI) xCl [(h0, eM h1 h2 th rf kn), (h1, eMR true hc1 a1), (hc1, eA cy f1), (h2, eMR false hc2 a2), (hc2, eA cy f2)] [(cy, .long)] sz N)) (va_Qi (fun (r : Int32) (_ : Unit) => r = b2i ((o_X5_wideOther p0 p1).1)) (fun _ t => xW (dC, dI) xCl [(h0, eM h1 h2 (o_X5_wideOther p0 p1).2 rf kn), (h1, eMR true hc1 a1), (hc1, eA cy f1), (h2, eMR false hc2 a2), (hc2, eA cy f2)] (va_A [(h0, eM h1 h2 th rf kn), (h1, eMR true hc1 a1), (hc1, eA cy f1), (h2, eMR false hc2 a2), (hc2, eA cy f2)] sz) t) (va_A [(h0, eM h1 h2 th rf kn), (h1, eMR true hc1 a1), (hc1, eA cy f1), (h2, eMR false hc2 a2), (hc2, eA cy f2)] sz)) 0 0 (va_A [(h0, eM h1 h2 th rf kn), (h1, eMR true hc1 a1), (hc1, eA cy f1), (h2, eMR false hc2 a2), (hc2, eA cy f2)] sz) := by
  refine Met.ofW (cc := cX5_wideOther) (maxL := 3) (ret := (some .boolean)) (by decide +kernel) rfl ?_
  intro p e s m args below meth c s₁ B hml hv
  obtain ⟨rfl, hsz, hP, hK, hD0, hN, hG⟩ := hv
  have hx := B.exec
  have hb := B.bytes
  have hr := B.returns
  have hts := atoms_spec (ws := wsX5_wideOther) B.pre
  have hown : s.vm.findClass RX5 = some m.cls := findClass_of_methodNamed B.named
  have hlocks := B.notSynchronized
  subst hsz
  have hAN : ∀ q, va_A [(h0, eM h1 h2 th rf kn), (h1, eMR true hc1 a1), (hc1, eA cy f1), (h2, eMR false hc2 a2), (hc2, eA cy f2)] s.heap.size q → N ≤ q := xA_N hD0 hN
  have hD := hD0.self (sz := s.heap.size)
  generalize hAe : va_A [(h0, eM h1 h2 th rf kn), (h1, eMR true hc1 a1), (hc1, eA cy f1), (h2, eMR false hc2 a2), (hc2, eA cy f2)] s.heap.size = A at hD hAN ⊢
  have hA : ∀ q : Nat, s.heap.size ≤ q → A q := fun q h => by rw [← hAe]; exact Or.inr h
  have hS : va_S A s.heap s.heap [] := va_S.rf
  have hP : va_P (dC, dI) xCl [(h0, eM h1 h2 th rf kn), (h1, eMR true hc1 a1), (hc1, eA cy f1), (h2, eMR false hc2 a2), (hc2, eA cy f2)] s.heap := hP
  have hl := lv_entry ([.ref h0, .int p0, .int p1]) (n := 3) (Nat.le_of_ble_eq_true rfl)
  rw [lg_entry_eq]
  generalize (lg_sl ([.ref h0, .int p0, .int p1]) ++ List.replicate (3 - (lg_sl ([.ref h0, .int p0, .int p1])).length) Slot.unset).toArray = ls at hl ⊢
  have hl : lv_has ls 3 [(0, .ref h0), (1, .int p0), (2, .int p1)] := hl
  refine lv_aload_n hx hb dX5_wideOther_0 rfl (lv_at hl 0 rfl) ?_
  refine lv_iload_n hx hb dX5_wideOther_1 rfl (lv_at hl 1 rfl) ?_
  refine lv_iload_n hx hb dX5_wideOther_2 rfl (lv_at hl 2 rfl) ?_
  have hPc := hP.sub (ws' := [(h0, eM h1 h2 th rf kn)]) [0] rfl
  have hDc := hD.sub (ws' := [(h0, eM h1 h2 th rf kn)]) [0] (by decide +kernel) rfl
  have hKc := hK.sub (tys' := []) [] rfl
  have hFc := va_free (wc := [(h0, eM h1 h2 th rf kn)]) hD hS hA [0] rfl
  refine va_calli (va_runV (As := [.int p0, .int p1]) (rest := []) ⟨hx, hb, hml, hown, hts⟩ (k_X5_other l dC dI h0 h1 h2 th rf kn s.heap.size N p0 p1) (cwV 2 hts gX5_wideOther_X5_other rfl rfl rfl (by decide +kernel) ⟨Nat.le_of_ble_eq_true rfl, Nat.le_of_ble_eq_true rfl⟩) (xM.preV hKc hPc hDc hAN (Nat.le_trans hN hS.1) (hG.kept hS hAN) (ci := 7) (q0 := 0) rfl rfl) rfl rfl hl.1 rfl (lv_room (Nat.le_of_ble_eq_true rfl)) dX5_wideOther_3 ⟨Nat.le_of_ble_eq_true rfl, Nat.le_of_ble_eq_true rfl⟩) hS (fun q _ h => hFc q h) hFc (fun r_1 u t H locs ht hvm hw hB hz hk hS => ?_)
  replace hw : r_1 = b2i ((o_X5_other p0 p1).1) := hw
  subst r_1
  obtain ⟨hP1, hD1⟩ := hB
  rw [ht] at hP1
  obtain ⟨hP, hD⟩ := va_join (wr := [(h1, eMR true hc1 a1), (hc1, eA cy f1), (h2, eMR false hc2 a2), (hc2, eA cy f2)]) (w1 := [(h0, eM h1 h2 (o_X5_other p0 p1).2 rf kn)]) hP hD [0] [1, 2, 3, 4] rfl rfl (by decide +kernel) (by decide +kernel) hk hFc hP1 hD1
  have hP := hP.sub (ws' := [(h0, eM h1 h2 (o_X5_other p0 p1).2 rf kn), (h1, eMR true hc1 a1), (hc1, eA cy f1), (h2, eMR false hc2 a2), (hc2, eA cy f2)]) [4, 0, 1, 2, 3] rfl
  have hD := hD.sub (ws' := [(h0, eM h1 h2 (o_X5_other p0 p1).2 rf kn), (h1, eMR true hc1 a1), (hc1, eA cy f1), (h2, eMR false hc2 a2), (hc2, eA cy f2)]) [4, 0, 1, 2, 3] (by decide +kernel) rfl
  have he : o_X5_wideOther p0 p1 = ((o_X5_other p0 p1).1, (o_X5_other p0 p1).2) := by (rw [o_X5_wideOther]) <;> rfl
  refine W.widen (k := 0) (n := 0) (by omega) (by omega) ?_
  exact W.zret (v := (b2i ((o_X5_other p0 p1).1))) (ty := .boolean) hx hb hr (b2i_nar _) (fun t ht hW => ⟨⟨_, (), rfl, (by (rw [he]) <;> rfl), (by rw [he]; exact ⟨by rw [ht]; exact hP, hD⟩)⟩, hS.F ht⟩) hS.2.2 dX5_wideOther_6
theorem cl_X5_wideLike_1 : ∀ w ∈ wsX5_wideLike_r1, w ∈ wsX5_wideLike := fun _ h => (List.mem_cons_of_mem _ (List.mem_append_left _ (List.mem_append_left _ (List.mem_append_left _ h))))
theorem cl_X5_wideLike_2 : ∀ w ∈ wsX5_wideLike_r2, w ∈ wsX5_wideLike := fun _ h => (List.mem_cons_of_mem _ (List.mem_append_left _ (List.mem_append_left _ (List.mem_append_right _ h))))
theorem cl_X5_wideLike_3 : ∀ w ∈ wsX50, w ∈ wsX5_wideLike := fun _ h => (List.mem_cons_of_mem _ (List.mem_append_left _ (List.mem_append_right _ h)))
theorem cl_X5_wideLike_4 : ∀ w ∈ wsX40, w ∈ wsX5_wideLike := fun _ h => (List.mem_cons_of_mem _ (List.mem_append_right _ h))
set_option maxRecDepth 20000 in
theorem ggX5_wideLike_X5_like : GoodIn wsX5_wideLike wsX5_like := goodIn_sub (List.forall_mem_cons.mpr ⟨(cl_X5_wideLike_1 _ (List.mem_of_getElem? (i := 5) rfl)), fun w h => (List.mem_append.mp h).elim ((fun w h => (List.mem_append.mp h).elim ((fun w h => (List.mem_append.mp h).elim ((List.forall_mem_cons.mpr ⟨(cl_X5_wideLike_1 _ (List.mem_of_getElem? (i := 6) rfl)), List.forall_mem_cons.mpr ⟨(cl_X5_wideLike_1 _ (List.mem_of_getElem? (i := 7) rfl)), List.forall_mem_cons.mpr ⟨(cl_X5_wideLike_1 _ (List.mem_of_getElem? (i := 8) rfl)), List.forall_mem_cons.mpr ⟨(cl_X5_wideLike_1 _ (List.mem_of_getElem? (i := 4) rfl)), List.forall_mem_cons.mpr ⟨(cl_X5_wideLike_1 _ (List.mem_of_getElem? (i := 9) rfl)), List.forall_mem_cons.mpr ⟨(cl_X5_wideLike_1 _ (List.mem_of_getElem? (i := 10) rfl)), List.forall_mem_cons.mpr ⟨(cl_X5_wideLike_1 _ (List.mem_of_getElem? (i := 11) rfl)), List.forall_mem_cons.mpr ⟨(cl_X5_wideLike_1 _ (List.mem_of_getElem? (i := 12) rfl)), List.forall_mem_cons.mpr ⟨(cl_X5_wideLike_1 _ (List.mem_of_getElem? (i := 13) rfl)), List.forall_mem_cons.mpr ⟨(cl_X5_wideLike_1 _ (List.mem_of_getElem? (i := 14) rfl)), List.forall_mem_cons.mpr ⟨(cl_X5_wideLike_1 _ (List.mem_of_getElem? (i := 15) rfl)), List.forall_mem_cons.mpr ⟨(cl_X5_wideLike_1 _ (List.mem_of_getElem? (i := 16) rfl)), List.forall_mem_cons.mpr ⟨(cl_X5_wideLike_1 _ (List.mem_of_getElem? (i := 17) rfl)), List.forall_mem_cons.mpr ⟨(cl_X5_wideLike_1 _ (List.mem_of_getElem? (i := 18) rfl)), List.forall_mem_cons.mpr ⟨(cl_X5_wideLike_1 _ (List.mem_of_getElem? (i := 19) rfl)), List.forall_mem_cons.mpr ⟨(cl_X5_wideLike_1 _ (List.mem_of_getElem? (i := 20) rfl)), List.forall_mem_cons.mpr ⟨(cl_X5_wideLike_1 _ (List.mem_of_getElem? (i := 21) rfl)), List.forall_mem_cons.mpr ⟨(cl_X5_wideLike_1 _ (List.mem_of_getElem? (i := 22) rfl)), List.forall_mem_cons.mpr ⟨(cl_X5_wideLike_1 _ (List.mem_of_getElem? (i := 23) rfl)), List.forall_mem_cons.mpr ⟨(cl_X5_wideLike_2 _ (List.mem_of_getElem? (i := 0) rfl)), List.forall_mem_cons.mpr ⟨(cl_X5_wideLike_2 _ (List.mem_of_getElem? (i := 1) rfl)), List.forall_mem_cons.mpr ⟨(cl_X5_wideLike_2 _ (List.mem_of_getElem? (i := 2) rfl)), List.forall_mem_cons.mpr ⟨(cl_X5_wideLike_2 _ (List.mem_of_getElem? (i := 3) rfl)), List.forall_mem_cons.mpr ⟨(cl_X5_wideLike_2 _ (List.mem_of_getElem? (i := 4) rfl)), fun _ h => absurd h List.not_mem_nil⟩⟩⟩⟩⟩⟩⟩⟩⟩⟩⟩⟩⟩⟩⟩⟩⟩⟩⟩⟩⟩⟩⟩⟩) w) ((List.forall_mem_cons.mpr ⟨(cl_X5_wideLike_2 _ (List.mem_of_getElem? (i := 5) rfl)), List.forall_mem_cons.mpr ⟨(cl_X5_wideLike_2 _ (List.mem_of_getElem? (i := 6) rfl)), List.forall_mem_cons.mpr ⟨(cl_X5_wideLike_2 _ (List.mem_of_getElem? (i := 7) rfl)), List.forall_mem_cons.mpr ⟨(cl_X5_wideLike_2 _ (List.mem_of_getElem? (i := 8) rfl)), List.forall_mem_cons.mpr ⟨(cl_X5_wideLike_2 _ (List.mem_of_getElem? (i := 9) rfl)), List.forall_mem_cons.mpr ⟨(cl_X5_wideLike_2 _ (List.mem_of_getElem? (i := 10) rfl)), List.forall_mem_cons.mpr ⟨(cl_X5_wideLike_2 _ (List.mem_of_getElem? (i := 11) rfl)), List.forall_mem_cons.mpr ⟨(cl_X5_wideLike_2 _ (List.mem_of_getElem? (i := 12) rfl)), List.forall_mem_cons.mpr ⟨(cl_X5_wideLike_2 _ (List.mem_of_getElem? (i := 13) rfl)), List.forall_mem_cons.mpr ⟨(cl_X5_wideLike_2 _ (List.mem_of_getElem? (i := 14) rfl)), List.forall_mem_cons.mpr ⟨(cl_X5_wideLike_2 _ (List.mem_of_getElem? (i := 15) rfl)), List.forall_mem_cons.mpr ⟨(cl_X5_wideLike_2 _ (List.mem_of_getElem? (i := 16) rfl)), List.forall_mem_cons.mpr ⟨(cl_X5_wideLike_2 _ (List.mem_of_getElem? (i := 17) rfl)), List.forall_mem_cons.mpr ⟨(cl_X5_wideLike_2 _ (List.mem_of_getElem? (i := 18) rfl)), List.forall_mem_cons.mpr ⟨(cl_X5_wideLike_2 _ (List.mem_of_getElem? (i := 19) rfl)), fun _ h => absurd h List.not_mem_nil⟩⟩⟩⟩⟩⟩⟩⟩⟩⟩⟩⟩⟩⟩⟩) w)) w) ((cl_X5_wideLike_4) w)) w) ((cl_X5_wideLike_3) w)⟩) (by decide +kernel)
set_option maxRecDepth 20000 in
theorem gX5_wideLike_X5_like : GoodIn wsX5_wideLike (wsV RX5 167 RX5 yX5_like wsX5_like) := goodIn_app (goodIn_sub (List.forall_mem_cons.mpr ⟨(cl_X5_wideLike_1 _ (List.mem_of_getElem? (i := 1) rfl)), List.forall_mem_cons.mpr ⟨(cl_X5_wideLike_1 _ (List.mem_of_getElem? (i := 2) rfl)), List.forall_mem_cons.mpr ⟨(cl_X5_wideLike_1 _ (List.mem_of_getElem? (i := 3) rfl)), List.forall_mem_cons.mpr ⟨(cl_X5_wideLike_1 _ (List.mem_of_getElem? (i := 4) rfl)), fun _ h => absurd h List.not_mem_nil⟩⟩⟩⟩) (by decide +kernel)) ggX5_wideLike_X5_like
noncomputable def dz_p10_17 : List (Nat × Instr × Nat) := [(0, (.aload_n 0, 1)), (1, (.aload_n 0, 1)), (2, (.getfield 16, 3)), (5, (.iload_n 1, 1)), (6, (.iload_n 2, 1)), (7, (.invokevirtual 167, 3)), (10, (.ireturn, 1))]
theorem dy_p10_17 : dz_ok cX5_wideLike dz_p10_17 = true := by decide +kernel
theorem dX5_wideLike_0 : decode cX5_wideLike 0 = .ok (.aload_n 0, 1) := dz_at (i := 0) dy_p10_17 rfl
theorem dX5_wideLike_1 : decode cX5_wideLike 1 = .ok (.aload_n 0, 1) := dz_at (i := 1) dy_p10_17 rfl
theorem dX5_wideLike_2 : decode cX5_wideLike 2 = .ok (.getfield 16, 3) := dz_at (i := 2) dy_p10_17 rfl
theorem dX5_wideLike_5 : decode cX5_wideLike 5 = .ok (.iload_n 1, 1) := dz_at (i := 3) dy_p10_17 rfl
theorem dX5_wideLike_6 : decode cX5_wideLike 6 = .ok (.iload_n 2, 1) := dz_at (i := 4) dy_p10_17 rfl
theorem dX5_wideLike_7 : decode cX5_wideLike 7 = .ok (.invokevirtual 167, 3) := dz_at (i := 5) dy_p10_17 rfl
theorem dX5_wideLike_10 : decode cX5_wideLike 10 = .ok (.ireturn, 1) := dz_at (i := 6) dy_p10_17 rfl
noncomputable def o_X5_wideLike (f1 : Nat → Int64) (p0 : Int32) (p1 : Int32) : Bool × Int32 :=
  ((o_X5_like true f1 p0 p1).1, (o_X5_like true f1 p0 p1).2)
set_option maxHeartbeats 4000000 in
set_option maxRecDepth 100000 in
theorem k_X5_wideLike (l : Launch) (dC : Nat → ClassId) (dI : Nat → Nat → Nat) (cy : ClassId) (h0 : Nat) (h1 : Nat) (hc1 : Nat) (h2 : Nat) (hc2 : Nat) (a1 : Int32) (f1 : Nat → Int64) (a2 : Int32) (f2 : Nat → Int64) (th : Int32) (rf : Int32) (kn : Int32) (sz : Nat) (N : Nat) (p0 : Int32) (p1 : Int32) : Met l yX5_wideLike wsX5_wideLike ({ frames := 5, cells := 0, slots := 0, locals := 111 }) (va_Pc [.ref h0, .int p0, .int p1] (xM (dC, dI) xCl [(h0, eM h1 h2 th rf kn), (h1, eMR true hc1 a1), (hc1, eA cy f1), (h2, eMR false hc2 a2), (hc2, eA cy f2)] [(cy, .long)] sz N)) (va_Qi (fun (r : Int32) (_ : Unit) => r = b2i ((o_X5_wideLike f1 p0 p1).1)) (fun _ t => xW (dC, dI) xCl [(h0, eM h1 h2 (o_X5_wideLike f1 p0 p1).2 rf kn), (h1, eMR true hc1 a1), (hc1, eA cy f1), (h2, eMR false hc2 a2), (hc2, eA cy f2)] (va_A [(h0, eM h1 h2 th rf kn), (h1, eMR true hc1 a1), (hc1, eA cy f1), (h2, eMR false hc2 a2), (hc2, eA cy f2)] sz) t) (va_A [(h0, eM h1 h2 th rf kn), (h1, eMR true hc1 a1), (hc1, eA cy f1), (h2, eMR false hc2 a2), (hc2, eA cy f2)] sz)) 0 0 (va_A [(h0, eM h1 h2 th rf kn), (h1, eMR true hc1 a1), (hc1, eA cy f1), (h2, eMR false hc2 a2), (hc2, eA cy f2)] sz) := by
  refine Met.ofW (cc := cX5_wideLike) (maxL := 3) (ret := (some .boolean)) (by decide +kernel) rfl ?_
  intro p e s m args below meth c s₁ B hml hv
  obtain ⟨rfl, hsz, hP, hK, hD0, hN, hG⟩ := hv
  have hx := B.exec
  have hb := B.bytes
  have hr := B.returns
  have hts := atoms_spec (ws := wsX5_wideLike) B.pre
  have hown : s.vm.findClass RX5 = some m.cls := findClass_of_methodNamed B.named
  have hlocks := B.notSynchronized
  subst hsz
  have hAN : ∀ q, va_A [(h0, eM h1 h2 th rf kn), (h1, eMR true hc1 a1), (hc1, eA cy f1), (h2, eMR false hc2 a2), (hc2, eA cy f2)] s.heap.size q → N ≤ q := xA_N hD0 hN
  have hD := hD0.self (sz := s.heap.size)
  generalize hAe : va_A [(h0, eM h1 h2 th rf kn), (h1, eMR true hc1 a1), (hc1, eA cy f1), (h2, eMR false hc2 a2), (hc2, eA cy f2)] s.heap.size = A at hD hAN ⊢
  have hA : ∀ q : Nat, s.heap.size ≤ q → A q := fun q h => by rw [← hAe]; exact Or.inr h
  have hS : va_S A s.heap s.heap [] := va_S.rf
  have hP : va_P (dC, dI) xCl [(h0, eM h1 h2 th rf kn), (h1, eMR true hc1 a1), (hc1, eA cy f1), (h2, eMR false hc2 a2), (hc2, eA cy f2)] s.heap := hP
  have hl := lv_entry ([.ref h0, .int p0, .int p1]) (n := 3) (Nat.le_of_ble_eq_true rfl)
  rw [lg_entry_eq]
  generalize (lg_sl ([.ref h0, .int p0, .int p1]) ++ List.replicate (3 - (lg_sl ([.ref h0, .int p0, .int p1])).length) Slot.unset).toArray = ls at hl ⊢
  have hl : lv_has ls 3 [(0, .ref h0), (1, .int p0), (2, .int p1)] := hl
  refine lv_aload_n hx hb dX5_wideLike_0 rfl (lv_at hl 0 rfl) ?_
  refine lv_aload_n hx hb dX5_wideLike_1 rfl (lv_at hl 0 rfl) ?_
  refine va_get (D := (dC, dI)) (ci := 7) (v := .ref h1) (C := RX5) (T := TX5) (N := 5) hx hb hts (by decide +kernel) hown hK hP 0 rfl rfl 0 (by decide +kernel) (hts (.fieldLink RX5 16 "EdgefloatsModel" "wide" "LEdgefloatsModel$Row;") (by decide +kernel)) (fun _ h9 => h9) rfl dX5_wideLike_2 ?_
  refine lv_iload_n hx hb dX5_wideLike_5 rfl (lv_at hl 1 rfl) ?_
  refine lv_iload_n hx hb dX5_wideLike_6 rfl (lv_at hl 2 rfl) ?_
  have hPc := hP.sub (ws' := [(h0, eM h1 h2 th rf kn), (h1, eMR true hc1 a1), (hc1, eA cy f1)]) [0, 1, 2] rfl
  have hDc := hD.sub (ws' := [(h0, eM h1 h2 th rf kn), (h1, eMR true hc1 a1), (hc1, eA cy f1)]) [0, 1, 2] (by decide +kernel) rfl
  have hKc := hK.sub (tys' := [(cy, .long)]) [0] rfl
  have hFc := va_free (wc := [(h0, eM h1 h2 th rf kn), (h1, eMR true hc1 a1), (hc1, eA cy f1)]) hD hS hA [0, 1, 2] rfl
  refine va_calli (va_runV (As := [.ref h1, .int p0, .int p1]) (rest := []) ⟨hx, hb, hml, hown, hts⟩ (k_X5_like l dC dI cy h0 h1 h2 h1 hc1 true a1 f1 th rf kn s.heap.size N p0 p1) (cwV 3 hts gX5_wideLike_X5_like rfl rfl rfl (by decide +kernel) ⟨Nat.le_of_ble_eq_true rfl, Nat.le_of_ble_eq_true rfl⟩) (xM.preV hKc hPc hDc hAN (Nat.le_trans hN hS.1) (hG.kept hS hAN) (ci := 7) (q0 := 0) rfl rfl) rfl rfl hl.1 rfl (lv_room (Nat.le_of_ble_eq_true rfl)) dX5_wideLike_7 ⟨Nat.le_of_ble_eq_true rfl, Nat.le_of_ble_eq_true rfl⟩) hS (fun q _ h => hFc q h) hFc (fun r_1 u t H locs ht hvm hw hB hz hk hS => ?_)
  replace hw : r_1 = b2i ((o_X5_like true f1 p0 p1).1) := hw
  subst r_1
  obtain ⟨hP1, hD1⟩ := hB
  rw [ht] at hP1
  obtain ⟨hP, hD⟩ := va_join (wr := [(h2, eMR false hc2 a2), (hc2, eA cy f2)]) (w1 := [(h0, eM h1 h2 (o_X5_like true f1 p0 p1).2 rf kn), (h1, eMR true hc1 a1), (hc1, eA cy f1)]) hP hD [0, 1, 2] [3, 4] rfl rfl (by decide +kernel) (by decide +kernel) hk hFc hP1 hD1
  have hP := hP.sub (ws' := [(h0, eM h1 h2 (o_X5_like true f1 p0 p1).2 rf kn), (h1, eMR true hc1 a1), (hc1, eA cy f1), (h2, eMR false hc2 a2), (hc2, eA cy f2)]) [2, 3, 4, 0, 1] rfl
  have hD := hD.sub (ws' := [(h0, eM h1 h2 (o_X5_like true f1 p0 p1).2 rf kn), (h1, eMR true hc1 a1), (hc1, eA cy f1), (h2, eMR false hc2 a2), (hc2, eA cy f2)]) [2, 3, 4, 0, 1] (by decide +kernel) rfl
  have he : o_X5_wideLike f1 p0 p1 = ((o_X5_like true f1 p0 p1).1, (o_X5_like true f1 p0 p1).2) := by (rw [o_X5_wideLike]) <;> rfl
  refine W.widen (k := 0) (n := 0) (by omega) (by omega) ?_
  exact W.zret (v := (b2i ((o_X5_like true f1 p0 p1).1))) (ty := .boolean) hx hb hr (b2i_nar _) (fun t ht hW => ⟨⟨_, (), rfl, (by (rw [he]) <;> rfl), (by rw [he]; exact ⟨by rw [ht]; exact hP, hD⟩)⟩, hS.F ht⟩) hS.2.2 dX5_wideLike_10
theorem cl_X5_wideBelow_1 : ∀ w ∈ wsX5_wideBelow_r1, w ∈ wsX5_wideBelow := fun _ h => (List.mem_cons_of_mem _ (List.mem_append_left _ (List.mem_append_left _ (List.mem_append_left _ h))))
theorem cl_X5_wideBelow_2 : ∀ w ∈ wsX5_wideBelow_r2, w ∈ wsX5_wideBelow := fun _ h => (List.mem_cons_of_mem _ (List.mem_append_left _ (List.mem_append_left _ (List.mem_append_right _ h))))
theorem cl_X5_wideBelow_3 : ∀ w ∈ wsX50, w ∈ wsX5_wideBelow := fun _ h => (List.mem_cons_of_mem _ (List.mem_append_left _ (List.mem_append_right _ h)))
theorem cl_X5_wideBelow_4 : ∀ w ∈ wsX40, w ∈ wsX5_wideBelow := fun _ h => (List.mem_cons_of_mem _ (List.mem_append_right _ h))
set_option maxRecDepth 20000 in
theorem ggX5_wideBelow_X5_below : GoodIn wsX5_wideBelow wsX5_below := goodIn_sub (List.forall_mem_cons.mpr ⟨(cl_X5_wideBelow_1 _ (List.mem_of_getElem? (i := 5) rfl)), fun w h => (List.mem_append.mp h).elim ((fun w h => (List.mem_append.mp h).elim ((fun w h => (List.mem_append.mp h).elim ((List.forall_mem_cons.mpr ⟨(cl_X5_wideBelow_1 _ (List.mem_of_getElem? (i := 6) rfl)), List.forall_mem_cons.mpr ⟨(cl_X5_wideBelow_1 _ (List.mem_of_getElem? (i := 7) rfl)), List.forall_mem_cons.mpr ⟨(cl_X5_wideBelow_1 _ (List.mem_of_getElem? (i := 8) rfl)), List.forall_mem_cons.mpr ⟨(cl_X5_wideBelow_1 _ (List.mem_of_getElem? (i := 4) rfl)), List.forall_mem_cons.mpr ⟨(cl_X5_wideBelow_1 _ (List.mem_of_getElem? (i := 9) rfl)), List.forall_mem_cons.mpr ⟨(cl_X5_wideBelow_1 _ (List.mem_of_getElem? (i := 10) rfl)), List.forall_mem_cons.mpr ⟨(cl_X5_wideBelow_1 _ (List.mem_of_getElem? (i := 11) rfl)), List.forall_mem_cons.mpr ⟨(cl_X5_wideBelow_1 _ (List.mem_of_getElem? (i := 12) rfl)), List.forall_mem_cons.mpr ⟨(cl_X5_wideBelow_1 _ (List.mem_of_getElem? (i := 13) rfl)), List.forall_mem_cons.mpr ⟨(cl_X5_wideBelow_1 _ (List.mem_of_getElem? (i := 14) rfl)), List.forall_mem_cons.mpr ⟨(cl_X5_wideBelow_1 _ (List.mem_of_getElem? (i := 15) rfl)), List.forall_mem_cons.mpr ⟨(cl_X5_wideBelow_1 _ (List.mem_of_getElem? (i := 16) rfl)), List.forall_mem_cons.mpr ⟨(cl_X5_wideBelow_1 _ (List.mem_of_getElem? (i := 17) rfl)), List.forall_mem_cons.mpr ⟨(cl_X5_wideBelow_1 _ (List.mem_of_getElem? (i := 18) rfl)), List.forall_mem_cons.mpr ⟨(cl_X5_wideBelow_1 _ (List.mem_of_getElem? (i := 19) rfl)), List.forall_mem_cons.mpr ⟨(cl_X5_wideBelow_1 _ (List.mem_of_getElem? (i := 20) rfl)), List.forall_mem_cons.mpr ⟨(cl_X5_wideBelow_1 _ (List.mem_of_getElem? (i := 21) rfl)), List.forall_mem_cons.mpr ⟨(cl_X5_wideBelow_1 _ (List.mem_of_getElem? (i := 22) rfl)), List.forall_mem_cons.mpr ⟨(cl_X5_wideBelow_1 _ (List.mem_of_getElem? (i := 23) rfl)), List.forall_mem_cons.mpr ⟨(cl_X5_wideBelow_2 _ (List.mem_of_getElem? (i := 0) rfl)), List.forall_mem_cons.mpr ⟨(cl_X5_wideBelow_2 _ (List.mem_of_getElem? (i := 1) rfl)), List.forall_mem_cons.mpr ⟨(cl_X5_wideBelow_2 _ (List.mem_of_getElem? (i := 2) rfl)), List.forall_mem_cons.mpr ⟨(cl_X5_wideBelow_2 _ (List.mem_of_getElem? (i := 3) rfl)), List.forall_mem_cons.mpr ⟨(cl_X5_wideBelow_2 _ (List.mem_of_getElem? (i := 4) rfl)), fun _ h => absurd h List.not_mem_nil⟩⟩⟩⟩⟩⟩⟩⟩⟩⟩⟩⟩⟩⟩⟩⟩⟩⟩⟩⟩⟩⟩⟩⟩) w) ((List.forall_mem_cons.mpr ⟨(cl_X5_wideBelow_2 _ (List.mem_of_getElem? (i := 5) rfl)), List.forall_mem_cons.mpr ⟨(cl_X5_wideBelow_2 _ (List.mem_of_getElem? (i := 6) rfl)), List.forall_mem_cons.mpr ⟨(cl_X5_wideBelow_2 _ (List.mem_of_getElem? (i := 7) rfl)), List.forall_mem_cons.mpr ⟨(cl_X5_wideBelow_2 _ (List.mem_of_getElem? (i := 8) rfl)), List.forall_mem_cons.mpr ⟨(cl_X5_wideBelow_2 _ (List.mem_of_getElem? (i := 9) rfl)), List.forall_mem_cons.mpr ⟨(cl_X5_wideBelow_2 _ (List.mem_of_getElem? (i := 10) rfl)), List.forall_mem_cons.mpr ⟨(cl_X5_wideBelow_2 _ (List.mem_of_getElem? (i := 11) rfl)), List.forall_mem_cons.mpr ⟨(cl_X5_wideBelow_2 _ (List.mem_of_getElem? (i := 12) rfl)), List.forall_mem_cons.mpr ⟨(cl_X5_wideBelow_2 _ (List.mem_of_getElem? (i := 13) rfl)), List.forall_mem_cons.mpr ⟨(cl_X5_wideBelow_2 _ (List.mem_of_getElem? (i := 14) rfl)), List.forall_mem_cons.mpr ⟨(cl_X5_wideBelow_2 _ (List.mem_of_getElem? (i := 15) rfl)), List.forall_mem_cons.mpr ⟨(cl_X5_wideBelow_2 _ (List.mem_of_getElem? (i := 16) rfl)), fun _ h => absurd h List.not_mem_nil⟩⟩⟩⟩⟩⟩⟩⟩⟩⟩⟩⟩) w)) w) ((cl_X5_wideBelow_4) w)) w) ((cl_X5_wideBelow_3) w)⟩) (by decide +kernel)
set_option maxRecDepth 20000 in
theorem gX5_wideBelow_X5_below : GoodIn wsX5_wideBelow (wsV RX5 171 RX5 yX5_below wsX5_below) := goodIn_app (goodIn_sub (List.forall_mem_cons.mpr ⟨(cl_X5_wideBelow_1 _ (List.mem_of_getElem? (i := 1) rfl)), List.forall_mem_cons.mpr ⟨(cl_X5_wideBelow_1 _ (List.mem_of_getElem? (i := 2) rfl)), List.forall_mem_cons.mpr ⟨(cl_X5_wideBelow_1 _ (List.mem_of_getElem? (i := 3) rfl)), List.forall_mem_cons.mpr ⟨(cl_X5_wideBelow_1 _ (List.mem_of_getElem? (i := 4) rfl)), fun _ h => absurd h List.not_mem_nil⟩⟩⟩⟩) (by decide +kernel)) ggX5_wideBelow_X5_below
noncomputable def dz_p10_18 : List (Nat × Instr × Nat) := [(0, (.aload_n 0, 1)), (1, (.aload_n 0, 1)), (2, (.getfield 16, 3)), (5, (.iload_n 1, 1)), (6, (.iload_n 2, 1)), (7, (.iload_n 3, 1)), (8, (.invokevirtual 171, 3)), (11, (.ireturn, 1))]
theorem dy_p10_18 : dz_ok cX5_wideBelow dz_p10_18 = true := by decide +kernel
theorem dX5_wideBelow_0 : decode cX5_wideBelow 0 = .ok (.aload_n 0, 1) := dz_at (i := 0) dy_p10_18 rfl
theorem dX5_wideBelow_1 : decode cX5_wideBelow 1 = .ok (.aload_n 0, 1) := dz_at (i := 1) dy_p10_18 rfl
theorem dX5_wideBelow_2 : decode cX5_wideBelow 2 = .ok (.getfield 16, 3) := dz_at (i := 2) dy_p10_18 rfl
theorem dX5_wideBelow_5 : decode cX5_wideBelow 5 = .ok (.iload_n 1, 1) := dz_at (i := 3) dy_p10_18 rfl
theorem dX5_wideBelow_6 : decode cX5_wideBelow 6 = .ok (.iload_n 2, 1) := dz_at (i := 4) dy_p10_18 rfl
theorem dX5_wideBelow_7 : decode cX5_wideBelow 7 = .ok (.iload_n 3, 1) := dz_at (i := 5) dy_p10_18 rfl
theorem dX5_wideBelow_8 : decode cX5_wideBelow 8 = .ok (.invokevirtual 171, 3) := dz_at (i := 6) dy_p10_18 rfl
theorem dX5_wideBelow_11 : decode cX5_wideBelow 11 = .ok (.ireturn, 1) := dz_at (i := 7) dy_p10_18 rfl
noncomputable def o_X5_wideBelow (f1 : Nat → Int64) (p0 : Int32) (p1 : Int32) (p2 : Bool) : Bool × Int32 :=
  ((o_X5_below true f1 p0 p1 p2).1, (o_X5_below true f1 p0 p1 p2).2)
set_option maxHeartbeats 4000000 in
set_option maxRecDepth 100000 in
theorem k_X5_wideBelow (l : Launch) (dC : Nat → ClassId) (dI : Nat → Nat → Nat) (cy : ClassId) (h0 : Nat) (h1 : Nat) (hc1 : Nat) (h2 : Nat) (hc2 : Nat) (a1 : Int32) (f1 : Nat → Int64) (a2 : Int32) (f2 : Nat → Int64) (th : Int32) (rf : Int32) (kn : Int32) (sz : Nat) (N : Nat) (p0 : Int32) (p1 : Int32) (p2 : Bool) : Met l yX5_wideBelow wsX5_wideBelow ({ frames := 4, cells := 0, slots := 0, locals := 92 }) (va_Pc [.ref h0, .int p0, .int p1, .int (b2i p2)] (xM (dC, dI) xCl [(h0, eM h1 h2 th rf kn), (h1, eMR true hc1 a1), (hc1, eA cy f1), (h2, eMR false hc2 a2), (hc2, eA cy f2)] [(cy, .long)] sz N)) (va_Qi (fun (r : Int32) (_ : Unit) => r = b2i ((o_X5_wideBelow f1 p0 p1 p2).1)) (fun _ t => xW (dC, dI) xCl [(h0, eM h1 h2 (o_X5_wideBelow f1 p0 p1 p2).2 rf kn), (h1, eMR true hc1 a1), (hc1, eA cy f1), (h2, eMR false hc2 a2), (hc2, eA cy f2)] (va_A [(h0, eM h1 h2 th rf kn), (h1, eMR true hc1 a1), (hc1, eA cy f1), (h2, eMR false hc2 a2), (hc2, eA cy f2)] sz) t) (va_A [(h0, eM h1 h2 th rf kn), (h1, eMR true hc1 a1), (hc1, eA cy f1), (h2, eMR false hc2 a2), (hc2, eA cy f2)] sz)) 0 0 (va_A [(h0, eM h1 h2 th rf kn), (h1, eMR true hc1 a1), (hc1, eA cy f1), (h2, eMR false hc2 a2), (hc2, eA cy f2)] sz) := by
  refine Met.ofW (cc := cX5_wideBelow) (maxL := 4) (ret := (some .boolean)) (by decide +kernel) rfl ?_
  intro p e s m args below meth c s₁ B hml hv
  obtain ⟨rfl, hsz, hP, hK, hD0, hN, hG⟩ := hv
  have hx := B.exec
  have hb := B.bytes
  have hr := B.returns
  have hts := atoms_spec (ws := wsX5_wideBelow) B.pre
  have hown : s.vm.findClass RX5 = some m.cls := findClass_of_methodNamed B.named
  have hlocks := B.notSynchronized
  subst hsz
  have hAN : ∀ q, va_A [(h0, eM h1 h2 th rf kn), (h1, eMR true hc1 a1), (hc1, eA cy f1), (h2, eMR false hc2 a2), (hc2, eA cy f2)] s.heap.size q → N ≤ q := xA_N hD0 hN
  have hD := hD0.self (sz := s.heap.size)
  generalize hAe : va_A [(h0, eM h1 h2 th rf kn), (h1, eMR true hc1 a1), (hc1, eA cy f1), (h2, eMR false hc2 a2), (hc2, eA cy f2)] s.heap.size = A at hD hAN ⊢
  have hA : ∀ q : Nat, s.heap.size ≤ q → A q := fun q h => by rw [← hAe]; exact Or.inr h
  have hS : va_S A s.heap s.heap [] := va_S.rf
  have hP : va_P (dC, dI) xCl [(h0, eM h1 h2 th rf kn), (h1, eMR true hc1 a1), (hc1, eA cy f1), (h2, eMR false hc2 a2), (hc2, eA cy f2)] s.heap := hP
  have hl := lv_entry ([.ref h0, .int p0, .int p1, .int (b2i p2)]) (n := 4) (Nat.le_of_ble_eq_true rfl)
  rw [lg_entry_eq]
  generalize (lg_sl ([.ref h0, .int p0, .int p1, .int (b2i p2)]) ++ List.replicate (4 - (lg_sl ([.ref h0, .int p0, .int p1, .int (b2i p2)])).length) Slot.unset).toArray = ls at hl ⊢
  have hl : lv_has ls 4 [(0, .ref h0), (1, .int p0), (2, .int p1), (3, .int (b2i p2))] := hl
  refine lv_aload_n hx hb dX5_wideBelow_0 rfl (lv_at hl 0 rfl) ?_
  refine lv_aload_n hx hb dX5_wideBelow_1 rfl (lv_at hl 0 rfl) ?_
  refine va_get (D := (dC, dI)) (ci := 7) (v := .ref h1) (C := RX5) (T := TX5) (N := 5) hx hb hts (by decide +kernel) hown hK hP 0 rfl rfl 0 (by decide +kernel) (hts (.fieldLink RX5 16 "EdgefloatsModel" "wide" "LEdgefloatsModel$Row;") (by decide +kernel)) (fun _ h9 => h9) rfl dX5_wideBelow_2 ?_
  refine lv_iload_n hx hb dX5_wideBelow_5 rfl (lv_at hl 1 rfl) ?_
  refine lv_iload_n hx hb dX5_wideBelow_6 rfl (lv_at hl 2 rfl) ?_
  refine lv_iload_n hx hb dX5_wideBelow_7 rfl (lv_at hl 3 rfl) ?_
  have hPc := hP.sub (ws' := [(h0, eM h1 h2 th rf kn), (h1, eMR true hc1 a1), (hc1, eA cy f1)]) [0, 1, 2] rfl
  have hDc := hD.sub (ws' := [(h0, eM h1 h2 th rf kn), (h1, eMR true hc1 a1), (hc1, eA cy f1)]) [0, 1, 2] (by decide +kernel) rfl
  have hKc := hK.sub (tys' := [(cy, .long)]) [0] rfl
  have hFc := va_free (wc := [(h0, eM h1 h2 th rf kn), (h1, eMR true hc1 a1), (hc1, eA cy f1)]) hD hS hA [0, 1, 2] rfl
  refine va_calli (va_runV (As := [.ref h1, .int p0, .int p1, .int (b2i p2)]) (rest := []) ⟨hx, hb, hml, hown, hts⟩ (k_X5_below l dC dI cy h0 h1 h2 h1 hc1 true a1 f1 th rf kn s.heap.size N p0 p1 p2) (cwV 4 hts gX5_wideBelow_X5_below rfl rfl rfl (by decide +kernel) ⟨Nat.le_of_ble_eq_true rfl, Nat.le_of_ble_eq_true rfl⟩) (xM.preV hKc hPc hDc hAN (Nat.le_trans hN hS.1) (hG.kept hS hAN) (ci := 7) (q0 := 0) rfl rfl) rfl rfl hl.1 rfl (lv_room (Nat.le_of_ble_eq_true rfl)) dX5_wideBelow_8 ⟨Nat.le_of_ble_eq_true rfl, Nat.le_of_ble_eq_true rfl⟩) hS (fun q _ h => hFc q h) hFc (fun r_1 u t H locs ht hvm hw hB hz hk hS => ?_)
  replace hw : r_1 = b2i ((o_X5_below true f1 p0 p1 p2).1) := hw
  subst r_1
  obtain ⟨hP1, hD1⟩ := hB
  rw [ht] at hP1
  obtain ⟨hP, hD⟩ := va_join (wr := [(h2, eMR false hc2 a2), (hc2, eA cy f2)]) (w1 := [(h0, eM h1 h2 (o_X5_below true f1 p0 p1 p2).2 rf kn), (h1, eMR true hc1 a1), (hc1, eA cy f1)]) hP hD [0, 1, 2] [3, 4] rfl rfl (by decide +kernel) (by decide +kernel) hk hFc hP1 hD1
  have hP := hP.sub (ws' := [(h0, eM h1 h2 (o_X5_below true f1 p0 p1 p2).2 rf kn), (h1, eMR true hc1 a1), (hc1, eA cy f1), (h2, eMR false hc2 a2), (hc2, eA cy f2)]) [2, 3, 4, 0, 1] rfl
  have hD := hD.sub (ws' := [(h0, eM h1 h2 (o_X5_below true f1 p0 p1 p2).2 rf kn), (h1, eMR true hc1 a1), (hc1, eA cy f1), (h2, eMR false hc2 a2), (hc2, eA cy f2)]) [2, 3, 4, 0, 1] (by decide +kernel) rfl
  have he : o_X5_wideBelow f1 p0 p1 p2 = ((o_X5_below true f1 p0 p1 p2).1, (o_X5_below true f1 p0 p1 p2).2) := by (rw [o_X5_wideBelow]) <;> rfl
  refine W.widen (k := 0) (n := 0) (by omega) (by omega) ?_
  exact W.zret (v := (b2i ((o_X5_below true f1 p0 p1 p2).1))) (ty := .boolean) hx hb hr (b2i_nar _) (fun t ht hW => ⟨⟨_, (), rfl, (by (rw [he]) <;> rfl), (by rw [he]; exact ⟨by rw [ht]; exact hP, hD⟩)⟩, hS.F ht⟩) hS.2.2 dX5_wideBelow_11
theorem cl_X5_wideHash_1 : ∀ w ∈ [.methodLink RX5 35 yX5_isNo, .static yX5_isNo, .initialized RX5, .code yX5_isNo cX5_isNo 1 (some .boolean), .methodLink RX5 31 yX5_isIn, .static yX5_isIn, .code yX5_isIn cX5_isIn 3 (some .boolean), .methodLink RX5 42 yX5_fails, .instanceMethod yX5_fails, .selects RX5 yX5_fails yX5_fails, .code yX5_fails cX5_fails 3 (some .boolean), .fieldLink RX5 27 "EdgefloatsModel" "thrown" "I", .methodLink RX5 175 yX5_hashOf, .instanceMethod yX5_hashOf, .selects RX5 yX5_hashOf yX5_hashOf, .code yX5_hashOf cX5_hashOf 2 (some .int), .fieldLink RX5 16 "EdgefloatsModel" "wide" "LEdgefloatsModel$Row;", .fieldLink RX5 74 "EdgefloatsModel$Row" "cells" "[J"], w ∈ wsX5_wideHash := fun _ h => (List.mem_cons_of_mem _ (List.mem_append_left _ (List.mem_append_left _ h)))
theorem cl_X5_wideHash_2 : ∀ w ∈ wsX50, w ∈ wsX5_wideHash := fun _ h => (List.mem_cons_of_mem _ (List.mem_append_left _ (List.mem_append_right _ h)))
theorem cl_X5_wideHash_3 : ∀ w ∈ wsX40, w ∈ wsX5_wideHash := fun _ h => (List.mem_cons_of_mem _ (List.mem_append_right _ h))
set_option maxRecDepth 20000 in
theorem ggX5_wideHash_X5_isNo : GoodIn wsX5_wideHash wsX5_isNo := goodIn_sub (List.forall_mem_cons.mpr ⟨(cl_X5_wideHash_1 _ (List.mem_of_getElem? (i := 3) rfl)), List.forall_mem_cons.mpr ⟨(cl_X5_wideHash_1 _ (List.mem_of_getElem? (i := 4) rfl)), List.forall_mem_cons.mpr ⟨(cl_X5_wideHash_1 _ (List.mem_of_getElem? (i := 5) rfl)), List.forall_mem_cons.mpr ⟨(cl_X5_wideHash_1 _ (List.mem_of_getElem? (i := 2) rfl)), List.forall_mem_cons.mpr ⟨(cl_X5_wideHash_1 _ (List.mem_of_getElem? (i := 6) rfl)), fun _ h => absurd h List.not_mem_nil⟩⟩⟩⟩⟩) (by decide +kernel)
set_option maxRecDepth 20000 in
theorem gX5_wideHash_X5_isNo : GoodIn wsX5_wideHash (va_wsS RX5 35 yX5_isNo wsX5_isNo) := goodIn_app (goodIn_sub (List.forall_mem_cons.mpr ⟨(cl_X5_wideHash_1 _ (List.mem_of_getElem? (i := 0) rfl)), List.forall_mem_cons.mpr ⟨(cl_X5_wideHash_1 _ (List.mem_of_getElem? (i := 1) rfl)), List.forall_mem_cons.mpr ⟨(cl_X5_wideHash_1 _ (List.mem_of_getElem? (i := 2) rfl)), fun _ h => absurd h List.not_mem_nil⟩⟩⟩) (by decide +kernel)) ggX5_wideHash_X5_isNo
set_option maxRecDepth 20000 in
theorem ggX5_wideHash_X5_isIn : GoodIn wsX5_wideHash wsX5_isIn := goodIn_r _ [7] (by decide +kernel) (by decide +kernel)
set_option maxRecDepth 20000 in
theorem gX5_wideHash_X5_isIn : GoodIn wsX5_wideHash (va_wsS RX5 31 yX5_isIn wsX5_isIn) := goodIn_app (goodIn_sub (List.forall_mem_cons.mpr ⟨(cl_X5_wideHash_1 _ (List.mem_of_getElem? (i := 4) rfl)), List.forall_mem_cons.mpr ⟨(cl_X5_wideHash_1 _ (List.mem_of_getElem? (i := 5) rfl)), List.forall_mem_cons.mpr ⟨(cl_X5_wideHash_1 _ (List.mem_of_getElem? (i := 2) rfl)), fun _ h => absurd h List.not_mem_nil⟩⟩⟩) (by decide +kernel)) ggX5_wideHash_X5_isIn
set_option maxRecDepth 20000 in
theorem ggX5_wideHash_X5_fails : GoodIn wsX5_wideHash wsX5_fails := goodIn_sub (List.forall_mem_cons.mpr ⟨(cl_X5_wideHash_1 _ (List.mem_of_getElem? (i := 10) rfl)), fun w h => (List.mem_append.mp h).elim ((List.forall_mem_cons.mpr ⟨(cl_X5_wideHash_1 _ (List.mem_of_getElem? (i := 11) rfl)), fun _ h => absurd h List.not_mem_nil⟩) w) ((cl_X5_wideHash_2) w)⟩) (by decide +kernel)
set_option maxRecDepth 20000 in
theorem gX5_wideHash_X5_fails : GoodIn wsX5_wideHash (wsV RX5 42 RX5 yX5_fails wsX5_fails) := goodIn_app (goodIn_sub (List.forall_mem_cons.mpr ⟨(cl_X5_wideHash_1 _ (List.mem_of_getElem? (i := 7) rfl)), List.forall_mem_cons.mpr ⟨(cl_X5_wideHash_1 _ (List.mem_of_getElem? (i := 8) rfl)), List.forall_mem_cons.mpr ⟨(cl_X5_wideHash_1 _ (List.mem_of_getElem? (i := 9) rfl)), List.forall_mem_cons.mpr ⟨(cl_X5_wideHash_1 _ (List.mem_of_getElem? (i := 2) rfl)), fun _ h => absurd h List.not_mem_nil⟩⟩⟩⟩) (by decide +kernel)) ggX5_wideHash_X5_fails
set_option maxRecDepth 20000 in
theorem ggX5_wideHash_X5_hashOf : GoodIn wsX5_wideHash wsX5_hashOf := goodIn_sub (List.forall_mem_cons.mpr ⟨(cl_X5_wideHash_1 _ (List.mem_of_getElem? (i := 15) rfl)), fun w h => (List.mem_append.mp h).elim ((fun w h => (List.mem_append.mp h).elim ((List.forall_mem_cons.mpr ⟨(cl_X5_wideHash_1 _ (List.mem_of_getElem? (i := 16) rfl)), List.forall_mem_cons.mpr ⟨(cl_X5_wideHash_1 _ (List.mem_of_getElem? (i := 17) rfl)), fun _ h => absurd h List.not_mem_nil⟩⟩) w) ((cl_X5_wideHash_2) w)) w) ((cl_X5_wideHash_3) w)⟩) (by decide +kernel)
set_option maxRecDepth 20000 in
theorem gX5_wideHash_X5_hashOf : GoodIn wsX5_wideHash (wsV RX5 175 RX5 yX5_hashOf wsX5_hashOf) := goodIn_app (goodIn_sub (List.forall_mem_cons.mpr ⟨(cl_X5_wideHash_1 _ (List.mem_of_getElem? (i := 12) rfl)), List.forall_mem_cons.mpr ⟨(cl_X5_wideHash_1 _ (List.mem_of_getElem? (i := 13) rfl)), List.forall_mem_cons.mpr ⟨(cl_X5_wideHash_1 _ (List.mem_of_getElem? (i := 14) rfl)), List.forall_mem_cons.mpr ⟨(cl_X5_wideHash_1 _ (List.mem_of_getElem? (i := 2) rfl)), fun _ h => absurd h List.not_mem_nil⟩⟩⟩⟩) (by decide +kernel)) ggX5_wideHash_X5_hashOf
noncomputable def dz_p10_19 : List (Nat × Instr × Nat) := [(0, (.aload_n 0, 1)), (1, (.iload_n 1, 1)), (2, (.invokestatic 35, 3)), (5, (.iload_n 2, 1)), (6, (.iconst 0, 1)), (7, (.iconst 1, 1)), (8, (.invokestatic 31, 3)), (11, (.ifCond .ne 7, 3)), (14, (.iconst 1, 1)), (15, (.goto 4, 3)), (18, (.iconst 0, 1)), (19, (.invokevirtual 42, 3)), (22, (.ifCond .eq 7, 3)), (25, (.iconst 0, 1)), (26, (.goto 8, 3)), (29, (.aload_n 0, 1)), (30, (.iload_n 1, 1)), (31, (.invokevirtual 175, 3)), (34, (.ireturn, 1))]
theorem dy_p10_19 : dz_ok cX5_wideHash dz_p10_19 = true := by decide +kernel
theorem dX5_wideHash_0 : decode cX5_wideHash 0 = .ok (.aload_n 0, 1) := dz_at (i := 0) dy_p10_19 rfl
theorem dX5_wideHash_1 : decode cX5_wideHash 1 = .ok (.iload_n 1, 1) := dz_at (i := 1) dy_p10_19 rfl
theorem dX5_wideHash_2 : decode cX5_wideHash 2 = .ok (.invokestatic 35, 3) := dz_at (i := 2) dy_p10_19 rfl
theorem dX5_wideHash_5 : decode cX5_wideHash 5 = .ok (.iload_n 2, 1) := dz_at (i := 3) dy_p10_19 rfl
theorem dX5_wideHash_6 : decode cX5_wideHash 6 = .ok (.iconst 0, 1) := dz_at (i := 4) dy_p10_19 rfl
theorem dX5_wideHash_7 : decode cX5_wideHash 7 = .ok (.iconst 1, 1) := dz_at (i := 5) dy_p10_19 rfl
theorem dX5_wideHash_8 : decode cX5_wideHash 8 = .ok (.invokestatic 31, 3) := dz_at (i := 6) dy_p10_19 rfl
theorem dX5_wideHash_11 : decode cX5_wideHash 11 = .ok (.ifCond .ne 7, 3) := dz_at (i := 7) dy_p10_19 rfl
theorem dX5_wideHash_14 : decode cX5_wideHash 14 = .ok (.iconst 1, 1) := dz_at (i := 8) dy_p10_19 rfl
theorem dX5_wideHash_15 : decode cX5_wideHash 15 = .ok (.goto 4, 3) := dz_at (i := 9) dy_p10_19 rfl
theorem dX5_wideHash_18 : decode cX5_wideHash 18 = .ok (.iconst 0, 1) := dz_at (i := 10) dy_p10_19 rfl
theorem dX5_wideHash_19 : decode cX5_wideHash 19 = .ok (.invokevirtual 42, 3) := dz_at (i := 11) dy_p10_19 rfl
theorem dX5_wideHash_22 : decode cX5_wideHash 22 = .ok (.ifCond .eq 7, 3) := dz_at (i := 12) dy_p10_19 rfl
theorem dX5_wideHash_25 : decode cX5_wideHash 25 = .ok (.iconst 0, 1) := dz_at (i := 13) dy_p10_19 rfl
theorem dX5_wideHash_26 : decode cX5_wideHash 26 = .ok (.goto 8, 3) := dz_at (i := 14) dy_p10_19 rfl
theorem dX5_wideHash_29 : decode cX5_wideHash 29 = .ok (.aload_n 0, 1) := dz_at (i := 15) dy_p10_19 rfl
theorem dX5_wideHash_30 : decode cX5_wideHash 30 = .ok (.iload_n 1, 1) := dz_at (i := 16) dy_p10_19 rfl
theorem dX5_wideHash_31 : decode cX5_wideHash 31 = .ok (.invokevirtual 175, 3) := dz_at (i := 17) dy_p10_19 rfl
theorem dX5_wideHash_34 : decode cX5_wideHash 34 = .ok (.ireturn, 1) := dz_at (i := 18) dy_p10_19 rfl
noncomputable def o_X5_wideHash (f1 : Nat → Int64) (p0 : Int32) (p1 : Int32) : Int32 × Int32 :=
  if (o_X5_isIn p1 0 1) = true then (if (o_X5_fails (o_X5_isNo p0) false).1 = true then (0, (o_X5_fails (o_X5_isNo p0) false).2)
    else ((o_X5_hashOf f1 p0), (o_X5_fails (o_X5_isNo p0) false).2))
  else if (o_X5_fails (o_X5_isNo p0) true).1 = true then (0, (o_X5_fails (o_X5_isNo p0) true).2)
  else ((o_X5_hashOf f1 p0), (o_X5_fails (o_X5_isNo p0) true).2)
set_option maxHeartbeats 4000000 in
set_option maxRecDepth 100000 in
theorem k_X5_wideHash (l : Launch) (dC : Nat → ClassId) (dI : Nat → Nat → Nat) (cy : ClassId) (h0 : Nat) (h1 : Nat) (hc1 : Nat) (h2 : Nat) (hc2 : Nat) (a1 : Int32) (f1 : Nat → Int64) (a2 : Int32) (f2 : Nat → Int64) (th : Int32) (rf : Int32) (kn : Int32) (sz : Nat) (N : Nat) (p0 : Int32) (p1 : Int32) : Met l yX5_wideHash wsX5_wideHash ({ frames := 2, cells := 0, slots := 0, locals := 42 }) (va_Pc [.ref h0, .int p0, .int p1] (xM (dC, dI) xCl [(h0, eM h1 h2 th rf kn), (h1, eMR true hc1 a1), (hc1, eA cy f1), (h2, eMR false hc2 a2), (hc2, eA cy f2)] [(cy, .long)] sz N)) (va_Qi (fun (r : Int32) (_ : Unit) => r = (o_X5_wideHash f1 p0 p1).1) (fun _ t => xW (dC, dI) xCl [(h0, eM h1 h2 (o_X5_wideHash f1 p0 p1).2 rf kn), (h1, eMR true hc1 a1), (hc1, eA cy f1), (h2, eMR false hc2 a2), (hc2, eA cy f2)] (va_A [(h0, eM h1 h2 th rf kn), (h1, eMR true hc1 a1), (hc1, eA cy f1), (h2, eMR false hc2 a2), (hc2, eA cy f2)] sz) t) (va_A [(h0, eM h1 h2 th rf kn), (h1, eMR true hc1 a1), (hc1, eA cy f1), (h2, eMR false hc2 a2), (hc2, eA cy f2)] sz)) 0 0 (va_A [(h0, eM h1 h2 th rf kn), (h1, eMR true hc1 a1), (hc1, eA cy f1), (h2, eMR false hc2 a2), (hc2, eA cy f2)] sz) := by
  refine Met.ofW (cc := cX5_wideHash) (maxL := 3) (ret := (some .int)) (by decide +kernel) rfl ?_
  intro p e s m args below meth c s₁ B hml hv
  obtain ⟨rfl, hsz, hP, hK, hD0, hN, hG⟩ := hv
  have hx := B.exec
  have hb := B.bytes
  have hr := B.returns
  have hts := atoms_spec (ws := wsX5_wideHash) B.pre
  have hown : s.vm.findClass RX5 = some m.cls := findClass_of_methodNamed B.named
  have hlocks := B.notSynchronized
  subst hsz
  have hAN : ∀ q, va_A [(h0, eM h1 h2 th rf kn), (h1, eMR true hc1 a1), (hc1, eA cy f1), (h2, eMR false hc2 a2), (hc2, eA cy f2)] s.heap.size q → N ≤ q := xA_N hD0 hN
  have hD := hD0.self (sz := s.heap.size)
  generalize hAe : va_A [(h0, eM h1 h2 th rf kn), (h1, eMR true hc1 a1), (hc1, eA cy f1), (h2, eMR false hc2 a2), (hc2, eA cy f2)] s.heap.size = A at hD hAN ⊢
  have hA : ∀ q : Nat, s.heap.size ≤ q → A q := fun q h => by rw [← hAe]; exact Or.inr h
  have hS : va_S A s.heap s.heap [] := va_S.rf
  have hP : va_P (dC, dI) xCl [(h0, eM h1 h2 th rf kn), (h1, eMR true hc1 a1), (hc1, eA cy f1), (h2, eMR false hc2 a2), (hc2, eA cy f2)] s.heap := hP
  have hl := lv_entry ([.ref h0, .int p0, .int p1]) (n := 3) (Nat.le_of_ble_eq_true rfl)
  rw [lg_entry_eq]
  generalize (lg_sl ([.ref h0, .int p0, .int p1]) ++ List.replicate (3 - (lg_sl ([.ref h0, .int p0, .int p1])).length) Slot.unset).toArray = ls at hl ⊢
  have hl : lv_has ls 3 [(0, .ref h0), (1, .int p0), (2, .int p1)] := hl
  refine lv_aload_n hx hb dX5_wideHash_0 rfl (lv_at hl 0 rfl) ?_
  refine lv_iload_n hx hb dX5_wideHash_1 rfl (lv_at hl 1 rfl) ?_
  have hPc := hP.sub (ws' := []) [] rfl
  have hKc := hK.sub (tys' := []) [] rfl
  refine va_calli (va_runS (As := [.int p0]) (rest := [.ref h0]) ⟨hx, hb, hml, hown, hts⟩ (k_X5_isNo l dC dI s.heap.size p0) (va_cwS 1 hts gX5_wideHash_X5_isNo rfl rfl rfl (by decide +kernel) ⟨Nat.le_of_ble_eq_true rfl, Nat.le_of_ble_eq_true rfl⟩) (xB.preS hKc hPc) rfl rfl hl.1 rfl (lv_room (Nat.le_of_ble_eq_true rfl)) dX5_wideHash_2 ⟨Nat.le_of_ble_eq_true rfl, Nat.le_of_ble_eq_true rfl⟩) hS xA_old (fun q h => hA q (Nat.le_trans hS.1 h)) (fun r_1 u t H locs ht hvm hw hB hz hk hS => ?_)
  replace hw : r_1 = b2i (o_X5_isNo p0) := hw
  subst r_1
  have hP := xP_keep hP hk
  refine lv_iload_n hx hb dX5_wideHash_5 rfl (lv_at hl 2 rfl) ?_
  refine lv_iconst (v := 0) hx hb dX5_wideHash_6 (by decide +kernel) ?_
  refine lv_iconst (v := 1) hx hb dX5_wideHash_7 (by decide +kernel) ?_
  have hPc := hP.sub (ws' := []) [] rfl
  have hKc := hK.sub (tys' := []) [] rfl
  refine va_calli (va_runS (As := [.int p1, .int 0, .int 1]) (rest := [.int (b2i (o_X5_isNo p0)), .ref h0]) ⟨hx, hb, hml, hown, hts⟩ (k_X5_isIn l dC dI H.size p1 0 1) (va_cwS 3 hts gX5_wideHash_X5_isIn rfl rfl rfl (by decide +kernel) ⟨Nat.le_of_ble_eq_true rfl, Nat.le_of_ble_eq_true rfl⟩) (xB.preS hKc hPc) rfl rfl hl.1 rfl (lv_room (Nat.le_of_ble_eq_true rfl)) dX5_wideHash_8 ⟨Nat.le_of_ble_eq_true rfl, Nat.le_of_ble_eq_true rfl⟩) hS xA_old (fun q h => hA q (Nat.le_trans hS.1 h)) (fun r_2 u t H locs ht hvm hw hB hz hk hS => ?_)
  replace hw : r_2 = b2i (o_X5_isIn p1 0 1) := hw
  subst r_2
  have hP := xP_keep hP hk
  refine xz_ne (tgt := 18) hx hb dX5_wideHash_11 (by decide +kernel) (fun c_3 => ?_) (fun c_3 => ?_)
  · skip
    refine lv_iconst (v := 0) hx hb dX5_wideHash_18 (by decide +kernel) ?_
    have hPc := hP.sub (ws' := [(h0, eM h1 h2 th rf kn)]) [0] rfl
    have hDc := hD.sub (ws' := [(h0, eM h1 h2 th rf kn)]) [0] (by decide +kernel) rfl
    have hKc := hK.sub (tys' := []) [] rfl
    have hFc := va_free (wc := [(h0, eM h1 h2 th rf kn)]) hD hS hA [0] rfl
    refine va_calli (va_runV (As := [.int (b2i (o_X5_isNo p0)), .int 0]) (rest := []) ⟨hx, hb, hml, hown, hts⟩ (k_X5_fails l dC dI h0 h1 h2 th rf kn H.size N (o_X5_isNo p0) false) (cwV 2 hts gX5_wideHash_X5_fails rfl rfl rfl (by decide +kernel) ⟨Nat.le_of_ble_eq_true rfl, Nat.le_of_ble_eq_true rfl⟩) (xM.preV hKc hPc hDc hAN (Nat.le_trans hN hS.1) (hG.kept hS hAN) (ci := 7) (q0 := 0) rfl rfl) rfl rfl hl.1 rfl (lv_room (Nat.le_of_ble_eq_true rfl)) dX5_wideHash_19 ⟨Nat.le_of_ble_eq_true rfl, Nat.le_of_ble_eq_true rfl⟩) hS (fun q _ h => hFc q h) hFc (fun r_4 u t H locs ht hvm hw hB hz hk hS => ?_)
    replace hw : r_4 = b2i ((o_X5_fails (o_X5_isNo p0) false).1) := hw
    subst r_4
    obtain ⟨hP1, hD1⟩ := hB
    rw [ht] at hP1
    obtain ⟨hP, hD⟩ := va_join (wr := [(h1, eMR true hc1 a1), (hc1, eA cy f1), (h2, eMR false hc2 a2), (hc2, eA cy f2)]) (w1 := [(h0, eM h1 h2 (o_X5_fails (o_X5_isNo p0) false).2 rf kn)]) hP hD [0] [1, 2, 3, 4] rfl rfl (by decide +kernel) (by decide +kernel) hk hFc hP1 hD1
    have hP := hP.sub (ws' := [(h0, eM h1 h2 (o_X5_fails (o_X5_isNo p0) false).2 rf kn), (h1, eMR true hc1 a1), (hc1, eA cy f1), (h2, eMR false hc2 a2), (hc2, eA cy f2)]) [4, 0, 1, 2, 3] rfl
    have hD := hD.sub (ws' := [(h0, eM h1 h2 (o_X5_fails (o_X5_isNo p0) false).2 rf kn), (h1, eMR true hc1 a1), (hc1, eA cy f1), (h2, eMR false hc2 a2), (hc2, eA cy f2)]) [4, 0, 1, 2, 3] (by decide +kernel) rfl
    refine xz_eq (tgt := 29) hx hb dX5_wideHash_22 (by decide +kernel) (fun c_5 => ?_) (fun c_5 => ?_)
    · skip
      refine lv_aload_n hx hb dX5_wideHash_29 rfl (lv_at hl 0 rfl) ?_
      refine lv_iload_n hx hb dX5_wideHash_30 rfl (lv_at hl 1 rfl) ?_
      have hPc := hP.sub (ws' := [(h0, eM h1 h2 (o_X5_fails (o_X5_isNo p0) false).2 rf kn), (h1, eMR true hc1 a1), (hc1, eA cy f1), (h2, eMR false hc2 a2), (hc2, eA cy f2)]) [0, 1, 2, 3, 4] rfl
      have hKc := hK.sub (tys' := [(cy, .long)]) [0] rfl
      refine va_calli (va_runV (As := [.int p0]) (rest := []) ⟨hx, hb, hml, hown, hts⟩ (k_X5_hashOf l dC dI cy h0 h1 hc1 h2 hc2 a1 f1 a2 f2 ((o_X5_fails (o_X5_isNo p0) false).2) rf kn H.size p0 (xm_isNo (xm_fails c_5))) (cwV 1 hts gX5_wideHash_X5_hashOf rfl rfl rfl (by decide +kernel) ⟨Nat.le_of_ble_eq_true rfl, Nat.le_of_ble_eq_true rfl⟩) (xB.preV hKc hPc (ci := 7) (q0 := 0) rfl rfl) rfl rfl hl.1 rfl (lv_room (Nat.le_of_ble_eq_true rfl)) dX5_wideHash_31 ⟨Nat.le_of_ble_eq_true rfl, Nat.le_of_ble_eq_true rfl⟩) hS xA_old (fun q h => hA q (Nat.le_trans hS.1 h)) (fun r_6 u t H locs ht hvm hw hB hz hk hS => ?_)
      replace hw : r_6 = (o_X5_hashOf f1 p0) := hw
      subst r_6
      have hP := xP_keep hP hk
      have he : o_X5_wideHash f1 p0 p1 = ((o_X5_hashOf f1 p0), (o_X5_fails (o_X5_isNo p0) false).2) := by (rw [o_X5_wideHash, if_pos c_3, if_neg c_5]) <;> rfl
      refine W.widen (k := 0) (n := 0) (by omega) (by omega) ?_
      exact W.iret (v := (o_X5_hashOf f1 p0)) hx hb hr (fun t ht hW => ⟨⟨_, (), rfl, (by (rw [he]) <;> rfl), (by rw [he]; exact ⟨by rw [ht]; exact hP, hD⟩)⟩, hS.F ht⟩) hS.2.2 dX5_wideHash_34
    · skip
      refine lv_iconst (v := 0) hx hb dX5_wideHash_25 (by decide +kernel) ?_
      refine lv_goto (tgt := 34) hx hb dX5_wideHash_26 (by decide +kernel) ?_
      have he : o_X5_wideHash f1 p0 p1 = (0, (o_X5_fails (o_X5_isNo p0) false).2) := by (rw [o_X5_wideHash, if_pos c_3, if_pos c_5]) <;> rfl
      refine W.widen (k := 0) (n := 0) (by omega) (by omega) ?_
      exact W.iret (v := 0) hx hb hr (fun t ht hW => ⟨⟨_, (), rfl, (by (rw [he]) <;> rfl), (by rw [he]; exact ⟨by rw [ht]; exact hP, hD⟩)⟩, hS.F ht⟩) hS.2.2 dX5_wideHash_34
  · skip
    refine lv_iconst (v := 1) hx hb dX5_wideHash_14 (by decide +kernel) ?_
    refine lv_goto (tgt := 19) hx hb dX5_wideHash_15 (by decide +kernel) ?_
    have hPc := hP.sub (ws' := [(h0, eM h1 h2 th rf kn)]) [0] rfl
    have hDc := hD.sub (ws' := [(h0, eM h1 h2 th rf kn)]) [0] (by decide +kernel) rfl
    have hKc := hK.sub (tys' := []) [] rfl
    have hFc := va_free (wc := [(h0, eM h1 h2 th rf kn)]) hD hS hA [0] rfl
    refine va_calli (va_runV (As := [.int (b2i (o_X5_isNo p0)), .int 1]) (rest := []) ⟨hx, hb, hml, hown, hts⟩ (k_X5_fails l dC dI h0 h1 h2 th rf kn H.size N (o_X5_isNo p0) true) (cwV 2 hts gX5_wideHash_X5_fails rfl rfl rfl (by decide +kernel) ⟨Nat.le_of_ble_eq_true rfl, Nat.le_of_ble_eq_true rfl⟩) (xM.preV hKc hPc hDc hAN (Nat.le_trans hN hS.1) (hG.kept hS hAN) (ci := 7) (q0 := 0) rfl rfl) rfl rfl hl.1 rfl (lv_room (Nat.le_of_ble_eq_true rfl)) dX5_wideHash_19 ⟨Nat.le_of_ble_eq_true rfl, Nat.le_of_ble_eq_true rfl⟩) hS (fun q _ h => hFc q h) hFc (fun r_7 u t H locs ht hvm hw hB hz hk hS => ?_)
    replace hw : r_7 = b2i ((o_X5_fails (o_X5_isNo p0) true).1) := hw
    subst r_7
    obtain ⟨hP1, hD1⟩ := hB
    rw [ht] at hP1
    obtain ⟨hP, hD⟩ := va_join (wr := [(h1, eMR true hc1 a1), (hc1, eA cy f1), (h2, eMR false hc2 a2), (hc2, eA cy f2)]) (w1 := [(h0, eM h1 h2 (o_X5_fails (o_X5_isNo p0) true).2 rf kn)]) hP hD [0] [1, 2, 3, 4] rfl rfl (by decide +kernel) (by decide +kernel) hk hFc hP1 hD1
    have hP := hP.sub (ws' := [(h0, eM h1 h2 (o_X5_fails (o_X5_isNo p0) true).2 rf kn), (h1, eMR true hc1 a1), (hc1, eA cy f1), (h2, eMR false hc2 a2), (hc2, eA cy f2)]) [4, 0, 1, 2, 3] rfl
    have hD := hD.sub (ws' := [(h0, eM h1 h2 (o_X5_fails (o_X5_isNo p0) true).2 rf kn), (h1, eMR true hc1 a1), (hc1, eA cy f1), (h2, eMR false hc2 a2), (hc2, eA cy f2)]) [4, 0, 1, 2, 3] (by decide +kernel) rfl
    refine xz_eq (tgt := 29) hx hb dX5_wideHash_22 (by decide +kernel) (fun c_8 => ?_) (fun c_8 => ?_)
    · skip
      refine lv_aload_n hx hb dX5_wideHash_29 rfl (lv_at hl 0 rfl) ?_
      refine lv_iload_n hx hb dX5_wideHash_30 rfl (lv_at hl 1 rfl) ?_
      have hPc := hP.sub (ws' := [(h0, eM h1 h2 (o_X5_fails (o_X5_isNo p0) true).2 rf kn), (h1, eMR true hc1 a1), (hc1, eA cy f1), (h2, eMR false hc2 a2), (hc2, eA cy f2)]) [0, 1, 2, 3, 4] rfl
      have hKc := hK.sub (tys' := [(cy, .long)]) [0] rfl
      refine va_calli (va_runV (As := [.int p0]) (rest := []) ⟨hx, hb, hml, hown, hts⟩ (k_X5_hashOf l dC dI cy h0 h1 hc1 h2 hc2 a1 f1 a2 f2 ((o_X5_fails (o_X5_isNo p0) true).2) rf kn H.size p0 (xm_isNo (xm_fails c_8))) (cwV 1 hts gX5_wideHash_X5_hashOf rfl rfl rfl (by decide +kernel) ⟨Nat.le_of_ble_eq_true rfl, Nat.le_of_ble_eq_true rfl⟩) (xB.preV hKc hPc (ci := 7) (q0 := 0) rfl rfl) rfl rfl hl.1 rfl (lv_room (Nat.le_of_ble_eq_true rfl)) dX5_wideHash_31 ⟨Nat.le_of_ble_eq_true rfl, Nat.le_of_ble_eq_true rfl⟩) hS xA_old (fun q h => hA q (Nat.le_trans hS.1 h)) (fun r_9 u t H locs ht hvm hw hB hz hk hS => ?_)
      replace hw : r_9 = (o_X5_hashOf f1 p0) := hw
      subst r_9
      have hP := xP_keep hP hk
      have he : o_X5_wideHash f1 p0 p1 = ((o_X5_hashOf f1 p0), (o_X5_fails (o_X5_isNo p0) true).2) := by (rw [o_X5_wideHash, if_neg c_3, if_neg c_8]) <;> rfl
      refine W.widen (k := 0) (n := 0) (by omega) (by omega) ?_
      exact W.iret (v := (o_X5_hashOf f1 p0)) hx hb hr (fun t ht hW => ⟨⟨_, (), rfl, (by (rw [he]) <;> rfl), (by rw [he]; exact ⟨by rw [ht]; exact hP, hD⟩)⟩, hS.F ht⟩) hS.2.2 dX5_wideHash_34
    · skip
      refine lv_iconst (v := 0) hx hb dX5_wideHash_25 (by decide +kernel) ?_
      refine lv_goto (tgt := 34) hx hb dX5_wideHash_26 (by decide +kernel) ?_
      have he : o_X5_wideHash f1 p0 p1 = (0, (o_X5_fails (o_X5_isNo p0) true).2) := by (rw [o_X5_wideHash, if_neg c_3, if_pos c_8]) <;> rfl
      refine W.widen (k := 0) (n := 0) (by omega) (by omega) ?_
      exact W.iret (v := 0) hx hb hr (fun t ht hW => ⟨⟨_, (), rfl, (by (rw [he]) <;> rfl), (by rw [he]; exact ⟨by rw [ht]; exact hP, hD⟩)⟩, hS.F ht⟩) hS.2.2 dX5_wideHash_34
theorem cl_X5_wideEndless_1 : ∀ w ∈ wsX5_wideEndless_r1, w ∈ wsX5_wideEndless := fun _ h => (List.mem_cons_of_mem _ (List.mem_append_left _ (List.mem_append_left _ (List.mem_append_left _ h))))
theorem cl_X5_wideEndless_2 : ∀ w ∈ wsX5_wideEndless_r2, w ∈ wsX5_wideEndless := fun _ h => (List.mem_cons_of_mem _ (List.mem_append_left _ (List.mem_append_left _ (List.mem_append_right _ h))))
theorem cl_X5_wideEndless_3 : ∀ w ∈ wsX50, w ∈ wsX5_wideEndless := fun _ h => (List.mem_cons_of_mem _ (List.mem_append_left _ (List.mem_append_right _ h)))
theorem cl_X5_wideEndless_4 : ∀ w ∈ wsX40, w ∈ wsX5_wideEndless := fun _ h => (List.mem_cons_of_mem _ (List.mem_append_right _ h))
set_option maxRecDepth 20000 in
theorem ggX5_wideEndless_X5_endless : GoodIn wsX5_wideEndless wsX5_endless := goodIn_sub (List.forall_mem_cons.mpr ⟨(cl_X5_wideEndless_1 _ (List.mem_of_getElem? (i := 5) rfl)), fun w h => (List.mem_append.mp h).elim ((fun w h => (List.mem_append.mp h).elim ((fun w h => (List.mem_append.mp h).elim ((List.forall_mem_cons.mpr ⟨(cl_X5_wideEndless_1 _ (List.mem_of_getElem? (i := 6) rfl)), List.forall_mem_cons.mpr ⟨(cl_X5_wideEndless_1 _ (List.mem_of_getElem? (i := 7) rfl)), List.forall_mem_cons.mpr ⟨(cl_X5_wideEndless_1 _ (List.mem_of_getElem? (i := 8) rfl)), List.forall_mem_cons.mpr ⟨(cl_X5_wideEndless_1 _ (List.mem_of_getElem? (i := 4) rfl)), List.forall_mem_cons.mpr ⟨(cl_X5_wideEndless_1 _ (List.mem_of_getElem? (i := 9) rfl)), List.forall_mem_cons.mpr ⟨(cl_X5_wideEndless_1 _ (List.mem_of_getElem? (i := 10) rfl)), List.forall_mem_cons.mpr ⟨(cl_X5_wideEndless_1 _ (List.mem_of_getElem? (i := 11) rfl)), List.forall_mem_cons.mpr ⟨(cl_X5_wideEndless_1 _ (List.mem_of_getElem? (i := 12) rfl)), List.forall_mem_cons.mpr ⟨(cl_X5_wideEndless_1 _ (List.mem_of_getElem? (i := 13) rfl)), List.forall_mem_cons.mpr ⟨(cl_X5_wideEndless_1 _ (List.mem_of_getElem? (i := 14) rfl)), List.forall_mem_cons.mpr ⟨(cl_X5_wideEndless_1 _ (List.mem_of_getElem? (i := 15) rfl)), List.forall_mem_cons.mpr ⟨(cl_X5_wideEndless_1 _ (List.mem_of_getElem? (i := 16) rfl)), List.forall_mem_cons.mpr ⟨(cl_X5_wideEndless_1 _ (List.mem_of_getElem? (i := 17) rfl)), List.forall_mem_cons.mpr ⟨(cl_X5_wideEndless_1 _ (List.mem_of_getElem? (i := 18) rfl)), List.forall_mem_cons.mpr ⟨(cl_X5_wideEndless_1 _ (List.mem_of_getElem? (i := 19) rfl)), List.forall_mem_cons.mpr ⟨(cl_X5_wideEndless_1 _ (List.mem_of_getElem? (i := 20) rfl)), List.forall_mem_cons.mpr ⟨(cl_X5_wideEndless_1 _ (List.mem_of_getElem? (i := 21) rfl)), List.forall_mem_cons.mpr ⟨(cl_X5_wideEndless_1 _ (List.mem_of_getElem? (i := 22) rfl)), List.forall_mem_cons.mpr ⟨(cl_X5_wideEndless_1 _ (List.mem_of_getElem? (i := 23) rfl)), List.forall_mem_cons.mpr ⟨(cl_X5_wideEndless_2 _ (List.mem_of_getElem? (i := 0) rfl)), List.forall_mem_cons.mpr ⟨(cl_X5_wideEndless_2 _ (List.mem_of_getElem? (i := 1) rfl)), List.forall_mem_cons.mpr ⟨(cl_X5_wideEndless_2 _ (List.mem_of_getElem? (i := 2) rfl)), List.forall_mem_cons.mpr ⟨(cl_X5_wideEndless_2 _ (List.mem_of_getElem? (i := 3) rfl)), List.forall_mem_cons.mpr ⟨(cl_X5_wideEndless_2 _ (List.mem_of_getElem? (i := 4) rfl)), fun _ h => absurd h List.not_mem_nil⟩⟩⟩⟩⟩⟩⟩⟩⟩⟩⟩⟩⟩⟩⟩⟩⟩⟩⟩⟩⟩⟩⟩⟩) w) ((List.forall_mem_cons.mpr ⟨(cl_X5_wideEndless_2 _ (List.mem_of_getElem? (i := 5) rfl)), List.forall_mem_cons.mpr ⟨(cl_X5_wideEndless_2 _ (List.mem_of_getElem? (i := 6) rfl)), List.forall_mem_cons.mpr ⟨(cl_X5_wideEndless_2 _ (List.mem_of_getElem? (i := 7) rfl)), List.forall_mem_cons.mpr ⟨(cl_X5_wideEndless_2 _ (List.mem_of_getElem? (i := 8) rfl)), List.forall_mem_cons.mpr ⟨(cl_X5_wideEndless_2 _ (List.mem_of_getElem? (i := 9) rfl)), List.forall_mem_cons.mpr ⟨(cl_X5_wideEndless_2 _ (List.mem_of_getElem? (i := 10) rfl)), List.forall_mem_cons.mpr ⟨(cl_X5_wideEndless_2 _ (List.mem_of_getElem? (i := 11) rfl)), List.forall_mem_cons.mpr ⟨(cl_X5_wideEndless_2 _ (List.mem_of_getElem? (i := 12) rfl)), List.forall_mem_cons.mpr ⟨(cl_X5_wideEndless_2 _ (List.mem_of_getElem? (i := 13) rfl)), fun _ h => absurd h List.not_mem_nil⟩⟩⟩⟩⟩⟩⟩⟩⟩) w)) w) ((cl_X5_wideEndless_4) w)) w) ((cl_X5_wideEndless_3) w)⟩) (by decide +kernel)
set_option maxRecDepth 20000 in
theorem gX5_wideEndless_X5_endless : GoodIn wsX5_wideEndless (wsV RX5 179 RX5 yX5_endless wsX5_endless) := goodIn_app (goodIn_sub (List.forall_mem_cons.mpr ⟨(cl_X5_wideEndless_1 _ (List.mem_of_getElem? (i := 1) rfl)), List.forall_mem_cons.mpr ⟨(cl_X5_wideEndless_1 _ (List.mem_of_getElem? (i := 2) rfl)), List.forall_mem_cons.mpr ⟨(cl_X5_wideEndless_1 _ (List.mem_of_getElem? (i := 3) rfl)), List.forall_mem_cons.mpr ⟨(cl_X5_wideEndless_1 _ (List.mem_of_getElem? (i := 4) rfl)), fun _ h => absurd h List.not_mem_nil⟩⟩⟩⟩) (by decide +kernel)) ggX5_wideEndless_X5_endless
noncomputable def dz_p10_20 : List (Nat × Instr × Nat) := [(0, (.aload_n 0, 1)), (1, (.aload_n 0, 1)), (2, (.getfield 16, 3)), (5, (.iload_n 1, 1)), (6, (.iload_n 2, 1)), (7, (.invokevirtual 179, 3)), (10, (.ireturn, 1))]
theorem dy_p10_20 : dz_ok cX5_wideEndless dz_p10_20 = true := by decide +kernel
theorem dX5_wideEndless_0 : decode cX5_wideEndless 0 = .ok (.aload_n 0, 1) := dz_at (i := 0) dy_p10_20 rfl
theorem dX5_wideEndless_1 : decode cX5_wideEndless 1 = .ok (.aload_n 0, 1) := dz_at (i := 1) dy_p10_20 rfl
theorem dX5_wideEndless_2 : decode cX5_wideEndless 2 = .ok (.getfield 16, 3) := dz_at (i := 2) dy_p10_20 rfl
theorem dX5_wideEndless_5 : decode cX5_wideEndless 5 = .ok (.iload_n 1, 1) := dz_at (i := 3) dy_p10_20 rfl
theorem dX5_wideEndless_6 : decode cX5_wideEndless 6 = .ok (.iload_n 2, 1) := dz_at (i := 4) dy_p10_20 rfl
theorem dX5_wideEndless_7 : decode cX5_wideEndless 7 = .ok (.invokevirtual 179, 3) := dz_at (i := 5) dy_p10_20 rfl
theorem dX5_wideEndless_10 : decode cX5_wideEndless 10 = .ok (.ireturn, 1) := dz_at (i := 6) dy_p10_20 rfl
noncomputable def o_X5_wideEndless (f1 : Nat → Int64) (p0 : Int32) (p1 : Int32) : Bool × Int32 :=
  ((o_X5_endless true f1 p0 p1).1, (o_X5_endless true f1 p0 p1).2)
set_option maxHeartbeats 4000000 in
set_option maxRecDepth 100000 in
theorem k_X5_wideEndless (l : Launch) (dC : Nat → ClassId) (dI : Nat → Nat → Nat) (cy : ClassId) (h0 : Nat) (h1 : Nat) (hc1 : Nat) (h2 : Nat) (hc2 : Nat) (a1 : Int32) (f1 : Nat → Int64) (a2 : Int32) (f2 : Nat → Int64) (th : Int32) (rf : Int32) (kn : Int32) (sz : Nat) (N : Nat) (p0 : Int32) (p1 : Int32) : Met l yX5_wideEndless wsX5_wideEndless ({ frames := 4, cells := 0, slots := 0, locals := 87 }) (va_Pc [.ref h0, .int p0, .int p1] (xM (dC, dI) xCl [(h0, eM h1 h2 th rf kn), (h1, eMR true hc1 a1), (hc1, eA cy f1), (h2, eMR false hc2 a2), (hc2, eA cy f2)] [(cy, .long)] sz N)) (va_Qi (fun (r : Int32) (_ : Unit) => r = b2i ((o_X5_wideEndless f1 p0 p1).1)) (fun _ t => xW (dC, dI) xCl [(h0, eM h1 h2 (o_X5_wideEndless f1 p0 p1).2 rf kn), (h1, eMR true hc1 a1), (hc1, eA cy f1), (h2, eMR false hc2 a2), (hc2, eA cy f2)] (va_A [(h0, eM h1 h2 th rf kn), (h1, eMR true hc1 a1), (hc1, eA cy f1), (h2, eMR false hc2 a2), (hc2, eA cy f2)] sz) t) (va_A [(h0, eM h1 h2 th rf kn), (h1, eMR true hc1 a1), (hc1, eA cy f1), (h2, eMR false hc2 a2), (hc2, eA cy f2)] sz)) 0 0 (va_A [(h0, eM h1 h2 th rf kn), (h1, eMR true hc1 a1), (hc1, eA cy f1), (h2, eMR false hc2 a2), (hc2, eA cy f2)] sz) := by
  refine Met.ofW (cc := cX5_wideEndless) (maxL := 3) (ret := (some .boolean)) (by decide +kernel) rfl ?_
  intro p e s m args below meth c s₁ B hml hv
  obtain ⟨rfl, hsz, hP, hK, hD0, hN, hG⟩ := hv
  have hx := B.exec
  have hb := B.bytes
  have hr := B.returns
  have hts := atoms_spec (ws := wsX5_wideEndless) B.pre
  have hown : s.vm.findClass RX5 = some m.cls := findClass_of_methodNamed B.named
  have hlocks := B.notSynchronized
  subst hsz
  have hAN : ∀ q, va_A [(h0, eM h1 h2 th rf kn), (h1, eMR true hc1 a1), (hc1, eA cy f1), (h2, eMR false hc2 a2), (hc2, eA cy f2)] s.heap.size q → N ≤ q := xA_N hD0 hN
  have hD := hD0.self (sz := s.heap.size)
  generalize hAe : va_A [(h0, eM h1 h2 th rf kn), (h1, eMR true hc1 a1), (hc1, eA cy f1), (h2, eMR false hc2 a2), (hc2, eA cy f2)] s.heap.size = A at hD hAN ⊢
  have hA : ∀ q : Nat, s.heap.size ≤ q → A q := fun q h => by rw [← hAe]; exact Or.inr h
  have hS : va_S A s.heap s.heap [] := va_S.rf
  have hP : va_P (dC, dI) xCl [(h0, eM h1 h2 th rf kn), (h1, eMR true hc1 a1), (hc1, eA cy f1), (h2, eMR false hc2 a2), (hc2, eA cy f2)] s.heap := hP
  have hl := lv_entry ([.ref h0, .int p0, .int p1]) (n := 3) (Nat.le_of_ble_eq_true rfl)
  rw [lg_entry_eq]
  generalize (lg_sl ([.ref h0, .int p0, .int p1]) ++ List.replicate (3 - (lg_sl ([.ref h0, .int p0, .int p1])).length) Slot.unset).toArray = ls at hl ⊢
  have hl : lv_has ls 3 [(0, .ref h0), (1, .int p0), (2, .int p1)] := hl
  refine lv_aload_n hx hb dX5_wideEndless_0 rfl (lv_at hl 0 rfl) ?_
  refine lv_aload_n hx hb dX5_wideEndless_1 rfl (lv_at hl 0 rfl) ?_
  refine va_get (D := (dC, dI)) (ci := 7) (v := .ref h1) (C := RX5) (T := TX5) (N := 5) hx hb hts (by decide +kernel) hown hK hP 0 rfl rfl 0 (by decide +kernel) (hts (.fieldLink RX5 16 "EdgefloatsModel" "wide" "LEdgefloatsModel$Row;") (by decide +kernel)) (fun _ h9 => h9) rfl dX5_wideEndless_2 ?_
  refine lv_iload_n hx hb dX5_wideEndless_5 rfl (lv_at hl 1 rfl) ?_
  refine lv_iload_n hx hb dX5_wideEndless_6 rfl (lv_at hl 2 rfl) ?_
  have hPc := hP.sub (ws' := [(h0, eM h1 h2 th rf kn), (h1, eMR true hc1 a1), (hc1, eA cy f1)]) [0, 1, 2] rfl
  have hDc := hD.sub (ws' := [(h0, eM h1 h2 th rf kn), (h1, eMR true hc1 a1), (hc1, eA cy f1)]) [0, 1, 2] (by decide +kernel) rfl
  have hKc := hK.sub (tys' := [(cy, .long)]) [0] rfl
  have hFc := va_free (wc := [(h0, eM h1 h2 th rf kn), (h1, eMR true hc1 a1), (hc1, eA cy f1)]) hD hS hA [0, 1, 2] rfl
  refine va_calli (va_runV (As := [.ref h1, .int p0, .int p1]) (rest := []) ⟨hx, hb, hml, hown, hts⟩ (k_X5_endless l dC dI cy h0 h1 h2 h1 hc1 true a1 f1 th rf kn s.heap.size N p0 p1) (cwV 3 hts gX5_wideEndless_X5_endless rfl rfl rfl (by decide +kernel) ⟨Nat.le_of_ble_eq_true rfl, Nat.le_of_ble_eq_true rfl⟩) (xM.preV hKc hPc hDc hAN (Nat.le_trans hN hS.1) (hG.kept hS hAN) (ci := 7) (q0 := 0) rfl rfl) rfl rfl hl.1 rfl (lv_room (Nat.le_of_ble_eq_true rfl)) dX5_wideEndless_7 ⟨Nat.le_of_ble_eq_true rfl, Nat.le_of_ble_eq_true rfl⟩) hS (fun q _ h => hFc q h) hFc (fun r_1 u t H locs ht hvm hw hB hz hk hS => ?_)
  replace hw : r_1 = b2i ((o_X5_endless true f1 p0 p1).1) := hw
  subst r_1
  obtain ⟨hP1, hD1⟩ := hB
  rw [ht] at hP1
  obtain ⟨hP, hD⟩ := va_join (wr := [(h2, eMR false hc2 a2), (hc2, eA cy f2)]) (w1 := [(h0, eM h1 h2 (o_X5_endless true f1 p0 p1).2 rf kn), (h1, eMR true hc1 a1), (hc1, eA cy f1)]) hP hD [0, 1, 2] [3, 4] rfl rfl (by decide +kernel) (by decide +kernel) hk hFc hP1 hD1
  have hP := hP.sub (ws' := [(h0, eM h1 h2 (o_X5_endless true f1 p0 p1).2 rf kn), (h1, eMR true hc1 a1), (hc1, eA cy f1), (h2, eMR false hc2 a2), (hc2, eA cy f2)]) [2, 3, 4, 0, 1] rfl
  have hD := hD.sub (ws' := [(h0, eM h1 h2 (o_X5_endless true f1 p0 p1).2 rf kn), (h1, eMR true hc1 a1), (hc1, eA cy f1), (h2, eMR false hc2 a2), (hc2, eA cy f2)]) [2, 3, 4, 0, 1] (by decide +kernel) rfl
  have he : o_X5_wideEndless f1 p0 p1 = ((o_X5_endless true f1 p0 p1).1, (o_X5_endless true f1 p0 p1).2) := by (rw [o_X5_wideEndless]) <;> rfl
  refine W.widen (k := 0) (n := 0) (by omega) (by omega) ?_
  exact W.zret (v := (b2i ((o_X5_endless true f1 p0 p1).1))) (ty := .boolean) hx hb hr (b2i_nar _) (fun t ht hW => ⟨⟨_, (), rfl, (by (rw [he]) <;> rfl), (by rw [he]; exact ⟨by rw [ht]; exact hP, hD⟩)⟩, hS.F ht⟩) hS.2.2 dX5_wideEndless_10
theorem cl_X5_wideCount_1 : ∀ w ∈ wsX5_wideCount_r1, w ∈ wsX5_wideCount := fun _ h => (List.mem_cons_of_mem _ (List.mem_append_left _ (List.mem_append_left _ (List.mem_append_left _ h))))
theorem cl_X5_wideCount_2 : ∀ w ∈ wsX5_wideCount_r2, w ∈ wsX5_wideCount := fun _ h => (List.mem_cons_of_mem _ (List.mem_append_left _ (List.mem_append_left _ (List.mem_append_right _ (List.mem_append_left _ h)))))
theorem cl_X5_wideCount_3 : ∀ w ∈ wsX5_wideCount_r3, w ∈ wsX5_wideCount := fun _ h => (List.mem_cons_of_mem _ (List.mem_append_left _ (List.mem_append_left _ (List.mem_append_right _ (List.mem_append_right _ h)))))
theorem cl_X5_wideCount_4 : ∀ w ∈ wsX50, w ∈ wsX5_wideCount := fun _ h => (List.mem_cons_of_mem _ (List.mem_append_left _ (List.mem_append_right _ h)))
theorem cl_X5_wideCount_5 : ∀ w ∈ wsX40, w ∈ wsX5_wideCount := fun _ h => (List.mem_cons_of_mem _ (List.mem_append_right _ h))
set_option maxRecDepth 20000 in
theorem ggX5_wideCount_X5_count : GoodIn wsX5_wideCount wsX5_count := goodIn_sub (List.forall_mem_cons.mpr ⟨(cl_X5_wideCount_1 _ (List.mem_of_getElem? (i := 5) rfl)), fun w h => (List.mem_append.mp h).elim ((fun w h => (List.mem_append.mp h).elim ((fun w h => (List.mem_append.mp h).elim ((List.forall_mem_cons.mpr ⟨(cl_X5_wideCount_1 _ (List.mem_of_getElem? (i := 6) rfl)), List.forall_mem_cons.mpr ⟨(cl_X5_wideCount_1 _ (List.mem_of_getElem? (i := 7) rfl)), List.forall_mem_cons.mpr ⟨(cl_X5_wideCount_1 _ (List.mem_of_getElem? (i := 8) rfl)), List.forall_mem_cons.mpr ⟨(cl_X5_wideCount_1 _ (List.mem_of_getElem? (i := 4) rfl)), List.forall_mem_cons.mpr ⟨(cl_X5_wideCount_1 _ (List.mem_of_getElem? (i := 9) rfl)), List.forall_mem_cons.mpr ⟨(cl_X5_wideCount_1 _ (List.mem_of_getElem? (i := 10) rfl)), List.forall_mem_cons.mpr ⟨(cl_X5_wideCount_1 _ (List.mem_of_getElem? (i := 11) rfl)), List.forall_mem_cons.mpr ⟨(cl_X5_wideCount_1 _ (List.mem_of_getElem? (i := 12) rfl)), List.forall_mem_cons.mpr ⟨(cl_X5_wideCount_1 _ (List.mem_of_getElem? (i := 13) rfl)), List.forall_mem_cons.mpr ⟨(cl_X5_wideCount_1 _ (List.mem_of_getElem? (i := 14) rfl)), List.forall_mem_cons.mpr ⟨(cl_X5_wideCount_1 _ (List.mem_of_getElem? (i := 15) rfl)), List.forall_mem_cons.mpr ⟨(cl_X5_wideCount_1 _ (List.mem_of_getElem? (i := 16) rfl)), List.forall_mem_cons.mpr ⟨(cl_X5_wideCount_1 _ (List.mem_of_getElem? (i := 17) rfl)), List.forall_mem_cons.mpr ⟨(cl_X5_wideCount_1 _ (List.mem_of_getElem? (i := 18) rfl)), List.forall_mem_cons.mpr ⟨(cl_X5_wideCount_1 _ (List.mem_of_getElem? (i := 19) rfl)), List.forall_mem_cons.mpr ⟨(cl_X5_wideCount_1 _ (List.mem_of_getElem? (i := 20) rfl)), List.forall_mem_cons.mpr ⟨(cl_X5_wideCount_1 _ (List.mem_of_getElem? (i := 21) rfl)), List.forall_mem_cons.mpr ⟨(cl_X5_wideCount_1 _ (List.mem_of_getElem? (i := 22) rfl)), List.forall_mem_cons.mpr ⟨(cl_X5_wideCount_1 _ (List.mem_of_getElem? (i := 23) rfl)), List.forall_mem_cons.mpr ⟨(cl_X5_wideCount_2 _ (List.mem_of_getElem? (i := 0) rfl)), List.forall_mem_cons.mpr ⟨(cl_X5_wideCount_2 _ (List.mem_of_getElem? (i := 1) rfl)), List.forall_mem_cons.mpr ⟨(cl_X5_wideCount_2 _ (List.mem_of_getElem? (i := 2) rfl)), List.forall_mem_cons.mpr ⟨(cl_X5_wideCount_2 _ (List.mem_of_getElem? (i := 3) rfl)), List.forall_mem_cons.mpr ⟨(cl_X5_wideCount_2 _ (List.mem_of_getElem? (i := 4) rfl)), fun _ h => absurd h List.not_mem_nil⟩⟩⟩⟩⟩⟩⟩⟩⟩⟩⟩⟩⟩⟩⟩⟩⟩⟩⟩⟩⟩⟩⟩⟩) w) ((fun w h => (List.mem_append.mp h).elim ((List.forall_mem_cons.mpr ⟨(cl_X5_wideCount_2 _ (List.mem_of_getElem? (i := 5) rfl)), List.forall_mem_cons.mpr ⟨(cl_X5_wideCount_2 _ (List.mem_of_getElem? (i := 6) rfl)), List.forall_mem_cons.mpr ⟨(cl_X5_wideCount_2 _ (List.mem_of_getElem? (i := 7) rfl)), List.forall_mem_cons.mpr ⟨(cl_X5_wideCount_2 _ (List.mem_of_getElem? (i := 8) rfl)), List.forall_mem_cons.mpr ⟨(cl_X5_wideCount_2 _ (List.mem_of_getElem? (i := 9) rfl)), List.forall_mem_cons.mpr ⟨(cl_X5_wideCount_2 _ (List.mem_of_getElem? (i := 10) rfl)), List.forall_mem_cons.mpr ⟨(cl_X5_wideCount_2 _ (List.mem_of_getElem? (i := 11) rfl)), List.forall_mem_cons.mpr ⟨(cl_X5_wideCount_2 _ (List.mem_of_getElem? (i := 12) rfl)), List.forall_mem_cons.mpr ⟨(cl_X5_wideCount_2 _ (List.mem_of_getElem? (i := 13) rfl)), List.forall_mem_cons.mpr ⟨(cl_X5_wideCount_2 _ (List.mem_of_getElem? (i := 14) rfl)), List.forall_mem_cons.mpr ⟨(cl_X5_wideCount_2 _ (List.mem_of_getElem? (i := 15) rfl)), List.forall_mem_cons.mpr ⟨(cl_X5_wideCount_2 _ (List.mem_of_getElem? (i := 16) rfl)), List.forall_mem_cons.mpr ⟨(cl_X5_wideCount_2 _ (List.mem_of_getElem? (i := 17) rfl)), List.forall_mem_cons.mpr ⟨(cl_X5_wideCount_2 _ (List.mem_of_getElem? (i := 18) rfl)), List.forall_mem_cons.mpr ⟨(cl_X5_wideCount_2 _ (List.mem_of_getElem? (i := 19) rfl)), List.forall_mem_cons.mpr ⟨(cl_X5_wideCount_2 _ (List.mem_of_getElem? (i := 20) rfl)), List.forall_mem_cons.mpr ⟨(cl_X5_wideCount_2 _ (List.mem_of_getElem? (i := 21) rfl)), List.forall_mem_cons.mpr ⟨(cl_X5_wideCount_2 _ (List.mem_of_getElem? (i := 22) rfl)), List.forall_mem_cons.mpr ⟨(cl_X5_wideCount_2 _ (List.mem_of_getElem? (i := 23) rfl)), List.forall_mem_cons.mpr ⟨(cl_X5_wideCount_3 _ (List.mem_of_getElem? (i := 0) rfl)), List.forall_mem_cons.mpr ⟨(cl_X5_wideCount_3 _ (List.mem_of_getElem? (i := 1) rfl)), List.forall_mem_cons.mpr ⟨(cl_X5_wideCount_3 _ (List.mem_of_getElem? (i := 2) rfl)), List.forall_mem_cons.mpr ⟨(cl_X5_wideCount_3 _ (List.mem_of_getElem? (i := 3) rfl)), List.forall_mem_cons.mpr ⟨(cl_X5_wideCount_3 _ (List.mem_of_getElem? (i := 4) rfl)), fun _ h => absurd h List.not_mem_nil⟩⟩⟩⟩⟩⟩⟩⟩⟩⟩⟩⟩⟩⟩⟩⟩⟩⟩⟩⟩⟩⟩⟩⟩) w) ((List.forall_mem_cons.mpr ⟨(cl_X5_wideCount_3 _ (List.mem_of_getElem? (i := 5) rfl)), List.forall_mem_cons.mpr ⟨(cl_X5_wideCount_3 _ (List.mem_of_getElem? (i := 6) rfl)), List.forall_mem_cons.mpr ⟨(cl_X5_wideCount_3 _ (List.mem_of_getElem? (i := 7) rfl)), List.forall_mem_cons.mpr ⟨(cl_X5_wideCount_3 _ (List.mem_of_getElem? (i := 8) rfl)), List.forall_mem_cons.mpr ⟨(cl_X5_wideCount_3 _ (List.mem_of_getElem? (i := 9) rfl)), fun _ h => absurd h List.not_mem_nil⟩⟩⟩⟩⟩) w)) w)) w) ((cl_X5_wideCount_5) w)) w) ((cl_X5_wideCount_4) w)⟩) (by decide +kernel)
set_option maxRecDepth 20000 in
theorem gX5_wideCount_X5_count : GoodIn wsX5_wideCount (wsV RX5 182 RX5 yX5_count wsX5_count) := goodIn_app (goodIn_sub (List.forall_mem_cons.mpr ⟨(cl_X5_wideCount_1 _ (List.mem_of_getElem? (i := 1) rfl)), List.forall_mem_cons.mpr ⟨(cl_X5_wideCount_1 _ (List.mem_of_getElem? (i := 2) rfl)), List.forall_mem_cons.mpr ⟨(cl_X5_wideCount_1 _ (List.mem_of_getElem? (i := 3) rfl)), List.forall_mem_cons.mpr ⟨(cl_X5_wideCount_1 _ (List.mem_of_getElem? (i := 4) rfl)), fun _ h => absurd h List.not_mem_nil⟩⟩⟩⟩) (by decide +kernel)) ggX5_wideCount_X5_count
noncomputable def dz_p10_21 : List (Nat × Instr × Nat) := [(0, (.aload_n 0, 1)), (1, (.aload_n 0, 1)), (2, (.getfield 16, 3)), (5, (.iload_n 1, 1)), (6, (.invokevirtual 182, 3)), (9, (.ireturn, 1))]
theorem dy_p10_21 : dz_ok cX5_wideCount dz_p10_21 = true := by decide +kernel
theorem dX5_wideCount_0 : decode cX5_wideCount 0 = .ok (.aload_n 0, 1) := dz_at (i := 0) dy_p10_21 rfl
theorem dX5_wideCount_1 : decode cX5_wideCount 1 = .ok (.aload_n 0, 1) := dz_at (i := 1) dy_p10_21 rfl
theorem dX5_wideCount_2 : decode cX5_wideCount 2 = .ok (.getfield 16, 3) := dz_at (i := 2) dy_p10_21 rfl
theorem dX5_wideCount_5 : decode cX5_wideCount 5 = .ok (.iload_n 1, 1) := dz_at (i := 3) dy_p10_21 rfl
theorem dX5_wideCount_6 : decode cX5_wideCount 6 = .ok (.invokevirtual 182, 3) := dz_at (i := 4) dy_p10_21 rfl
theorem dX5_wideCount_9 : decode cX5_wideCount 9 = .ok (.ireturn, 1) := dz_at (i := 5) dy_p10_21 rfl
noncomputable def o_X5_wideCount (f1 : Nat → Int64) (p0 : Int32) : Int32 × Int32 :=
  ((o_X5_count true f1 p0).1, (o_X5_count true f1 p0).2)
set_option maxHeartbeats 4000000 in
set_option maxRecDepth 100000 in
theorem k_X5_wideCount (l : Launch) (dC : Nat → ClassId) (dI : Nat → Nat → Nat) (cy : ClassId) (h0 : Nat) (h1 : Nat) (hc1 : Nat) (h2 : Nat) (hc2 : Nat) (a1 : Int32) (f1 : Nat → Int64) (a2 : Int32) (f2 : Nat → Int64) (th : Int32) (rf : Int32) (kn : Int32) (sz : Nat) (N : Nat) (p0 : Int32) : Met l yX5_wideCount wsX5_wideCount ({ frames := 5, cells := 0, slots := 0, locals := 114 }) (va_Pc [.ref h0, .int p0] (xM (dC, dI) xCl [(h0, eM h1 h2 th rf kn), (h1, eMR true hc1 a1), (hc1, eA cy f1), (h2, eMR false hc2 a2), (hc2, eA cy f2)] [(cy, .long)] sz N)) (va_Qi (fun (r : Int32) (_ : Unit) => r = (o_X5_wideCount f1 p0).1) (fun _ t => xW (dC, dI) xCl [(h0, eM h1 h2 (o_X5_wideCount f1 p0).2 rf kn), (h1, eMR true hc1 a1), (hc1, eA cy f1), (h2, eMR false hc2 a2), (hc2, eA cy f2)] (va_A [(h0, eM h1 h2 th rf kn), (h1, eMR true hc1 a1), (hc1, eA cy f1), (h2, eMR false hc2 a2), (hc2, eA cy f2)] sz) t) (va_A [(h0, eM h1 h2 th rf kn), (h1, eMR true hc1 a1), (hc1, eA cy f1), (h2, eMR false hc2 a2), (hc2, eA cy f2)] sz)) 0 0 (va_A [(h0, eM h1 h2 th rf kn), (h1, eMR true hc1 a1), (hc1, eA cy f1), (h2, eMR false hc2 a2), (hc2, eA cy f2)] sz) := by
  refine Met.ofW (cc := cX5_wideCount) (maxL := 2) (ret := (some .int)) (by decide +kernel) rfl ?_
  intro p e s m args below meth c s₁ B hml hv
  obtain ⟨rfl, hsz, hP, hK, hD0, hN, hG⟩ := hv
  have hx := B.exec
  have hb := B.bytes
  have hr := B.returns
  have hts := atoms_spec (ws := wsX5_wideCount) B.pre
  have hown : s.vm.findClass RX5 = some m.cls := findClass_of_methodNamed B.named
  have hlocks := B.notSynchronized
  subst hsz
  have hAN : ∀ q, va_A [(h0, eM h1 h2 th rf kn), (h1, eMR true hc1 a1), (hc1, eA cy f1), (h2, eMR false hc2 a2), (hc2, eA cy f2)] s.heap.size q → N ≤ q := xA_N hD0 hN
  have hD := hD0.self (sz := s.heap.size)
  generalize hAe : va_A [(h0, eM h1 h2 th rf kn), (h1, eMR true hc1 a1), (hc1, eA cy f1), (h2, eMR false hc2 a2), (hc2, eA cy f2)] s.heap.size = A at hD hAN ⊢
  have hA : ∀ q : Nat, s.heap.size ≤ q → A q := fun q h => by rw [← hAe]; exact Or.inr h
  have hS : va_S A s.heap s.heap [] := va_S.rf
  have hP : va_P (dC, dI) xCl [(h0, eM h1 h2 th rf kn), (h1, eMR true hc1 a1), (hc1, eA cy f1), (h2, eMR false hc2 a2), (hc2, eA cy f2)] s.heap := hP
  have hl := lv_entry ([.ref h0, .int p0]) (n := 2) (Nat.le_of_ble_eq_true rfl)
  rw [lg_entry_eq]
  generalize (lg_sl ([.ref h0, .int p0]) ++ List.replicate (2 - (lg_sl ([.ref h0, .int p0])).length) Slot.unset).toArray = ls at hl ⊢
  have hl : lv_has ls 2 [(0, .ref h0), (1, .int p0)] := hl
  refine lv_aload_n hx hb dX5_wideCount_0 rfl (lv_at hl 0 rfl) ?_
  refine lv_aload_n hx hb dX5_wideCount_1 rfl (lv_at hl 0 rfl) ?_
  refine va_get (D := (dC, dI)) (ci := 7) (v := .ref h1) (C := RX5) (T := TX5) (N := 5) hx hb hts (by decide +kernel) hown hK hP 0 rfl rfl 0 (by decide +kernel) (hts (.fieldLink RX5 16 "EdgefloatsModel" "wide" "LEdgefloatsModel$Row;") (by decide +kernel)) (fun _ h9 => h9) rfl dX5_wideCount_2 ?_
  refine lv_iload_n hx hb dX5_wideCount_5 rfl (lv_at hl 1 rfl) ?_
  have hPc := hP.sub (ws' := [(h0, eM h1 h2 th rf kn), (h1, eMR true hc1 a1), (hc1, eA cy f1)]) [0, 1, 2] rfl
  have hDc := hD.sub (ws' := [(h0, eM h1 h2 th rf kn), (h1, eMR true hc1 a1), (hc1, eA cy f1)]) [0, 1, 2] (by decide +kernel) rfl
  have hKc := hK.sub (tys' := [(cy, .long)]) [0] rfl
  have hFc := va_free (wc := [(h0, eM h1 h2 th rf kn), (h1, eMR true hc1 a1), (hc1, eA cy f1)]) hD hS hA [0, 1, 2] rfl
  refine va_calli (va_runV (As := [.ref h1, .int p0]) (rest := []) ⟨hx, hb, hml, hown, hts⟩ (k_X5_count l dC dI cy h0 h1 h2 h1 hc1 true a1 f1 th rf kn s.heap.size N p0 (okF_true _)) (cwV 2 hts gX5_wideCount_X5_count rfl rfl rfl (by decide +kernel) ⟨Nat.le_of_ble_eq_true rfl, Nat.le_of_ble_eq_true rfl⟩) (xM.preV hKc hPc hDc hAN (Nat.le_trans hN hS.1) (hG.kept hS hAN) (ci := 7) (q0 := 0) rfl rfl) rfl rfl hl.1 rfl (lv_room (Nat.le_of_ble_eq_true rfl)) dX5_wideCount_6 ⟨Nat.le_of_ble_eq_true rfl, Nat.le_of_ble_eq_true rfl⟩) hS (fun q _ h => hFc q h) hFc (fun r_1 u t H locs ht hvm hw hB hz hk hS => ?_)
  replace hw : r_1 = (o_X5_count true f1 p0).1 := hw
  subst r_1
  obtain ⟨hP1, hD1⟩ := hB
  rw [ht] at hP1
  obtain ⟨hP, hD⟩ := va_join (wr := [(h2, eMR false hc2 a2), (hc2, eA cy f2)]) (w1 := [(h0, eM h1 h2 (o_X5_count true f1 p0).2 rf kn), (h1, eMR true hc1 a1), (hc1, eA cy f1)]) hP hD [0, 1, 2] [3, 4] rfl rfl (by decide +kernel) (by decide +kernel) hk hFc hP1 hD1
  have hP := hP.sub (ws' := [(h0, eM h1 h2 (o_X5_count true f1 p0).2 rf kn), (h1, eMR true hc1 a1), (hc1, eA cy f1), (h2, eMR false hc2 a2), (hc2, eA cy f2)]) [2, 3, 4, 0, 1] rfl
  have hD := hD.sub (ws' := [(h0, eM h1 h2 (o_X5_count true f1 p0).2 rf kn), (h1, eMR true hc1 a1), (hc1, eA cy f1), (h2, eMR false hc2 a2), (hc2, eA cy f2)]) [2, 3, 4, 0, 1] (by decide +kernel) rfl
  have he : o_X5_wideCount f1 p0 = ((o_X5_count true f1 p0).1, (o_X5_count true f1 p0).2) := by (rw [o_X5_wideCount]) <;> rfl
  refine W.widen (k := 0) (n := 0) (by omega) (by omega) ?_
  exact W.iret (v := ((o_X5_count true f1 p0).1)) hx hb hr (fun t ht hW => ⟨⟨_, (), rfl, (by (rw [he]) <;> rfl), (by rw [he]; exact ⟨by rw [ht]; exact hP, hD⟩)⟩, hS.F ht⟩) hS.2.2 dX5_wideCount_9
theorem cl_X5_wideFind_1 : ∀ w ∈ [.fieldLink RX5 16 "EdgefloatsModel" "wide" "LEdgefloatsModel$Row;", .methodLink RX5 184 yX5_find, .instanceMethod yX5_find, .selects RX5 yX5_find yX5_find, .initialized RX5, .code yX5_find cX5_find 4 (some .int), .fieldLink RX5 74 "EdgefloatsModel$Row" "cells" "[J", .methodLink RX5 35 yX5_isNo, .static yX5_isNo, .code yX5_isNo cX5_isNo 1 (some .boolean), .methodLink RX5 31 yX5_isIn, .static yX5_isIn, .code yX5_isIn cX5_isIn 3 (some .boolean), .methodLink RX5 42 yX5_fails, .instanceMethod yX5_fails, .selects RX5 yX5_fails yX5_fails, .code yX5_fails cX5_fails 3 (some .boolean), .fieldLink RX5 27 "EdgefloatsModel" "thrown" "I", .methodLink RX5 121 yX4_find, .instanceMethod yX4_find, .selects RX4 yX4_find yX4_find, .initialized RX4, .code yX4_find cX4_find 6 (some .int), .fieldLink RX4 9 "EdgefloatsModel$Row" "cells" "[J"], w ∈ wsX5_wideFind := fun _ h => (List.mem_cons_of_mem _ (List.mem_append_left _ (List.mem_append_left _ h)))
theorem cl_X5_wideFind_2 : ∀ w ∈ wsX50, w ∈ wsX5_wideFind := fun _ h => (List.mem_cons_of_mem _ (List.mem_append_left _ (List.mem_append_right _ h)))
theorem cl_X5_wideFind_3 : ∀ w ∈ wsX40, w ∈ wsX5_wideFind := fun _ h => (List.mem_cons_of_mem _ (List.mem_append_right _ h))
set_option maxRecDepth 20000 in
theorem ggX5_wideFind_X5_find : GoodIn wsX5_wideFind wsX5_find := goodIn_sub (List.forall_mem_cons.mpr ⟨(cl_X5_wideFind_1 _ (List.mem_of_getElem? (i := 5) rfl)), fun w h => (List.mem_append.mp h).elim ((fun w h => (List.mem_append.mp h).elim ((List.forall_mem_cons.mpr ⟨(cl_X5_wideFind_1 _ (List.mem_of_getElem? (i := 6) rfl)), List.forall_mem_cons.mpr ⟨(cl_X5_wideFind_1 _ (List.mem_of_getElem? (i := 7) rfl)), List.forall_mem_cons.mpr ⟨(cl_X5_wideFind_1 _ (List.mem_of_getElem? (i := 8) rfl)), List.forall_mem_cons.mpr ⟨(cl_X5_wideFind_1 _ (List.mem_of_getElem? (i := 4) rfl)), List.forall_mem_cons.mpr ⟨(cl_X5_wideFind_1 _ (List.mem_of_getElem? (i := 9) rfl)), List.forall_mem_cons.mpr ⟨(cl_X5_wideFind_1 _ (List.mem_of_getElem? (i := 10) rfl)), List.forall_mem_cons.mpr ⟨(cl_X5_wideFind_1 _ (List.mem_of_getElem? (i := 11) rfl)), List.forall_mem_cons.mpr ⟨(cl_X5_wideFind_1 _ (List.mem_of_getElem? (i := 12) rfl)), List.forall_mem_cons.mpr ⟨(cl_X5_wideFind_1 _ (List.mem_of_getElem? (i := 13) rfl)), List.forall_mem_cons.mpr ⟨(cl_X5_wideFind_1 _ (List.mem_of_getElem? (i := 14) rfl)), List.forall_mem_cons.mpr ⟨(cl_X5_wideFind_1 _ (List.mem_of_getElem? (i := 15) rfl)), List.forall_mem_cons.mpr ⟨(cl_X5_wideFind_1 _ (List.mem_of_getElem? (i := 16) rfl)), List.forall_mem_cons.mpr ⟨(cl_X5_wideFind_1 _ (List.mem_of_getElem? (i := 17) rfl)), List.forall_mem_cons.mpr ⟨(cl_X5_wideFind_1 _ (List.mem_of_getElem? (i := 18) rfl)), List.forall_mem_cons.mpr ⟨(cl_X5_wideFind_1 _ (List.mem_of_getElem? (i := 19) rfl)), List.forall_mem_cons.mpr ⟨(cl_X5_wideFind_1 _ (List.mem_of_getElem? (i := 20) rfl)), List.forall_mem_cons.mpr ⟨(cl_X5_wideFind_1 _ (List.mem_of_getElem? (i := 21) rfl)), List.forall_mem_cons.mpr ⟨(cl_X5_wideFind_1 _ (List.mem_of_getElem? (i := 22) rfl)), List.forall_mem_cons.mpr ⟨(cl_X5_wideFind_1 _ (List.mem_of_getElem? (i := 23) rfl)), fun _ h => absurd h List.not_mem_nil⟩⟩⟩⟩⟩⟩⟩⟩⟩⟩⟩⟩⟩⟩⟩⟩⟩⟩⟩) w) ((cl_X5_wideFind_3) w)) w) ((cl_X5_wideFind_2) w)⟩) (by decide +kernel)
set_option maxRecDepth 20000 in
theorem gX5_wideFind_X5_find : GoodIn wsX5_wideFind (wsV RX5 184 RX5 yX5_find wsX5_find) := goodIn_app (goodIn_sub (List.forall_mem_cons.mpr ⟨(cl_X5_wideFind_1 _ (List.mem_of_getElem? (i := 1) rfl)), List.forall_mem_cons.mpr ⟨(cl_X5_wideFind_1 _ (List.mem_of_getElem? (i := 2) rfl)), List.forall_mem_cons.mpr ⟨(cl_X5_wideFind_1 _ (List.mem_of_getElem? (i := 3) rfl)), List.forall_mem_cons.mpr ⟨(cl_X5_wideFind_1 _ (List.mem_of_getElem? (i := 4) rfl)), fun _ h => absurd h List.not_mem_nil⟩⟩⟩⟩) (by decide +kernel)) ggX5_wideFind_X5_find
noncomputable def dz_p10_22 : List (Nat × Instr × Nat) := [(0, (.aload_n 0, 1)), (1, (.aload_n 0, 1)), (2, (.getfield 16, 3)), (5, (.iload_n 1, 1)), (6, (.iload_n 2, 1)), (7, (.invokevirtual 184, 3)), (10, (.ireturn, 1))]
theorem dy_p10_22 : dz_ok cX5_wideFind dz_p10_22 = true := by decide +kernel
theorem dX5_wideFind_0 : decode cX5_wideFind 0 = .ok (.aload_n 0, 1) := dz_at (i := 0) dy_p10_22 rfl
theorem dX5_wideFind_1 : decode cX5_wideFind 1 = .ok (.aload_n 0, 1) := dz_at (i := 1) dy_p10_22 rfl
theorem dX5_wideFind_2 : decode cX5_wideFind 2 = .ok (.getfield 16, 3) := dz_at (i := 2) dy_p10_22 rfl
theorem dX5_wideFind_5 : decode cX5_wideFind 5 = .ok (.iload_n 1, 1) := dz_at (i := 3) dy_p10_22 rfl
theorem dX5_wideFind_6 : decode cX5_wideFind 6 = .ok (.iload_n 2, 1) := dz_at (i := 4) dy_p10_22 rfl
theorem dX5_wideFind_7 : decode cX5_wideFind 7 = .ok (.invokevirtual 184, 3) := dz_at (i := 5) dy_p10_22 rfl
theorem dX5_wideFind_10 : decode cX5_wideFind 10 = .ok (.ireturn, 1) := dz_at (i := 6) dy_p10_22 rfl
noncomputable def o_X5_wideFind (f1 : Nat → Int64) (p0 : Int32) (p1 : Bool) : Int32 × Int32 :=
  ((o_X5_find f1 p0 p1).1, (o_X5_find f1 p0 p1).2)
set_option maxHeartbeats 4000000 in
set_option maxRecDepth 100000 in
theorem k_X5_wideFind (l : Launch) (dC : Nat → ClassId) (dI : Nat → Nat → Nat) (cy : ClassId) (h0 : Nat) (h1 : Nat) (hc1 : Nat) (h2 : Nat) (hc2 : Nat) (a1 : Int32) (f1 : Nat → Int64) (a2 : Int32) (f2 : Nat → Int64) (th : Int32) (rf : Int32) (kn : Int32) (sz : Nat) (N : Nat) (p0 : Int32) (p1 : Bool) : Met l yX5_wideFind wsX5_wideFind ({ frames := 3, cells := 0, slots := 0, locals := 65 }) (va_Pc [.ref h0, .int p0, .int (b2i p1)] (xM (dC, dI) xCl [(h0, eM h1 h2 th rf kn), (h1, eMR true hc1 a1), (hc1, eA cy f1), (h2, eMR false hc2 a2), (hc2, eA cy f2)] [(cy, .long)] sz N)) (va_Qi (fun (r : Int32) (_ : Unit) => r = (o_X5_wideFind f1 p0 p1).1) (fun _ t => xW (dC, dI) xCl [(h0, eM h1 h2 (o_X5_wideFind f1 p0 p1).2 rf kn), (h1, eMR true hc1 a1), (hc1, eA cy f1), (h2, eMR false hc2 a2), (hc2, eA cy f2)] (va_A [(h0, eM h1 h2 th rf kn), (h1, eMR true hc1 a1), (hc1, eA cy f1), (h2, eMR false hc2 a2), (hc2, eA cy f2)] sz) t) (va_A [(h0, eM h1 h2 th rf kn), (h1, eMR true hc1 a1), (hc1, eA cy f1), (h2, eMR false hc2 a2), (hc2, eA cy f2)] sz)) 0 0 (va_A [(h0, eM h1 h2 th rf kn), (h1, eMR true hc1 a1), (hc1, eA cy f1), (h2, eMR false hc2 a2), (hc2, eA cy f2)] sz) := by
  refine Met.ofW (cc := cX5_wideFind) (maxL := 3) (ret := (some .int)) (by decide +kernel) rfl ?_
  intro p e s m args below meth c s₁ B hml hv
  obtain ⟨rfl, hsz, hP, hK, hD0, hN, hG⟩ := hv
  have hx := B.exec
  have hb := B.bytes
  have hr := B.returns
  have hts := atoms_spec (ws := wsX5_wideFind) B.pre
  have hown : s.vm.findClass RX5 = some m.cls := findClass_of_methodNamed B.named
  have hlocks := B.notSynchronized
  subst hsz
  have hAN : ∀ q, va_A [(h0, eM h1 h2 th rf kn), (h1, eMR true hc1 a1), (hc1, eA cy f1), (h2, eMR false hc2 a2), (hc2, eA cy f2)] s.heap.size q → N ≤ q := xA_N hD0 hN
  have hD := hD0.self (sz := s.heap.size)
  generalize hAe : va_A [(h0, eM h1 h2 th rf kn), (h1, eMR true hc1 a1), (hc1, eA cy f1), (h2, eMR false hc2 a2), (hc2, eA cy f2)] s.heap.size = A at hD hAN ⊢
  have hA : ∀ q : Nat, s.heap.size ≤ q → A q := fun q h => by rw [← hAe]; exact Or.inr h
  have hS : va_S A s.heap s.heap [] := va_S.rf
  have hP : va_P (dC, dI) xCl [(h0, eM h1 h2 th rf kn), (h1, eMR true hc1 a1), (hc1, eA cy f1), (h2, eMR false hc2 a2), (hc2, eA cy f2)] s.heap := hP
  have hl := lv_entry ([.ref h0, .int p0, .int (b2i p1)]) (n := 3) (Nat.le_of_ble_eq_true rfl)
  rw [lg_entry_eq]
  generalize (lg_sl ([.ref h0, .int p0, .int (b2i p1)]) ++ List.replicate (3 - (lg_sl ([.ref h0, .int p0, .int (b2i p1)])).length) Slot.unset).toArray = ls at hl ⊢
  have hl : lv_has ls 3 [(0, .ref h0), (1, .int p0), (2, .int (b2i p1))] := hl
  refine lv_aload_n hx hb dX5_wideFind_0 rfl (lv_at hl 0 rfl) ?_
  refine lv_aload_n hx hb dX5_wideFind_1 rfl (lv_at hl 0 rfl) ?_
  refine va_get (D := (dC, dI)) (ci := 7) (v := .ref h1) (C := RX5) (T := TX5) (N := 5) hx hb hts (by decide +kernel) hown hK hP 0 rfl rfl 0 (by decide +kernel) (hts (.fieldLink RX5 16 "EdgefloatsModel" "wide" "LEdgefloatsModel$Row;") (by decide +kernel)) (fun _ h9 => h9) rfl dX5_wideFind_2 ?_
  refine lv_iload_n hx hb dX5_wideFind_5 rfl (lv_at hl 1 rfl) ?_
  refine lv_iload_n hx hb dX5_wideFind_6 rfl (lv_at hl 2 rfl) ?_
  have hPc := hP.sub (ws' := [(h0, eM h1 h2 th rf kn), (h1, eMR true hc1 a1), (hc1, eA cy f1)]) [0, 1, 2] rfl
  have hDc := hD.sub (ws' := [(h0, eM h1 h2 th rf kn), (h1, eMR true hc1 a1), (hc1, eA cy f1)]) [0, 1, 2] (by decide +kernel) rfl
  have hKc := hK.sub (tys' := [(cy, .long)]) [0] rfl
  have hFc := va_free (wc := [(h0, eM h1 h2 th rf kn), (h1, eMR true hc1 a1), (hc1, eA cy f1)]) hD hS hA [0, 1, 2] rfl
  refine va_calli (va_runV (As := [.ref h1, .int p0, .int (b2i p1)]) (rest := []) ⟨hx, hb, hml, hown, hts⟩ (k_X5_find l dC dI cy h0 h1 h2 h1 hc1 true a1 f1 th rf kn s.heap.size N p0 p1) (cwV 3 hts gX5_wideFind_X5_find rfl rfl rfl (by decide +kernel) ⟨Nat.le_of_ble_eq_true rfl, Nat.le_of_ble_eq_true rfl⟩) (xM.preV hKc hPc hDc hAN (Nat.le_trans hN hS.1) (hG.kept hS hAN) (ci := 7) (q0 := 0) rfl rfl) rfl rfl hl.1 rfl (lv_room (Nat.le_of_ble_eq_true rfl)) dX5_wideFind_7 ⟨Nat.le_of_ble_eq_true rfl, Nat.le_of_ble_eq_true rfl⟩) hS (fun q _ h => hFc q h) hFc (fun r_1 u t H locs ht hvm hw hB hz hk hS => ?_)
  replace hw : r_1 = (o_X5_find f1 p0 p1).1 := hw
  subst r_1
  obtain ⟨hP1, hD1⟩ := hB
  rw [ht] at hP1
  obtain ⟨hP, hD⟩ := va_join (wr := [(h2, eMR false hc2 a2), (hc2, eA cy f2)]) (w1 := [(h0, eM h1 h2 (o_X5_find f1 p0 p1).2 rf kn), (h1, eMR true hc1 a1), (hc1, eA cy f1)]) hP hD [0, 1, 2] [3, 4] rfl rfl (by decide +kernel) (by decide +kernel) hk hFc hP1 hD1
  have hP := hP.sub (ws' := [(h0, eM h1 h2 (o_X5_find f1 p0 p1).2 rf kn), (h1, eMR true hc1 a1), (hc1, eA cy f1), (h2, eMR false hc2 a2), (hc2, eA cy f2)]) [2, 3, 4, 0, 1] rfl
  have hD := hD.sub (ws' := [(h0, eM h1 h2 (o_X5_find f1 p0 p1).2 rf kn), (h1, eMR true hc1 a1), (hc1, eA cy f1), (h2, eMR false hc2 a2), (hc2, eA cy f2)]) [2, 3, 4, 0, 1] (by decide +kernel) rfl
  have he : o_X5_wideFind f1 p0 p1 = ((o_X5_find f1 p0 p1).1, (o_X5_find f1 p0 p1).2) := by (rw [o_X5_wideFind]) <;> rfl
  refine W.widen (k := 0) (n := 0) (by omega) (by omega) ?_
  exact W.iret (v := ((o_X5_find f1 p0 p1).1)) hx hb hr (fun t ht hW => ⟨⟨_, (), rfl, (by (rw [he]) <;> rfl), (by rw [he]; exact ⟨by rw [ht]; exact hP, hD⟩)⟩, hS.F ht⟩) hS.2.2 dX5_wideFind_10
theorem cl_X5_wideHas_1 : ∀ w ∈ wsX5_wideHas_r1, w ∈ wsX5_wideHas := fun _ h => (List.mem_cons_of_mem _ (List.mem_append_left _ (List.mem_append_left _ (List.mem_append_left _ h))))
theorem cl_X5_wideHas_2 : ∀ w ∈ wsX5_wideHas_r2, w ∈ wsX5_wideHas := fun _ h => (List.mem_cons_of_mem _ (List.mem_append_left _ (List.mem_append_left _ (List.mem_append_right _ h))))
theorem cl_X5_wideHas_3 : ∀ w ∈ wsX50, w ∈ wsX5_wideHas := fun _ h => (List.mem_cons_of_mem _ (List.mem_append_left _ (List.mem_append_right _ h)))
theorem cl_X5_wideHas_4 : ∀ w ∈ wsX40, w ∈ wsX5_wideHas := fun _ h => (List.mem_cons_of_mem _ (List.mem_append_right _ h))
set_option maxRecDepth 20000 in
theorem ggX5_wideHas_X5_has : GoodIn wsX5_wideHas wsX5_has := goodIn_sub (List.forall_mem_cons.mpr ⟨(cl_X5_wideHas_1 _ (List.mem_of_getElem? (i := 5) rfl)), fun w h => (List.mem_append.mp h).elim ((fun w h => (List.mem_append.mp h).elim ((fun w h => (List.mem_append.mp h).elim ((List.forall_mem_cons.mpr ⟨(cl_X5_wideHas_1 _ (List.mem_of_getElem? (i := 6) rfl)), List.forall_mem_cons.mpr ⟨(cl_X5_wideHas_1 _ (List.mem_of_getElem? (i := 7) rfl)), List.forall_mem_cons.mpr ⟨(cl_X5_wideHas_1 _ (List.mem_of_getElem? (i := 4) rfl)), List.forall_mem_cons.mpr ⟨(cl_X5_wideHas_1 _ (List.mem_of_getElem? (i := 8) rfl)), List.forall_mem_cons.mpr ⟨(cl_X5_wideHas_1 _ (List.mem_of_getElem? (i := 9) rfl)), List.forall_mem_cons.mpr ⟨(cl_X5_wideHas_1 _ (List.mem_of_getElem? (i := 10) rfl)), List.forall_mem_cons.mpr ⟨(cl_X5_wideHas_1 _ (List.mem_of_getElem? (i := 11) rfl)), List.forall_mem_cons.mpr ⟨(cl_X5_wideHas_1 _ (List.mem_of_getElem? (i := 12) rfl)), List.forall_mem_cons.mpr ⟨(cl_X5_wideHas_1 _ (List.mem_of_getElem? (i := 13) rfl)), List.forall_mem_cons.mpr ⟨(cl_X5_wideHas_1 _ (List.mem_of_getElem? (i := 14) rfl)), List.forall_mem_cons.mpr ⟨(cl_X5_wideHas_1 _ (List.mem_of_getElem? (i := 15) rfl)), List.forall_mem_cons.mpr ⟨(cl_X5_wideHas_1 _ (List.mem_of_getElem? (i := 16) rfl)), List.forall_mem_cons.mpr ⟨(cl_X5_wideHas_1 _ (List.mem_of_getElem? (i := 17) rfl)), List.forall_mem_cons.mpr ⟨(cl_X5_wideHas_1 _ (List.mem_of_getElem? (i := 18) rfl)), List.forall_mem_cons.mpr ⟨(cl_X5_wideHas_1 _ (List.mem_of_getElem? (i := 19) rfl)), List.forall_mem_cons.mpr ⟨(cl_X5_wideHas_1 _ (List.mem_of_getElem? (i := 20) rfl)), List.forall_mem_cons.mpr ⟨(cl_X5_wideHas_1 _ (List.mem_of_getElem? (i := 21) rfl)), List.forall_mem_cons.mpr ⟨(cl_X5_wideHas_1 _ (List.mem_of_getElem? (i := 22) rfl)), List.forall_mem_cons.mpr ⟨(cl_X5_wideHas_1 _ (List.mem_of_getElem? (i := 23) rfl)), List.forall_mem_cons.mpr ⟨(cl_X5_wideHas_2 _ (List.mem_of_getElem? (i := 0) rfl)), List.forall_mem_cons.mpr ⟨(cl_X5_wideHas_2 _ (List.mem_of_getElem? (i := 1) rfl)), List.forall_mem_cons.mpr ⟨(cl_X5_wideHas_2 _ (List.mem_of_getElem? (i := 2) rfl)), List.forall_mem_cons.mpr ⟨(cl_X5_wideHas_2 _ (List.mem_of_getElem? (i := 3) rfl)), List.forall_mem_cons.mpr ⟨(cl_X5_wideHas_2 _ (List.mem_of_getElem? (i := 4) rfl)), fun _ h => absurd h List.not_mem_nil⟩⟩⟩⟩⟩⟩⟩⟩⟩⟩⟩⟩⟩⟩⟩⟩⟩⟩⟩⟩⟩⟩⟩⟩) w) ((List.forall_mem_cons.mpr ⟨(cl_X5_wideHas_2 _ (List.mem_of_getElem? (i := 5) rfl)), List.forall_mem_cons.mpr ⟨(cl_X5_wideHas_2 _ (List.mem_of_getElem? (i := 6) rfl)), List.forall_mem_cons.mpr ⟨(cl_X5_wideHas_2 _ (List.mem_of_getElem? (i := 7) rfl)), List.forall_mem_cons.mpr ⟨(cl_X5_wideHas_2 _ (List.mem_of_getElem? (i := 8) rfl)), List.forall_mem_cons.mpr ⟨(cl_X5_wideHas_2 _ (List.mem_of_getElem? (i := 9) rfl)), fun _ h => absurd h List.not_mem_nil⟩⟩⟩⟩⟩) w)) w) ((cl_X5_wideHas_3) w)) w) ((cl_X5_wideHas_4) w)⟩) (by decide +kernel)
set_option maxRecDepth 20000 in
theorem gX5_wideHas_X5_has : GoodIn wsX5_wideHas (wsV RX5 187 RX5 yX5_has wsX5_has) := goodIn_app (goodIn_sub (List.forall_mem_cons.mpr ⟨(cl_X5_wideHas_1 _ (List.mem_of_getElem? (i := 1) rfl)), List.forall_mem_cons.mpr ⟨(cl_X5_wideHas_1 _ (List.mem_of_getElem? (i := 2) rfl)), List.forall_mem_cons.mpr ⟨(cl_X5_wideHas_1 _ (List.mem_of_getElem? (i := 3) rfl)), List.forall_mem_cons.mpr ⟨(cl_X5_wideHas_1 _ (List.mem_of_getElem? (i := 4) rfl)), fun _ h => absurd h List.not_mem_nil⟩⟩⟩⟩) (by decide +kernel)) ggX5_wideHas_X5_has
noncomputable def dz_p10_23 : List (Nat × Instr × Nat) := [(0, (.aload_n 0, 1)), (1, (.aload_n 0, 1)), (2, (.getfield 16, 3)), (5, (.iload_n 1, 1)), (6, (.invokevirtual 187, 3)), (9, (.ireturn, 1))]
theorem dy_p10_23 : dz_ok cX5_wideHas dz_p10_23 = true := by decide +kernel
theorem dX5_wideHas_0 : decode cX5_wideHas 0 = .ok (.aload_n 0, 1) := dz_at (i := 0) dy_p10_23 rfl
theorem dX5_wideHas_1 : decode cX5_wideHas 1 = .ok (.aload_n 0, 1) := dz_at (i := 1) dy_p10_23 rfl
theorem dX5_wideHas_2 : decode cX5_wideHas 2 = .ok (.getfield 16, 3) := dz_at (i := 2) dy_p10_23 rfl
theorem dX5_wideHas_5 : decode cX5_wideHas 5 = .ok (.iload_n 1, 1) := dz_at (i := 3) dy_p10_23 rfl
theorem dX5_wideHas_6 : decode cX5_wideHas 6 = .ok (.invokevirtual 187, 3) := dz_at (i := 4) dy_p10_23 rfl
theorem dX5_wideHas_9 : decode cX5_wideHas 9 = .ok (.ireturn, 1) := dz_at (i := 5) dy_p10_23 rfl
noncomputable def o_X5_wideHas (f1 : Nat → Int64) (p0 : Int32) : Bool × Int32 :=
  ((o_X5_has true f1 p0).1, (o_X5_has true f1 p0).2)
set_option maxHeartbeats 4000000 in
set_option maxRecDepth 100000 in
theorem k_X5_wideHas (l : Launch) (dC : Nat → ClassId) (dI : Nat → Nat → Nat) (cy : ClassId) (h0 : Nat) (h1 : Nat) (hc1 : Nat) (h2 : Nat) (hc2 : Nat) (a1 : Int32) (f1 : Nat → Int64) (a2 : Int32) (f2 : Nat → Int64) (th : Int32) (rf : Int32) (kn : Int32) (sz : Nat) (N : Nat) (p0 : Int32) : Met l yX5_wideHas wsX5_wideHas ({ frames := 3, cells := 0, slots := 0, locals := 63 }) (va_Pc [.ref h0, .int p0] (xM (dC, dI) xCl [(h0, eM h1 h2 th rf kn), (h1, eMR true hc1 a1), (hc1, eA cy f1), (h2, eMR false hc2 a2), (hc2, eA cy f2)] [(cy, .long)] sz N)) (va_Qi (fun (r : Int32) (_ : Unit) => r = b2i ((o_X5_wideHas f1 p0).1)) (fun _ t => xW (dC, dI) xCl [(h0, eM h1 h2 (o_X5_wideHas f1 p0).2 rf kn), (h1, eMR true hc1 a1), (hc1, eA cy f1), (h2, eMR false hc2 a2), (hc2, eA cy f2)] (va_A [(h0, eM h1 h2 th rf kn), (h1, eMR true hc1 a1), (hc1, eA cy f1), (h2, eMR false hc2 a2), (hc2, eA cy f2)] sz) t) (va_A [(h0, eM h1 h2 th rf kn), (h1, eMR true hc1 a1), (hc1, eA cy f1), (h2, eMR false hc2 a2), (hc2, eA cy f2)] sz)) 0 0 (va_A [(h0, eM h1 h2 th rf kn), (h1, eMR true hc1 a1), (hc1, eA cy f1), (h2, eMR false hc2 a2), (hc2, eA cy f2)] sz) := by
  refine Met.ofW (cc := cX5_wideHas) (maxL := 2) (ret := (some .boolean)) (by decide +kernel) rfl ?_
  intro p e s m args below meth c s₁ B hml hv
  obtain ⟨rfl, hsz, hP, hK, hD0, hN, hG⟩ := hv
  have hx := B.exec
  have hb := B.bytes
  have hr := B.returns
  have hts := atoms_spec (ws := wsX5_wideHas) B.pre
  have hown : s.vm.findClass RX5 = some m.cls := findClass_of_methodNamed B.named
  have hlocks := B.notSynchronized
  subst hsz
  have hAN : ∀ q, va_A [(h0, eM h1 h2 th rf kn), (h1, eMR true hc1 a1), (hc1, eA cy f1), (h2, eMR false hc2 a2), (hc2, eA cy f2)] s.heap.size q → N ≤ q := xA_N hD0 hN
  have hD := hD0.self (sz := s.heap.size)
  generalize hAe : va_A [(h0, eM h1 h2 th rf kn), (h1, eMR true hc1 a1), (hc1, eA cy f1), (h2, eMR false hc2 a2), (hc2, eA cy f2)] s.heap.size = A at hD hAN ⊢
  have hA : ∀ q : Nat, s.heap.size ≤ q → A q := fun q h => by rw [← hAe]; exact Or.inr h
  have hS : va_S A s.heap s.heap [] := va_S.rf
  have hP : va_P (dC, dI) xCl [(h0, eM h1 h2 th rf kn), (h1, eMR true hc1 a1), (hc1, eA cy f1), (h2, eMR false hc2 a2), (hc2, eA cy f2)] s.heap := hP
  have hl := lv_entry ([.ref h0, .int p0]) (n := 2) (Nat.le_of_ble_eq_true rfl)
  rw [lg_entry_eq]
  generalize (lg_sl ([.ref h0, .int p0]) ++ List.replicate (2 - (lg_sl ([.ref h0, .int p0])).length) Slot.unset).toArray = ls at hl ⊢
  have hl : lv_has ls 2 [(0, .ref h0), (1, .int p0)] := hl
  refine lv_aload_n hx hb dX5_wideHas_0 rfl (lv_at hl 0 rfl) ?_
  refine lv_aload_n hx hb dX5_wideHas_1 rfl (lv_at hl 0 rfl) ?_
  refine va_get (D := (dC, dI)) (ci := 7) (v := .ref h1) (C := RX5) (T := TX5) (N := 5) hx hb hts (by decide +kernel) hown hK hP 0 rfl rfl 0 (by decide +kernel) (hts (.fieldLink RX5 16 "EdgefloatsModel" "wide" "LEdgefloatsModel$Row;") (by decide +kernel)) (fun _ h9 => h9) rfl dX5_wideHas_2 ?_
  refine lv_iload_n hx hb dX5_wideHas_5 rfl (lv_at hl 1 rfl) ?_
  have hPc := hP.sub (ws' := [(h0, eM h1 h2 th rf kn), (h1, eMR true hc1 a1), (hc1, eA cy f1)]) [0, 1, 2] rfl
  have hDc := hD.sub (ws' := [(h0, eM h1 h2 th rf kn), (h1, eMR true hc1 a1), (hc1, eA cy f1)]) [0, 1, 2] (by decide +kernel) rfl
  have hKc := hK.sub (tys' := [(cy, .long)]) [0] rfl
  have hFc := va_free (wc := [(h0, eM h1 h2 th rf kn), (h1, eMR true hc1 a1), (hc1, eA cy f1)]) hD hS hA [0, 1, 2] rfl
  refine va_calli (va_runV (As := [.ref h1, .int p0]) (rest := []) ⟨hx, hb, hml, hown, hts⟩ (k_X5_has l dC dI cy h0 h1 h2 h1 hc1 true a1 f1 th rf kn s.heap.size N p0) (cwV 2 hts gX5_wideHas_X5_has rfl rfl rfl (by decide +kernel) ⟨Nat.le_of_ble_eq_true rfl, Nat.le_of_ble_eq_true rfl⟩) (xM.preV hKc hPc hDc hAN (Nat.le_trans hN hS.1) (hG.kept hS hAN) (ci := 7) (q0 := 0) rfl rfl) rfl rfl hl.1 rfl (lv_room (Nat.le_of_ble_eq_true rfl)) dX5_wideHas_6 ⟨Nat.le_of_ble_eq_true rfl, Nat.le_of_ble_eq_true rfl⟩) hS (fun q _ h => hFc q h) hFc (fun r_1 u t H locs ht hvm hw hB hz hk hS => ?_)
  replace hw : r_1 = b2i ((o_X5_has true f1 p0).1) := hw
  subst r_1
  obtain ⟨hP1, hD1⟩ := hB
  rw [ht] at hP1
  obtain ⟨hP, hD⟩ := va_join (wr := [(h2, eMR false hc2 a2), (hc2, eA cy f2)]) (w1 := [(h0, eM h1 h2 (o_X5_has true f1 p0).2 rf kn), (h1, eMR true hc1 a1), (hc1, eA cy f1)]) hP hD [0, 1, 2] [3, 4] rfl rfl (by decide +kernel) (by decide +kernel) hk hFc hP1 hD1
  have hP := hP.sub (ws' := [(h0, eM h1 h2 (o_X5_has true f1 p0).2 rf kn), (h1, eMR true hc1 a1), (hc1, eA cy f1), (h2, eMR false hc2 a2), (hc2, eA cy f2)]) [2, 3, 4, 0, 1] rfl
  have hD := hD.sub (ws' := [(h0, eM h1 h2 (o_X5_has true f1 p0).2 rf kn), (h1, eMR true hc1 a1), (hc1, eA cy f1), (h2, eMR false hc2 a2), (hc2, eA cy f2)]) [2, 3, 4, 0, 1] (by decide +kernel) rfl
  have he : o_X5_wideHas f1 p0 = ((o_X5_has true f1 p0).1, (o_X5_has true f1 p0).2) := by (rw [o_X5_wideHas]) <;> rfl
  refine W.widen (k := 0) (n := 0) (by omega) (by omega) ?_
  exact W.zret (v := (b2i ((o_X5_has true f1 p0).1))) (ty := .boolean) hx hb hr (b2i_nar _) (fun t ht hW => ⟨⟨_, (), rfl, (by (rw [he]) <;> rfl), (by rw [he]; exact ⟨by rw [ht]; exact hP, hD⟩)⟩, hS.F ht⟩) hS.2.2 dX5_wideHas_9
theorem cl_X5_putNarrow_1 : ∀ w ∈ wsX5_putNarrow_r1, w ∈ wsX5_putNarrow := fun _ h => (List.mem_cons_of_mem _ (List.mem_append_left _ (List.mem_append_left _ (List.mem_append_left _ h))))
theorem cl_X5_putNarrow_2 : ∀ w ∈ wsX5_putNarrow_r2, w ∈ wsX5_putNarrow := fun _ h => (List.mem_cons_of_mem _ (List.mem_append_left _ (List.mem_append_left _ (List.mem_append_right _ (List.mem_append_left _ h)))))
theorem cl_X5_putNarrow_3 : ∀ w ∈ wsX5_putNarrow_r3, w ∈ wsX5_putNarrow := fun _ h => (List.mem_cons_of_mem _ (List.mem_append_left _ (List.mem_append_left _ (List.mem_append_right _ (List.mem_append_right _ h)))))
theorem cl_X5_putNarrow_4 : ∀ w ∈ wsX50, w ∈ wsX5_putNarrow := fun _ h => (List.mem_cons_of_mem _ (List.mem_append_left _ (List.mem_append_right _ h)))
theorem cl_X5_putNarrow_5 : ∀ w ∈ wsX40, w ∈ wsX5_putNarrow := fun _ h => (List.mem_cons_of_mem _ (List.mem_append_right _ h))
set_option maxRecDepth 20000 in
theorem ggX5_putNarrow_X5_put : GoodIn wsX5_putNarrow wsX5_put := goodIn_sub (List.forall_mem_cons.mpr ⟨(cl_X5_putNarrow_1 _ (List.mem_of_getElem? (i := 6) rfl)), fun w h => (List.mem_append.mp h).elim ((fun w h => (List.mem_append.mp h).elim ((fun w h => (List.mem_append.mp h).elim ((List.forall_mem_cons.mpr ⟨(cl_X5_putNarrow_1 _ (List.mem_of_getElem? (i := 7) rfl)), List.forall_mem_cons.mpr ⟨(cl_X5_putNarrow_1 _ (List.mem_of_getElem? (i := 8) rfl)), List.forall_mem_cons.mpr ⟨(cl_X5_putNarrow_1 _ (List.mem_of_getElem? (i := 5) rfl)), List.forall_mem_cons.mpr ⟨(cl_X5_putNarrow_1 _ (List.mem_of_getElem? (i := 9) rfl)), List.forall_mem_cons.mpr ⟨(cl_X5_putNarrow_1 _ (List.mem_of_getElem? (i := 10) rfl)), List.forall_mem_cons.mpr ⟨(cl_X5_putNarrow_1 _ (List.mem_of_getElem? (i := 11) rfl)), List.forall_mem_cons.mpr ⟨(cl_X5_putNarrow_1 _ (List.mem_of_getElem? (i := 12) rfl)), List.forall_mem_cons.mpr ⟨(cl_X5_putNarrow_1 _ (List.mem_of_getElem? (i := 13) rfl)), List.forall_mem_cons.mpr ⟨(cl_X5_putNarrow_1 _ (List.mem_of_getElem? (i := 14) rfl)), List.forall_mem_cons.mpr ⟨(cl_X5_putNarrow_1 _ (List.mem_of_getElem? (i := 15) rfl)), List.forall_mem_cons.mpr ⟨(cl_X5_putNarrow_1 _ (List.mem_of_getElem? (i := 16) rfl)), List.forall_mem_cons.mpr ⟨(cl_X5_putNarrow_1 _ (List.mem_of_getElem? (i := 17) rfl)), List.forall_mem_cons.mpr ⟨(cl_X5_putNarrow_1 _ (List.mem_of_getElem? (i := 18) rfl)), List.forall_mem_cons.mpr ⟨(cl_X5_putNarrow_1 _ (List.mem_of_getElem? (i := 19) rfl)), List.forall_mem_cons.mpr ⟨(cl_X5_putNarrow_1 _ (List.mem_of_getElem? (i := 20) rfl)), List.forall_mem_cons.mpr ⟨(cl_X5_putNarrow_1 _ (List.mem_of_getElem? (i := 21) rfl)), List.forall_mem_cons.mpr ⟨(cl_X5_putNarrow_1 _ (List.mem_of_getElem? (i := 22) rfl)), List.forall_mem_cons.mpr ⟨(cl_X5_putNarrow_1 _ (List.mem_of_getElem? (i := 23) rfl)), List.forall_mem_cons.mpr ⟨(cl_X5_putNarrow_2 _ (List.mem_of_getElem? (i := 0) rfl)), List.forall_mem_cons.mpr ⟨(cl_X5_putNarrow_2 _ (List.mem_of_getElem? (i := 1) rfl)), List.forall_mem_cons.mpr ⟨(cl_X5_putNarrow_2 _ (List.mem_of_getElem? (i := 2) rfl)), List.forall_mem_cons.mpr ⟨(cl_X5_putNarrow_2 _ (List.mem_of_getElem? (i := 3) rfl)), List.forall_mem_cons.mpr ⟨(cl_X5_putNarrow_2 _ (List.mem_of_getElem? (i := 4) rfl)), List.forall_mem_cons.mpr ⟨(cl_X5_putNarrow_2 _ (List.mem_of_getElem? (i := 5) rfl)), fun _ h => absurd h List.not_mem_nil⟩⟩⟩⟩⟩⟩⟩⟩⟩⟩⟩⟩⟩⟩⟩⟩⟩⟩⟩⟩⟩⟩⟩⟩) w) ((List.forall_mem_cons.mpr ⟨(cl_X5_putNarrow_2 _ (List.mem_of_getElem? (i := 6) rfl)), List.forall_mem_cons.mpr ⟨(cl_X5_putNarrow_2 _ (List.mem_of_getElem? (i := 7) rfl)), List.forall_mem_cons.mpr ⟨(cl_X5_putNarrow_2 _ (List.mem_of_getElem? (i := 8) rfl)), List.forall_mem_cons.mpr ⟨(cl_X5_putNarrow_2 _ (List.mem_of_getElem? (i := 9) rfl)), List.forall_mem_cons.mpr ⟨(cl_X5_putNarrow_2 _ (List.mem_of_getElem? (i := 10) rfl)), List.forall_mem_cons.mpr ⟨(cl_X5_putNarrow_2 _ (List.mem_of_getElem? (i := 11) rfl)), List.forall_mem_cons.mpr ⟨(cl_X5_putNarrow_2 _ (List.mem_of_getElem? (i := 12) rfl)), List.forall_mem_cons.mpr ⟨(cl_X5_putNarrow_2 _ (List.mem_of_getElem? (i := 13) rfl)), List.forall_mem_cons.mpr ⟨(cl_X5_putNarrow_2 _ (List.mem_of_getElem? (i := 14) rfl)), List.forall_mem_cons.mpr ⟨(cl_X5_putNarrow_2 _ (List.mem_of_getElem? (i := 15) rfl)), List.forall_mem_cons.mpr ⟨(cl_X5_putNarrow_2 _ (List.mem_of_getElem? (i := 16) rfl)), List.forall_mem_cons.mpr ⟨(cl_X5_putNarrow_2 _ (List.mem_of_getElem? (i := 17) rfl)), List.forall_mem_cons.mpr ⟨(cl_X5_putNarrow_2 _ (List.mem_of_getElem? (i := 18) rfl)), List.forall_mem_cons.mpr ⟨(cl_X5_putNarrow_2 _ (List.mem_of_getElem? (i := 19) rfl)), List.forall_mem_cons.mpr ⟨(cl_X5_putNarrow_2 _ (List.mem_of_getElem? (i := 20) rfl)), List.forall_mem_cons.mpr ⟨(cl_X5_putNarrow_2 _ (List.mem_of_getElem? (i := 21) rfl)), List.forall_mem_cons.mpr ⟨(cl_X5_putNarrow_2 _ (List.mem_of_getElem? (i := 22) rfl)), List.forall_mem_cons.mpr ⟨(cl_X5_putNarrow_2 _ (List.mem_of_getElem? (i := 23) rfl)), List.forall_mem_cons.mpr ⟨(cl_X5_putNarrow_3 _ (List.mem_of_getElem? (i := 0) rfl)), fun _ h => absurd h List.not_mem_nil⟩⟩⟩⟩⟩⟩⟩⟩⟩⟩⟩⟩⟩⟩⟩⟩⟩⟩⟩) w)) w) ((cl_X5_putNarrow_4) w)) w) ((cl_X5_putNarrow_5) w)⟩) (by decide +kernel)
set_option maxRecDepth 20000 in
theorem gX5_putNarrow_X5_put : GoodIn wsX5_putNarrow (wsV RX5 127 RX5 yX5_put wsX5_put) := goodIn_app (goodIn_sub (List.forall_mem_cons.mpr ⟨(cl_X5_putNarrow_1 _ (List.mem_of_getElem? (i := 2) rfl)), List.forall_mem_cons.mpr ⟨(cl_X5_putNarrow_1 _ (List.mem_of_getElem? (i := 3) rfl)), List.forall_mem_cons.mpr ⟨(cl_X5_putNarrow_1 _ (List.mem_of_getElem? (i := 4) rfl)), List.forall_mem_cons.mpr ⟨(cl_X5_putNarrow_1 _ (List.mem_of_getElem? (i := 5) rfl)), fun _ h => absurd h List.not_mem_nil⟩⟩⟩⟩) (by decide +kernel)) ggX5_putNarrow_X5_put
noncomputable def dz_p10_24 : List (Nat × Instr × Nat) := [(0, (.aload_n 0, 1)), (1, (.aload_n 0, 1)), (2, (.getfield 24, 3)), (5, (.iload_n 1, 1)), (6, (.iload_n 2, 1)), (7, (.i2l, 1)), (8, (.ldc2_w 125, 3)), (11, (.land, 1)), (12, (.invokevirtual 127, 3)), (15, (.ireturn, 1))]
theorem dy_p10_24 : dz_ok cX5_putNarrow dz_p10_24 = true := by decide +kernel
theorem dX5_putNarrow_0 : decode cX5_putNarrow 0 = .ok (.aload_n 0, 1) := dz_at (i := 0) dy_p10_24 rfl
theorem dX5_putNarrow_1 : decode cX5_putNarrow 1 = .ok (.aload_n 0, 1) := dz_at (i := 1) dy_p10_24 rfl
theorem dX5_putNarrow_2 : decode cX5_putNarrow 2 = .ok (.getfield 24, 3) := dz_at (i := 2) dy_p10_24 rfl
theorem dX5_putNarrow_5 : decode cX5_putNarrow 5 = .ok (.iload_n 1, 1) := dz_at (i := 3) dy_p10_24 rfl
theorem dX5_putNarrow_6 : decode cX5_putNarrow 6 = .ok (.iload_n 2, 1) := dz_at (i := 4) dy_p10_24 rfl
theorem dX5_putNarrow_7 : decode cX5_putNarrow 7 = .ok (.i2l, 1) := dz_at (i := 5) dy_p10_24 rfl
theorem dX5_putNarrow_8 : decode cX5_putNarrow 8 = .ok (.ldc2_w 125, 3) := dz_at (i := 6) dy_p10_24 rfl
theorem dX5_putNarrow_11 : decode cX5_putNarrow 11 = .ok (.land, 1) := dz_at (i := 7) dy_p10_24 rfl
theorem dX5_putNarrow_12 : decode cX5_putNarrow 12 = .ok (.invokevirtual 127, 3) := dz_at (i := 8) dy_p10_24 rfl
theorem dX5_putNarrow_15 : decode cX5_putNarrow 15 = .ok (.ireturn, 1) := dz_at (i := 9) dy_p10_24 rfl
noncomputable def o_X5_putNarrow (a2 : Int32) (f2 : Nat → Int64) (rf : Int32) (p0 : Int32) (p1 : Int32) : Int32 × Int32 × (Nat → Int64) × Int32 × Int32 :=
  ((o_X5_put false a2 f2 rf p0 (p1.toInt64 &&& 4294967295)).1, (o_X5_put false a2 f2 rf p0 (p1.toInt64 &&& 4294967295)).2.1, (o_X5_put false a2 f2 rf p0 (p1.toInt64 &&& 4294967295)).2.2.1, (o_X5_put false a2 f2 rf p0 (p1.toInt64 &&& 4294967295)).2.2.2.1, (o_X5_put false a2 f2 rf p0 (p1.toInt64 &&& 4294967295)).2.2.2.2)
set_option maxHeartbeats 4000000 in
set_option maxRecDepth 100000 in
theorem k_X5_putNarrow (l : Launch) (dC : Nat → ClassId) (dI : Nat → Nat → Nat) (cy : ClassId) (h0 : Nat) (h1 : Nat) (hc1 : Nat) (h2 : Nat) (hc2 : Nat) (a1 : Int32) (f1 : Nat → Int64) (a2 : Int32) (f2 : Nat → Int64) (th : Int32) (rf : Int32) (kn : Int32) (sz : Nat) (N : Nat) (p0 : Int32) (p1 : Int32) : Met l yX5_putNarrow wsX5_putNarrow ({ frames := 4, cells := 0, slots := 0, locals := 88 }) (va_Pc [.ref h0, .int p0, .int p1] (xM (dC, dI) xCl [(h0, eM h1 h2 th rf kn), (h1, eMR true hc1 a1), (hc1, eA cy f1), (h2, eMR false hc2 a2), (hc2, eA cy f2)] [(cy, .long)] sz N)) (va_Qi (fun (r : Int32) (_ : Unit) => r = (o_X5_putNarrow a2 f2 rf p0 p1).1) (fun _ t => xW (dC, dI) xCl [(h0, eM h1 h2 (o_X5_putNarrow a2 f2 rf p0 p1).2.2.2.1 (o_X5_putNarrow a2 f2 rf p0 p1).2.2.2.2 kn), (h1, eMR true hc1 a1), (hc1, eA cy f1), (h2, eMR false hc2 (o_X5_putNarrow a2 f2 rf p0 p1).2.1), (hc2, eA cy (o_X5_putNarrow a2 f2 rf p0 p1).2.2.1)] (va_A [(h0, eM h1 h2 th rf kn), (h1, eMR true hc1 a1), (hc1, eA cy f1), (h2, eMR false hc2 a2), (hc2, eA cy f2)] sz) t) (va_A [(h0, eM h1 h2 th rf kn), (h1, eMR true hc1 a1), (hc1, eA cy f1), (h2, eMR false hc2 a2), (hc2, eA cy f2)] sz)) 0 0 (va_A [(h0, eM h1 h2 th rf kn), (h1, eMR true hc1 a1), (hc1, eA cy f1), (h2, eMR false hc2 a2), (hc2, eA cy f2)] sz) := by
  refine Met.ofW (cc := cX5_putNarrow) (maxL := 3) (ret := (some .int)) (by decide +kernel) rfl ?_
  intro p e s m args below meth c s₁ B hml hv
  obtain ⟨rfl, hsz, hP, hK, hD0, hN, hG⟩ := hv
  have hx := B.exec
  have hb := B.bytes
  have hr := B.returns
  have hts := atoms_spec (ws := wsX5_putNarrow) B.pre
  have hown : s.vm.findClass RX5 = some m.cls := findClass_of_methodNamed B.named
  have hlocks := B.notSynchronized
  subst hsz
  have hAN : ∀ q, va_A [(h0, eM h1 h2 th rf kn), (h1, eMR true hc1 a1), (hc1, eA cy f1), (h2, eMR false hc2 a2), (hc2, eA cy f2)] s.heap.size q → N ≤ q := xA_N hD0 hN
  have hD := hD0.self (sz := s.heap.size)
  generalize hAe : va_A [(h0, eM h1 h2 th rf kn), (h1, eMR true hc1 a1), (hc1, eA cy f1), (h2, eMR false hc2 a2), (hc2, eA cy f2)] s.heap.size = A at hD hAN ⊢
  have hA : ∀ q : Nat, s.heap.size ≤ q → A q := fun q h => by rw [← hAe]; exact Or.inr h
  have hS : va_S A s.heap s.heap [] := va_S.rf
  have hP : va_P (dC, dI) xCl [(h0, eM h1 h2 th rf kn), (h1, eMR true hc1 a1), (hc1, eA cy f1), (h2, eMR false hc2 a2), (hc2, eA cy f2)] s.heap := hP
  have hl := lv_entry ([.ref h0, .int p0, .int p1]) (n := 3) (Nat.le_of_ble_eq_true rfl)
  rw [lg_entry_eq]
  generalize (lg_sl ([.ref h0, .int p0, .int p1]) ++ List.replicate (3 - (lg_sl ([.ref h0, .int p0, .int p1])).length) Slot.unset).toArray = ls at hl ⊢
  have hl : lv_has ls 3 [(0, .ref h0), (1, .int p0), (2, .int p1)] := hl
  refine lv_aload_n hx hb dX5_putNarrow_0 rfl (lv_at hl 0 rfl) ?_
  refine lv_aload_n hx hb dX5_putNarrow_1 rfl (lv_at hl 0 rfl) ?_
  refine va_get (D := (dC, dI)) (ci := 7) (v := .ref h2) (C := RX5) (T := TX5) (N := 5) hx hb hts (by decide +kernel) hown hK hP 0 rfl rfl 1 (by decide +kernel) (hts (.fieldLink RX5 24 "EdgefloatsModel" "narrow" "LEdgefloatsModel$Row;") (by decide +kernel)) (fun _ h9 => h9) rfl dX5_putNarrow_2 ?_
  refine lv_iload_n hx hb dX5_putNarrow_5 rfl (lv_at hl 1 rfl) ?_
  refine lv_iload_n hx hb dX5_putNarrow_6 rfl (lv_at hl 2 rfl) ?_
  refine lv_i2l (v := p1.toInt64) hx hb dX5_putNarrow_7 rfl ?_
  refine lv_ldc2 (own := RX5) (index := 125) (v := 4294967295) hx hb hown (hts (.constantLong RX5 125 (4294967295)) (by decide +kernel)) dX5_putNarrow_8 ?_
  refine lv_land hx hb dX5_putNarrow_11 ?_
  have hPc := hP.sub (ws' := [(h0, eM h1 h2 th rf kn), (h2, eMR false hc2 a2), (hc2, eA cy f2)]) [0, 3, 4] rfl
  have hDc := hD.sub (ws' := [(h0, eM h1 h2 th rf kn), (h2, eMR false hc2 a2), (hc2, eA cy f2)]) [0, 3, 4] (by decide +kernel) rfl
  have hKc := hK.sub (tys' := [(cy, .long)]) [0] rfl
  have hFc := va_free (wc := [(h0, eM h1 h2 th rf kn), (h2, eMR false hc2 a2), (hc2, eA cy f2)]) hD hS hA [0, 3, 4] rfl
  refine va_calli (va_runV (As := [.ref h2, .int p0, .long (p1.toInt64 &&& 4294967295)]) (rest := []) ⟨hx, hb, hml, hown, hts⟩ (k_X5_put l dC dI cy h0 h1 h2 h2 hc2 false a2 f2 th rf kn s.heap.size N p0 (p1.toInt64 &&& 4294967295)) (cwV 3 hts gX5_putNarrow_X5_put rfl rfl rfl (by decide +kernel) ⟨Nat.le_of_ble_eq_true rfl, Nat.le_of_ble_eq_true rfl⟩) (xM.preV hKc hPc hDc hAN (Nat.le_trans hN hS.1) (hG.kept hS hAN) (ci := 7) (q0 := 0) rfl rfl) rfl rfl hl.1 rfl (lv_room (Nat.le_of_ble_eq_true rfl)) dX5_putNarrow_12 ⟨Nat.le_of_ble_eq_true rfl, Nat.le_of_ble_eq_true rfl⟩) hS (fun q _ h => hFc q h) hFc (fun r_1 u t H locs ht hvm hw hB hz hk hS => ?_)
  replace hw : r_1 = (o_X5_put false a2 f2 rf p0 (p1.toInt64 &&& 4294967295)).1 := hw
  subst r_1
  obtain ⟨hP1, hD1⟩ := hB
  rw [ht] at hP1
  obtain ⟨hP, hD⟩ := va_join (wr := [(h1, eMR true hc1 a1), (hc1, eA cy f1)]) (w1 := [(h0, eM h1 h2 (o_X5_put false a2 f2 rf p0 (p1.toInt64 &&& 4294967295)).2.2.2.1 (o_X5_put false a2 f2 rf p0 (p1.toInt64 &&& 4294967295)).2.2.2.2 kn), (h2, eMR false hc2 (o_X5_put false a2 f2 rf p0 (p1.toInt64 &&& 4294967295)).2.1), (hc2, eA cy (o_X5_put false a2 f2 rf p0 (p1.toInt64 &&& 4294967295)).2.2.1)]) hP hD [0, 3, 4] [1, 2] rfl rfl (by decide +kernel) (by decide +kernel) hk hFc hP1 hD1
  have hP := hP.sub (ws' := [(h0, eM h1 h2 (o_X5_put false a2 f2 rf p0 (p1.toInt64 &&& 4294967295)).2.2.2.1 (o_X5_put false a2 f2 rf p0 (p1.toInt64 &&& 4294967295)).2.2.2.2 kn), (h1, eMR true hc1 a1), (hc1, eA cy f1), (h2, eMR false hc2 (o_X5_put false a2 f2 rf p0 (p1.toInt64 &&& 4294967295)).2.1), (hc2, eA cy (o_X5_put false a2 f2 rf p0 (p1.toInt64 &&& 4294967295)).2.2.1)]) [2, 0, 1, 3, 4] rfl
  have hD := hD.sub (ws' := [(h0, eM h1 h2 (o_X5_put false a2 f2 rf p0 (p1.toInt64 &&& 4294967295)).2.2.2.1 (o_X5_put false a2 f2 rf p0 (p1.toInt64 &&& 4294967295)).2.2.2.2 kn), (h1, eMR true hc1 a1), (hc1, eA cy f1), (h2, eMR false hc2 (o_X5_put false a2 f2 rf p0 (p1.toInt64 &&& 4294967295)).2.1), (hc2, eA cy (o_X5_put false a2 f2 rf p0 (p1.toInt64 &&& 4294967295)).2.2.1)]) [2, 0, 1, 3, 4] (by decide +kernel) rfl
  have he : o_X5_putNarrow a2 f2 rf p0 p1 = ((o_X5_put false a2 f2 rf p0 (p1.toInt64 &&& 4294967295)).1, (o_X5_put false a2 f2 rf p0 (p1.toInt64 &&& 4294967295)).2.1, (o_X5_put false a2 f2 rf p0 (p1.toInt64 &&& 4294967295)).2.2.1, (o_X5_put false a2 f2 rf p0 (p1.toInt64 &&& 4294967295)).2.2.2.1, (o_X5_put false a2 f2 rf p0 (p1.toInt64 &&& 4294967295)).2.2.2.2) := by (rw [o_X5_putNarrow]) <;> rfl
  refine W.widen (k := 0) (n := 0) (by omega) (by omega) ?_
  exact W.iret (v := ((o_X5_put false a2 f2 rf p0 (p1.toInt64 &&& 4294967295)).1)) hx hb hr (fun t ht hW => ⟨⟨_, (), rfl, (by (rw [he]) <;> rfl), (by rw [he]; exact ⟨by rw [ht]; exact hP, hD⟩)⟩, hS.F ht⟩) hS.2.2 dX5_putNarrow_15
theorem cl_X5_narrowQuarters_1 : ∀ w ∈ wsX5_narrowQuarters_r1, w ∈ wsX5_narrowQuarters := fun _ h => (List.mem_cons_of_mem _ (List.mem_append_left _ (List.mem_append_left _ (List.mem_append_left _ h))))
theorem cl_X5_narrowQuarters_2 : ∀ w ∈ wsX5_narrowQuarters_r2, w ∈ wsX5_narrowQuarters := fun _ h => (List.mem_cons_of_mem _ (List.mem_append_left _ (List.mem_append_left _ (List.mem_append_right _ h))))
theorem cl_X5_narrowQuarters_3 : ∀ w ∈ wsX50, w ∈ wsX5_narrowQuarters := fun _ h => (List.mem_cons_of_mem _ (List.mem_append_left _ (List.mem_append_right _ h)))
theorem cl_X5_narrowQuarters_4 : ∀ w ∈ wsX40, w ∈ wsX5_narrowQuarters := fun _ h => (List.mem_cons_of_mem _ (List.mem_append_right _ h))
set_option maxRecDepth 20000 in
theorem ggX5_narrowQuarters_X5_quarters : GoodIn wsX5_narrowQuarters wsX5_quarters := goodIn_sub (List.forall_mem_cons.mpr ⟨(cl_X5_narrowQuarters_1 _ (List.mem_of_getElem? (i := 5) rfl)), fun w h => (List.mem_append.mp h).elim ((fun w h => (List.mem_append.mp h).elim ((fun w h => (List.mem_append.mp h).elim ((List.forall_mem_cons.mpr ⟨(cl_X5_narrowQuarters_1 _ (List.mem_of_getElem? (i := 6) rfl)), List.forall_mem_cons.mpr ⟨(cl_X5_narrowQuarters_1 _ (List.mem_of_getElem? (i := 7) rfl)), List.forall_mem_cons.mpr ⟨(cl_X5_narrowQuarters_1 _ (List.mem_of_getElem? (i := 8) rfl)), List.forall_mem_cons.mpr ⟨(cl_X5_narrowQuarters_1 _ (List.mem_of_getElem? (i := 4) rfl)), List.forall_mem_cons.mpr ⟨(cl_X5_narrowQuarters_1 _ (List.mem_of_getElem? (i := 9) rfl)), List.forall_mem_cons.mpr ⟨(cl_X5_narrowQuarters_1 _ (List.mem_of_getElem? (i := 10) rfl)), List.forall_mem_cons.mpr ⟨(cl_X5_narrowQuarters_1 _ (List.mem_of_getElem? (i := 11) rfl)), List.forall_mem_cons.mpr ⟨(cl_X5_narrowQuarters_1 _ (List.mem_of_getElem? (i := 12) rfl)), List.forall_mem_cons.mpr ⟨(cl_X5_narrowQuarters_1 _ (List.mem_of_getElem? (i := 13) rfl)), List.forall_mem_cons.mpr ⟨(cl_X5_narrowQuarters_1 _ (List.mem_of_getElem? (i := 14) rfl)), List.forall_mem_cons.mpr ⟨(cl_X5_narrowQuarters_1 _ (List.mem_of_getElem? (i := 15) rfl)), List.forall_mem_cons.mpr ⟨(cl_X5_narrowQuarters_1 _ (List.mem_of_getElem? (i := 16) rfl)), List.forall_mem_cons.mpr ⟨(cl_X5_narrowQuarters_1 _ (List.mem_of_getElem? (i := 17) rfl)), List.forall_mem_cons.mpr ⟨(cl_X5_narrowQuarters_1 _ (List.mem_of_getElem? (i := 18) rfl)), List.forall_mem_cons.mpr ⟨(cl_X5_narrowQuarters_1 _ (List.mem_of_getElem? (i := 19) rfl)), List.forall_mem_cons.mpr ⟨(cl_X5_narrowQuarters_1 _ (List.mem_of_getElem? (i := 20) rfl)), List.forall_mem_cons.mpr ⟨(cl_X5_narrowQuarters_1 _ (List.mem_of_getElem? (i := 21) rfl)), List.forall_mem_cons.mpr ⟨(cl_X5_narrowQuarters_1 _ (List.mem_of_getElem? (i := 22) rfl)), List.forall_mem_cons.mpr ⟨(cl_X5_narrowQuarters_1 _ (List.mem_of_getElem? (i := 23) rfl)), List.forall_mem_cons.mpr ⟨(cl_X5_narrowQuarters_2 _ (List.mem_of_getElem? (i := 0) rfl)), List.forall_mem_cons.mpr ⟨(cl_X5_narrowQuarters_2 _ (List.mem_of_getElem? (i := 1) rfl)), List.forall_mem_cons.mpr ⟨(cl_X5_narrowQuarters_2 _ (List.mem_of_getElem? (i := 2) rfl)), List.forall_mem_cons.mpr ⟨(cl_X5_narrowQuarters_2 _ (List.mem_of_getElem? (i := 3) rfl)), List.forall_mem_cons.mpr ⟨(cl_X5_narrowQuarters_2 _ (List.mem_of_getElem? (i := 4) rfl)), fun _ h => absurd h List.not_mem_nil⟩⟩⟩⟩⟩⟩⟩⟩⟩⟩⟩⟩⟩⟩⟩⟩⟩⟩⟩⟩⟩⟩⟩⟩) w) ((List.forall_mem_cons.mpr ⟨(cl_X5_narrowQuarters_2 _ (List.mem_of_getElem? (i := 5) rfl)), List.forall_mem_cons.mpr ⟨(cl_X5_narrowQuarters_2 _ (List.mem_of_getElem? (i := 6) rfl)), List.forall_mem_cons.mpr ⟨(cl_X5_narrowQuarters_2 _ (List.mem_of_getElem? (i := 7) rfl)), List.forall_mem_cons.mpr ⟨(cl_X5_narrowQuarters_2 _ (List.mem_of_getElem? (i := 8) rfl)), List.forall_mem_cons.mpr ⟨(cl_X5_narrowQuarters_2 _ (List.mem_of_getElem? (i := 9) rfl)), List.forall_mem_cons.mpr ⟨(cl_X5_narrowQuarters_2 _ (List.mem_of_getElem? (i := 10) rfl)), List.forall_mem_cons.mpr ⟨(cl_X5_narrowQuarters_2 _ (List.mem_of_getElem? (i := 11) rfl)), List.forall_mem_cons.mpr ⟨(cl_X5_narrowQuarters_2 _ (List.mem_of_getElem? (i := 12) rfl)), fun _ h => absurd h List.not_mem_nil⟩⟩⟩⟩⟩⟩⟩⟩) w)) w) ((cl_X5_narrowQuarters_4) w)) w) ((cl_X5_narrowQuarters_3) w)⟩) (by decide +kernel)
set_option maxRecDepth 20000 in
theorem gX5_narrowQuarters_X5_quarters : GoodIn wsX5_narrowQuarters (wsV RX5 131 RX5 yX5_quarters wsX5_quarters) := goodIn_app (goodIn_sub (List.forall_mem_cons.mpr ⟨(cl_X5_narrowQuarters_1 _ (List.mem_of_getElem? (i := 1) rfl)), List.forall_mem_cons.mpr ⟨(cl_X5_narrowQuarters_1 _ (List.mem_of_getElem? (i := 2) rfl)), List.forall_mem_cons.mpr ⟨(cl_X5_narrowQuarters_1 _ (List.mem_of_getElem? (i := 3) rfl)), List.forall_mem_cons.mpr ⟨(cl_X5_narrowQuarters_1 _ (List.mem_of_getElem? (i := 4) rfl)), fun _ h => absurd h List.not_mem_nil⟩⟩⟩⟩) (by decide +kernel)) ggX5_narrowQuarters_X5_quarters
noncomputable def dz_p10_25 : List (Nat × Instr × Nat) := [(0, (.aload_n 0, 1)), (1, (.aload_n 0, 1)), (2, (.getfield 24, 3)), (5, (.iload_n 1, 1)), (6, (.iload_n 2, 1)), (7, (.invokevirtual 131, 3)), (10, (.ireturn, 1))]
theorem dy_p10_25 : dz_ok cX5_narrowQuarters dz_p10_25 = true := by decide +kernel
theorem dX5_narrowQuarters_0 : decode cX5_narrowQuarters 0 = .ok (.aload_n 0, 1) := dz_at (i := 0) dy_p10_25 rfl
theorem dX5_narrowQuarters_1 : decode cX5_narrowQuarters 1 = .ok (.aload_n 0, 1) := dz_at (i := 1) dy_p10_25 rfl
theorem dX5_narrowQuarters_2 : decode cX5_narrowQuarters 2 = .ok (.getfield 24, 3) := dz_at (i := 2) dy_p10_25 rfl
theorem dX5_narrowQuarters_5 : decode cX5_narrowQuarters 5 = .ok (.iload_n 1, 1) := dz_at (i := 3) dy_p10_25 rfl
theorem dX5_narrowQuarters_6 : decode cX5_narrowQuarters 6 = .ok (.iload_n 2, 1) := dz_at (i := 4) dy_p10_25 rfl
theorem dX5_narrowQuarters_7 : decode cX5_narrowQuarters 7 = .ok (.invokevirtual 131, 3) := dz_at (i := 5) dy_p10_25 rfl
theorem dX5_narrowQuarters_10 : decode cX5_narrowQuarters 10 = .ok (.ireturn, 1) := dz_at (i := 6) dy_p10_25 rfl
noncomputable def o_X5_narrowQuarters (a2 : Int32) (f2 : Nat → Int64) (p0 : Int32) (p1 : Int32) : Int32 × Int32 × (Nat → Int64) × Int32 :=
  ((o_X5_quarters false a2 f2 p0 p1).1, (o_X5_quarters false a2 f2 p0 p1).2.1, (o_X5_quarters false a2 f2 p0 p1).2.2.1, (o_X5_quarters false a2 f2 p0 p1).2.2.2)
set_option maxHeartbeats 4000000 in
set_option maxRecDepth 100000 in
theorem k_X5_narrowQuarters (l : Launch) (dC : Nat → ClassId) (dI : Nat → Nat → Nat) (cy : ClassId) (h0 : Nat) (h1 : Nat) (hc1 : Nat) (h2 : Nat) (hc2 : Nat) (a1 : Int32) (f1 : Nat → Int64) (a2 : Int32) (f2 : Nat → Int64) (th : Int32) (rf : Int32) (kn : Int32) (sz : Nat) (N : Nat) (p0 : Int32) (p1 : Int32) : Met l yX5_narrowQuarters wsX5_narrowQuarters ({ frames := 3, cells := 0, slots := 0, locals := 69 }) (va_Pc [.ref h0, .int p0, .int p1] (xM (dC, dI) xCl [(h0, eM h1 h2 th rf kn), (h1, eMR true hc1 a1), (hc1, eA cy f1), (h2, eMR false hc2 a2), (hc2, eA cy f2)] [(cy, .long)] sz N)) (va_Qi (fun (r : Int32) (_ : Unit) => r = (o_X5_narrowQuarters a2 f2 p0 p1).1) (fun _ t => xW (dC, dI) xCl [(h0, eM h1 h2 (o_X5_narrowQuarters a2 f2 p0 p1).2.2.2 rf kn), (h1, eMR true hc1 a1), (hc1, eA cy f1), (h2, eMR false hc2 (o_X5_narrowQuarters a2 f2 p0 p1).2.1), (hc2, eA cy (o_X5_narrowQuarters a2 f2 p0 p1).2.2.1)] (va_A [(h0, eM h1 h2 th rf kn), (h1, eMR true hc1 a1), (hc1, eA cy f1), (h2, eMR false hc2 a2), (hc2, eA cy f2)] sz) t) (va_A [(h0, eM h1 h2 th rf kn), (h1, eMR true hc1 a1), (hc1, eA cy f1), (h2, eMR false hc2 a2), (hc2, eA cy f2)] sz)) 0 0 (va_A [(h0, eM h1 h2 th rf kn), (h1, eMR true hc1 a1), (hc1, eA cy f1), (h2, eMR false hc2 a2), (hc2, eA cy f2)] sz) := by
  refine Met.ofW (cc := cX5_narrowQuarters) (maxL := 3) (ret := (some .int)) (by decide +kernel) rfl ?_
  intro p e s m args below meth c s₁ B hml hv
  obtain ⟨rfl, hsz, hP, hK, hD0, hN, hG⟩ := hv
  have hx := B.exec
  have hb := B.bytes
  have hr := B.returns
  have hts := atoms_spec (ws := wsX5_narrowQuarters) B.pre
  have hown : s.vm.findClass RX5 = some m.cls := findClass_of_methodNamed B.named
  have hlocks := B.notSynchronized
  subst hsz
  have hAN : ∀ q, va_A [(h0, eM h1 h2 th rf kn), (h1, eMR true hc1 a1), (hc1, eA cy f1), (h2, eMR false hc2 a2), (hc2, eA cy f2)] s.heap.size q → N ≤ q := xA_N hD0 hN
  have hD := hD0.self (sz := s.heap.size)
  generalize hAe : va_A [(h0, eM h1 h2 th rf kn), (h1, eMR true hc1 a1), (hc1, eA cy f1), (h2, eMR false hc2 a2), (hc2, eA cy f2)] s.heap.size = A at hD hAN ⊢
  have hA : ∀ q : Nat, s.heap.size ≤ q → A q := fun q h => by rw [← hAe]; exact Or.inr h
  have hS : va_S A s.heap s.heap [] := va_S.rf
  have hP : va_P (dC, dI) xCl [(h0, eM h1 h2 th rf kn), (h1, eMR true hc1 a1), (hc1, eA cy f1), (h2, eMR false hc2 a2), (hc2, eA cy f2)] s.heap := hP
  have hl := lv_entry ([.ref h0, .int p0, .int p1]) (n := 3) (Nat.le_of_ble_eq_true rfl)
  rw [lg_entry_eq]
  generalize (lg_sl ([.ref h0, .int p0, .int p1]) ++ List.replicate (3 - (lg_sl ([.ref h0, .int p0, .int p1])).length) Slot.unset).toArray = ls at hl ⊢
  have hl : lv_has ls 3 [(0, .ref h0), (1, .int p0), (2, .int p1)] := hl
  refine lv_aload_n hx hb dX5_narrowQuarters_0 rfl (lv_at hl 0 rfl) ?_
  refine lv_aload_n hx hb dX5_narrowQuarters_1 rfl (lv_at hl 0 rfl) ?_
  refine va_get (D := (dC, dI)) (ci := 7) (v := .ref h2) (C := RX5) (T := TX5) (N := 5) hx hb hts (by decide +kernel) hown hK hP 0 rfl rfl 1 (by decide +kernel) (hts (.fieldLink RX5 24 "EdgefloatsModel" "narrow" "LEdgefloatsModel$Row;") (by decide +kernel)) (fun _ h9 => h9) rfl dX5_narrowQuarters_2 ?_
  refine lv_iload_n hx hb dX5_narrowQuarters_5 rfl (lv_at hl 1 rfl) ?_
  refine lv_iload_n hx hb dX5_narrowQuarters_6 rfl (lv_at hl 2 rfl) ?_
  have hPc := hP.sub (ws' := [(h0, eM h1 h2 th rf kn), (h2, eMR false hc2 a2), (hc2, eA cy f2)]) [0, 3, 4] rfl
  have hDc := hD.sub (ws' := [(h0, eM h1 h2 th rf kn), (h2, eMR false hc2 a2), (hc2, eA cy f2)]) [0, 3, 4] (by decide +kernel) rfl
  have hKc := hK.sub (tys' := [(cy, .long)]) [0] rfl
  have hFc := va_free (wc := [(h0, eM h1 h2 th rf kn), (h2, eMR false hc2 a2), (hc2, eA cy f2)]) hD hS hA [0, 3, 4] rfl
  refine va_calli (va_runV (As := [.ref h2, .int p0, .int p1]) (rest := []) ⟨hx, hb, hml, hown, hts⟩ (k_X5_quarters l dC dI cy h0 h1 h2 h2 hc2 false a2 f2 th rf kn s.heap.size N p0 p1) (cwV 3 hts gX5_narrowQuarters_X5_quarters rfl rfl rfl (by decide +kernel) ⟨Nat.le_of_ble_eq_true rfl, Nat.le_of_ble_eq_true rfl⟩) (xM.preV hKc hPc hDc hAN (Nat.le_trans hN hS.1) (hG.kept hS hAN) (ci := 7) (q0 := 0) rfl rfl) rfl rfl hl.1 rfl (lv_room (Nat.le_of_ble_eq_true rfl)) dX5_narrowQuarters_7 ⟨Nat.le_of_ble_eq_true rfl, Nat.le_of_ble_eq_true rfl⟩) hS (fun q _ h => hFc q h) hFc (fun r_1 u t H locs ht hvm hw hB hz hk hS => ?_)
  replace hw : r_1 = (o_X5_quarters false a2 f2 p0 p1).1 := hw
  subst r_1
  obtain ⟨hP1, hD1⟩ := hB
  rw [ht] at hP1
  obtain ⟨hP, hD⟩ := va_join (wr := [(h1, eMR true hc1 a1), (hc1, eA cy f1)]) (w1 := [(h0, eM h1 h2 (o_X5_quarters false a2 f2 p0 p1).2.2.2 rf kn), (h2, eMR false hc2 (o_X5_quarters false a2 f2 p0 p1).2.1), (hc2, eA cy (o_X5_quarters false a2 f2 p0 p1).2.2.1)]) hP hD [0, 3, 4] [1, 2] rfl rfl (by decide +kernel) (by decide +kernel) hk hFc hP1 hD1
  have hP := hP.sub (ws' := [(h0, eM h1 h2 (o_X5_quarters false a2 f2 p0 p1).2.2.2 rf kn), (h1, eMR true hc1 a1), (hc1, eA cy f1), (h2, eMR false hc2 (o_X5_quarters false a2 f2 p0 p1).2.1), (hc2, eA cy (o_X5_quarters false a2 f2 p0 p1).2.2.1)]) [2, 0, 1, 3, 4] rfl
  have hD := hD.sub (ws' := [(h0, eM h1 h2 (o_X5_quarters false a2 f2 p0 p1).2.2.2 rf kn), (h1, eMR true hc1 a1), (hc1, eA cy f1), (h2, eMR false hc2 (o_X5_quarters false a2 f2 p0 p1).2.1), (hc2, eA cy (o_X5_quarters false a2 f2 p0 p1).2.2.1)]) [2, 0, 1, 3, 4] (by decide +kernel) rfl
  have he : o_X5_narrowQuarters a2 f2 p0 p1 = ((o_X5_quarters false a2 f2 p0 p1).1, (o_X5_quarters false a2 f2 p0 p1).2.1, (o_X5_quarters false a2 f2 p0 p1).2.2.1, (o_X5_quarters false a2 f2 p0 p1).2.2.2) := by (rw [o_X5_narrowQuarters]) <;> rfl
  refine W.widen (k := 0) (n := 0) (by omega) (by omega) ?_
  exact W.iret (v := ((o_X5_quarters false a2 f2 p0 p1).1)) hx hb hr (fun t ht hW => ⟨⟨_, (), rfl, (by (rw [he]) <;> rfl), (by rw [he]; exact ⟨by rw [ht]; exact hP, hD⟩)⟩, hS.F ht⟩) hS.2.2 dX5_narrowQuarters_10
theorem cl_X5_narrowKnown_1 : ∀ w ∈ wsX5_narrowKnown_r1, w ∈ wsX5_narrowKnown := fun _ h => (List.mem_cons_of_mem _ (List.mem_append_left _ (List.mem_append_left _ (List.mem_append_left _ h))))
theorem cl_X5_narrowKnown_2 : ∀ w ∈ wsX5_narrowKnown_r2, w ∈ wsX5_narrowKnown := fun _ h => (List.mem_cons_of_mem _ (List.mem_append_left _ (List.mem_append_left _ (List.mem_append_right _ h))))
theorem cl_X5_narrowKnown_3 : ∀ w ∈ wsX50, w ∈ wsX5_narrowKnown := fun _ h => (List.mem_cons_of_mem _ (List.mem_append_left _ (List.mem_append_right _ h)))
theorem cl_X5_narrowKnown_4 : ∀ w ∈ wsX40, w ∈ wsX5_narrowKnown := fun _ h => (List.mem_cons_of_mem _ (List.mem_append_right _ h))
set_option maxRecDepth 20000 in
theorem ggX5_narrowKnown_X5_known : GoodIn wsX5_narrowKnown wsX5_known := goodIn_sub (List.forall_mem_cons.mpr ⟨(cl_X5_narrowKnown_1 _ (List.mem_of_getElem? (i := 5) rfl)), fun w h => (List.mem_append.mp h).elim ((fun w h => (List.mem_append.mp h).elim ((fun w h => (List.mem_append.mp h).elim ((List.forall_mem_cons.mpr ⟨(cl_X5_narrowKnown_1 _ (List.mem_of_getElem? (i := 6) rfl)), List.forall_mem_cons.mpr ⟨(cl_X5_narrowKnown_1 _ (List.mem_of_getElem? (i := 7) rfl)), List.forall_mem_cons.mpr ⟨(cl_X5_narrowKnown_1 _ (List.mem_of_getElem? (i := 4) rfl)), List.forall_mem_cons.mpr ⟨(cl_X5_narrowKnown_1 _ (List.mem_of_getElem? (i := 8) rfl)), List.forall_mem_cons.mpr ⟨(cl_X5_narrowKnown_1 _ (List.mem_of_getElem? (i := 9) rfl)), List.forall_mem_cons.mpr ⟨(cl_X5_narrowKnown_1 _ (List.mem_of_getElem? (i := 10) rfl)), List.forall_mem_cons.mpr ⟨(cl_X5_narrowKnown_1 _ (List.mem_of_getElem? (i := 11) rfl)), List.forall_mem_cons.mpr ⟨(cl_X5_narrowKnown_1 _ (List.mem_of_getElem? (i := 12) rfl)), List.forall_mem_cons.mpr ⟨(cl_X5_narrowKnown_1 _ (List.mem_of_getElem? (i := 13) rfl)), List.forall_mem_cons.mpr ⟨(cl_X5_narrowKnown_1 _ (List.mem_of_getElem? (i := 14) rfl)), List.forall_mem_cons.mpr ⟨(cl_X5_narrowKnown_1 _ (List.mem_of_getElem? (i := 15) rfl)), List.forall_mem_cons.mpr ⟨(cl_X5_narrowKnown_1 _ (List.mem_of_getElem? (i := 16) rfl)), List.forall_mem_cons.mpr ⟨(cl_X5_narrowKnown_1 _ (List.mem_of_getElem? (i := 17) rfl)), List.forall_mem_cons.mpr ⟨(cl_X5_narrowKnown_1 _ (List.mem_of_getElem? (i := 18) rfl)), List.forall_mem_cons.mpr ⟨(cl_X5_narrowKnown_1 _ (List.mem_of_getElem? (i := 19) rfl)), List.forall_mem_cons.mpr ⟨(cl_X5_narrowKnown_1 _ (List.mem_of_getElem? (i := 20) rfl)), List.forall_mem_cons.mpr ⟨(cl_X5_narrowKnown_1 _ (List.mem_of_getElem? (i := 21) rfl)), List.forall_mem_cons.mpr ⟨(cl_X5_narrowKnown_1 _ (List.mem_of_getElem? (i := 22) rfl)), List.forall_mem_cons.mpr ⟨(cl_X5_narrowKnown_1 _ (List.mem_of_getElem? (i := 23) rfl)), List.forall_mem_cons.mpr ⟨(cl_X5_narrowKnown_2 _ (List.mem_of_getElem? (i := 0) rfl)), List.forall_mem_cons.mpr ⟨(cl_X5_narrowKnown_2 _ (List.mem_of_getElem? (i := 1) rfl)), List.forall_mem_cons.mpr ⟨(cl_X5_narrowKnown_2 _ (List.mem_of_getElem? (i := 2) rfl)), List.forall_mem_cons.mpr ⟨(cl_X5_narrowKnown_2 _ (List.mem_of_getElem? (i := 3) rfl)), List.forall_mem_cons.mpr ⟨(cl_X5_narrowKnown_2 _ (List.mem_of_getElem? (i := 4) rfl)), fun _ h => absurd h List.not_mem_nil⟩⟩⟩⟩⟩⟩⟩⟩⟩⟩⟩⟩⟩⟩⟩⟩⟩⟩⟩⟩⟩⟩⟩⟩) w) ((List.forall_mem_cons.mpr ⟨(cl_X5_narrowKnown_2 _ (List.mem_of_getElem? (i := 5) rfl)), List.forall_mem_cons.mpr ⟨(cl_X5_narrowKnown_2 _ (List.mem_of_getElem? (i := 6) rfl)), List.forall_mem_cons.mpr ⟨(cl_X5_narrowKnown_2 _ (List.mem_of_getElem? (i := 7) rfl)), List.forall_mem_cons.mpr ⟨(cl_X5_narrowKnown_2 _ (List.mem_of_getElem? (i := 8) rfl)), List.forall_mem_cons.mpr ⟨(cl_X5_narrowKnown_2 _ (List.mem_of_getElem? (i := 9) rfl)), List.forall_mem_cons.mpr ⟨(cl_X5_narrowKnown_2 _ (List.mem_of_getElem? (i := 10) rfl)), List.forall_mem_cons.mpr ⟨(cl_X5_narrowKnown_2 _ (List.mem_of_getElem? (i := 11) rfl)), List.forall_mem_cons.mpr ⟨(cl_X5_narrowKnown_2 _ (List.mem_of_getElem? (i := 12) rfl)), List.forall_mem_cons.mpr ⟨(cl_X5_narrowKnown_2 _ (List.mem_of_getElem? (i := 13) rfl)), fun _ h => absurd h List.not_mem_nil⟩⟩⟩⟩⟩⟩⟩⟩⟩) w)) w) ((cl_X5_narrowKnown_3) w)) w) ((cl_X5_narrowKnown_4) w)⟩) (by decide +kernel)
set_option maxRecDepth 20000 in
theorem gX5_narrowKnown_X5_known : GoodIn wsX5_narrowKnown (wsV RX5 135 RX5 yX5_known wsX5_known) := goodIn_app (goodIn_sub (List.forall_mem_cons.mpr ⟨(cl_X5_narrowKnown_1 _ (List.mem_of_getElem? (i := 1) rfl)), List.forall_mem_cons.mpr ⟨(cl_X5_narrowKnown_1 _ (List.mem_of_getElem? (i := 2) rfl)), List.forall_mem_cons.mpr ⟨(cl_X5_narrowKnown_1 _ (List.mem_of_getElem? (i := 3) rfl)), List.forall_mem_cons.mpr ⟨(cl_X5_narrowKnown_1 _ (List.mem_of_getElem? (i := 4) rfl)), fun _ h => absurd h List.not_mem_nil⟩⟩⟩⟩) (by decide +kernel)) ggX5_narrowKnown_X5_known
noncomputable def dz_p10_26 : List (Nat × Instr × Nat) := [(0, (.aload_n 0, 1)), (1, (.aload_n 0, 1)), (2, (.getfield 24, 3)), (5, (.iload_n 1, 1)), (6, (.iload_n 2, 1)), (7, (.invokevirtual 135, 3)), (10, (.ireturn, 1))]
theorem dy_p10_26 : dz_ok cX5_narrowKnown dz_p10_26 = true := by decide +kernel
theorem dX5_narrowKnown_0 : decode cX5_narrowKnown 0 = .ok (.aload_n 0, 1) := dz_at (i := 0) dy_p10_26 rfl
theorem dX5_narrowKnown_1 : decode cX5_narrowKnown 1 = .ok (.aload_n 0, 1) := dz_at (i := 1) dy_p10_26 rfl
theorem dX5_narrowKnown_2 : decode cX5_narrowKnown 2 = .ok (.getfield 24, 3) := dz_at (i := 2) dy_p10_26 rfl
theorem dX5_narrowKnown_5 : decode cX5_narrowKnown 5 = .ok (.iload_n 1, 1) := dz_at (i := 3) dy_p10_26 rfl
theorem dX5_narrowKnown_6 : decode cX5_narrowKnown 6 = .ok (.iload_n 2, 1) := dz_at (i := 4) dy_p10_26 rfl
theorem dX5_narrowKnown_7 : decode cX5_narrowKnown 7 = .ok (.invokevirtual 135, 3) := dz_at (i := 5) dy_p10_26 rfl
theorem dX5_narrowKnown_10 : decode cX5_narrowKnown 10 = .ok (.ireturn, 1) := dz_at (i := 6) dy_p10_26 rfl
noncomputable def o_X5_narrowKnown (a2 : Int32) (f2 : Nat → Int64) (p0 : Int32) (p1 : Int32) : Int32 × Int32 × (Nat → Int64) × Int32 :=
  ((o_X5_known false a2 f2 p0 p1).1, (o_X5_known false a2 f2 p0 p1).2.1, (o_X5_known false a2 f2 p0 p1).2.2.1, (o_X5_known false a2 f2 p0 p1).2.2.2)
set_option maxHeartbeats 4000000 in
set_option maxRecDepth 100000 in
theorem k_X5_narrowKnown (l : Launch) (dC : Nat → ClassId) (dI : Nat → Nat → Nat) (cy : ClassId) (h0 : Nat) (h1 : Nat) (hc1 : Nat) (h2 : Nat) (hc2 : Nat) (a1 : Int32) (f1 : Nat → Int64) (a2 : Int32) (f2 : Nat → Int64) (th : Int32) (rf : Int32) (kn : Int32) (sz : Nat) (N : Nat) (p0 : Int32) (p1 : Int32) : Met l yX5_narrowKnown wsX5_narrowKnown ({ frames := 3, cells := 0, slots := 0, locals := 65 }) (va_Pc [.ref h0, .int p0, .int p1] (xM (dC, dI) xCl [(h0, eM h1 h2 th rf kn), (h1, eMR true hc1 a1), (hc1, eA cy f1), (h2, eMR false hc2 a2), (hc2, eA cy f2)] [(cy, .long)] sz N)) (va_Qi (fun (r : Int32) (_ : Unit) => r = (o_X5_narrowKnown a2 f2 p0 p1).1) (fun _ t => xW (dC, dI) xCl [(h0, eM h1 h2 (o_X5_narrowKnown a2 f2 p0 p1).2.2.2 rf kn), (h1, eMR true hc1 a1), (hc1, eA cy f1), (h2, eMR false hc2 (o_X5_narrowKnown a2 f2 p0 p1).2.1), (hc2, eA cy (o_X5_narrowKnown a2 f2 p0 p1).2.2.1)] (va_A [(h0, eM h1 h2 th rf kn), (h1, eMR true hc1 a1), (hc1, eA cy f1), (h2, eMR false hc2 a2), (hc2, eA cy f2)] sz) t) (va_A [(h0, eM h1 h2 th rf kn), (h1, eMR true hc1 a1), (hc1, eA cy f1), (h2, eMR false hc2 a2), (hc2, eA cy f2)] sz)) 0 0 (va_A [(h0, eM h1 h2 th rf kn), (h1, eMR true hc1 a1), (hc1, eA cy f1), (h2, eMR false hc2 a2), (hc2, eA cy f2)] sz) := by
  refine Met.ofW (cc := cX5_narrowKnown) (maxL := 3) (ret := (some .int)) (by decide +kernel) rfl ?_
  intro p e s m args below meth c s₁ B hml hv
  obtain ⟨rfl, hsz, hP, hK, hD0, hN, hG⟩ := hv
  have hx := B.exec
  have hb := B.bytes
  have hr := B.returns
  have hts := atoms_spec (ws := wsX5_narrowKnown) B.pre
  have hown : s.vm.findClass RX5 = some m.cls := findClass_of_methodNamed B.named
  have hlocks := B.notSynchronized
  subst hsz
  have hAN : ∀ q, va_A [(h0, eM h1 h2 th rf kn), (h1, eMR true hc1 a1), (hc1, eA cy f1), (h2, eMR false hc2 a2), (hc2, eA cy f2)] s.heap.size q → N ≤ q := xA_N hD0 hN
  have hD := hD0.self (sz := s.heap.size)
  generalize hAe : va_A [(h0, eM h1 h2 th rf kn), (h1, eMR true hc1 a1), (hc1, eA cy f1), (h2, eMR false hc2 a2), (hc2, eA cy f2)] s.heap.size = A at hD hAN ⊢
  have hA : ∀ q : Nat, s.heap.size ≤ q → A q := fun q h => by rw [← hAe]; exact Or.inr h
  have hS : va_S A s.heap s.heap [] := va_S.rf
  have hP : va_P (dC, dI) xCl [(h0, eM h1 h2 th rf kn), (h1, eMR true hc1 a1), (hc1, eA cy f1), (h2, eMR false hc2 a2), (hc2, eA cy f2)] s.heap := hP
  have hl := lv_entry ([.ref h0, .int p0, .int p1]) (n := 3) (Nat.le_of_ble_eq_true rfl)
  rw [lg_entry_eq]
  generalize (lg_sl ([.ref h0, .int p0, .int p1]) ++ List.replicate (3 - (lg_sl ([.ref h0, .int p0, .int p1])).length) Slot.unset).toArray = ls at hl ⊢
  have hl : lv_has ls 3 [(0, .ref h0), (1, .int p0), (2, .int p1)] := hl
  refine lv_aload_n hx hb dX5_narrowKnown_0 rfl (lv_at hl 0 rfl) ?_
  refine lv_aload_n hx hb dX5_narrowKnown_1 rfl (lv_at hl 0 rfl) ?_
  refine va_get (D := (dC, dI)) (ci := 7) (v := .ref h2) (C := RX5) (T := TX5) (N := 5) hx hb hts (by decide +kernel) hown hK hP 0 rfl rfl 1 (by decide +kernel) (hts (.fieldLink RX5 24 "EdgefloatsModel" "narrow" "LEdgefloatsModel$Row;") (by decide +kernel)) (fun _ h9 => h9) rfl dX5_narrowKnown_2 ?_
  refine lv_iload_n hx hb dX5_narrowKnown_5 rfl (lv_at hl 1 rfl) ?_
  refine lv_iload_n hx hb dX5_narrowKnown_6 rfl (lv_at hl 2 rfl) ?_
  have hPc := hP.sub (ws' := [(h0, eM h1 h2 th rf kn), (h2, eMR false hc2 a2), (hc2, eA cy f2)]) [0, 3, 4] rfl
  have hDc := hD.sub (ws' := [(h0, eM h1 h2 th rf kn), (h2, eMR false hc2 a2), (hc2, eA cy f2)]) [0, 3, 4] (by decide +kernel) rfl
  have hKc := hK.sub (tys' := [(cy, .long)]) [0] rfl
  have hFc := va_free (wc := [(h0, eM h1 h2 th rf kn), (h2, eMR false hc2 a2), (hc2, eA cy f2)]) hD hS hA [0, 3, 4] rfl
  refine va_calli (va_runV (As := [.ref h2, .int p0, .int p1]) (rest := []) ⟨hx, hb, hml, hown, hts⟩ (k_X5_known l dC dI cy h0 h1 h2 h2 hc2 false a2 f2 th rf kn s.heap.size N p0 p1) (cwV 3 hts gX5_narrowKnown_X5_known rfl rfl rfl (by decide +kernel) ⟨Nat.le_of_ble_eq_true rfl, Nat.le_of_ble_eq_true rfl⟩) (xM.preV hKc hPc hDc hAN (Nat.le_trans hN hS.1) (hG.kept hS hAN) (ci := 7) (q0 := 0) rfl rfl) rfl rfl hl.1 rfl (lv_room (Nat.le_of_ble_eq_true rfl)) dX5_narrowKnown_7 ⟨Nat.le_of_ble_eq_true rfl, Nat.le_of_ble_eq_true rfl⟩) hS (fun q _ h => hFc q h) hFc (fun r_1 u t H locs ht hvm hw hB hz hk hS => ?_)
  replace hw : r_1 = (o_X5_known false a2 f2 p0 p1).1 := hw
  subst r_1
  obtain ⟨hP1, hD1⟩ := hB
  rw [ht] at hP1
  obtain ⟨hP, hD⟩ := va_join (wr := [(h1, eMR true hc1 a1), (hc1, eA cy f1)]) (w1 := [(h0, eM h1 h2 (o_X5_known false a2 f2 p0 p1).2.2.2 rf kn), (h2, eMR false hc2 (o_X5_known false a2 f2 p0 p1).2.1), (hc2, eA cy (o_X5_known false a2 f2 p0 p1).2.2.1)]) hP hD [0, 3, 4] [1, 2] rfl rfl (by decide +kernel) (by decide +kernel) hk hFc hP1 hD1
  have hP := hP.sub (ws' := [(h0, eM h1 h2 (o_X5_known false a2 f2 p0 p1).2.2.2 rf kn), (h1, eMR true hc1 a1), (hc1, eA cy f1), (h2, eMR false hc2 (o_X5_known false a2 f2 p0 p1).2.1), (hc2, eA cy (o_X5_known false a2 f2 p0 p1).2.2.1)]) [2, 0, 1, 3, 4] rfl
  have hD := hD.sub (ws' := [(h0, eM h1 h2 (o_X5_known false a2 f2 p0 p1).2.2.2 rf kn), (h1, eMR true hc1 a1), (hc1, eA cy f1), (h2, eMR false hc2 (o_X5_known false a2 f2 p0 p1).2.1), (hc2, eA cy (o_X5_known false a2 f2 p0 p1).2.2.1)]) [2, 0, 1, 3, 4] (by decide +kernel) rfl
  have he : o_X5_narrowKnown a2 f2 p0 p1 = ((o_X5_known false a2 f2 p0 p1).1, (o_X5_known false a2 f2 p0 p1).2.1, (o_X5_known false a2 f2 p0 p1).2.2.1, (o_X5_known false a2 f2 p0 p1).2.2.2) := by (rw [o_X5_narrowKnown]) <;> rfl
  refine W.widen (k := 0) (n := 0) (by omega) (by omega) ?_
  exact W.iret (v := ((o_X5_known false a2 f2 p0 p1).1)) hx hb hr (fun t ht hW => ⟨⟨_, (), rfl, (by (rw [he]) <;> rfl), (by rw [he]; exact ⟨by rw [ht]; exact hP, hD⟩)⟩, hS.F ht⟩) hS.2.2 dX5_narrowKnown_10
theorem cl_X5_narrowCopy_1 : ∀ w ∈ wsX5_narrowCopy_r1, w ∈ wsX5_narrowCopy := fun _ h => (List.mem_cons_of_mem _ (List.mem_append_left _ (List.mem_append_left _ (List.mem_append_left _ h))))
theorem cl_X5_narrowCopy_2 : ∀ w ∈ wsX5_narrowCopy_r2, w ∈ wsX5_narrowCopy := fun _ h => (List.mem_cons_of_mem _ (List.mem_append_left _ (List.mem_append_left _ (List.mem_append_right _ h))))
theorem cl_X5_narrowCopy_3 : ∀ w ∈ wsX50, w ∈ wsX5_narrowCopy := fun _ h => (List.mem_cons_of_mem _ (List.mem_append_left _ (List.mem_append_right _ h)))
theorem cl_X5_narrowCopy_4 : ∀ w ∈ wsX40, w ∈ wsX5_narrowCopy := fun _ h => (List.mem_cons_of_mem _ (List.mem_append_right _ h))
set_option maxRecDepth 20000 in
theorem ggX5_narrowCopy_X5_copy : GoodIn wsX5_narrowCopy wsX5_copy := goodIn_sub (List.forall_mem_cons.mpr ⟨(cl_X5_narrowCopy_1 _ (List.mem_of_getElem? (i := 5) rfl)), fun w h => (List.mem_append.mp h).elim ((fun w h => (List.mem_append.mp h).elim ((List.forall_mem_cons.mpr ⟨(cl_X5_narrowCopy_1 _ (List.mem_of_getElem? (i := 6) rfl)), List.forall_mem_cons.mpr ⟨(cl_X5_narrowCopy_1 _ (List.mem_of_getElem? (i := 7) rfl)), List.forall_mem_cons.mpr ⟨(cl_X5_narrowCopy_1 _ (List.mem_of_getElem? (i := 8) rfl)), List.forall_mem_cons.mpr ⟨(cl_X5_narrowCopy_1 _ (List.mem_of_getElem? (i := 4) rfl)), List.forall_mem_cons.mpr ⟨(cl_X5_narrowCopy_1 _ (List.mem_of_getElem? (i := 9) rfl)), List.forall_mem_cons.mpr ⟨(cl_X5_narrowCopy_1 _ (List.mem_of_getElem? (i := 10) rfl)), List.forall_mem_cons.mpr ⟨(cl_X5_narrowCopy_1 _ (List.mem_of_getElem? (i := 11) rfl)), List.forall_mem_cons.mpr ⟨(cl_X5_narrowCopy_1 _ (List.mem_of_getElem? (i := 12) rfl)), List.forall_mem_cons.mpr ⟨(cl_X5_narrowCopy_1 _ (List.mem_of_getElem? (i := 13) rfl)), List.forall_mem_cons.mpr ⟨(cl_X5_narrowCopy_1 _ (List.mem_of_getElem? (i := 14) rfl)), List.forall_mem_cons.mpr ⟨(cl_X5_narrowCopy_1 _ (List.mem_of_getElem? (i := 15) rfl)), List.forall_mem_cons.mpr ⟨(cl_X5_narrowCopy_1 _ (List.mem_of_getElem? (i := 16) rfl)), List.forall_mem_cons.mpr ⟨(cl_X5_narrowCopy_1 _ (List.mem_of_getElem? (i := 17) rfl)), List.forall_mem_cons.mpr ⟨(cl_X5_narrowCopy_1 _ (List.mem_of_getElem? (i := 18) rfl)), List.forall_mem_cons.mpr ⟨(cl_X5_narrowCopy_1 _ (List.mem_of_getElem? (i := 19) rfl)), List.forall_mem_cons.mpr ⟨(cl_X5_narrowCopy_1 _ (List.mem_of_getElem? (i := 20) rfl)), List.forall_mem_cons.mpr ⟨(cl_X5_narrowCopy_1 _ (List.mem_of_getElem? (i := 21) rfl)), List.forall_mem_cons.mpr ⟨(cl_X5_narrowCopy_1 _ (List.mem_of_getElem? (i := 22) rfl)), List.forall_mem_cons.mpr ⟨(cl_X5_narrowCopy_1 _ (List.mem_of_getElem? (i := 23) rfl)), List.forall_mem_cons.mpr ⟨(cl_X5_narrowCopy_2 _ (List.mem_of_getElem? (i := 0) rfl)), List.forall_mem_cons.mpr ⟨(cl_X5_narrowCopy_2 _ (List.mem_of_getElem? (i := 1) rfl)), List.forall_mem_cons.mpr ⟨(cl_X5_narrowCopy_2 _ (List.mem_of_getElem? (i := 2) rfl)), List.forall_mem_cons.mpr ⟨(cl_X5_narrowCopy_2 _ (List.mem_of_getElem? (i := 3) rfl)), fun _ h => absurd h List.not_mem_nil⟩⟩⟩⟩⟩⟩⟩⟩⟩⟩⟩⟩⟩⟩⟩⟩⟩⟩⟩⟩⟩⟩⟩) w) ((cl_X5_narrowCopy_4) w)) w) ((cl_X5_narrowCopy_3) w)⟩) (by decide +kernel)
set_option maxRecDepth 20000 in
theorem gX5_narrowCopy_X5_copy : GoodIn wsX5_narrowCopy (wsV RX5 137 RX5 yX5_copy wsX5_copy) := goodIn_app (goodIn_sub (List.forall_mem_cons.mpr ⟨(cl_X5_narrowCopy_1 _ (List.mem_of_getElem? (i := 1) rfl)), List.forall_mem_cons.mpr ⟨(cl_X5_narrowCopy_1 _ (List.mem_of_getElem? (i := 2) rfl)), List.forall_mem_cons.mpr ⟨(cl_X5_narrowCopy_1 _ (List.mem_of_getElem? (i := 3) rfl)), List.forall_mem_cons.mpr ⟨(cl_X5_narrowCopy_1 _ (List.mem_of_getElem? (i := 4) rfl)), fun _ h => absurd h List.not_mem_nil⟩⟩⟩⟩) (by decide +kernel)) ggX5_narrowCopy_X5_copy
noncomputable def dz_p10_27 : List (Nat × Instr × Nat) := [(0, (.aload_n 0, 1)), (1, (.aload_n 0, 1)), (2, (.getfield 24, 3)), (5, (.iload_n 1, 1)), (6, (.iload_n 2, 1)), (7, (.invokevirtual 137, 3)), (10, (.ireturn, 1))]
theorem dy_p10_27 : dz_ok cX5_narrowCopy dz_p10_27 = true := by decide +kernel
theorem dX5_narrowCopy_0 : decode cX5_narrowCopy 0 = .ok (.aload_n 0, 1) := dz_at (i := 0) dy_p10_27 rfl
theorem dX5_narrowCopy_1 : decode cX5_narrowCopy 1 = .ok (.aload_n 0, 1) := dz_at (i := 1) dy_p10_27 rfl
theorem dX5_narrowCopy_2 : decode cX5_narrowCopy 2 = .ok (.getfield 24, 3) := dz_at (i := 2) dy_p10_27 rfl
theorem dX5_narrowCopy_5 : decode cX5_narrowCopy 5 = .ok (.iload_n 1, 1) := dz_at (i := 3) dy_p10_27 rfl
theorem dX5_narrowCopy_6 : decode cX5_narrowCopy 6 = .ok (.iload_n 2, 1) := dz_at (i := 4) dy_p10_27 rfl
theorem dX5_narrowCopy_7 : decode cX5_narrowCopy 7 = .ok (.invokevirtual 137, 3) := dz_at (i := 5) dy_p10_27 rfl
theorem dX5_narrowCopy_10 : decode cX5_narrowCopy 10 = .ok (.ireturn, 1) := dz_at (i := 6) dy_p10_27 rfl
noncomputable def o_X5_narrowCopy (a2 : Int32) (f2 : Nat → Int64) (p0 : Int32) (p1 : Int32) : Int32 × Int32 × (Nat → Int64) × Int32 :=
  ((o_X5_copy a2 f2 p0 p1).1, (o_X5_copy a2 f2 p0 p1).2.1, (o_X5_copy a2 f2 p0 p1).2.2.1, (o_X5_copy a2 f2 p0 p1).2.2.2)
set_option maxHeartbeats 4000000 in
set_option maxRecDepth 100000 in
theorem k_X5_narrowCopy (l : Launch) (dC : Nat → ClassId) (dI : Nat → Nat → Nat) (cy : ClassId) (h0 : Nat) (h1 : Nat) (hc1 : Nat) (h2 : Nat) (hc2 : Nat) (a1 : Int32) (f1 : Nat → Int64) (a2 : Int32) (f2 : Nat → Int64) (th : Int32) (rf : Int32) (kn : Int32) (sz : Nat) (N : Nat) (p0 : Int32) (p1 : Int32) : Met l yX5_narrowCopy wsX5_narrowCopy ({ frames := 4, cells := 0, slots := 0, locals := 86 }) (va_Pc [.ref h0, .int p0, .int p1] (xM (dC, dI) xCl [(h0, eM h1 h2 th rf kn), (h1, eMR true hc1 a1), (hc1, eA cy f1), (h2, eMR false hc2 a2), (hc2, eA cy f2)] [(cy, .long)] sz N)) (va_Qi (fun (r : Int32) (_ : Unit) => r = (o_X5_narrowCopy a2 f2 p0 p1).1) (fun _ t => xW (dC, dI) xCl [(h0, eM h1 h2 (o_X5_narrowCopy a2 f2 p0 p1).2.2.2 rf kn), (h1, eMR true hc1 a1), (hc1, eA cy f1), (h2, eMR false hc2 (o_X5_narrowCopy a2 f2 p0 p1).2.1), (hc2, eA cy (o_X5_narrowCopy a2 f2 p0 p1).2.2.1)] (va_A [(h0, eM h1 h2 th rf kn), (h1, eMR true hc1 a1), (hc1, eA cy f1), (h2, eMR false hc2 a2), (hc2, eA cy f2)] sz) t) (va_A [(h0, eM h1 h2 th rf kn), (h1, eMR true hc1 a1), (hc1, eA cy f1), (h2, eMR false hc2 a2), (hc2, eA cy f2)] sz)) 0 0 (va_A [(h0, eM h1 h2 th rf kn), (h1, eMR true hc1 a1), (hc1, eA cy f1), (h2, eMR false hc2 a2), (hc2, eA cy f2)] sz) := by
  refine Met.ofW (cc := cX5_narrowCopy) (maxL := 3) (ret := (some .int)) (by decide +kernel) rfl ?_
  intro p e s m args below meth c s₁ B hml hv
  obtain ⟨rfl, hsz, hP, hK, hD0, hN, hG⟩ := hv
  have hx := B.exec
  have hb := B.bytes
  have hr := B.returns
  have hts := atoms_spec (ws := wsX5_narrowCopy) B.pre
  have hown : s.vm.findClass RX5 = some m.cls := findClass_of_methodNamed B.named
  have hlocks := B.notSynchronized
  subst hsz
  have hAN : ∀ q, va_A [(h0, eM h1 h2 th rf kn), (h1, eMR true hc1 a1), (hc1, eA cy f1), (h2, eMR false hc2 a2), (hc2, eA cy f2)] s.heap.size q → N ≤ q := xA_N hD0 hN
  have hD := hD0.self (sz := s.heap.size)
  generalize hAe : va_A [(h0, eM h1 h2 th rf kn), (h1, eMR true hc1 a1), (hc1, eA cy f1), (h2, eMR false hc2 a2), (hc2, eA cy f2)] s.heap.size = A at hD hAN ⊢
  have hA : ∀ q : Nat, s.heap.size ≤ q → A q := fun q h => by rw [← hAe]; exact Or.inr h
  have hS : va_S A s.heap s.heap [] := va_S.rf
  have hP : va_P (dC, dI) xCl [(h0, eM h1 h2 th rf kn), (h1, eMR true hc1 a1), (hc1, eA cy f1), (h2, eMR false hc2 a2), (hc2, eA cy f2)] s.heap := hP
  have hl := lv_entry ([.ref h0, .int p0, .int p1]) (n := 3) (Nat.le_of_ble_eq_true rfl)
  rw [lg_entry_eq]
  generalize (lg_sl ([.ref h0, .int p0, .int p1]) ++ List.replicate (3 - (lg_sl ([.ref h0, .int p0, .int p1])).length) Slot.unset).toArray = ls at hl ⊢
  have hl : lv_has ls 3 [(0, .ref h0), (1, .int p0), (2, .int p1)] := hl
  refine lv_aload_n hx hb dX5_narrowCopy_0 rfl (lv_at hl 0 rfl) ?_
  refine lv_aload_n hx hb dX5_narrowCopy_1 rfl (lv_at hl 0 rfl) ?_
  refine va_get (D := (dC, dI)) (ci := 7) (v := .ref h2) (C := RX5) (T := TX5) (N := 5) hx hb hts (by decide +kernel) hown hK hP 0 rfl rfl 1 (by decide +kernel) (hts (.fieldLink RX5 24 "EdgefloatsModel" "narrow" "LEdgefloatsModel$Row;") (by decide +kernel)) (fun _ h9 => h9) rfl dX5_narrowCopy_2 ?_
  refine lv_iload_n hx hb dX5_narrowCopy_5 rfl (lv_at hl 1 rfl) ?_
  refine lv_iload_n hx hb dX5_narrowCopy_6 rfl (lv_at hl 2 rfl) ?_
  have hPc := hP.sub (ws' := [(h0, eM h1 h2 th rf kn), (h2, eMR false hc2 a2), (hc2, eA cy f2)]) [0, 3, 4] rfl
  have hDc := hD.sub (ws' := [(h0, eM h1 h2 th rf kn), (h2, eMR false hc2 a2), (hc2, eA cy f2)]) [0, 3, 4] (by decide +kernel) rfl
  have hKc := hK.sub (tys' := [(cy, .long)]) [0] rfl
  have hFc := va_free (wc := [(h0, eM h1 h2 th rf kn), (h2, eMR false hc2 a2), (hc2, eA cy f2)]) hD hS hA [0, 3, 4] rfl
  refine va_calli (va_runV (As := [.ref h2, .int p0, .int p1]) (rest := []) ⟨hx, hb, hml, hown, hts⟩ (k_X5_copy l dC dI cy h0 h1 h2 h2 hc2 false a2 f2 th rf kn s.heap.size N p0 p1) (cwV 3 hts gX5_narrowCopy_X5_copy rfl rfl rfl (by decide +kernel) ⟨Nat.le_of_ble_eq_true rfl, Nat.le_of_ble_eq_true rfl⟩) (xM.preV hKc hPc hDc hAN (Nat.le_trans hN hS.1) (hG.kept hS hAN) (ci := 7) (q0 := 0) rfl rfl) rfl rfl hl.1 rfl (lv_room (Nat.le_of_ble_eq_true rfl)) dX5_narrowCopy_7 ⟨Nat.le_of_ble_eq_true rfl, Nat.le_of_ble_eq_true rfl⟩) hS (fun q _ h => hFc q h) hFc (fun r_1 u t H locs ht hvm hw hB hz hk hS => ?_)
  replace hw : r_1 = (o_X5_copy a2 f2 p0 p1).1 := hw
  subst r_1
  obtain ⟨hP1, hD1⟩ := hB
  rw [ht] at hP1
  obtain ⟨hP, hD⟩ := va_join (wr := [(h1, eMR true hc1 a1), (hc1, eA cy f1)]) (w1 := [(h0, eM h1 h2 (o_X5_copy a2 f2 p0 p1).2.2.2 rf kn), (h2, eMR false hc2 (o_X5_copy a2 f2 p0 p1).2.1), (hc2, eA cy (o_X5_copy a2 f2 p0 p1).2.2.1)]) hP hD [0, 3, 4] [1, 2] rfl rfl (by decide +kernel) (by decide +kernel) hk hFc hP1 hD1
  have hP := hP.sub (ws' := [(h0, eM h1 h2 (o_X5_copy a2 f2 p0 p1).2.2.2 rf kn), (h1, eMR true hc1 a1), (hc1, eA cy f1), (h2, eMR false hc2 (o_X5_copy a2 f2 p0 p1).2.1), (hc2, eA cy (o_X5_copy a2 f2 p0 p1).2.2.1)]) [2, 0, 1, 3, 4] rfl
  have hD := hD.sub (ws' := [(h0, eM h1 h2 (o_X5_copy a2 f2 p0 p1).2.2.2 rf kn), (h1, eMR true hc1 a1), (hc1, eA cy f1), (h2, eMR false hc2 (o_X5_copy a2 f2 p0 p1).2.1), (hc2, eA cy (o_X5_copy a2 f2 p0 p1).2.2.1)]) [2, 0, 1, 3, 4] (by decide +kernel) rfl
  have he : o_X5_narrowCopy a2 f2 p0 p1 = ((o_X5_copy a2 f2 p0 p1).1, (o_X5_copy a2 f2 p0 p1).2.1, (o_X5_copy a2 f2 p0 p1).2.2.1, (o_X5_copy a2 f2 p0 p1).2.2.2) := by (rw [o_X5_narrowCopy]) <;> rfl
  refine W.widen (k := 0) (n := 0) (by omega) (by omega) ?_
  exact W.iret (v := ((o_X5_copy a2 f2 p0 p1).1)) hx hb hr (fun t ht hW => ⟨⟨_, (), rfl, (by (rw [he]) <;> rfl), (by rw [he]; exact ⟨by rw [ht]; exact hP, hD⟩)⟩, hS.F ht⟩) hS.2.2 dX5_narrowCopy_10
theorem cl_X5_narrowSwap_1 : ∀ w ∈ wsX5_narrowSwap_r1, w ∈ wsX5_narrowSwap := fun _ h => (List.mem_cons_of_mem _ (List.mem_append_left _ (List.mem_append_left _ (List.mem_append_left _ h))))
theorem cl_X5_narrowSwap_2 : ∀ w ∈ wsX5_narrowSwap_r2, w ∈ wsX5_narrowSwap := fun _ h => (List.mem_cons_of_mem _ (List.mem_append_left _ (List.mem_append_left _ (List.mem_append_right _ h))))
theorem cl_X5_narrowSwap_3 : ∀ w ∈ wsX50, w ∈ wsX5_narrowSwap := fun _ h => (List.mem_cons_of_mem _ (List.mem_append_left _ (List.mem_append_right _ h)))
theorem cl_X5_narrowSwap_4 : ∀ w ∈ wsX40, w ∈ wsX5_narrowSwap := fun _ h => (List.mem_cons_of_mem _ (List.mem_append_right _ h))
set_option maxRecDepth 20000 in
theorem ggX5_narrowSwap_X5_swap : GoodIn wsX5_narrowSwap wsX5_swap := goodIn_sub (List.forall_mem_cons.mpr ⟨(cl_X5_narrowSwap_1 _ (List.mem_of_getElem? (i := 5) rfl)), fun w h => (List.mem_append.mp h).elim ((fun w h => (List.mem_append.mp h).elim ((fun w h => (List.mem_append.mp h).elim ((List.forall_mem_cons.mpr ⟨(cl_X5_narrowSwap_1 _ (List.mem_of_getElem? (i := 6) rfl)), List.forall_mem_cons.mpr ⟨(cl_X5_narrowSwap_1 _ (List.mem_of_getElem? (i := 7) rfl)), List.forall_mem_cons.mpr ⟨(cl_X5_narrowSwap_1 _ (List.mem_of_getElem? (i := 4) rfl)), List.forall_mem_cons.mpr ⟨(cl_X5_narrowSwap_1 _ (List.mem_of_getElem? (i := 8) rfl)), List.forall_mem_cons.mpr ⟨(cl_X5_narrowSwap_1 _ (List.mem_of_getElem? (i := 9) rfl)), List.forall_mem_cons.mpr ⟨(cl_X5_narrowSwap_1 _ (List.mem_of_getElem? (i := 10) rfl)), List.forall_mem_cons.mpr ⟨(cl_X5_narrowSwap_1 _ (List.mem_of_getElem? (i := 11) rfl)), List.forall_mem_cons.mpr ⟨(cl_X5_narrowSwap_1 _ (List.mem_of_getElem? (i := 12) rfl)), List.forall_mem_cons.mpr ⟨(cl_X5_narrowSwap_1 _ (List.mem_of_getElem? (i := 13) rfl)), List.forall_mem_cons.mpr ⟨(cl_X5_narrowSwap_1 _ (List.mem_of_getElem? (i := 14) rfl)), List.forall_mem_cons.mpr ⟨(cl_X5_narrowSwap_1 _ (List.mem_of_getElem? (i := 15) rfl)), List.forall_mem_cons.mpr ⟨(cl_X5_narrowSwap_1 _ (List.mem_of_getElem? (i := 16) rfl)), List.forall_mem_cons.mpr ⟨(cl_X5_narrowSwap_1 _ (List.mem_of_getElem? (i := 17) rfl)), List.forall_mem_cons.mpr ⟨(cl_X5_narrowSwap_1 _ (List.mem_of_getElem? (i := 18) rfl)), List.forall_mem_cons.mpr ⟨(cl_X5_narrowSwap_1 _ (List.mem_of_getElem? (i := 19) rfl)), List.forall_mem_cons.mpr ⟨(cl_X5_narrowSwap_1 _ (List.mem_of_getElem? (i := 20) rfl)), List.forall_mem_cons.mpr ⟨(cl_X5_narrowSwap_1 _ (List.mem_of_getElem? (i := 21) rfl)), List.forall_mem_cons.mpr ⟨(cl_X5_narrowSwap_1 _ (List.mem_of_getElem? (i := 22) rfl)), List.forall_mem_cons.mpr ⟨(cl_X5_narrowSwap_1 _ (List.mem_of_getElem? (i := 23) rfl)), List.forall_mem_cons.mpr ⟨(cl_X5_narrowSwap_2 _ (List.mem_of_getElem? (i := 0) rfl)), List.forall_mem_cons.mpr ⟨(cl_X5_narrowSwap_2 _ (List.mem_of_getElem? (i := 1) rfl)), List.forall_mem_cons.mpr ⟨(cl_X5_narrowSwap_2 _ (List.mem_of_getElem? (i := 2) rfl)), List.forall_mem_cons.mpr ⟨(cl_X5_narrowSwap_2 _ (List.mem_of_getElem? (i := 3) rfl)), List.forall_mem_cons.mpr ⟨(cl_X5_narrowSwap_2 _ (List.mem_of_getElem? (i := 4) rfl)), fun _ h => absurd h List.not_mem_nil⟩⟩⟩⟩⟩⟩⟩⟩⟩⟩⟩⟩⟩⟩⟩⟩⟩⟩⟩⟩⟩⟩⟩⟩) w) ((List.forall_mem_cons.mpr ⟨(cl_X5_narrowSwap_2 _ (List.mem_of_getElem? (i := 5) rfl)), List.forall_mem_cons.mpr ⟨(cl_X5_narrowSwap_2 _ (List.mem_of_getElem? (i := 6) rfl)), fun _ h => absurd h List.not_mem_nil⟩⟩) w)) w) ((cl_X5_narrowSwap_3) w)) w) ((cl_X5_narrowSwap_4) w)⟩) (by decide +kernel)
set_option maxRecDepth 20000 in
theorem gX5_narrowSwap_X5_swap : GoodIn wsX5_narrowSwap (wsV RX5 140 RX5 yX5_swap wsX5_swap) := goodIn_app (goodIn_sub (List.forall_mem_cons.mpr ⟨(cl_X5_narrowSwap_1 _ (List.mem_of_getElem? (i := 1) rfl)), List.forall_mem_cons.mpr ⟨(cl_X5_narrowSwap_1 _ (List.mem_of_getElem? (i := 2) rfl)), List.forall_mem_cons.mpr ⟨(cl_X5_narrowSwap_1 _ (List.mem_of_getElem? (i := 3) rfl)), List.forall_mem_cons.mpr ⟨(cl_X5_narrowSwap_1 _ (List.mem_of_getElem? (i := 4) rfl)), fun _ h => absurd h List.not_mem_nil⟩⟩⟩⟩) (by decide +kernel)) ggX5_narrowSwap_X5_swap
noncomputable def dz_p10_28 : List (Nat × Instr × Nat) := [(0, (.aload_n 0, 1)), (1, (.aload_n 0, 1)), (2, (.getfield 24, 3)), (5, (.iload_n 1, 1)), (6, (.iload_n 2, 1)), (7, (.invokevirtual 140, 3)), (10, (.ireturn, 1))]
theorem dy_p10_28 : dz_ok cX5_narrowSwap dz_p10_28 = true := by decide +kernel
theorem dX5_narrowSwap_0 : decode cX5_narrowSwap 0 = .ok (.aload_n 0, 1) := dz_at (i := 0) dy_p10_28 rfl
theorem dX5_narrowSwap_1 : decode cX5_narrowSwap 1 = .ok (.aload_n 0, 1) := dz_at (i := 1) dy_p10_28 rfl
theorem dX5_narrowSwap_2 : decode cX5_narrowSwap 2 = .ok (.getfield 24, 3) := dz_at (i := 2) dy_p10_28 rfl
theorem dX5_narrowSwap_5 : decode cX5_narrowSwap 5 = .ok (.iload_n 1, 1) := dz_at (i := 3) dy_p10_28 rfl
theorem dX5_narrowSwap_6 : decode cX5_narrowSwap 6 = .ok (.iload_n 2, 1) := dz_at (i := 4) dy_p10_28 rfl
theorem dX5_narrowSwap_7 : decode cX5_narrowSwap 7 = .ok (.invokevirtual 140, 3) := dz_at (i := 5) dy_p10_28 rfl
theorem dX5_narrowSwap_10 : decode cX5_narrowSwap 10 = .ok (.ireturn, 1) := dz_at (i := 6) dy_p10_28 rfl
noncomputable def o_X5_narrowSwap (a2 : Int32) (f2 : Nat → Int64) (p0 : Int32) (p1 : Int32) : Int32 × Int32 × (Nat → Int64) × Int32 :=
  ((o_X5_swap a2 f2 p0 p1).1, (o_X5_swap a2 f2 p0 p1).2.1, (o_X5_swap a2 f2 p0 p1).2.2.1, (o_X5_swap a2 f2 p0 p1).2.2.2)
set_option maxHeartbeats 4000000 in
set_option maxRecDepth 100000 in
theorem k_X5_narrowSwap (l : Launch) (dC : Nat → ClassId) (dI : Nat → Nat → Nat) (cy : ClassId) (h0 : Nat) (h1 : Nat) (hc1 : Nat) (h2 : Nat) (hc2 : Nat) (a1 : Int32) (f1 : Nat → Int64) (a2 : Int32) (f2 : Nat → Int64) (th : Int32) (rf : Int32) (kn : Int32) (sz : Nat) (N : Nat) (p0 : Int32) (p1 : Int32) : Met l yX5_narrowSwap wsX5_narrowSwap ({ frames := 4, cells := 0, slots := 0, locals := 86 }) (va_Pc [.ref h0, .int p0, .int p1] (xM (dC, dI) xCl [(h0, eM h1 h2 th rf kn), (h1, eMR true hc1 a1), (hc1, eA cy f1), (h2, eMR false hc2 a2), (hc2, eA cy f2)] [(cy, .long)] sz N)) (va_Qi (fun (r : Int32) (_ : Unit) => r = (o_X5_narrowSwap a2 f2 p0 p1).1) (fun _ t => xW (dC, dI) xCl [(h0, eM h1 h2 (o_X5_narrowSwap a2 f2 p0 p1).2.2.2 rf kn), (h1, eMR true hc1 a1), (hc1, eA cy f1), (h2, eMR false hc2 (o_X5_narrowSwap a2 f2 p0 p1).2.1), (hc2, eA cy (o_X5_narrowSwap a2 f2 p0 p1).2.2.1)] (va_A [(h0, eM h1 h2 th rf kn), (h1, eMR true hc1 a1), (hc1, eA cy f1), (h2, eMR false hc2 a2), (hc2, eA cy f2)] sz) t) (va_A [(h0, eM h1 h2 th rf kn), (h1, eMR true hc1 a1), (hc1, eA cy f1), (h2, eMR false hc2 a2), (hc2, eA cy f2)] sz)) 0 0 (va_A [(h0, eM h1 h2 th rf kn), (h1, eMR true hc1 a1), (hc1, eA cy f1), (h2, eMR false hc2 a2), (hc2, eA cy f2)] sz) := by
  refine Met.ofW (cc := cX5_narrowSwap) (maxL := 3) (ret := (some .int)) (by decide +kernel) rfl ?_
  intro p e s m args below meth c s₁ B hml hv
  obtain ⟨rfl, hsz, hP, hK, hD0, hN, hG⟩ := hv
  have hx := B.exec
  have hb := B.bytes
  have hr := B.returns
  have hts := atoms_spec (ws := wsX5_narrowSwap) B.pre
  have hown : s.vm.findClass RX5 = some m.cls := findClass_of_methodNamed B.named
  have hlocks := B.notSynchronized
  subst hsz
  have hAN : ∀ q, va_A [(h0, eM h1 h2 th rf kn), (h1, eMR true hc1 a1), (hc1, eA cy f1), (h2, eMR false hc2 a2), (hc2, eA cy f2)] s.heap.size q → N ≤ q := xA_N hD0 hN
  have hD := hD0.self (sz := s.heap.size)
  generalize hAe : va_A [(h0, eM h1 h2 th rf kn), (h1, eMR true hc1 a1), (hc1, eA cy f1), (h2, eMR false hc2 a2), (hc2, eA cy f2)] s.heap.size = A at hD hAN ⊢
  have hA : ∀ q : Nat, s.heap.size ≤ q → A q := fun q h => by rw [← hAe]; exact Or.inr h
  have hS : va_S A s.heap s.heap [] := va_S.rf
  have hP : va_P (dC, dI) xCl [(h0, eM h1 h2 th rf kn), (h1, eMR true hc1 a1), (hc1, eA cy f1), (h2, eMR false hc2 a2), (hc2, eA cy f2)] s.heap := hP
  have hl := lv_entry ([.ref h0, .int p0, .int p1]) (n := 3) (Nat.le_of_ble_eq_true rfl)
  rw [lg_entry_eq]
  generalize (lg_sl ([.ref h0, .int p0, .int p1]) ++ List.replicate (3 - (lg_sl ([.ref h0, .int p0, .int p1])).length) Slot.unset).toArray = ls at hl ⊢
  have hl : lv_has ls 3 [(0, .ref h0), (1, .int p0), (2, .int p1)] := hl
  refine lv_aload_n hx hb dX5_narrowSwap_0 rfl (lv_at hl 0 rfl) ?_
  refine lv_aload_n hx hb dX5_narrowSwap_1 rfl (lv_at hl 0 rfl) ?_
  refine va_get (D := (dC, dI)) (ci := 7) (v := .ref h2) (C := RX5) (T := TX5) (N := 5) hx hb hts (by decide +kernel) hown hK hP 0 rfl rfl 1 (by decide +kernel) (hts (.fieldLink RX5 24 "EdgefloatsModel" "narrow" "LEdgefloatsModel$Row;") (by decide +kernel)) (fun _ h9 => h9) rfl dX5_narrowSwap_2 ?_
  refine lv_iload_n hx hb dX5_narrowSwap_5 rfl (lv_at hl 1 rfl) ?_
  refine lv_iload_n hx hb dX5_narrowSwap_6 rfl (lv_at hl 2 rfl) ?_
  have hPc := hP.sub (ws' := [(h0, eM h1 h2 th rf kn), (h2, eMR false hc2 a2), (hc2, eA cy f2)]) [0, 3, 4] rfl
  have hDc := hD.sub (ws' := [(h0, eM h1 h2 th rf kn), (h2, eMR false hc2 a2), (hc2, eA cy f2)]) [0, 3, 4] (by decide +kernel) rfl
  have hKc := hK.sub (tys' := [(cy, .long)]) [0] rfl
  have hFc := va_free (wc := [(h0, eM h1 h2 th rf kn), (h2, eMR false hc2 a2), (hc2, eA cy f2)]) hD hS hA [0, 3, 4] rfl
  refine va_calli (va_runV (As := [.ref h2, .int p0, .int p1]) (rest := []) ⟨hx, hb, hml, hown, hts⟩ (k_X5_swap l dC dI cy h0 h1 h2 h2 hc2 false a2 f2 th rf kn s.heap.size N p0 p1) (cwV 3 hts gX5_narrowSwap_X5_swap rfl rfl rfl (by decide +kernel) ⟨Nat.le_of_ble_eq_true rfl, Nat.le_of_ble_eq_true rfl⟩) (xM.preV hKc hPc hDc hAN (Nat.le_trans hN hS.1) (hG.kept hS hAN) (ci := 7) (q0 := 0) rfl rfl) rfl rfl hl.1 rfl (lv_room (Nat.le_of_ble_eq_true rfl)) dX5_narrowSwap_7 ⟨Nat.le_of_ble_eq_true rfl, Nat.le_of_ble_eq_true rfl⟩) hS (fun q _ h => hFc q h) hFc (fun r_1 u t H locs ht hvm hw hB hz hk hS => ?_)
  replace hw : r_1 = (o_X5_swap a2 f2 p0 p1).1 := hw
  subst r_1
  obtain ⟨hP1, hD1⟩ := hB
  rw [ht] at hP1
  obtain ⟨hP, hD⟩ := va_join (wr := [(h1, eMR true hc1 a1), (hc1, eA cy f1)]) (w1 := [(h0, eM h1 h2 (o_X5_swap a2 f2 p0 p1).2.2.2 rf kn), (h2, eMR false hc2 (o_X5_swap a2 f2 p0 p1).2.1), (hc2, eA cy (o_X5_swap a2 f2 p0 p1).2.2.1)]) hP hD [0, 3, 4] [1, 2] rfl rfl (by decide +kernel) (by decide +kernel) hk hFc hP1 hD1
  have hP := hP.sub (ws' := [(h0, eM h1 h2 (o_X5_swap a2 f2 p0 p1).2.2.2 rf kn), (h1, eMR true hc1 a1), (hc1, eA cy f1), (h2, eMR false hc2 (o_X5_swap a2 f2 p0 p1).2.1), (hc2, eA cy (o_X5_swap a2 f2 p0 p1).2.2.1)]) [2, 0, 1, 3, 4] rfl
  have hD := hD.sub (ws' := [(h0, eM h1 h2 (o_X5_swap a2 f2 p0 p1).2.2.2 rf kn), (h1, eMR true hc1 a1), (hc1, eA cy f1), (h2, eMR false hc2 (o_X5_swap a2 f2 p0 p1).2.1), (hc2, eA cy (o_X5_swap a2 f2 p0 p1).2.2.1)]) [2, 0, 1, 3, 4] (by decide +kernel) rfl
  have he : o_X5_narrowSwap a2 f2 p0 p1 = ((o_X5_swap a2 f2 p0 p1).1, (o_X5_swap a2 f2 p0 p1).2.1, (o_X5_swap a2 f2 p0 p1).2.2.1, (o_X5_swap a2 f2 p0 p1).2.2.2) := by (rw [o_X5_narrowSwap]) <;> rfl
  refine W.widen (k := 0) (n := 0) (by omega) (by omega) ?_
  exact W.iret (v := ((o_X5_swap a2 f2 p0 p1).1)) hx hb hr (fun t ht hW => ⟨⟨_, (), rfl, (by (rw [he]) <;> rfl), (by rw [he]; exact ⟨by rw [ht]; exact hP, hD⟩)⟩, hS.F ht⟩) hS.2.2 dX5_narrowSwap_10
theorem cl_X5_narrowMax_1 : ∀ w ∈ wsX5_narrowMax_r1, w ∈ wsX5_narrowMax := fun _ h => (List.mem_cons_of_mem _ (List.mem_append_left _ (List.mem_append_left _ (List.mem_append_left _ h))))
theorem cl_X5_narrowMax_2 : ∀ w ∈ wsX5_narrowMax_r2, w ∈ wsX5_narrowMax := fun _ h => (List.mem_cons_of_mem _ (List.mem_append_left _ (List.mem_append_left _ (List.mem_append_right _ (List.mem_append_left _ h)))))
theorem cl_X5_narrowMax_3 : ∀ w ∈ wsX5_narrowMax_r3, w ∈ wsX5_narrowMax := fun _ h => (List.mem_cons_of_mem _ (List.mem_append_left _ (List.mem_append_left _ (List.mem_append_right _ (List.mem_append_right _ h)))))
theorem cl_X5_narrowMax_4 : ∀ w ∈ wsX50, w ∈ wsX5_narrowMax := fun _ h => (List.mem_cons_of_mem _ (List.mem_append_left _ (List.mem_append_right _ h)))
theorem cl_X5_narrowMax_5 : ∀ w ∈ wsX40, w ∈ wsX5_narrowMax := fun _ h => (List.mem_cons_of_mem _ (List.mem_append_right _ h))
set_option maxRecDepth 20000 in
theorem ggX5_narrowMax_X5_choose : GoodIn wsX5_narrowMax wsX5_choose := goodIn_sub (List.forall_mem_cons.mpr ⟨(cl_X5_narrowMax_1 _ (List.mem_of_getElem? (i := 5) rfl)), fun w h => (List.mem_append.mp h).elim ((fun w h => (List.mem_append.mp h).elim ((fun w h => (List.mem_append.mp h).elim ((List.forall_mem_cons.mpr ⟨(cl_X5_narrowMax_1 _ (List.mem_of_getElem? (i := 6) rfl)), List.forall_mem_cons.mpr ⟨(cl_X5_narrowMax_1 _ (List.mem_of_getElem? (i := 7) rfl)), List.forall_mem_cons.mpr ⟨(cl_X5_narrowMax_1 _ (List.mem_of_getElem? (i := 8) rfl)), List.forall_mem_cons.mpr ⟨(cl_X5_narrowMax_1 _ (List.mem_of_getElem? (i := 4) rfl)), List.forall_mem_cons.mpr ⟨(cl_X5_narrowMax_1 _ (List.mem_of_getElem? (i := 9) rfl)), List.forall_mem_cons.mpr ⟨(cl_X5_narrowMax_1 _ (List.mem_of_getElem? (i := 10) rfl)), List.forall_mem_cons.mpr ⟨(cl_X5_narrowMax_1 _ (List.mem_of_getElem? (i := 11) rfl)), List.forall_mem_cons.mpr ⟨(cl_X5_narrowMax_1 _ (List.mem_of_getElem? (i := 12) rfl)), List.forall_mem_cons.mpr ⟨(cl_X5_narrowMax_1 _ (List.mem_of_getElem? (i := 13) rfl)), List.forall_mem_cons.mpr ⟨(cl_X5_narrowMax_1 _ (List.mem_of_getElem? (i := 14) rfl)), List.forall_mem_cons.mpr ⟨(cl_X5_narrowMax_1 _ (List.mem_of_getElem? (i := 15) rfl)), List.forall_mem_cons.mpr ⟨(cl_X5_narrowMax_1 _ (List.mem_of_getElem? (i := 16) rfl)), List.forall_mem_cons.mpr ⟨(cl_X5_narrowMax_1 _ (List.mem_of_getElem? (i := 17) rfl)), List.forall_mem_cons.mpr ⟨(cl_X5_narrowMax_1 _ (List.mem_of_getElem? (i := 18) rfl)), List.forall_mem_cons.mpr ⟨(cl_X5_narrowMax_1 _ (List.mem_of_getElem? (i := 19) rfl)), List.forall_mem_cons.mpr ⟨(cl_X5_narrowMax_1 _ (List.mem_of_getElem? (i := 20) rfl)), List.forall_mem_cons.mpr ⟨(cl_X5_narrowMax_1 _ (List.mem_of_getElem? (i := 21) rfl)), List.forall_mem_cons.mpr ⟨(cl_X5_narrowMax_1 _ (List.mem_of_getElem? (i := 22) rfl)), List.forall_mem_cons.mpr ⟨(cl_X5_narrowMax_1 _ (List.mem_of_getElem? (i := 23) rfl)), List.forall_mem_cons.mpr ⟨(cl_X5_narrowMax_2 _ (List.mem_of_getElem? (i := 0) rfl)), List.forall_mem_cons.mpr ⟨(cl_X5_narrowMax_2 _ (List.mem_of_getElem? (i := 1) rfl)), List.forall_mem_cons.mpr ⟨(cl_X5_narrowMax_2 _ (List.mem_of_getElem? (i := 2) rfl)), List.forall_mem_cons.mpr ⟨(cl_X5_narrowMax_2 _ (List.mem_of_getElem? (i := 3) rfl)), List.forall_mem_cons.mpr ⟨(cl_X5_narrowMax_2 _ (List.mem_of_getElem? (i := 4) rfl)), fun _ h => absurd h List.not_mem_nil⟩⟩⟩⟩⟩⟩⟩⟩⟩⟩⟩⟩⟩⟩⟩⟩⟩⟩⟩⟩⟩⟩⟩⟩) w) ((List.forall_mem_cons.mpr ⟨(cl_X5_narrowMax_2 _ (List.mem_of_getElem? (i := 5) rfl)), List.forall_mem_cons.mpr ⟨(cl_X5_narrowMax_2 _ (List.mem_of_getElem? (i := 6) rfl)), List.forall_mem_cons.mpr ⟨(cl_X5_narrowMax_2 _ (List.mem_of_getElem? (i := 7) rfl)), List.forall_mem_cons.mpr ⟨(cl_X5_narrowMax_2 _ (List.mem_of_getElem? (i := 8) rfl)), List.forall_mem_cons.mpr ⟨(cl_X5_narrowMax_2 _ (List.mem_of_getElem? (i := 9) rfl)), List.forall_mem_cons.mpr ⟨(cl_X5_narrowMax_2 _ (List.mem_of_getElem? (i := 10) rfl)), List.forall_mem_cons.mpr ⟨(cl_X5_narrowMax_2 _ (List.mem_of_getElem? (i := 11) rfl)), List.forall_mem_cons.mpr ⟨(cl_X5_narrowMax_2 _ (List.mem_of_getElem? (i := 12) rfl)), List.forall_mem_cons.mpr ⟨(cl_X5_narrowMax_2 _ (List.mem_of_getElem? (i := 13) rfl)), List.forall_mem_cons.mpr ⟨(cl_X5_narrowMax_2 _ (List.mem_of_getElem? (i := 14) rfl)), List.forall_mem_cons.mpr ⟨(cl_X5_narrowMax_2 _ (List.mem_of_getElem? (i := 15) rfl)), List.forall_mem_cons.mpr ⟨(cl_X5_narrowMax_2 _ (List.mem_of_getElem? (i := 16) rfl)), List.forall_mem_cons.mpr ⟨(cl_X5_narrowMax_2 _ (List.mem_of_getElem? (i := 17) rfl)), List.forall_mem_cons.mpr ⟨(cl_X5_narrowMax_2 _ (List.mem_of_getElem? (i := 18) rfl)), List.forall_mem_cons.mpr ⟨(cl_X5_narrowMax_2 _ (List.mem_of_getElem? (i := 19) rfl)), List.forall_mem_cons.mpr ⟨(cl_X5_narrowMax_2 _ (List.mem_of_getElem? (i := 20) rfl)), List.forall_mem_cons.mpr ⟨(cl_X5_narrowMax_2 _ (List.mem_of_getElem? (i := 21) rfl)), List.forall_mem_cons.mpr ⟨(cl_X5_narrowMax_2 _ (List.mem_of_getElem? (i := 22) rfl)), List.forall_mem_cons.mpr ⟨(cl_X5_narrowMax_2 _ (List.mem_of_getElem? (i := 23) rfl)), List.forall_mem_cons.mpr ⟨(cl_X5_narrowMax_3 _ (List.mem_of_getElem? (i := 0) rfl)), List.forall_mem_cons.mpr ⟨(cl_X5_narrowMax_3 _ (List.mem_of_getElem? (i := 1) rfl)), List.forall_mem_cons.mpr ⟨(cl_X5_narrowMax_3 _ (List.mem_of_getElem? (i := 2) rfl)), fun _ h => absurd h List.not_mem_nil⟩⟩⟩⟩⟩⟩⟩⟩⟩⟩⟩⟩⟩⟩⟩⟩⟩⟩⟩⟩⟩⟩) w)) w) ((cl_X5_narrowMax_5) w)) w) ((cl_X5_narrowMax_4) w)⟩) (by decide +kernel)
set_option maxRecDepth 20000 in
theorem gX5_narrowMax_X5_choose : GoodIn wsX5_narrowMax (wsV RX5 142 RX5 yX5_choose wsX5_choose) := goodIn_app (goodIn_sub (List.forall_mem_cons.mpr ⟨(cl_X5_narrowMax_1 _ (List.mem_of_getElem? (i := 1) rfl)), List.forall_mem_cons.mpr ⟨(cl_X5_narrowMax_1 _ (List.mem_of_getElem? (i := 2) rfl)), List.forall_mem_cons.mpr ⟨(cl_X5_narrowMax_1 _ (List.mem_of_getElem? (i := 3) rfl)), List.forall_mem_cons.mpr ⟨(cl_X5_narrowMax_1 _ (List.mem_of_getElem? (i := 4) rfl)), fun _ h => absurd h List.not_mem_nil⟩⟩⟩⟩) (by decide +kernel)) ggX5_narrowMax_X5_choose
noncomputable def dz_p10_29 : List (Nat × Instr × Nat) := [(0, (.aload_n 0, 1)), (1, (.aload_n 0, 1)), (2, (.getfield 24, 3)), (5, (.iload_n 1, 1)), (6, (.iload_n 2, 1)), (7, (.iload_n 3, 1)), (8, (.iconst 1, 1)), (9, (.invokevirtual 142, 3)), (12, (.ireturn, 1))]
theorem dy_p10_29 : dz_ok cX5_narrowMax dz_p10_29 = true := by decide +kernel
theorem dX5_narrowMax_0 : decode cX5_narrowMax 0 = .ok (.aload_n 0, 1) := dz_at (i := 0) dy_p10_29 rfl
theorem dX5_narrowMax_1 : decode cX5_narrowMax 1 = .ok (.aload_n 0, 1) := dz_at (i := 1) dy_p10_29 rfl
theorem dX5_narrowMax_2 : decode cX5_narrowMax 2 = .ok (.getfield 24, 3) := dz_at (i := 2) dy_p10_29 rfl
theorem dX5_narrowMax_5 : decode cX5_narrowMax 5 = .ok (.iload_n 1, 1) := dz_at (i := 3) dy_p10_29 rfl
theorem dX5_narrowMax_6 : decode cX5_narrowMax 6 = .ok (.iload_n 2, 1) := dz_at (i := 4) dy_p10_29 rfl
theorem dX5_narrowMax_7 : decode cX5_narrowMax 7 = .ok (.iload_n 3, 1) := dz_at (i := 5) dy_p10_29 rfl
theorem dX5_narrowMax_8 : decode cX5_narrowMax 8 = .ok (.iconst 1, 1) := dz_at (i := 6) dy_p10_29 rfl
theorem dX5_narrowMax_9 : decode cX5_narrowMax 9 = .ok (.invokevirtual 142, 3) := dz_at (i := 7) dy_p10_29 rfl
theorem dX5_narrowMax_12 : decode cX5_narrowMax 12 = .ok (.ireturn, 1) := dz_at (i := 8) dy_p10_29 rfl
noncomputable def o_X5_narrowMax (a2 : Int32) (f2 : Nat → Int64) (p0 : Int32) (p1 : Int32) (p2 : Int32) : Int32 × Int32 × (Nat → Int64) × Int32 :=
  ((o_X5_choose false a2 f2 p0 p1 p2 1).1, (o_X5_choose false a2 f2 p0 p1 p2 1).2.1, (o_X5_choose false a2 f2 p0 p1 p2 1).2.2.1, (o_X5_choose false a2 f2 p0 p1 p2 1).2.2.2)
set_option maxHeartbeats 4000000 in
set_option maxRecDepth 100000 in
theorem k_X5_narrowMax (l : Launch) (dC : Nat → ClassId) (dI : Nat → Nat → Nat) (cy : ClassId) (h0 : Nat) (h1 : Nat) (hc1 : Nat) (h2 : Nat) (hc2 : Nat) (a1 : Int32) (f1 : Nat → Int64) (a2 : Int32) (f2 : Nat → Int64) (th : Int32) (rf : Int32) (kn : Int32) (sz : Nat) (N : Nat) (p0 : Int32) (p1 : Int32) (p2 : Int32) : Met l yX5_narrowMax wsX5_narrowMax ({ frames := 5, cells := 0, slots := 0, locals := 114 }) (va_Pc [.ref h0, .int p0, .int p1, .int p2] (xM (dC, dI) xCl [(h0, eM h1 h2 th rf kn), (h1, eMR true hc1 a1), (hc1, eA cy f1), (h2, eMR false hc2 a2), (hc2, eA cy f2)] [(cy, .long)] sz N)) (va_Qi (fun (r : Int32) (_ : Unit) => r = (o_X5_narrowMax a2 f2 p0 p1 p2).1) (fun _ t => xW (dC, dI) xCl [(h0, eM h1 h2 (o_X5_narrowMax a2 f2 p0 p1 p2).2.2.2 rf kn), (h1, eMR true hc1 a1), (hc1, eA cy f1), (h2, eMR false hc2 (o_X5_narrowMax a2 f2 p0 p1 p2).2.1), (hc2, eA cy (o_X5_narrowMax a2 f2 p0 p1 p2).2.2.1)] (va_A [(h0, eM h1 h2 th rf kn), (h1, eMR true hc1 a1), (hc1, eA cy f1), (h2, eMR false hc2 a2), (hc2, eA cy f2)] sz) t) (va_A [(h0, eM h1 h2 th rf kn), (h1, eMR true hc1 a1), (hc1, eA cy f1), (h2, eMR false hc2 a2), (hc2, eA cy f2)] sz)) 0 0 (va_A [(h0, eM h1 h2 th rf kn), (h1, eMR true hc1 a1), (hc1, eA cy f1), (h2, eMR false hc2 a2), (hc2, eA cy f2)] sz) := by
  refine Met.ofW (cc := cX5_narrowMax) (maxL := 4) (ret := (some .int)) (by decide +kernel) rfl ?_
  intro p e s m args below meth c s₁ B hml hv
  obtain ⟨rfl, hsz, hP, hK, hD0, hN, hG⟩ := hv
  have hx := B.exec
  have hb := B.bytes
  have hr := B.returns
  have hts := atoms_spec (ws := wsX5_narrowMax) B.pre
  have hown : s.vm.findClass RX5 = some m.cls := findClass_of_methodNamed B.named
  have hlocks := B.notSynchronized
  subst hsz
  have hAN : ∀ q, va_A [(h0, eM h1 h2 th rf kn), (h1, eMR true hc1 a1), (hc1, eA cy f1), (h2, eMR false hc2 a2), (hc2, eA cy f2)] s.heap.size q → N ≤ q := xA_N hD0 hN
  have hD := hD0.self (sz := s.heap.size)
  generalize hAe : va_A [(h0, eM h1 h2 th rf kn), (h1, eMR true hc1 a1), (hc1, eA cy f1), (h2, eMR false hc2 a2), (hc2, eA cy f2)] s.heap.size = A at hD hAN ⊢
  have hA : ∀ q : Nat, s.heap.size ≤ q → A q := fun q h => by rw [← hAe]; exact Or.inr h
  have hS : va_S A s.heap s.heap [] := va_S.rf
  have hP : va_P (dC, dI) xCl [(h0, eM h1 h2 th rf kn), (h1, eMR true hc1 a1), (hc1, eA cy f1), (h2, eMR false hc2 a2), (hc2, eA cy f2)] s.heap := hP
  have hl := lv_entry ([.ref h0, .int p0, .int p1, .int p2]) (n := 4) (Nat.le_of_ble_eq_true rfl)
  rw [lg_entry_eq]
  generalize (lg_sl ([.ref h0, .int p0, .int p1, .int p2]) ++ List.replicate (4 - (lg_sl ([.ref h0, .int p0, .int p1, .int p2])).length) Slot.unset).toArray = ls at hl ⊢
  have hl : lv_has ls 4 [(0, .ref h0), (1, .int p0), (2, .int p1), (3, .int p2)] := hl
  refine lv_aload_n hx hb dX5_narrowMax_0 rfl (lv_at hl 0 rfl) ?_
  refine lv_aload_n hx hb dX5_narrowMax_1 rfl (lv_at hl 0 rfl) ?_
  refine va_get (D := (dC, dI)) (ci := 7) (v := .ref h2) (C := RX5) (T := TX5) (N := 5) hx hb hts (by decide +kernel) hown hK hP 0 rfl rfl 1 (by decide +kernel) (hts (.fieldLink RX5 24 "EdgefloatsModel" "narrow" "LEdgefloatsModel$Row;") (by decide +kernel)) (fun _ h9 => h9) rfl dX5_narrowMax_2 ?_
  refine lv_iload_n hx hb dX5_narrowMax_5 rfl (lv_at hl 1 rfl) ?_
  refine lv_iload_n hx hb dX5_narrowMax_6 rfl (lv_at hl 2 rfl) ?_
  refine lv_iload_n hx hb dX5_narrowMax_7 rfl (lv_at hl 3 rfl) ?_
  refine lv_iconst (v := 1) hx hb dX5_narrowMax_8 (by decide +kernel) ?_
  have hPc := hP.sub (ws' := [(h0, eM h1 h2 th rf kn), (h2, eMR false hc2 a2), (hc2, eA cy f2)]) [0, 3, 4] rfl
  have hDc := hD.sub (ws' := [(h0, eM h1 h2 th rf kn), (h2, eMR false hc2 a2), (hc2, eA cy f2)]) [0, 3, 4] (by decide +kernel) rfl
  have hKc := hK.sub (tys' := [(cy, .long)]) [0] rfl
  have hFc := va_free (wc := [(h0, eM h1 h2 th rf kn), (h2, eMR false hc2 a2), (hc2, eA cy f2)]) hD hS hA [0, 3, 4] rfl
  refine va_calli (va_runV (As := [.ref h2, .int p0, .int p1, .int p2, .int 1]) (rest := []) ⟨hx, hb, hml, hown, hts⟩ (k_X5_choose l dC dI cy h0 h1 h2 h2 hc2 false a2 f2 th rf kn s.heap.size N p0 p1 p2 1) (cwV 5 hts gX5_narrowMax_X5_choose rfl rfl rfl (by decide +kernel) ⟨Nat.le_of_ble_eq_true rfl, Nat.le_of_ble_eq_true rfl⟩) (xM.preV hKc hPc hDc hAN (Nat.le_trans hN hS.1) (hG.kept hS hAN) (ci := 7) (q0 := 0) rfl rfl) rfl rfl hl.1 rfl (lv_room (Nat.le_of_ble_eq_true rfl)) dX5_narrowMax_9 ⟨Nat.le_of_ble_eq_true rfl, Nat.le_of_ble_eq_true rfl⟩) hS (fun q _ h => hFc q h) hFc (fun r_1 u t H locs ht hvm hw hB hz hk hS => ?_)
  replace hw : r_1 = (o_X5_choose false a2 f2 p0 p1 p2 1).1 := hw
  subst r_1
  obtain ⟨hP1, hD1⟩ := hB
  rw [ht] at hP1
  obtain ⟨hP, hD⟩ := va_join (wr := [(h1, eMR true hc1 a1), (hc1, eA cy f1)]) (w1 := [(h0, eM h1 h2 (o_X5_choose false a2 f2 p0 p1 p2 1).2.2.2 rf kn), (h2, eMR false hc2 (o_X5_choose false a2 f2 p0 p1 p2 1).2.1), (hc2, eA cy (o_X5_choose false a2 f2 p0 p1 p2 1).2.2.1)]) hP hD [0, 3, 4] [1, 2] rfl rfl (by decide +kernel) (by decide +kernel) hk hFc hP1 hD1
  have hP := hP.sub (ws' := [(h0, eM h1 h2 (o_X5_choose false a2 f2 p0 p1 p2 1).2.2.2 rf kn), (h1, eMR true hc1 a1), (hc1, eA cy f1), (h2, eMR false hc2 (o_X5_choose false a2 f2 p0 p1 p2 1).2.1), (hc2, eA cy (o_X5_choose false a2 f2 p0 p1 p2 1).2.2.1)]) [2, 0, 1, 3, 4] rfl
  have hD := hD.sub (ws' := [(h0, eM h1 h2 (o_X5_choose false a2 f2 p0 p1 p2 1).2.2.2 rf kn), (h1, eMR true hc1 a1), (hc1, eA cy f1), (h2, eMR false hc2 (o_X5_choose false a2 f2 p0 p1 p2 1).2.1), (hc2, eA cy (o_X5_choose false a2 f2 p0 p1 p2 1).2.2.1)]) [2, 0, 1, 3, 4] (by decide +kernel) rfl
  have he : o_X5_narrowMax a2 f2 p0 p1 p2 = ((o_X5_choose false a2 f2 p0 p1 p2 1).1, (o_X5_choose false a2 f2 p0 p1 p2 1).2.1, (o_X5_choose false a2 f2 p0 p1 p2 1).2.2.1, (o_X5_choose false a2 f2 p0 p1 p2 1).2.2.2) := by (rw [o_X5_narrowMax]) <;> rfl
  refine W.widen (k := 0) (n := 0) (by omega) (by omega) ?_
  exact W.iret (v := ((o_X5_choose false a2 f2 p0 p1 p2 1).1)) hx hb hr (fun t ht hW => ⟨⟨_, (), rfl, (by (rw [he]) <;> rfl), (by rw [he]; exact ⟨by rw [ht]; exact hP, hD⟩)⟩, hS.F ht⟩) hS.2.2 dX5_narrowMax_12
theorem cl_X5_narrowMin_1 : ∀ w ∈ wsX5_narrowMin_r1, w ∈ wsX5_narrowMin := fun _ h => (List.mem_cons_of_mem _ (List.mem_append_left _ (List.mem_append_left _ (List.mem_append_left _ h))))
theorem cl_X5_narrowMin_2 : ∀ w ∈ wsX5_narrowMin_r2, w ∈ wsX5_narrowMin := fun _ h => (List.mem_cons_of_mem _ (List.mem_append_left _ (List.mem_append_left _ (List.mem_append_right _ (List.mem_append_left _ h)))))
theorem cl_X5_narrowMin_3 : ∀ w ∈ wsX5_narrowMin_r3, w ∈ wsX5_narrowMin := fun _ h => (List.mem_cons_of_mem _ (List.mem_append_left _ (List.mem_append_left _ (List.mem_append_right _ (List.mem_append_right _ h)))))
theorem cl_X5_narrowMin_4 : ∀ w ∈ wsX50, w ∈ wsX5_narrowMin := fun _ h => (List.mem_cons_of_mem _ (List.mem_append_left _ (List.mem_append_right _ h)))
theorem cl_X5_narrowMin_5 : ∀ w ∈ wsX40, w ∈ wsX5_narrowMin := fun _ h => (List.mem_cons_of_mem _ (List.mem_append_right _ h))
set_option maxRecDepth 20000 in
theorem ggX5_narrowMin_X5_choose : GoodIn wsX5_narrowMin wsX5_choose := goodIn_sub (List.forall_mem_cons.mpr ⟨(cl_X5_narrowMin_1 _ (List.mem_of_getElem? (i := 5) rfl)), fun w h => (List.mem_append.mp h).elim ((fun w h => (List.mem_append.mp h).elim ((fun w h => (List.mem_append.mp h).elim ((List.forall_mem_cons.mpr ⟨(cl_X5_narrowMin_1 _ (List.mem_of_getElem? (i := 6) rfl)), List.forall_mem_cons.mpr ⟨(cl_X5_narrowMin_1 _ (List.mem_of_getElem? (i := 7) rfl)), List.forall_mem_cons.mpr ⟨(cl_X5_narrowMin_1 _ (List.mem_of_getElem? (i := 8) rfl)), List.forall_mem_cons.mpr ⟨(cl_X5_narrowMin_1 _ (List.mem_of_getElem? (i := 4) rfl)), List.forall_mem_cons.mpr ⟨(cl_X5_narrowMin_1 _ (List.mem_of_getElem? (i := 9) rfl)), List.forall_mem_cons.mpr ⟨(cl_X5_narrowMin_1 _ (List.mem_of_getElem? (i := 10) rfl)), List.forall_mem_cons.mpr ⟨(cl_X5_narrowMin_1 _ (List.mem_of_getElem? (i := 11) rfl)), List.forall_mem_cons.mpr ⟨(cl_X5_narrowMin_1 _ (List.mem_of_getElem? (i := 12) rfl)), List.forall_mem_cons.mpr ⟨(cl_X5_narrowMin_1 _ (List.mem_of_getElem? (i := 13) rfl)), List.forall_mem_cons.mpr ⟨(cl_X5_narrowMin_1 _ (List.mem_of_getElem? (i := 14) rfl)), List.forall_mem_cons.mpr ⟨(cl_X5_narrowMin_1 _ (List.mem_of_getElem? (i := 15) rfl)), List.forall_mem_cons.mpr ⟨(cl_X5_narrowMin_1 _ (List.mem_of_getElem? (i := 16) rfl)), List.forall_mem_cons.mpr ⟨(cl_X5_narrowMin_1 _ (List.mem_of_getElem? (i := 17) rfl)), List.forall_mem_cons.mpr ⟨(cl_X5_narrowMin_1 _ (List.mem_of_getElem? (i := 18) rfl)), List.forall_mem_cons.mpr ⟨(cl_X5_narrowMin_1 _ (List.mem_of_getElem? (i := 19) rfl)), List.forall_mem_cons.mpr ⟨(cl_X5_narrowMin_1 _ (List.mem_of_getElem? (i := 20) rfl)), List.forall_mem_cons.mpr ⟨(cl_X5_narrowMin_1 _ (List.mem_of_getElem? (i := 21) rfl)), List.forall_mem_cons.mpr ⟨(cl_X5_narrowMin_1 _ (List.mem_of_getElem? (i := 22) rfl)), List.forall_mem_cons.mpr ⟨(cl_X5_narrowMin_1 _ (List.mem_of_getElem? (i := 23) rfl)), List.forall_mem_cons.mpr ⟨(cl_X5_narrowMin_2 _ (List.mem_of_getElem? (i := 0) rfl)), List.forall_mem_cons.mpr ⟨(cl_X5_narrowMin_2 _ (List.mem_of_getElem? (i := 1) rfl)), List.forall_mem_cons.mpr ⟨(cl_X5_narrowMin_2 _ (List.mem_of_getElem? (i := 2) rfl)), List.forall_mem_cons.mpr ⟨(cl_X5_narrowMin_2 _ (List.mem_of_getElem? (i := 3) rfl)), List.forall_mem_cons.mpr ⟨(cl_X5_narrowMin_2 _ (List.mem_of_getElem? (i := 4) rfl)), fun _ h => absurd h List.not_mem_nil⟩⟩⟩⟩⟩⟩⟩⟩⟩⟩⟩⟩⟩⟩⟩⟩⟩⟩⟩⟩⟩⟩⟩⟩) w) ((List.forall_mem_cons.mpr ⟨(cl_X5_narrowMin_2 _ (List.mem_of_getElem? (i := 5) rfl)), List.forall_mem_cons.mpr ⟨(cl_X5_narrowMin_2 _ (List.mem_of_getElem? (i := 6) rfl)), List.forall_mem_cons.mpr ⟨(cl_X5_narrowMin_2 _ (List.mem_of_getElem? (i := 7) rfl)), List.forall_mem_cons.mpr ⟨(cl_X5_narrowMin_2 _ (List.mem_of_getElem? (i := 8) rfl)), List.forall_mem_cons.mpr ⟨(cl_X5_narrowMin_2 _ (List.mem_of_getElem? (i := 9) rfl)), List.forall_mem_cons.mpr ⟨(cl_X5_narrowMin_2 _ (List.mem_of_getElem? (i := 10) rfl)), List.forall_mem_cons.mpr ⟨(cl_X5_narrowMin_2 _ (List.mem_of_getElem? (i := 11) rfl)), List.forall_mem_cons.mpr ⟨(cl_X5_narrowMin_2 _ (List.mem_of_getElem? (i := 12) rfl)), List.forall_mem_cons.mpr ⟨(cl_X5_narrowMin_2 _ (List.mem_of_getElem? (i := 13) rfl)), List.forall_mem_cons.mpr ⟨(cl_X5_narrowMin_2 _ (List.mem_of_getElem? (i := 14) rfl)), List.forall_mem_cons.mpr ⟨(cl_X5_narrowMin_2 _ (List.mem_of_getElem? (i := 15) rfl)), List.forall_mem_cons.mpr ⟨(cl_X5_narrowMin_2 _ (List.mem_of_getElem? (i := 16) rfl)), List.forall_mem_cons.mpr ⟨(cl_X5_narrowMin_2 _ (List.mem_of_getElem? (i := 17) rfl)), List.forall_mem_cons.mpr ⟨(cl_X5_narrowMin_2 _ (List.mem_of_getElem? (i := 18) rfl)), List.forall_mem_cons.mpr ⟨(cl_X5_narrowMin_2 _ (List.mem_of_getElem? (i := 19) rfl)), List.forall_mem_cons.mpr ⟨(cl_X5_narrowMin_2 _ (List.mem_of_getElem? (i := 20) rfl)), List.forall_mem_cons.mpr ⟨(cl_X5_narrowMin_2 _ (List.mem_of_getElem? (i := 21) rfl)), List.forall_mem_cons.mpr ⟨(cl_X5_narrowMin_2 _ (List.mem_of_getElem? (i := 22) rfl)), List.forall_mem_cons.mpr ⟨(cl_X5_narrowMin_2 _ (List.mem_of_getElem? (i := 23) rfl)), List.forall_mem_cons.mpr ⟨(cl_X5_narrowMin_3 _ (List.mem_of_getElem? (i := 0) rfl)), List.forall_mem_cons.mpr ⟨(cl_X5_narrowMin_3 _ (List.mem_of_getElem? (i := 1) rfl)), List.forall_mem_cons.mpr ⟨(cl_X5_narrowMin_3 _ (List.mem_of_getElem? (i := 2) rfl)), fun _ h => absurd h List.not_mem_nil⟩⟩⟩⟩⟩⟩⟩⟩⟩⟩⟩⟩⟩⟩⟩⟩⟩⟩⟩⟩⟩⟩) w)) w) ((cl_X5_narrowMin_5) w)) w) ((cl_X5_narrowMin_4) w)⟩) (by decide +kernel)
set_option maxRecDepth 20000 in
theorem gX5_narrowMin_X5_choose : GoodIn wsX5_narrowMin (wsV RX5 142 RX5 yX5_choose wsX5_choose) := goodIn_app (goodIn_sub (List.forall_mem_cons.mpr ⟨(cl_X5_narrowMin_1 _ (List.mem_of_getElem? (i := 1) rfl)), List.forall_mem_cons.mpr ⟨(cl_X5_narrowMin_1 _ (List.mem_of_getElem? (i := 2) rfl)), List.forall_mem_cons.mpr ⟨(cl_X5_narrowMin_1 _ (List.mem_of_getElem? (i := 3) rfl)), List.forall_mem_cons.mpr ⟨(cl_X5_narrowMin_1 _ (List.mem_of_getElem? (i := 4) rfl)), fun _ h => absurd h List.not_mem_nil⟩⟩⟩⟩) (by decide +kernel)) ggX5_narrowMin_X5_choose
noncomputable def dz_p10_30 : List (Nat × Instr × Nat) := [(0, (.aload_n 0, 1)), (1, (.aload_n 0, 1)), (2, (.getfield 24, 3)), (5, (.iload_n 1, 1)), (6, (.iload_n 2, 1)), (7, (.iload_n 3, 1)), (8, (.iconst (-1), 1)), (9, (.invokevirtual 142, 3)), (12, (.ireturn, 1))]
theorem dy_p10_30 : dz_ok cX5_narrowMin dz_p10_30 = true := by decide +kernel
theorem dX5_narrowMin_0 : decode cX5_narrowMin 0 = .ok (.aload_n 0, 1) := dz_at (i := 0) dy_p10_30 rfl
theorem dX5_narrowMin_1 : decode cX5_narrowMin 1 = .ok (.aload_n 0, 1) := dz_at (i := 1) dy_p10_30 rfl
theorem dX5_narrowMin_2 : decode cX5_narrowMin 2 = .ok (.getfield 24, 3) := dz_at (i := 2) dy_p10_30 rfl
theorem dX5_narrowMin_5 : decode cX5_narrowMin 5 = .ok (.iload_n 1, 1) := dz_at (i := 3) dy_p10_30 rfl
theorem dX5_narrowMin_6 : decode cX5_narrowMin 6 = .ok (.iload_n 2, 1) := dz_at (i := 4) dy_p10_30 rfl
theorem dX5_narrowMin_7 : decode cX5_narrowMin 7 = .ok (.iload_n 3, 1) := dz_at (i := 5) dy_p10_30 rfl
theorem dX5_narrowMin_8 : decode cX5_narrowMin 8 = .ok (.iconst (-1), 1) := dz_at (i := 6) dy_p10_30 rfl
theorem dX5_narrowMin_9 : decode cX5_narrowMin 9 = .ok (.invokevirtual 142, 3) := dz_at (i := 7) dy_p10_30 rfl
theorem dX5_narrowMin_12 : decode cX5_narrowMin 12 = .ok (.ireturn, 1) := dz_at (i := 8) dy_p10_30 rfl
noncomputable def o_X5_narrowMin (a2 : Int32) (f2 : Nat → Int64) (p0 : Int32) (p1 : Int32) (p2 : Int32) : Int32 × Int32 × (Nat → Int64) × Int32 :=
  ((o_X5_choose false a2 f2 p0 p1 p2 (-1)).1, (o_X5_choose false a2 f2 p0 p1 p2 (-1)).2.1, (o_X5_choose false a2 f2 p0 p1 p2 (-1)).2.2.1, (o_X5_choose false a2 f2 p0 p1 p2 (-1)).2.2.2)
set_option maxHeartbeats 4000000 in
set_option maxRecDepth 100000 in
theorem k_X5_narrowMin (l : Launch) (dC : Nat → ClassId) (dI : Nat → Nat → Nat) (cy : ClassId) (h0 : Nat) (h1 : Nat) (hc1 : Nat) (h2 : Nat) (hc2 : Nat) (a1 : Int32) (f1 : Nat → Int64) (a2 : Int32) (f2 : Nat → Int64) (th : Int32) (rf : Int32) (kn : Int32) (sz : Nat) (N : Nat) (p0 : Int32) (p1 : Int32) (p2 : Int32) : Met l yX5_narrowMin wsX5_narrowMin ({ frames := 5, cells := 0, slots := 0, locals := 114 }) (va_Pc [.ref h0, .int p0, .int p1, .int p2] (xM (dC, dI) xCl [(h0, eM h1 h2 th rf kn), (h1, eMR true hc1 a1), (hc1, eA cy f1), (h2, eMR false hc2 a2), (hc2, eA cy f2)] [(cy, .long)] sz N)) (va_Qi (fun (r : Int32) (_ : Unit) => r = (o_X5_narrowMin a2 f2 p0 p1 p2).1) (fun _ t => xW (dC, dI) xCl [(h0, eM h1 h2 (o_X5_narrowMin a2 f2 p0 p1 p2).2.2.2 rf kn), (h1, eMR true hc1 a1), (hc1, eA cy f1), (h2, eMR false hc2 (o_X5_narrowMin a2 f2 p0 p1 p2).2.1), (hc2, eA cy (o_X5_narrowMin a2 f2 p0 p1 p2).2.2.1)] (va_A [(h0, eM h1 h2 th rf kn), (h1, eMR true hc1 a1), (hc1, eA cy f1), (h2, eMR false hc2 a2), (hc2, eA cy f2)] sz) t) (va_A [(h0, eM h1 h2 th rf kn), (h1, eMR true hc1 a1), (hc1, eA cy f1), (h2, eMR false hc2 a2), (hc2, eA cy f2)] sz)) 0 0 (va_A [(h0, eM h1 h2 th rf kn), (h1, eMR true hc1 a1), (hc1, eA cy f1), (h2, eMR false hc2 a2), (hc2, eA cy f2)] sz) := by
  refine Met.ofW (cc := cX5_narrowMin) (maxL := 4) (ret := (some .int)) (by decide +kernel) rfl ?_
  intro p e s m args below meth c s₁ B hml hv
  obtain ⟨rfl, hsz, hP, hK, hD0, hN, hG⟩ := hv
  have hx := B.exec
  have hb := B.bytes
  have hr := B.returns
  have hts := atoms_spec (ws := wsX5_narrowMin) B.pre
  have hown : s.vm.findClass RX5 = some m.cls := findClass_of_methodNamed B.named
  have hlocks := B.notSynchronized
  subst hsz
  have hAN : ∀ q, va_A [(h0, eM h1 h2 th rf kn), (h1, eMR true hc1 a1), (hc1, eA cy f1), (h2, eMR false hc2 a2), (hc2, eA cy f2)] s.heap.size q → N ≤ q := xA_N hD0 hN
  have hD := hD0.self (sz := s.heap.size)
  generalize hAe : va_A [(h0, eM h1 h2 th rf kn), (h1, eMR true hc1 a1), (hc1, eA cy f1), (h2, eMR false hc2 a2), (hc2, eA cy f2)] s.heap.size = A at hD hAN ⊢
  have hA : ∀ q : Nat, s.heap.size ≤ q → A q := fun q h => by rw [← hAe]; exact Or.inr h
  have hS : va_S A s.heap s.heap [] := va_S.rf
  have hP : va_P (dC, dI) xCl [(h0, eM h1 h2 th rf kn), (h1, eMR true hc1 a1), (hc1, eA cy f1), (h2, eMR false hc2 a2), (hc2, eA cy f2)] s.heap := hP
  have hl := lv_entry ([.ref h0, .int p0, .int p1, .int p2]) (n := 4) (Nat.le_of_ble_eq_true rfl)
  rw [lg_entry_eq]
  generalize (lg_sl ([.ref h0, .int p0, .int p1, .int p2]) ++ List.replicate (4 - (lg_sl ([.ref h0, .int p0, .int p1, .int p2])).length) Slot.unset).toArray = ls at hl ⊢
  have hl : lv_has ls 4 [(0, .ref h0), (1, .int p0), (2, .int p1), (3, .int p2)] := hl
  refine lv_aload_n hx hb dX5_narrowMin_0 rfl (lv_at hl 0 rfl) ?_
  refine lv_aload_n hx hb dX5_narrowMin_1 rfl (lv_at hl 0 rfl) ?_
  refine va_get (D := (dC, dI)) (ci := 7) (v := .ref h2) (C := RX5) (T := TX5) (N := 5) hx hb hts (by decide +kernel) hown hK hP 0 rfl rfl 1 (by decide +kernel) (hts (.fieldLink RX5 24 "EdgefloatsModel" "narrow" "LEdgefloatsModel$Row;") (by decide +kernel)) (fun _ h9 => h9) rfl dX5_narrowMin_2 ?_
  refine lv_iload_n hx hb dX5_narrowMin_5 rfl (lv_at hl 1 rfl) ?_
  refine lv_iload_n hx hb dX5_narrowMin_6 rfl (lv_at hl 2 rfl) ?_
  refine lv_iload_n hx hb dX5_narrowMin_7 rfl (lv_at hl 3 rfl) ?_
  refine lv_iconst (v := (-1)) hx hb dX5_narrowMin_8 (by decide +kernel) ?_
  have hPc := hP.sub (ws' := [(h0, eM h1 h2 th rf kn), (h2, eMR false hc2 a2), (hc2, eA cy f2)]) [0, 3, 4] rfl
  have hDc := hD.sub (ws' := [(h0, eM h1 h2 th rf kn), (h2, eMR false hc2 a2), (hc2, eA cy f2)]) [0, 3, 4] (by decide +kernel) rfl
  have hKc := hK.sub (tys' := [(cy, .long)]) [0] rfl
  have hFc := va_free (wc := [(h0, eM h1 h2 th rf kn), (h2, eMR false hc2 a2), (hc2, eA cy f2)]) hD hS hA [0, 3, 4] rfl
  refine va_calli (va_runV (As := [.ref h2, .int p0, .int p1, .int p2, .int (-1)]) (rest := []) ⟨hx, hb, hml, hown, hts⟩ (k_X5_choose l dC dI cy h0 h1 h2 h2 hc2 false a2 f2 th rf kn s.heap.size N p0 p1 p2 (-1)) (cwV 5 hts gX5_narrowMin_X5_choose rfl rfl rfl (by decide +kernel) ⟨Nat.le_of_ble_eq_true rfl, Nat.le_of_ble_eq_true rfl⟩) (xM.preV hKc hPc hDc hAN (Nat.le_trans hN hS.1) (hG.kept hS hAN) (ci := 7) (q0 := 0) rfl rfl) rfl rfl hl.1 rfl (lv_room (Nat.le_of_ble_eq_true rfl)) dX5_narrowMin_9 ⟨Nat.le_of_ble_eq_true rfl, Nat.le_of_ble_eq_true rfl⟩) hS (fun q _ h => hFc q h) hFc (fun r_1 u t H locs ht hvm hw hB hz hk hS => ?_)
  replace hw : r_1 = (o_X5_choose false a2 f2 p0 p1 p2 (-1)).1 := hw
  subst r_1
  obtain ⟨hP1, hD1⟩ := hB
  rw [ht] at hP1
  obtain ⟨hP, hD⟩ := va_join (wr := [(h1, eMR true hc1 a1), (hc1, eA cy f1)]) (w1 := [(h0, eM h1 h2 (o_X5_choose false a2 f2 p0 p1 p2 (-1)).2.2.2 rf kn), (h2, eMR false hc2 (o_X5_choose false a2 f2 p0 p1 p2 (-1)).2.1), (hc2, eA cy (o_X5_choose false a2 f2 p0 p1 p2 (-1)).2.2.1)]) hP hD [0, 3, 4] [1, 2] rfl rfl (by decide +kernel) (by decide +kernel) hk hFc hP1 hD1
  have hP := hP.sub (ws' := [(h0, eM h1 h2 (o_X5_choose false a2 f2 p0 p1 p2 (-1)).2.2.2 rf kn), (h1, eMR true hc1 a1), (hc1, eA cy f1), (h2, eMR false hc2 (o_X5_choose false a2 f2 p0 p1 p2 (-1)).2.1), (hc2, eA cy (o_X5_choose false a2 f2 p0 p1 p2 (-1)).2.2.1)]) [2, 0, 1, 3, 4] rfl
  have hD := hD.sub (ws' := [(h0, eM h1 h2 (o_X5_choose false a2 f2 p0 p1 p2 (-1)).2.2.2 rf kn), (h1, eMR true hc1 a1), (hc1, eA cy f1), (h2, eMR false hc2 (o_X5_choose false a2 f2 p0 p1 p2 (-1)).2.1), (hc2, eA cy (o_X5_choose false a2 f2 p0 p1 p2 (-1)).2.2.1)]) [2, 0, 1, 3, 4] (by decide +kernel) rfl
  have he : o_X5_narrowMin a2 f2 p0 p1 p2 = ((o_X5_choose false a2 f2 p0 p1 p2 (-1)).1, (o_X5_choose false a2 f2 p0 p1 p2 (-1)).2.1, (o_X5_choose false a2 f2 p0 p1 p2 (-1)).2.2.1, (o_X5_choose false a2 f2 p0 p1 p2 (-1)).2.2.2) := by (rw [o_X5_narrowMin]) <;> rfl
  refine W.widen (k := 0) (n := 0) (by omega) (by omega) ?_
  exact W.iret (v := ((o_X5_choose false a2 f2 p0 p1 p2 (-1)).1)) hx hb hr (fun t ht hW => ⟨⟨_, (), rfl, (by (rw [he]) <;> rfl), (by rw [he]; exact ⟨by rw [ht]; exact hP, hD⟩)⟩, hS.F ht⟩) hS.2.2 dX5_narrowMin_12
theorem cl_X5_narrowSum_1 : ∀ w ∈ wsX5_narrowSum_r1, w ∈ wsX5_narrowSum := fun _ h => (List.mem_cons_of_mem _ (List.mem_append_left _ (List.mem_append_left _ (List.mem_append_left _ h))))
theorem cl_X5_narrowSum_2 : ∀ w ∈ wsX5_narrowSum_r2, w ∈ wsX5_narrowSum := fun _ h => (List.mem_cons_of_mem _ (List.mem_append_left _ (List.mem_append_left _ (List.mem_append_right _ (List.mem_append_left _ h)))))
theorem cl_X5_narrowSum_3 : ∀ w ∈ wsX5_narrowSum_r3, w ∈ wsX5_narrowSum := fun _ h => (List.mem_cons_of_mem _ (List.mem_append_left _ (List.mem_append_left _ (List.mem_append_right _ (List.mem_append_right _ (List.mem_append_left _ h))))))
theorem cl_X5_narrowSum_4 : ∀ w ∈ wsX5_narrowSum_r4, w ∈ wsX5_narrowSum := fun _ h => (List.mem_cons_of_mem _ (List.mem_append_left _ (List.mem_append_left _ (List.mem_append_right _ (List.mem_append_right _ (List.mem_append_right _ h))))))
theorem cl_X5_narrowSum_5 : ∀ w ∈ wsX50, w ∈ wsX5_narrowSum := fun _ h => (List.mem_cons_of_mem _ (List.mem_append_left _ (List.mem_append_right _ h)))
theorem cl_X5_narrowSum_6 : ∀ w ∈ wsX40, w ∈ wsX5_narrowSum := fun _ h => (List.mem_cons_of_mem _ (List.mem_append_right _ h))
set_option maxRecDepth 20000 in
theorem ggX5_narrowSum_X5_sum : GoodIn wsX5_narrowSum wsX5_sum := goodIn_sub (List.forall_mem_cons.mpr ⟨(cl_X5_narrowSum_1 _ (List.mem_of_getElem? (i := 5) rfl)), fun w h => (List.mem_append.mp h).elim ((fun w h => (List.mem_append.mp h).elim ((fun w h => (List.mem_append.mp h).elim ((List.forall_mem_cons.mpr ⟨(cl_X5_narrowSum_1 _ (List.mem_of_getElem? (i := 6) rfl)), List.forall_mem_cons.mpr ⟨(cl_X5_narrowSum_1 _ (List.mem_of_getElem? (i := 7) rfl)), List.forall_mem_cons.mpr ⟨(cl_X5_narrowSum_1 _ (List.mem_of_getElem? (i := 8) rfl)), List.forall_mem_cons.mpr ⟨(cl_X5_narrowSum_1 _ (List.mem_of_getElem? (i := 4) rfl)), List.forall_mem_cons.mpr ⟨(cl_X5_narrowSum_1 _ (List.mem_of_getElem? (i := 9) rfl)), List.forall_mem_cons.mpr ⟨(cl_X5_narrowSum_1 _ (List.mem_of_getElem? (i := 10) rfl)), List.forall_mem_cons.mpr ⟨(cl_X5_narrowSum_1 _ (List.mem_of_getElem? (i := 11) rfl)), List.forall_mem_cons.mpr ⟨(cl_X5_narrowSum_1 _ (List.mem_of_getElem? (i := 12) rfl)), List.forall_mem_cons.mpr ⟨(cl_X5_narrowSum_1 _ (List.mem_of_getElem? (i := 13) rfl)), List.forall_mem_cons.mpr ⟨(cl_X5_narrowSum_1 _ (List.mem_of_getElem? (i := 14) rfl)), List.forall_mem_cons.mpr ⟨(cl_X5_narrowSum_1 _ (List.mem_of_getElem? (i := 15) rfl)), List.forall_mem_cons.mpr ⟨(cl_X5_narrowSum_1 _ (List.mem_of_getElem? (i := 16) rfl)), List.forall_mem_cons.mpr ⟨(cl_X5_narrowSum_1 _ (List.mem_of_getElem? (i := 17) rfl)), List.forall_mem_cons.mpr ⟨(cl_X5_narrowSum_1 _ (List.mem_of_getElem? (i := 18) rfl)), List.forall_mem_cons.mpr ⟨(cl_X5_narrowSum_1 _ (List.mem_of_getElem? (i := 19) rfl)), List.forall_mem_cons.mpr ⟨(cl_X5_narrowSum_1 _ (List.mem_of_getElem? (i := 20) rfl)), List.forall_mem_cons.mpr ⟨(cl_X5_narrowSum_1 _ (List.mem_of_getElem? (i := 21) rfl)), List.forall_mem_cons.mpr ⟨(cl_X5_narrowSum_1 _ (List.mem_of_getElem? (i := 22) rfl)), List.forall_mem_cons.mpr ⟨(cl_X5_narrowSum_1 _ (List.mem_of_getElem? (i := 23) rfl)), List.forall_mem_cons.mpr ⟨(cl_X5_narrowSum_2 _ (List.mem_of_getElem? (i := 0) rfl)), List.forall_mem_cons.mpr ⟨(cl_X5_narrowSum_2 _ (List.mem_of_getElem? (i := 1) rfl)), List.forall_mem_cons.mpr ⟨(cl_X5_narrowSum_2 _ (List.mem_of_getElem? (i := 2) rfl)), List.forall_mem_cons.mpr ⟨(cl_X5_narrowSum_2 _ (List.mem_of_getElem? (i := 3) rfl)), List.forall_mem_cons.mpr ⟨(cl_X5_narrowSum_2 _ (List.mem_of_getElem? (i := 4) rfl)), fun _ h => absurd h List.not_mem_nil⟩⟩⟩⟩⟩⟩⟩⟩⟩⟩⟩⟩⟩⟩⟩⟩⟩⟩⟩⟩⟩⟩⟩⟩) w) ((fun w h => (List.mem_append.mp h).elim ((List.forall_mem_cons.mpr ⟨(cl_X5_narrowSum_2 _ (List.mem_of_getElem? (i := 5) rfl)), List.forall_mem_cons.mpr ⟨(cl_X5_narrowSum_2 _ (List.mem_of_getElem? (i := 6) rfl)), List.forall_mem_cons.mpr ⟨(cl_X5_narrowSum_2 _ (List.mem_of_getElem? (i := 7) rfl)), List.forall_mem_cons.mpr ⟨(cl_X5_narrowSum_2 _ (List.mem_of_getElem? (i := 8) rfl)), List.forall_mem_cons.mpr ⟨(cl_X5_narrowSum_2 _ (List.mem_of_getElem? (i := 9) rfl)), List.forall_mem_cons.mpr ⟨(cl_X5_narrowSum_2 _ (List.mem_of_getElem? (i := 10) rfl)), List.forall_mem_cons.mpr ⟨(cl_X5_narrowSum_2 _ (List.mem_of_getElem? (i := 11) rfl)), List.forall_mem_cons.mpr ⟨(cl_X5_narrowSum_2 _ (List.mem_of_getElem? (i := 12) rfl)), List.forall_mem_cons.mpr ⟨(cl_X5_narrowSum_2 _ (List.mem_of_getElem? (i := 13) rfl)), List.forall_mem_cons.mpr ⟨(cl_X5_narrowSum_2 _ (List.mem_of_getElem? (i := 14) rfl)), List.forall_mem_cons.mpr ⟨(cl_X5_narrowSum_2 _ (List.mem_of_getElem? (i := 15) rfl)), List.forall_mem_cons.mpr ⟨(cl_X5_narrowSum_2 _ (List.mem_of_getElem? (i := 16) rfl)), List.forall_mem_cons.mpr ⟨(cl_X5_narrowSum_2 _ (List.mem_of_getElem? (i := 17) rfl)), List.forall_mem_cons.mpr ⟨(cl_X5_narrowSum_2 _ (List.mem_of_getElem? (i := 18) rfl)), List.forall_mem_cons.mpr ⟨(cl_X5_narrowSum_2 _ (List.mem_of_getElem? (i := 19) rfl)), List.forall_mem_cons.mpr ⟨(cl_X5_narrowSum_2 _ (List.mem_of_getElem? (i := 20) rfl)), List.forall_mem_cons.mpr ⟨(cl_X5_narrowSum_2 _ (List.mem_of_getElem? (i := 21) rfl)), List.forall_mem_cons.mpr ⟨(cl_X5_narrowSum_2 _ (List.mem_of_getElem? (i := 22) rfl)), List.forall_mem_cons.mpr ⟨(cl_X5_narrowSum_2 _ (List.mem_of_getElem? (i := 23) rfl)), List.forall_mem_cons.mpr ⟨(cl_X5_narrowSum_3 _ (List.mem_of_getElem? (i := 0) rfl)), List.forall_mem_cons.mpr ⟨(cl_X5_narrowSum_3 _ (List.mem_of_getElem? (i := 1) rfl)), List.forall_mem_cons.mpr ⟨(cl_X5_narrowSum_3 _ (List.mem_of_getElem? (i := 2) rfl)), List.forall_mem_cons.mpr ⟨(cl_X5_narrowSum_3 _ (List.mem_of_getElem? (i := 3) rfl)), List.forall_mem_cons.mpr ⟨(cl_X5_narrowSum_3 _ (List.mem_of_getElem? (i := 4) rfl)), fun _ h => absurd h List.not_mem_nil⟩⟩⟩⟩⟩⟩⟩⟩⟩⟩⟩⟩⟩⟩⟩⟩⟩⟩⟩⟩⟩⟩⟩⟩) w) ((fun w h => (List.mem_append.mp h).elim ((List.forall_mem_cons.mpr ⟨(cl_X5_narrowSum_3 _ (List.mem_of_getElem? (i := 5) rfl)), List.forall_mem_cons.mpr ⟨(cl_X5_narrowSum_3 _ (List.mem_of_getElem? (i := 6) rfl)), List.forall_mem_cons.mpr ⟨(cl_X5_narrowSum_3 _ (List.mem_of_getElem? (i := 7) rfl)), List.forall_mem_cons.mpr ⟨(cl_X5_narrowSum_3 _ (List.mem_of_getElem? (i := 8) rfl)), List.forall_mem_cons.mpr ⟨(cl_X5_narrowSum_3 _ (List.mem_of_getElem? (i := 9) rfl)), List.forall_mem_cons.mpr ⟨(cl_X5_narrowSum_3 _ (List.mem_of_getElem? (i := 10) rfl)), List.forall_mem_cons.mpr ⟨(cl_X5_narrowSum_3 _ (List.mem_of_getElem? (i := 11) rfl)), List.forall_mem_cons.mpr ⟨(cl_X5_narrowSum_3 _ (List.mem_of_getElem? (i := 12) rfl)), List.forall_mem_cons.mpr ⟨(cl_X5_narrowSum_3 _ (List.mem_of_getElem? (i := 13) rfl)), List.forall_mem_cons.mpr ⟨(cl_X5_narrowSum_3 _ (List.mem_of_getElem? (i := 14) rfl)), List.forall_mem_cons.mpr ⟨(cl_X5_narrowSum_3 _ (List.mem_of_getElem? (i := 15) rfl)), List.forall_mem_cons.mpr ⟨(cl_X5_narrowSum_3 _ (List.mem_of_getElem? (i := 16) rfl)), List.forall_mem_cons.mpr ⟨(cl_X5_narrowSum_3 _ (List.mem_of_getElem? (i := 17) rfl)), List.forall_mem_cons.mpr ⟨(cl_X5_narrowSum_3 _ (List.mem_of_getElem? (i := 18) rfl)), List.forall_mem_cons.mpr ⟨(cl_X5_narrowSum_3 _ (List.mem_of_getElem? (i := 19) rfl)), List.forall_mem_cons.mpr ⟨(cl_X5_narrowSum_3 _ (List.mem_of_getElem? (i := 20) rfl)), List.forall_mem_cons.mpr ⟨(cl_X5_narrowSum_3 _ (List.mem_of_getElem? (i := 21) rfl)), List.forall_mem_cons.mpr ⟨(cl_X5_narrowSum_3 _ (List.mem_of_getElem? (i := 22) rfl)), List.forall_mem_cons.mpr ⟨(cl_X5_narrowSum_3 _ (List.mem_of_getElem? (i := 23) rfl)), List.forall_mem_cons.mpr ⟨(cl_X5_narrowSum_4 _ (List.mem_of_getElem? (i := 0) rfl)), List.forall_mem_cons.mpr ⟨(cl_X5_narrowSum_4 _ (List.mem_of_getElem? (i := 1) rfl)), List.forall_mem_cons.mpr ⟨(cl_X5_narrowSum_4 _ (List.mem_of_getElem? (i := 2) rfl)), List.forall_mem_cons.mpr ⟨(cl_X5_narrowSum_4 _ (List.mem_of_getElem? (i := 3) rfl)), List.forall_mem_cons.mpr ⟨(cl_X5_narrowSum_4 _ (List.mem_of_getElem? (i := 4) rfl)), fun _ h => absurd h List.not_mem_nil⟩⟩⟩⟩⟩⟩⟩⟩⟩⟩⟩⟩⟩⟩⟩⟩⟩⟩⟩⟩⟩⟩⟩⟩) w) ((List.forall_mem_cons.mpr ⟨(cl_X5_narrowSum_4 _ (List.mem_of_getElem? (i := 5) rfl)), List.forall_mem_cons.mpr ⟨(cl_X5_narrowSum_4 _ (List.mem_of_getElem? (i := 6) rfl)), List.forall_mem_cons.mpr ⟨(cl_X5_narrowSum_4 _ (List.mem_of_getElem? (i := 7) rfl)), List.forall_mem_cons.mpr ⟨(cl_X5_narrowSum_4 _ (List.mem_of_getElem? (i := 8) rfl)), List.forall_mem_cons.mpr ⟨(cl_X5_narrowSum_4 _ (List.mem_of_getElem? (i := 9) rfl)), List.forall_mem_cons.mpr ⟨(cl_X5_narrowSum_4 _ (List.mem_of_getElem? (i := 10) rfl)), List.forall_mem_cons.mpr ⟨(cl_X5_narrowSum_4 _ (List.mem_of_getElem? (i := 11) rfl)), List.forall_mem_cons.mpr ⟨(cl_X5_narrowSum_4 _ (List.mem_of_getElem? (i := 12) rfl)), List.forall_mem_cons.mpr ⟨(cl_X5_narrowSum_4 _ (List.mem_of_getElem? (i := 13) rfl)), List.forall_mem_cons.mpr ⟨(cl_X5_narrowSum_4 _ (List.mem_of_getElem? (i := 14) rfl)), List.forall_mem_cons.mpr ⟨(cl_X5_narrowSum_4 _ (List.mem_of_getElem? (i := 15) rfl)), fun _ h => absurd h List.not_mem_nil⟩⟩⟩⟩⟩⟩⟩⟩⟩⟩⟩) w)) w)) w)) w) ((cl_X5_narrowSum_6) w)) w) ((cl_X5_narrowSum_5) w)⟩) (by decide +kernel)
set_option maxRecDepth 20000 in
theorem gX5_narrowSum_X5_sum : GoodIn wsX5_narrowSum (wsV RX5 146 RX5 yX5_sum wsX5_sum) := goodIn_app (goodIn_sub (List.forall_mem_cons.mpr ⟨(cl_X5_narrowSum_1 _ (List.mem_of_getElem? (i := 1) rfl)), List.forall_mem_cons.mpr ⟨(cl_X5_narrowSum_1 _ (List.mem_of_getElem? (i := 2) rfl)), List.forall_mem_cons.mpr ⟨(cl_X5_narrowSum_1 _ (List.mem_of_getElem? (i := 3) rfl)), List.forall_mem_cons.mpr ⟨(cl_X5_narrowSum_1 _ (List.mem_of_getElem? (i := 4) rfl)), fun _ h => absurd h List.not_mem_nil⟩⟩⟩⟩) (by decide +kernel)) ggX5_narrowSum_X5_sum
noncomputable def dz_p10_31 : List (Nat × Instr × Nat) := [(0, (.aload_n 0, 1)), (1, (.aload_n 0, 1)), (2, (.getfield 24, 3)), (5, (.iload_n 1, 1)), (6, (.iload_n 2, 1)), (7, (.iload_n 3, 1)), (8, (.invokevirtual 146, 3)), (11, (.ireturn, 1))]
theorem dy_p10_31 : dz_ok cX5_narrowSum dz_p10_31 = true := by decide +kernel
theorem dX5_narrowSum_0 : decode cX5_narrowSum 0 = .ok (.aload_n 0, 1) := dz_at (i := 0) dy_p10_31 rfl
theorem dX5_narrowSum_1 : decode cX5_narrowSum 1 = .ok (.aload_n 0, 1) := dz_at (i := 1) dy_p10_31 rfl
theorem dX5_narrowSum_2 : decode cX5_narrowSum 2 = .ok (.getfield 24, 3) := dz_at (i := 2) dy_p10_31 rfl
theorem dX5_narrowSum_5 : decode cX5_narrowSum 5 = .ok (.iload_n 1, 1) := dz_at (i := 3) dy_p10_31 rfl
theorem dX5_narrowSum_6 : decode cX5_narrowSum 6 = .ok (.iload_n 2, 1) := dz_at (i := 4) dy_p10_31 rfl
theorem dX5_narrowSum_7 : decode cX5_narrowSum 7 = .ok (.iload_n 3, 1) := dz_at (i := 5) dy_p10_31 rfl
theorem dX5_narrowSum_8 : decode cX5_narrowSum 8 = .ok (.invokevirtual 146, 3) := dz_at (i := 6) dy_p10_31 rfl
theorem dX5_narrowSum_11 : decode cX5_narrowSum 11 = .ok (.ireturn, 1) := dz_at (i := 7) dy_p10_31 rfl
noncomputable def o_X5_narrowSum (a2 : Int32) (f2 : Nat → Int64) (rf : Int32) (p0 : Int32) (p1 : Int32) (p2 : Int32) : Int32 × Int32 × (Nat → Int64) × Int32 × Int32 :=
  ((o_X5_sum false a2 f2 rf p0 p1 p2).1, (o_X5_sum false a2 f2 rf p0 p1 p2).2.1, (o_X5_sum false a2 f2 rf p0 p1 p2).2.2.1, (o_X5_sum false a2 f2 rf p0 p1 p2).2.2.2.1, (o_X5_sum false a2 f2 rf p0 p1 p2).2.2.2.2)
set_option maxHeartbeats 4000000 in
set_option maxRecDepth 100000 in
theorem k_X5_narrowSum (l : Launch) (dC : Nat → ClassId) (dI : Nat → Nat → Nat) (cy : ClassId) (h0 : Nat) (h1 : Nat) (hc1 : Nat) (h2 : Nat) (hc2 : Nat) (a1 : Int32) (f1 : Nat → Int64) (a2 : Int32) (f2 : Nat → Int64) (th : Int32) (rf : Int32) (kn : Int32) (sz : Nat) (N : Nat) (p0 : Int32) (p1 : Int32) (p2 : Int32) (hok2 : okF false f2) : Met l yX5_narrowSum wsX5_narrowSum ({ frames := 7, cells := 0, slots := 0, locals := 168 }) (va_Pc [.ref h0, .int p0, .int p1, .int p2] (xM (dC, dI) xCl [(h0, eM h1 h2 th rf kn), (h1, eMR true hc1 a1), (hc1, eA cy f1), (h2, eMR false hc2 a2), (hc2, eA cy f2)] [(cy, .long)] sz N)) (va_Qi (fun (r : Int32) (_ : Unit) => r = (o_X5_narrowSum a2 f2 rf p0 p1 p2).1) (fun _ t => xW (dC, dI) xCl [(h0, eM h1 h2 (o_X5_narrowSum a2 f2 rf p0 p1 p2).2.2.2.1 (o_X5_narrowSum a2 f2 rf p0 p1 p2).2.2.2.2 kn), (h1, eMR true hc1 a1), (hc1, eA cy f1), (h2, eMR false hc2 (o_X5_narrowSum a2 f2 rf p0 p1 p2).2.1), (hc2, eA cy (o_X5_narrowSum a2 f2 rf p0 p1 p2).2.2.1)] (va_A [(h0, eM h1 h2 th rf kn), (h1, eMR true hc1 a1), (hc1, eA cy f1), (h2, eMR false hc2 a2), (hc2, eA cy f2)] sz) t) (va_A [(h0, eM h1 h2 th rf kn), (h1, eMR true hc1 a1), (hc1, eA cy f1), (h2, eMR false hc2 a2), (hc2, eA cy f2)] sz)) 0 0 (va_A [(h0, eM h1 h2 th rf kn), (h1, eMR true hc1 a1), (hc1, eA cy f1), (h2, eMR false hc2 a2), (hc2, eA cy f2)] sz) := by
  refine Met.ofW (cc := cX5_narrowSum) (maxL := 4) (ret := (some .int)) (by decide +kernel) rfl ?_
  intro p e s m args below meth c s₁ B hml hv
  obtain ⟨rfl, hsz, hP, hK, hD0, hN, hG⟩ := hv
  have hx := B.exec
  have hb := B.bytes
  have hr := B.returns
  have hts := atoms_spec (ws := wsX5_narrowSum) B.pre
  have hown : s.vm.findClass RX5 = some m.cls := findClass_of_methodNamed B.named
  have hlocks := B.notSynchronized
  subst hsz
  have hAN : ∀ q, va_A [(h0, eM h1 h2 th rf kn), (h1, eMR true hc1 a1), (hc1, eA cy f1), (h2, eMR false hc2 a2), (hc2, eA cy f2)] s.heap.size q → N ≤ q := xA_N hD0 hN
  have hD := hD0.self (sz := s.heap.size)
  generalize hAe : va_A [(h0, eM h1 h2 th rf kn), (h1, eMR true hc1 a1), (hc1, eA cy f1), (h2, eMR false hc2 a2), (hc2, eA cy f2)] s.heap.size = A at hD hAN ⊢
  have hA : ∀ q : Nat, s.heap.size ≤ q → A q := fun q h => by rw [← hAe]; exact Or.inr h
  have hS : va_S A s.heap s.heap [] := va_S.rf
  have hP : va_P (dC, dI) xCl [(h0, eM h1 h2 th rf kn), (h1, eMR true hc1 a1), (hc1, eA cy f1), (h2, eMR false hc2 a2), (hc2, eA cy f2)] s.heap := hP
  have hl := lv_entry ([.ref h0, .int p0, .int p1, .int p2]) (n := 4) (Nat.le_of_ble_eq_true rfl)
  rw [lg_entry_eq]
  generalize (lg_sl ([.ref h0, .int p0, .int p1, .int p2]) ++ List.replicate (4 - (lg_sl ([.ref h0, .int p0, .int p1, .int p2])).length) Slot.unset).toArray = ls at hl ⊢
  have hl : lv_has ls 4 [(0, .ref h0), (1, .int p0), (2, .int p1), (3, .int p2)] := hl
  refine lv_aload_n hx hb dX5_narrowSum_0 rfl (lv_at hl 0 rfl) ?_
  refine lv_aload_n hx hb dX5_narrowSum_1 rfl (lv_at hl 0 rfl) ?_
  refine va_get (D := (dC, dI)) (ci := 7) (v := .ref h2) (C := RX5) (T := TX5) (N := 5) hx hb hts (by decide +kernel) hown hK hP 0 rfl rfl 1 (by decide +kernel) (hts (.fieldLink RX5 24 "EdgefloatsModel" "narrow" "LEdgefloatsModel$Row;") (by decide +kernel)) (fun _ h9 => h9) rfl dX5_narrowSum_2 ?_
  refine lv_iload_n hx hb dX5_narrowSum_5 rfl (lv_at hl 1 rfl) ?_
  refine lv_iload_n hx hb dX5_narrowSum_6 rfl (lv_at hl 2 rfl) ?_
  refine lv_iload_n hx hb dX5_narrowSum_7 rfl (lv_at hl 3 rfl) ?_
  have hPc := hP.sub (ws' := [(h0, eM h1 h2 th rf kn), (h2, eMR false hc2 a2), (hc2, eA cy f2)]) [0, 3, 4] rfl
  have hDc := hD.sub (ws' := [(h0, eM h1 h2 th rf kn), (h2, eMR false hc2 a2), (hc2, eA cy f2)]) [0, 3, 4] (by decide +kernel) rfl
  have hKc := hK.sub (tys' := [(cy, .long)]) [0] rfl
  have hFc := va_free (wc := [(h0, eM h1 h2 th rf kn), (h2, eMR false hc2 a2), (hc2, eA cy f2)]) hD hS hA [0, 3, 4] rfl
  refine va_calli (va_runV (As := [.ref h2, .int p0, .int p1, .int p2]) (rest := []) ⟨hx, hb, hml, hown, hts⟩ (k_X5_sum l dC dI cy h0 h1 h2 h2 hc2 false a2 f2 th rf kn s.heap.size N p0 p1 p2 hok2) (cwV 4 hts gX5_narrowSum_X5_sum rfl rfl rfl (by decide +kernel) ⟨Nat.le_of_ble_eq_true rfl, Nat.le_of_ble_eq_true rfl⟩) (xM.preV hKc hPc hDc hAN (Nat.le_trans hN hS.1) (hG.kept hS hAN) (ci := 7) (q0 := 0) rfl rfl) rfl rfl hl.1 rfl (lv_room (Nat.le_of_ble_eq_true rfl)) dX5_narrowSum_8 ⟨Nat.le_of_ble_eq_true rfl, Nat.le_of_ble_eq_true rfl⟩) hS (fun q _ h => hFc q h) hFc (fun r_1 u t H locs ht hvm hw hB hz hk hS => ?_)
  replace hw : r_1 = (o_X5_sum false a2 f2 rf p0 p1 p2).1 := hw
  subst r_1
  obtain ⟨hP1, hD1⟩ := hB
  rw [ht] at hP1
  obtain ⟨hP, hD⟩ := va_join (wr := [(h1, eMR true hc1 a1), (hc1, eA cy f1)]) (w1 := [(h0, eM h1 h2 (o_X5_sum false a2 f2 rf p0 p1 p2).2.2.2.1 (o_X5_sum false a2 f2 rf p0 p1 p2).2.2.2.2 kn), (h2, eMR false hc2 (o_X5_sum false a2 f2 rf p0 p1 p2).2.1), (hc2, eA cy (o_X5_sum false a2 f2 rf p0 p1 p2).2.2.1)]) hP hD [0, 3, 4] [1, 2] rfl rfl (by decide +kernel) (by decide +kernel) hk hFc hP1 hD1
  have hP := hP.sub (ws' := [(h0, eM h1 h2 (o_X5_sum false a2 f2 rf p0 p1 p2).2.2.2.1 (o_X5_sum false a2 f2 rf p0 p1 p2).2.2.2.2 kn), (h1, eMR true hc1 a1), (hc1, eA cy f1), (h2, eMR false hc2 (o_X5_sum false a2 f2 rf p0 p1 p2).2.1), (hc2, eA cy (o_X5_sum false a2 f2 rf p0 p1 p2).2.2.1)]) [2, 0, 1, 3, 4] rfl
  have hD := hD.sub (ws' := [(h0, eM h1 h2 (o_X5_sum false a2 f2 rf p0 p1 p2).2.2.2.1 (o_X5_sum false a2 f2 rf p0 p1 p2).2.2.2.2 kn), (h1, eMR true hc1 a1), (hc1, eA cy f1), (h2, eMR false hc2 (o_X5_sum false a2 f2 rf p0 p1 p2).2.1), (hc2, eA cy (o_X5_sum false a2 f2 rf p0 p1 p2).2.2.1)]) [2, 0, 1, 3, 4] (by decide +kernel) rfl
  have he : o_X5_narrowSum a2 f2 rf p0 p1 p2 = ((o_X5_sum false a2 f2 rf p0 p1 p2).1, (o_X5_sum false a2 f2 rf p0 p1 p2).2.1, (o_X5_sum false a2 f2 rf p0 p1 p2).2.2.1, (o_X5_sum false a2 f2 rf p0 p1 p2).2.2.2.1, (o_X5_sum false a2 f2 rf p0 p1 p2).2.2.2.2) := by (rw [o_X5_narrowSum]) <;> rfl
  refine W.widen (k := 0) (n := 0) (by omega) (by omega) ?_
  exact W.iret (v := ((o_X5_sum false a2 f2 rf p0 p1 p2).1)) hx hb hr (fun t ht hW => ⟨⟨_, (), rfl, (by (rw [he]) <;> rfl), (by rw [he]; exact ⟨by rw [ht]; exact hP, hD⟩)⟩, hS.F ht⟩) hS.2.2 dX5_narrowSum_11
theorem cl_X5_narrowSort_1 : ∀ w ∈ wsX5_narrowSort_r1, w ∈ wsX5_narrowSort := fun _ h => (List.mem_cons_of_mem _ (List.mem_append_left _ (List.mem_append_left _ (List.mem_append_left _ h))))
theorem cl_X5_narrowSort_2 : ∀ w ∈ wsX5_narrowSort_r2, w ∈ wsX5_narrowSort := fun _ h => (List.mem_cons_of_mem _ (List.mem_append_left _ (List.mem_append_left _ (List.mem_append_right _ h))))
theorem cl_X5_narrowSort_3 : ∀ w ∈ wsX50, w ∈ wsX5_narrowSort := fun _ h => (List.mem_cons_of_mem _ (List.mem_append_left _ (List.mem_append_right _ h)))
theorem cl_X5_narrowSort_4 : ∀ w ∈ wsX40, w ∈ wsX5_narrowSort := fun _ h => (List.mem_cons_of_mem _ (List.mem_append_right _ h))
set_option maxRecDepth 20000 in
theorem ggX5_narrowSort_X5_sort : GoodIn wsX5_narrowSort wsX5_sort := goodIn_sub (List.forall_mem_cons.mpr ⟨(cl_X5_narrowSort_1 _ (List.mem_of_getElem? (i := 5) rfl)), fun w h => (List.mem_append.mp h).elim ((fun w h => (List.mem_append.mp h).elim ((fun w h => (List.mem_append.mp h).elim ((List.forall_mem_cons.mpr ⟨(cl_X5_narrowSort_1 _ (List.mem_of_getElem? (i := 6) rfl)), List.forall_mem_cons.mpr ⟨(cl_X5_narrowSort_1 _ (List.mem_of_getElem? (i := 7) rfl)), List.forall_mem_cons.mpr ⟨(cl_X5_narrowSort_1 _ (List.mem_of_getElem? (i := 4) rfl)), List.forall_mem_cons.mpr ⟨(cl_X5_narrowSort_1 _ (List.mem_of_getElem? (i := 8) rfl)), List.forall_mem_cons.mpr ⟨(cl_X5_narrowSort_1 _ (List.mem_of_getElem? (i := 9) rfl)), List.forall_mem_cons.mpr ⟨(cl_X5_narrowSort_1 _ (List.mem_of_getElem? (i := 10) rfl)), List.forall_mem_cons.mpr ⟨(cl_X5_narrowSort_1 _ (List.mem_of_getElem? (i := 11) rfl)), List.forall_mem_cons.mpr ⟨(cl_X5_narrowSort_1 _ (List.mem_of_getElem? (i := 12) rfl)), List.forall_mem_cons.mpr ⟨(cl_X5_narrowSort_1 _ (List.mem_of_getElem? (i := 13) rfl)), List.forall_mem_cons.mpr ⟨(cl_X5_narrowSort_1 _ (List.mem_of_getElem? (i := 14) rfl)), List.forall_mem_cons.mpr ⟨(cl_X5_narrowSort_1 _ (List.mem_of_getElem? (i := 15) rfl)), List.forall_mem_cons.mpr ⟨(cl_X5_narrowSort_1 _ (List.mem_of_getElem? (i := 16) rfl)), List.forall_mem_cons.mpr ⟨(cl_X5_narrowSort_1 _ (List.mem_of_getElem? (i := 17) rfl)), List.forall_mem_cons.mpr ⟨(cl_X5_narrowSort_1 _ (List.mem_of_getElem? (i := 18) rfl)), List.forall_mem_cons.mpr ⟨(cl_X5_narrowSort_1 _ (List.mem_of_getElem? (i := 19) rfl)), List.forall_mem_cons.mpr ⟨(cl_X5_narrowSort_1 _ (List.mem_of_getElem? (i := 20) rfl)), List.forall_mem_cons.mpr ⟨(cl_X5_narrowSort_1 _ (List.mem_of_getElem? (i := 21) rfl)), List.forall_mem_cons.mpr ⟨(cl_X5_narrowSort_1 _ (List.mem_of_getElem? (i := 22) rfl)), List.forall_mem_cons.mpr ⟨(cl_X5_narrowSort_1 _ (List.mem_of_getElem? (i := 23) rfl)), List.forall_mem_cons.mpr ⟨(cl_X5_narrowSort_2 _ (List.mem_of_getElem? (i := 0) rfl)), List.forall_mem_cons.mpr ⟨(cl_X5_narrowSort_2 _ (List.mem_of_getElem? (i := 1) rfl)), List.forall_mem_cons.mpr ⟨(cl_X5_narrowSort_2 _ (List.mem_of_getElem? (i := 2) rfl)), List.forall_mem_cons.mpr ⟨(cl_X5_narrowSort_2 _ (List.mem_of_getElem? (i := 3) rfl)), List.forall_mem_cons.mpr ⟨(cl_X5_narrowSort_2 _ (List.mem_of_getElem? (i := 4) rfl)), fun _ h => absurd h List.not_mem_nil⟩⟩⟩⟩⟩⟩⟩⟩⟩⟩⟩⟩⟩⟩⟩⟩⟩⟩⟩⟩⟩⟩⟩⟩) w) ((List.forall_mem_cons.mpr ⟨(cl_X5_narrowSort_2 _ (List.mem_of_getElem? (i := 5) rfl)), List.forall_mem_cons.mpr ⟨(cl_X5_narrowSort_2 _ (List.mem_of_getElem? (i := 6) rfl)), List.forall_mem_cons.mpr ⟨(cl_X5_narrowSort_2 _ (List.mem_of_getElem? (i := 7) rfl)), List.forall_mem_cons.mpr ⟨(cl_X5_narrowSort_2 _ (List.mem_of_getElem? (i := 8) rfl)), List.forall_mem_cons.mpr ⟨(cl_X5_narrowSort_2 _ (List.mem_of_getElem? (i := 9) rfl)), List.forall_mem_cons.mpr ⟨(cl_X5_narrowSort_2 _ (List.mem_of_getElem? (i := 10) rfl)), List.forall_mem_cons.mpr ⟨(cl_X5_narrowSort_2 _ (List.mem_of_getElem? (i := 11) rfl)), List.forall_mem_cons.mpr ⟨(cl_X5_narrowSort_2 _ (List.mem_of_getElem? (i := 12) rfl)), List.forall_mem_cons.mpr ⟨(cl_X5_narrowSort_2 _ (List.mem_of_getElem? (i := 13) rfl)), List.forall_mem_cons.mpr ⟨(cl_X5_narrowSort_2 _ (List.mem_of_getElem? (i := 14) rfl)), List.forall_mem_cons.mpr ⟨(cl_X5_narrowSort_2 _ (List.mem_of_getElem? (i := 15) rfl)), List.forall_mem_cons.mpr ⟨(cl_X5_narrowSort_2 _ (List.mem_of_getElem? (i := 16) rfl)), List.forall_mem_cons.mpr ⟨(cl_X5_narrowSort_2 _ (List.mem_of_getElem? (i := 17) rfl)), List.forall_mem_cons.mpr ⟨(cl_X5_narrowSort_2 _ (List.mem_of_getElem? (i := 18) rfl)), List.forall_mem_cons.mpr ⟨(cl_X5_narrowSort_2 _ (List.mem_of_getElem? (i := 19) rfl)), List.forall_mem_cons.mpr ⟨(cl_X5_narrowSort_2 _ (List.mem_of_getElem? (i := 20) rfl)), fun _ h => absurd h List.not_mem_nil⟩⟩⟩⟩⟩⟩⟩⟩⟩⟩⟩⟩⟩⟩⟩⟩) w)) w) ((cl_X5_narrowSort_3) w)) w) ((cl_X5_narrowSort_4) w)⟩) (by decide +kernel)
set_option maxRecDepth 20000 in
theorem gX5_narrowSort_X5_sort : GoodIn wsX5_narrowSort (wsV RX5 149 RX5 yX5_sort wsX5_sort) := goodIn_app (goodIn_sub (List.forall_mem_cons.mpr ⟨(cl_X5_narrowSort_1 _ (List.mem_of_getElem? (i := 1) rfl)), List.forall_mem_cons.mpr ⟨(cl_X5_narrowSort_1 _ (List.mem_of_getElem? (i := 2) rfl)), List.forall_mem_cons.mpr ⟨(cl_X5_narrowSort_1 _ (List.mem_of_getElem? (i := 3) rfl)), List.forall_mem_cons.mpr ⟨(cl_X5_narrowSort_1 _ (List.mem_of_getElem? (i := 4) rfl)), fun _ h => absurd h List.not_mem_nil⟩⟩⟩⟩) (by decide +kernel)) ggX5_narrowSort_X5_sort
noncomputable def dz_p10_32 : List (Nat × Instr × Nat) := [(0, (.aload_n 0, 1)), (1, (.aload_n 0, 1)), (2, (.getfield 24, 3)), (5, (.iload_n 1, 1)), (6, (.invokevirtual 149, 3)), (9, (.ireturn, 1))]
theorem dy_p10_32 : dz_ok cX5_narrowSort dz_p10_32 = true := by decide +kernel
theorem dX5_narrowSort_0 : decode cX5_narrowSort 0 = .ok (.aload_n 0, 1) := dz_at (i := 0) dy_p10_32 rfl
theorem dX5_narrowSort_1 : decode cX5_narrowSort 1 = .ok (.aload_n 0, 1) := dz_at (i := 1) dy_p10_32 rfl
theorem dX5_narrowSort_2 : decode cX5_narrowSort 2 = .ok (.getfield 24, 3) := dz_at (i := 2) dy_p10_32 rfl
theorem dX5_narrowSort_5 : decode cX5_narrowSort 5 = .ok (.iload_n 1, 1) := dz_at (i := 3) dy_p10_32 rfl
theorem dX5_narrowSort_6 : decode cX5_narrowSort 6 = .ok (.invokevirtual 149, 3) := dz_at (i := 4) dy_p10_32 rfl
theorem dX5_narrowSort_9 : decode cX5_narrowSort 9 = .ok (.ireturn, 1) := dz_at (i := 5) dy_p10_32 rfl
noncomputable def o_X5_narrowSort (a2 : Int32) (f2 : Nat → Int64) (p0 : Int32) : Int32 × Int32 × (Nat → Int64) × Int32 :=
  ((o_X5_sort false a2 f2 p0).1, (o_X5_sort false a2 f2 p0).2.1, (o_X5_sort false a2 f2 p0).2.2.1, (o_X5_sort false a2 f2 p0).2.2.2)
set_option maxHeartbeats 4000000 in
set_option maxRecDepth 100000 in
theorem k_X5_narrowSort (l : Launch) (dC : Nat → ClassId) (dI : Nat → Nat → Nat) (cy : ClassId) (h0 : Nat) (h1 : Nat) (hc1 : Nat) (h2 : Nat) (hc2 : Nat) (a1 : Int32) (f1 : Nat → Int64) (a2 : Int32) (f2 : Nat → Int64) (th : Int32) (rf : Int32) (kn : Int32) (sz : Nat) (N : Nat) (p0 : Int32) : Met l yX5_narrowSort wsX5_narrowSort ({ frames := 6, cells := 1, slots := 8, locals := 135 }) (va_Pc [.ref h0, .int p0] (xM (dC, dI) xCl [(h0, eM h1 h2 th rf kn), (h1, eMR true hc1 a1), (hc1, eA cy f1), (h2, eMR false hc2 a2), (hc2, eA cy f2)] [(cy, .long)] sz N)) (va_Qi (fun (r : Int32) (_ : Unit) => r = (o_X5_narrowSort a2 f2 p0).1) (fun _ t => xW (dC, dI) xCl [(h0, eM h1 h2 (o_X5_narrowSort a2 f2 p0).2.2.2 rf kn), (h1, eMR true hc1 a1), (hc1, eA cy f1), (h2, eMR false hc2 (o_X5_narrowSort a2 f2 p0).2.1), (hc2, eA cy (o_X5_narrowSort a2 f2 p0).2.2.1)] (va_A [(h0, eM h1 h2 th rf kn), (h1, eMR true hc1 a1), (hc1, eA cy f1), (h2, eMR false hc2 a2), (hc2, eA cy f2)] sz) t) (va_A [(h0, eM h1 h2 th rf kn), (h1, eMR true hc1 a1), (hc1, eA cy f1), (h2, eMR false hc2 a2), (hc2, eA cy f2)] sz)) 1 8 (va_A [(h0, eM h1 h2 th rf kn), (h1, eMR true hc1 a1), (hc1, eA cy f1), (h2, eMR false hc2 a2), (hc2, eA cy f2)] sz) := by
  refine Met.ofW (cc := cX5_narrowSort) (maxL := 2) (ret := (some .int)) (by decide +kernel) rfl ?_
  intro p e s m args below meth c s₁ B hml hv
  obtain ⟨rfl, hsz, hP, hK, hD0, hN, hG⟩ := hv
  have hx := B.exec
  have hb := B.bytes
  have hr := B.returns
  have hts := atoms_spec (ws := wsX5_narrowSort) B.pre
  have hown : s.vm.findClass RX5 = some m.cls := findClass_of_methodNamed B.named
  have hlocks := B.notSynchronized
  subst hsz
  have hAN : ∀ q, va_A [(h0, eM h1 h2 th rf kn), (h1, eMR true hc1 a1), (hc1, eA cy f1), (h2, eMR false hc2 a2), (hc2, eA cy f2)] s.heap.size q → N ≤ q := xA_N hD0 hN
  have hD := hD0.self (sz := s.heap.size)
  generalize hAe : va_A [(h0, eM h1 h2 th rf kn), (h1, eMR true hc1 a1), (hc1, eA cy f1), (h2, eMR false hc2 a2), (hc2, eA cy f2)] s.heap.size = A at hD hAN ⊢
  have hA : ∀ q : Nat, s.heap.size ≤ q → A q := fun q h => by rw [← hAe]; exact Or.inr h
  have hS : va_S A s.heap s.heap [] := va_S.rf
  have hP : va_P (dC, dI) xCl [(h0, eM h1 h2 th rf kn), (h1, eMR true hc1 a1), (hc1, eA cy f1), (h2, eMR false hc2 a2), (hc2, eA cy f2)] s.heap := hP
  have hl := lv_entry ([.ref h0, .int p0]) (n := 2) (Nat.le_of_ble_eq_true rfl)
  rw [lg_entry_eq]
  generalize (lg_sl ([.ref h0, .int p0]) ++ List.replicate (2 - (lg_sl ([.ref h0, .int p0])).length) Slot.unset).toArray = ls at hl ⊢
  have hl : lv_has ls 2 [(0, .ref h0), (1, .int p0)] := hl
  refine lv_aload_n hx hb dX5_narrowSort_0 rfl (lv_at hl 0 rfl) ?_
  refine lv_aload_n hx hb dX5_narrowSort_1 rfl (lv_at hl 0 rfl) ?_
  refine va_get (D := (dC, dI)) (ci := 7) (v := .ref h2) (C := RX5) (T := TX5) (N := 5) hx hb hts (by decide +kernel) hown hK hP 0 rfl rfl 1 (by decide +kernel) (hts (.fieldLink RX5 24 "EdgefloatsModel" "narrow" "LEdgefloatsModel$Row;") (by decide +kernel)) (fun _ h9 => h9) rfl dX5_narrowSort_2 ?_
  refine lv_iload_n hx hb dX5_narrowSort_5 rfl (lv_at hl 1 rfl) ?_
  have hPc := hP.sub (ws' := [(h0, eM h1 h2 th rf kn), (h2, eMR false hc2 a2), (hc2, eA cy f2)]) [0, 3, 4] rfl
  have hDc := hD.sub (ws' := [(h0, eM h1 h2 th rf kn), (h2, eMR false hc2 a2), (hc2, eA cy f2)]) [0, 3, 4] (by decide +kernel) rfl
  have hKc := hK.sub (tys' := [(cy, .long)]) [0] rfl
  have hFc := va_free (wc := [(h0, eM h1 h2 th rf kn), (h2, eMR false hc2 a2), (hc2, eA cy f2)]) hD hS hA [0, 3, 4] rfl
  refine va_calli (va_runV (As := [.ref h2, .int p0]) (rest := []) ⟨hx, hb, hml, hown, hts⟩ (k_X5_sort l dC dI cy h0 h1 h2 h2 hc2 false a2 f2 th rf kn s.heap.size N p0) (cwV 2 hts gX5_narrowSort_X5_sort rfl rfl rfl (by decide +kernel) ⟨Nat.le_of_ble_eq_true rfl, Nat.le_of_ble_eq_true rfl⟩) (xM.preV hKc hPc hDc hAN (Nat.le_trans hN hS.1) (hG.kept hS hAN) (ci := 7) (q0 := 0) rfl rfl) rfl rfl hl.1 rfl (lv_room (Nat.le_of_ble_eq_true rfl)) dX5_narrowSort_6 ⟨Nat.le_of_ble_eq_true rfl, Nat.le_of_ble_eq_true rfl⟩) hS (fun q _ h => hFc q h) hFc (fun r_1 u t H locs ht hvm hw hB hz hk hS => ?_)
  replace hw : r_1 = (o_X5_sort false a2 f2 p0).1 := hw
  subst r_1
  obtain ⟨hP1, hD1⟩ := hB
  rw [ht] at hP1
  obtain ⟨hP, hD⟩ := va_join (wr := [(h1, eMR true hc1 a1), (hc1, eA cy f1)]) (w1 := [(h0, eM h1 h2 (o_X5_sort false a2 f2 p0).2.2.2 rf kn), (h2, eMR false hc2 (o_X5_sort false a2 f2 p0).2.1), (hc2, eA cy (o_X5_sort false a2 f2 p0).2.2.1)]) hP hD [0, 3, 4] [1, 2] rfl rfl (by decide +kernel) (by decide +kernel) hk hFc hP1 hD1
  have hP := hP.sub (ws' := [(h0, eM h1 h2 (o_X5_sort false a2 f2 p0).2.2.2 rf kn), (h1, eMR true hc1 a1), (hc1, eA cy f1), (h2, eMR false hc2 (o_X5_sort false a2 f2 p0).2.1), (hc2, eA cy (o_X5_sort false a2 f2 p0).2.2.1)]) [2, 0, 1, 3, 4] rfl
  have hD := hD.sub (ws' := [(h0, eM h1 h2 (o_X5_sort false a2 f2 p0).2.2.2 rf kn), (h1, eMR true hc1 a1), (hc1, eA cy f1), (h2, eMR false hc2 (o_X5_sort false a2 f2 p0).2.1), (hc2, eA cy (o_X5_sort false a2 f2 p0).2.2.1)]) [2, 0, 1, 3, 4] (by decide +kernel) rfl
  have he : o_X5_narrowSort a2 f2 p0 = ((o_X5_sort false a2 f2 p0).1, (o_X5_sort false a2 f2 p0).2.1, (o_X5_sort false a2 f2 p0).2.2.1, (o_X5_sort false a2 f2 p0).2.2.2) := by (rw [o_X5_narrowSort]) <;> rfl
  refine W.widen (k := 1) (n := 8) (by omega) (by omega) ?_
  exact W.iret (v := ((o_X5_sort false a2 f2 p0).1)) hx hb hr (fun t ht hW => ⟨⟨_, (), rfl, (by (rw [he]) <;> rfl), (by rw [he]; exact ⟨by rw [ht]; exact hP, hD⟩)⟩, hS.F ht⟩) hS.2.2 dX5_narrowSort_9
theorem cl_X5_narrowEnd_1 : ∀ w ∈ wsX5_narrowEnd_r1, w ∈ wsX5_narrowEnd := fun _ h => (List.mem_cons_of_mem _ (List.mem_append_left _ (List.mem_append_left _ (List.mem_append_left _ h))))
theorem cl_X5_narrowEnd_2 : ∀ w ∈ wsX5_narrowEnd_r2, w ∈ wsX5_narrowEnd := fun _ h => (List.mem_cons_of_mem _ (List.mem_append_left _ (List.mem_append_left _ (List.mem_append_right _ (List.mem_append_left _ h)))))
theorem cl_X5_narrowEnd_3 : ∀ w ∈ wsX5_narrowEnd_r3, w ∈ wsX5_narrowEnd := fun _ h => (List.mem_cons_of_mem _ (List.mem_append_left _ (List.mem_append_left _ (List.mem_append_right _ (List.mem_append_right _ h)))))
theorem cl_X5_narrowEnd_4 : ∀ w ∈ wsX50, w ∈ wsX5_narrowEnd := fun _ h => (List.mem_cons_of_mem _ (List.mem_append_left _ (List.mem_append_right _ h)))
theorem cl_X5_narrowEnd_5 : ∀ w ∈ wsX40, w ∈ wsX5_narrowEnd := fun _ h => (List.mem_cons_of_mem _ (List.mem_append_right _ h))
set_option maxRecDepth 20000 in
theorem ggX5_narrowEnd_X5_end : GoodIn wsX5_narrowEnd wsX5_end := goodIn_sub (List.forall_mem_cons.mpr ⟨(cl_X5_narrowEnd_1 _ (List.mem_of_getElem? (i := 5) rfl)), fun w h => (List.mem_append.mp h).elim ((fun w h => (List.mem_append.mp h).elim ((fun w h => (List.mem_append.mp h).elim ((List.forall_mem_cons.mpr ⟨(cl_X5_narrowEnd_1 _ (List.mem_of_getElem? (i := 6) rfl)), List.forall_mem_cons.mpr ⟨(cl_X5_narrowEnd_1 _ (List.mem_of_getElem? (i := 7) rfl)), List.forall_mem_cons.mpr ⟨(cl_X5_narrowEnd_1 _ (List.mem_of_getElem? (i := 4) rfl)), List.forall_mem_cons.mpr ⟨(cl_X5_narrowEnd_1 _ (List.mem_of_getElem? (i := 8) rfl)), List.forall_mem_cons.mpr ⟨(cl_X5_narrowEnd_1 _ (List.mem_of_getElem? (i := 9) rfl)), List.forall_mem_cons.mpr ⟨(cl_X5_narrowEnd_1 _ (List.mem_of_getElem? (i := 10) rfl)), List.forall_mem_cons.mpr ⟨(cl_X5_narrowEnd_1 _ (List.mem_of_getElem? (i := 11) rfl)), List.forall_mem_cons.mpr ⟨(cl_X5_narrowEnd_1 _ (List.mem_of_getElem? (i := 12) rfl)), List.forall_mem_cons.mpr ⟨(cl_X5_narrowEnd_1 _ (List.mem_of_getElem? (i := 13) rfl)), List.forall_mem_cons.mpr ⟨(cl_X5_narrowEnd_1 _ (List.mem_of_getElem? (i := 14) rfl)), List.forall_mem_cons.mpr ⟨(cl_X5_narrowEnd_1 _ (List.mem_of_getElem? (i := 15) rfl)), List.forall_mem_cons.mpr ⟨(cl_X5_narrowEnd_1 _ (List.mem_of_getElem? (i := 16) rfl)), List.forall_mem_cons.mpr ⟨(cl_X5_narrowEnd_1 _ (List.mem_of_getElem? (i := 17) rfl)), List.forall_mem_cons.mpr ⟨(cl_X5_narrowEnd_1 _ (List.mem_of_getElem? (i := 18) rfl)), List.forall_mem_cons.mpr ⟨(cl_X5_narrowEnd_1 _ (List.mem_of_getElem? (i := 19) rfl)), List.forall_mem_cons.mpr ⟨(cl_X5_narrowEnd_1 _ (List.mem_of_getElem? (i := 20) rfl)), List.forall_mem_cons.mpr ⟨(cl_X5_narrowEnd_1 _ (List.mem_of_getElem? (i := 21) rfl)), List.forall_mem_cons.mpr ⟨(cl_X5_narrowEnd_1 _ (List.mem_of_getElem? (i := 22) rfl)), List.forall_mem_cons.mpr ⟨(cl_X5_narrowEnd_1 _ (List.mem_of_getElem? (i := 23) rfl)), List.forall_mem_cons.mpr ⟨(cl_X5_narrowEnd_2 _ (List.mem_of_getElem? (i := 0) rfl)), List.forall_mem_cons.mpr ⟨(cl_X5_narrowEnd_2 _ (List.mem_of_getElem? (i := 1) rfl)), List.forall_mem_cons.mpr ⟨(cl_X5_narrowEnd_2 _ (List.mem_of_getElem? (i := 2) rfl)), List.forall_mem_cons.mpr ⟨(cl_X5_narrowEnd_2 _ (List.mem_of_getElem? (i := 3) rfl)), List.forall_mem_cons.mpr ⟨(cl_X5_narrowEnd_2 _ (List.mem_of_getElem? (i := 4) rfl)), fun _ h => absurd h List.not_mem_nil⟩⟩⟩⟩⟩⟩⟩⟩⟩⟩⟩⟩⟩⟩⟩⟩⟩⟩⟩⟩⟩⟩⟩⟩) w) ((List.forall_mem_cons.mpr ⟨(cl_X5_narrowEnd_2 _ (List.mem_of_getElem? (i := 5) rfl)), List.forall_mem_cons.mpr ⟨(cl_X5_narrowEnd_2 _ (List.mem_of_getElem? (i := 6) rfl)), List.forall_mem_cons.mpr ⟨(cl_X5_narrowEnd_2 _ (List.mem_of_getElem? (i := 7) rfl)), List.forall_mem_cons.mpr ⟨(cl_X5_narrowEnd_2 _ (List.mem_of_getElem? (i := 8) rfl)), List.forall_mem_cons.mpr ⟨(cl_X5_narrowEnd_2 _ (List.mem_of_getElem? (i := 9) rfl)), List.forall_mem_cons.mpr ⟨(cl_X5_narrowEnd_2 _ (List.mem_of_getElem? (i := 10) rfl)), List.forall_mem_cons.mpr ⟨(cl_X5_narrowEnd_2 _ (List.mem_of_getElem? (i := 11) rfl)), List.forall_mem_cons.mpr ⟨(cl_X5_narrowEnd_2 _ (List.mem_of_getElem? (i := 12) rfl)), List.forall_mem_cons.mpr ⟨(cl_X5_narrowEnd_2 _ (List.mem_of_getElem? (i := 13) rfl)), List.forall_mem_cons.mpr ⟨(cl_X5_narrowEnd_2 _ (List.mem_of_getElem? (i := 14) rfl)), List.forall_mem_cons.mpr ⟨(cl_X5_narrowEnd_2 _ (List.mem_of_getElem? (i := 15) rfl)), List.forall_mem_cons.mpr ⟨(cl_X5_narrowEnd_2 _ (List.mem_of_getElem? (i := 16) rfl)), List.forall_mem_cons.mpr ⟨(cl_X5_narrowEnd_2 _ (List.mem_of_getElem? (i := 17) rfl)), List.forall_mem_cons.mpr ⟨(cl_X5_narrowEnd_2 _ (List.mem_of_getElem? (i := 18) rfl)), List.forall_mem_cons.mpr ⟨(cl_X5_narrowEnd_2 _ (List.mem_of_getElem? (i := 19) rfl)), List.forall_mem_cons.mpr ⟨(cl_X5_narrowEnd_2 _ (List.mem_of_getElem? (i := 20) rfl)), List.forall_mem_cons.mpr ⟨(cl_X5_narrowEnd_2 _ (List.mem_of_getElem? (i := 21) rfl)), List.forall_mem_cons.mpr ⟨(cl_X5_narrowEnd_2 _ (List.mem_of_getElem? (i := 22) rfl)), List.forall_mem_cons.mpr ⟨(cl_X5_narrowEnd_2 _ (List.mem_of_getElem? (i := 23) rfl)), List.forall_mem_cons.mpr ⟨(cl_X5_narrowEnd_3 _ (List.mem_of_getElem? (i := 0) rfl)), List.forall_mem_cons.mpr ⟨(cl_X5_narrowEnd_3 _ (List.mem_of_getElem? (i := 1) rfl)), List.forall_mem_cons.mpr ⟨(cl_X5_narrowEnd_3 _ (List.mem_of_getElem? (i := 2) rfl)), fun _ h => absurd h List.not_mem_nil⟩⟩⟩⟩⟩⟩⟩⟩⟩⟩⟩⟩⟩⟩⟩⟩⟩⟩⟩⟩⟩⟩) w)) w) ((cl_X5_narrowEnd_4) w)) w) ((cl_X5_narrowEnd_5) w)⟩) (by decide +kernel)
set_option maxRecDepth 20000 in
theorem gX5_narrowEnd_X5_end : GoodIn wsX5_narrowEnd (wsV RX5 152 RX5 yX5_end wsX5_end) := goodIn_app (goodIn_sub (List.forall_mem_cons.mpr ⟨(cl_X5_narrowEnd_1 _ (List.mem_of_getElem? (i := 1) rfl)), List.forall_mem_cons.mpr ⟨(cl_X5_narrowEnd_1 _ (List.mem_of_getElem? (i := 2) rfl)), List.forall_mem_cons.mpr ⟨(cl_X5_narrowEnd_1 _ (List.mem_of_getElem? (i := 3) rfl)), List.forall_mem_cons.mpr ⟨(cl_X5_narrowEnd_1 _ (List.mem_of_getElem? (i := 4) rfl)), fun _ h => absurd h List.not_mem_nil⟩⟩⟩⟩) (by decide +kernel)) ggX5_narrowEnd_X5_end
noncomputable def dz_p10_33 : List (Nat × Instr × Nat) := [(0, (.aload_n 0, 1)), (1, (.aload_n 0, 1)), (2, (.getfield 24, 3)), (5, (.iload_n 1, 1)), (6, (.iload_n 2, 1)), (7, (.invokevirtual 152, 3)), (10, (.ireturn, 1))]
theorem dy_p10_33 : dz_ok cX5_narrowEnd dz_p10_33 = true := by decide +kernel
theorem dX5_narrowEnd_0 : decode cX5_narrowEnd 0 = .ok (.aload_n 0, 1) := dz_at (i := 0) dy_p10_33 rfl
theorem dX5_narrowEnd_1 : decode cX5_narrowEnd 1 = .ok (.aload_n 0, 1) := dz_at (i := 1) dy_p10_33 rfl
theorem dX5_narrowEnd_2 : decode cX5_narrowEnd 2 = .ok (.getfield 24, 3) := dz_at (i := 2) dy_p10_33 rfl
theorem dX5_narrowEnd_5 : decode cX5_narrowEnd 5 = .ok (.iload_n 1, 1) := dz_at (i := 3) dy_p10_33 rfl
theorem dX5_narrowEnd_6 : decode cX5_narrowEnd 6 = .ok (.iload_n 2, 1) := dz_at (i := 4) dy_p10_33 rfl
theorem dX5_narrowEnd_7 : decode cX5_narrowEnd 7 = .ok (.invokevirtual 152, 3) := dz_at (i := 5) dy_p10_33 rfl
theorem dX5_narrowEnd_10 : decode cX5_narrowEnd 10 = .ok (.ireturn, 1) := dz_at (i := 6) dy_p10_33 rfl
noncomputable def o_X5_narrowEnd (a2 : Int32) (f2 : Nat → Int64) (p0 : Bool) (p1 : Int32) : Int32 × Int32 × (Nat → Int64) × Int32 :=
  ((o_X5_end false a2 f2 p0 p1).1, (o_X5_end false a2 f2 p0 p1).2.1, (o_X5_end false a2 f2 p0 p1).2.2.1, (o_X5_end false a2 f2 p0 p1).2.2.2)
set_option maxHeartbeats 4000000 in
set_option maxRecDepth 100000 in
theorem k_X5_narrowEnd (l : Launch) (dC : Nat → ClassId) (dI : Nat → Nat → Nat) (cy : ClassId) (h0 : Nat) (h1 : Nat) (hc1 : Nat) (h2 : Nat) (hc2 : Nat) (a1 : Int32) (f1 : Nat → Int64) (a2 : Int32) (f2 : Nat → Int64) (th : Int32) (rf : Int32) (kn : Int32) (sz : Nat) (N : Nat) (p0 : Bool) (p1 : Int32) : Met l yX5_narrowEnd wsX5_narrowEnd ({ frames := 6, cells := 0, slots := 0, locals := 139 }) (va_Pc [.ref h0, .int (b2i p0), .int p1] (xM (dC, dI) xCl [(h0, eM h1 h2 th rf kn), (h1, eMR true hc1 a1), (hc1, eA cy f1), (h2, eMR false hc2 a2), (hc2, eA cy f2)] [(cy, .long)] sz N)) (va_Qi (fun (r : Int32) (_ : Unit) => r = (o_X5_narrowEnd a2 f2 p0 p1).1) (fun _ t => xW (dC, dI) xCl [(h0, eM h1 h2 (o_X5_narrowEnd a2 f2 p0 p1).2.2.2 rf kn), (h1, eMR true hc1 a1), (hc1, eA cy f1), (h2, eMR false hc2 (o_X5_narrowEnd a2 f2 p0 p1).2.1), (hc2, eA cy (o_X5_narrowEnd a2 f2 p0 p1).2.2.1)] (va_A [(h0, eM h1 h2 th rf kn), (h1, eMR true hc1 a1), (hc1, eA cy f1), (h2, eMR false hc2 a2), (hc2, eA cy f2)] sz) t) (va_A [(h0, eM h1 h2 th rf kn), (h1, eMR true hc1 a1), (hc1, eA cy f1), (h2, eMR false hc2 a2), (hc2, eA cy f2)] sz)) 0 0 (va_A [(h0, eM h1 h2 th rf kn), (h1, eMR true hc1 a1), (hc1, eA cy f1), (h2, eMR false hc2 a2), (hc2, eA cy f2)] sz) := by
  refine Met.ofW (cc := cX5_narrowEnd) (maxL := 3) (ret := (some .int)) (by decide +kernel) rfl ?_
  intro p e s m args below meth c s₁ B hml hv
  obtain ⟨rfl, hsz, hP, hK, hD0, hN, hG⟩ := hv
  have hx := B.exec
  have hb := B.bytes
  have hr := B.returns
  have hts := atoms_spec (ws := wsX5_narrowEnd) B.pre
  have hown : s.vm.findClass RX5 = some m.cls := findClass_of_methodNamed B.named
  have hlocks := B.notSynchronized
  subst hsz
  have hAN : ∀ q, va_A [(h0, eM h1 h2 th rf kn), (h1, eMR true hc1 a1), (hc1, eA cy f1), (h2, eMR false hc2 a2), (hc2, eA cy f2)] s.heap.size q → N ≤ q := xA_N hD0 hN
  have hD := hD0.self (sz := s.heap.size)
  generalize hAe : va_A [(h0, eM h1 h2 th rf kn), (h1, eMR true hc1 a1), (hc1, eA cy f1), (h2, eMR false hc2 a2), (hc2, eA cy f2)] s.heap.size = A at hD hAN ⊢
  have hA : ∀ q : Nat, s.heap.size ≤ q → A q := fun q h => by rw [← hAe]; exact Or.inr h
  have hS : va_S A s.heap s.heap [] := va_S.rf
  have hP : va_P (dC, dI) xCl [(h0, eM h1 h2 th rf kn), (h1, eMR true hc1 a1), (hc1, eA cy f1), (h2, eMR false hc2 a2), (hc2, eA cy f2)] s.heap := hP
  have hl := lv_entry ([.ref h0, .int (b2i p0), .int p1]) (n := 3) (Nat.le_of_ble_eq_true rfl)
  rw [lg_entry_eq]
  generalize (lg_sl ([.ref h0, .int (b2i p0), .int p1]) ++ List.replicate (3 - (lg_sl ([.ref h0, .int (b2i p0), .int p1])).length) Slot.unset).toArray = ls at hl ⊢
  have hl : lv_has ls 3 [(0, .ref h0), (1, .int (b2i p0)), (2, .int p1)] := hl
  refine lv_aload_n hx hb dX5_narrowEnd_0 rfl (lv_at hl 0 rfl) ?_
  refine lv_aload_n hx hb dX5_narrowEnd_1 rfl (lv_at hl 0 rfl) ?_
  refine va_get (D := (dC, dI)) (ci := 7) (v := .ref h2) (C := RX5) (T := TX5) (N := 5) hx hb hts (by decide +kernel) hown hK hP 0 rfl rfl 1 (by decide +kernel) (hts (.fieldLink RX5 24 "EdgefloatsModel" "narrow" "LEdgefloatsModel$Row;") (by decide +kernel)) (fun _ h9 => h9) rfl dX5_narrowEnd_2 ?_
  refine lv_iload_n hx hb dX5_narrowEnd_5 rfl (lv_at hl 1 rfl) ?_
  refine lv_iload_n hx hb dX5_narrowEnd_6 rfl (lv_at hl 2 rfl) ?_
  have hPc := hP.sub (ws' := [(h0, eM h1 h2 th rf kn), (h2, eMR false hc2 a2), (hc2, eA cy f2)]) [0, 3, 4] rfl
  have hDc := hD.sub (ws' := [(h0, eM h1 h2 th rf kn), (h2, eMR false hc2 a2), (hc2, eA cy f2)]) [0, 3, 4] (by decide +kernel) rfl
  have hKc := hK.sub (tys' := [(cy, .long)]) [0] rfl
  have hFc := va_free (wc := [(h0, eM h1 h2 th rf kn), (h2, eMR false hc2 a2), (hc2, eA cy f2)]) hD hS hA [0, 3, 4] rfl
  refine va_calli (va_runV (As := [.ref h2, .int (b2i p0), .int p1]) (rest := []) ⟨hx, hb, hml, hown, hts⟩ (k_X5_end l dC dI cy h0 h1 h2 h2 hc2 false a2 f2 th rf kn s.heap.size N p0 p1) (cwV 3 hts gX5_narrowEnd_X5_end rfl rfl rfl (by decide +kernel) ⟨Nat.le_of_ble_eq_true rfl, Nat.le_of_ble_eq_true rfl⟩) (xM.preV hKc hPc hDc hAN (Nat.le_trans hN hS.1) (hG.kept hS hAN) (ci := 7) (q0 := 0) rfl rfl) rfl rfl hl.1 rfl (lv_room (Nat.le_of_ble_eq_true rfl)) dX5_narrowEnd_7 ⟨Nat.le_of_ble_eq_true rfl, Nat.le_of_ble_eq_true rfl⟩) hS (fun q _ h => hFc q h) hFc (fun r_1 u t H locs ht hvm hw hB hz hk hS => ?_)
  replace hw : r_1 = (o_X5_end false a2 f2 p0 p1).1 := hw
  subst r_1
  obtain ⟨hP1, hD1⟩ := hB
  rw [ht] at hP1
  obtain ⟨hP, hD⟩ := va_join (wr := [(h1, eMR true hc1 a1), (hc1, eA cy f1)]) (w1 := [(h0, eM h1 h2 (o_X5_end false a2 f2 p0 p1).2.2.2 rf kn), (h2, eMR false hc2 (o_X5_end false a2 f2 p0 p1).2.1), (hc2, eA cy (o_X5_end false a2 f2 p0 p1).2.2.1)]) hP hD [0, 3, 4] [1, 2] rfl rfl (by decide +kernel) (by decide +kernel) hk hFc hP1 hD1
  have hP := hP.sub (ws' := [(h0, eM h1 h2 (o_X5_end false a2 f2 p0 p1).2.2.2 rf kn), (h1, eMR true hc1 a1), (hc1, eA cy f1), (h2, eMR false hc2 (o_X5_end false a2 f2 p0 p1).2.1), (hc2, eA cy (o_X5_end false a2 f2 p0 p1).2.2.1)]) [2, 0, 1, 3, 4] rfl
  have hD := hD.sub (ws' := [(h0, eM h1 h2 (o_X5_end false a2 f2 p0 p1).2.2.2 rf kn), (h1, eMR true hc1 a1), (hc1, eA cy f1), (h2, eMR false hc2 (o_X5_end false a2 f2 p0 p1).2.1), (hc2, eA cy (o_X5_end false a2 f2 p0 p1).2.2.1)]) [2, 0, 1, 3, 4] (by decide +kernel) rfl
  have he : o_X5_narrowEnd a2 f2 p0 p1 = ((o_X5_end false a2 f2 p0 p1).1, (o_X5_end false a2 f2 p0 p1).2.1, (o_X5_end false a2 f2 p0 p1).2.2.1, (o_X5_end false a2 f2 p0 p1).2.2.2) := by (rw [o_X5_narrowEnd]) <;> rfl
  refine W.widen (k := 0) (n := 0) (by omega) (by omega) ?_
  exact W.iret (v := ((o_X5_end false a2 f2 p0 p1).1)) hx hb hr (fun t ht hW => ⟨⟨_, (), rfl, (by (rw [he]) <;> rfl), (by rw [he]; exact ⟨by rw [ht]; exact hP, hD⟩)⟩, hS.F ht⟩) hS.2.2 dX5_narrowEnd_10
theorem cl_X5_digits_1 : ∀ w ∈ [.fieldLink RX5 24 "EdgefloatsModel" "narrow" "LEdgefloatsModel$Row;", .fieldLink RX5 74 "EdgefloatsModel$Row" "cells" "[J", .methodLink RX5 35 yX5_isNo, .static yX5_isNo, .initialized RX5, .code yX5_isNo cX5_isNo 1 (some .boolean), .methodLink RX5 31 yX5_isIn, .static yX5_isIn, .code yX5_isIn cX5_isIn 3 (some .boolean), .methodLink RX5 42 yX5_fails, .instanceMethod yX5_fails, .selects RX5 yX5_fails yX5_fails, .code yX5_fails cX5_fails 3 (some .boolean), .fieldLink RX5 27 "EdgefloatsModel" "thrown" "I"], w ∈ wsX5_digits := fun _ h => (List.mem_cons_of_mem _ (List.mem_append_left _ (List.mem_append_left _ h)))
theorem cl_X5_digits_2 : ∀ w ∈ wsX50, w ∈ wsX5_digits := fun _ h => (List.mem_cons_of_mem _ (List.mem_append_left _ (List.mem_append_right _ h)))
theorem cl_X5_digits_3 : ∀ w ∈ wsX40, w ∈ wsX5_digits := fun _ h => (List.mem_cons_of_mem _ (List.mem_append_right _ h))
set_option maxRecDepth 20000 in
theorem ggX5_digits_X5_isNo : GoodIn wsX5_digits wsX5_isNo := goodIn_sub (List.forall_mem_cons.mpr ⟨(cl_X5_digits_1 _ (List.mem_of_getElem? (i := 5) rfl)), List.forall_mem_cons.mpr ⟨(cl_X5_digits_1 _ (List.mem_of_getElem? (i := 6) rfl)), List.forall_mem_cons.mpr ⟨(cl_X5_digits_1 _ (List.mem_of_getElem? (i := 7) rfl)), List.forall_mem_cons.mpr ⟨(cl_X5_digits_1 _ (List.mem_of_getElem? (i := 4) rfl)), List.forall_mem_cons.mpr ⟨(cl_X5_digits_1 _ (List.mem_of_getElem? (i := 8) rfl)), fun _ h => absurd h List.not_mem_nil⟩⟩⟩⟩⟩) (by decide +kernel)
set_option maxRecDepth 20000 in
theorem gX5_digits_X5_isNo : GoodIn wsX5_digits (va_wsS RX5 35 yX5_isNo wsX5_isNo) := goodIn_app (goodIn_sub (List.forall_mem_cons.mpr ⟨(cl_X5_digits_1 _ (List.mem_of_getElem? (i := 2) rfl)), List.forall_mem_cons.mpr ⟨(cl_X5_digits_1 _ (List.mem_of_getElem? (i := 3) rfl)), List.forall_mem_cons.mpr ⟨(cl_X5_digits_1 _ (List.mem_of_getElem? (i := 4) rfl)), fun _ h => absurd h List.not_mem_nil⟩⟩⟩) (by decide +kernel)) ggX5_digits_X5_isNo
set_option maxRecDepth 20000 in
theorem ggX5_digits_X5_fails : GoodIn wsX5_digits wsX5_fails := goodIn_sub (List.forall_mem_cons.mpr ⟨(cl_X5_digits_1 _ (List.mem_of_getElem? (i := 12) rfl)), fun w h => (List.mem_append.mp h).elim ((List.forall_mem_cons.mpr ⟨(cl_X5_digits_1 _ (List.mem_of_getElem? (i := 13) rfl)), fun _ h => absurd h List.not_mem_nil⟩) w) ((cl_X5_digits_2) w)⟩) (by decide +kernel)
set_option maxRecDepth 20000 in
theorem gX5_digits_X5_fails : GoodIn wsX5_digits (wsV RX5 42 RX5 yX5_fails wsX5_fails) := goodIn_app (goodIn_sub (List.forall_mem_cons.mpr ⟨(cl_X5_digits_1 _ (List.mem_of_getElem? (i := 9) rfl)), List.forall_mem_cons.mpr ⟨(cl_X5_digits_1 _ (List.mem_of_getElem? (i := 10) rfl)), List.forall_mem_cons.mpr ⟨(cl_X5_digits_1 _ (List.mem_of_getElem? (i := 11) rfl)), List.forall_mem_cons.mpr ⟨(cl_X5_digits_1 _ (List.mem_of_getElem? (i := 4) rfl)), fun _ h => absurd h List.not_mem_nil⟩⟩⟩⟩) (by decide +kernel)) ggX5_digits_X5_fails
noncomputable def dz_p10_34 : List (Nat × Instr × Nat) := [(0, (.aload_n 0, 1)), (1, (.iload_n 1, 1)), (2, (.invokestatic 35, 3)), (5, (.iconst 0, 1)), (6, (.invokevirtual 42, 3)), (9, (.ifCond .eq 7, 3)), (12, (.iconst 0, 1)), (13, (.goto 13, 3)), (16, (.aload_n 0, 1)), (17, (.getfield 24, 3)), (20, (.getfield 74, 3)), (23, (.iload_n 1, 1)), (24, (.laload, 1)), (25, (.l2i, 1)), (26, (.ireturn, 1))]
theorem dy_p10_34 : dz_ok cX5_digits dz_p10_34 = true := by decide +kernel
theorem dX5_digits_0 : decode cX5_digits 0 = .ok (.aload_n 0, 1) := dz_at (i := 0) dy_p10_34 rfl
theorem dX5_digits_1 : decode cX5_digits 1 = .ok (.iload_n 1, 1) := dz_at (i := 1) dy_p10_34 rfl
theorem dX5_digits_2 : decode cX5_digits 2 = .ok (.invokestatic 35, 3) := dz_at (i := 2) dy_p10_34 rfl
theorem dX5_digits_5 : decode cX5_digits 5 = .ok (.iconst 0, 1) := dz_at (i := 3) dy_p10_34 rfl
theorem dX5_digits_6 : decode cX5_digits 6 = .ok (.invokevirtual 42, 3) := dz_at (i := 4) dy_p10_34 rfl
theorem dX5_digits_9 : decode cX5_digits 9 = .ok (.ifCond .eq 7, 3) := dz_at (i := 5) dy_p10_34 rfl
theorem dX5_digits_12 : decode cX5_digits 12 = .ok (.iconst 0, 1) := dz_at (i := 6) dy_p10_34 rfl
theorem dX5_digits_13 : decode cX5_digits 13 = .ok (.goto 13, 3) := dz_at (i := 7) dy_p10_34 rfl
theorem dX5_digits_16 : decode cX5_digits 16 = .ok (.aload_n 0, 1) := dz_at (i := 8) dy_p10_34 rfl
theorem dX5_digits_17 : decode cX5_digits 17 = .ok (.getfield 24, 3) := dz_at (i := 9) dy_p10_34 rfl
theorem dX5_digits_20 : decode cX5_digits 20 = .ok (.getfield 74, 3) := dz_at (i := 10) dy_p10_34 rfl
theorem dX5_digits_23 : decode cX5_digits 23 = .ok (.iload_n 1, 1) := dz_at (i := 11) dy_p10_34 rfl
theorem dX5_digits_24 : decode cX5_digits 24 = .ok (.laload, 1) := dz_at (i := 12) dy_p10_34 rfl
theorem dX5_digits_25 : decode cX5_digits 25 = .ok (.l2i, 1) := dz_at (i := 13) dy_p10_34 rfl
theorem dX5_digits_26 : decode cX5_digits 26 = .ok (.ireturn, 1) := dz_at (i := 14) dy_p10_34 rfl
noncomputable def o_X5_digits (f2 : Nat → Int64) (p0 : Int32) : Int32 × Int32 :=
  if (o_X5_fails (o_X5_isNo p0) false).1 = true then (0, (o_X5_fails (o_X5_isNo p0) false).2)
  else (((f2 p0.toNatClampNeg).toInt32), (o_X5_fails (o_X5_isNo p0) false).2)
set_option maxHeartbeats 4000000 in
set_option maxRecDepth 100000 in
theorem k_X5_digits (l : Launch) (dC : Nat → ClassId) (dI : Nat → Nat → Nat) (cy : ClassId) (h0 : Nat) (h1 : Nat) (hc1 : Nat) (h2 : Nat) (hc2 : Nat) (a1 : Int32) (f1 : Nat → Int64) (a2 : Int32) (f2 : Nat → Int64) (th : Int32) (rf : Int32) (kn : Int32) (sz : Nat) (N : Nat) (p0 : Int32) : Met l yX5_digits wsX5_digits ({ frames := 2, cells := 0, slots := 0, locals := 42 }) (va_Pc [.ref h0, .int p0] (xM (dC, dI) xCl [(h0, eM h1 h2 th rf kn), (h1, eMR true hc1 a1), (hc1, eA cy f1), (h2, eMR false hc2 a2), (hc2, eA cy f2)] [(cy, .long)] sz N)) (va_Qi (fun (r : Int32) (_ : Unit) => r = (o_X5_digits f2 p0).1) (fun _ t => xW (dC, dI) xCl [(h0, eM h1 h2 (o_X5_digits f2 p0).2 rf kn), (h1, eMR true hc1 a1), (hc1, eA cy f1), (h2, eMR false hc2 a2), (hc2, eA cy f2)] (va_A [(h0, eM h1 h2 th rf kn), (h1, eMR true hc1 a1), (hc1, eA cy f1), (h2, eMR false hc2 a2), (hc2, eA cy f2)] sz) t) (va_A [(h0, eM h1 h2 th rf kn), (h1, eMR true hc1 a1), (hc1, eA cy f1), (h2, eMR false hc2 a2), (hc2, eA cy f2)] sz)) 0 0 (va_A [(h0, eM h1 h2 th rf kn), (h1, eMR true hc1 a1), (hc1, eA cy f1), (h2, eMR false hc2 a2), (hc2, eA cy f2)] sz) := by
  refine Met.ofW (cc := cX5_digits) (maxL := 2) (ret := (some .int)) (by decide +kernel) rfl ?_
  intro p e s m args below meth c s₁ B hml hv
  obtain ⟨rfl, hsz, hP, hK, hD0, hN, hG⟩ := hv
  have hx := B.exec
  have hb := B.bytes
  have hr := B.returns
  have hts := atoms_spec (ws := wsX5_digits) B.pre
  have hown : s.vm.findClass RX5 = some m.cls := findClass_of_methodNamed B.named
  have hlocks := B.notSynchronized
  subst hsz
  have hAN : ∀ q, va_A [(h0, eM h1 h2 th rf kn), (h1, eMR true hc1 a1), (hc1, eA cy f1), (h2, eMR false hc2 a2), (hc2, eA cy f2)] s.heap.size q → N ≤ q := xA_N hD0 hN
  have hD := hD0.self (sz := s.heap.size)
  generalize hAe : va_A [(h0, eM h1 h2 th rf kn), (h1, eMR true hc1 a1), (hc1, eA cy f1), (h2, eMR false hc2 a2), (hc2, eA cy f2)] s.heap.size = A at hD hAN ⊢
  have hA : ∀ q : Nat, s.heap.size ≤ q → A q := fun q h => by rw [← hAe]; exact Or.inr h
  have hS : va_S A s.heap s.heap [] := va_S.rf
  have hP : va_P (dC, dI) xCl [(h0, eM h1 h2 th rf kn), (h1, eMR true hc1 a1), (hc1, eA cy f1), (h2, eMR false hc2 a2), (hc2, eA cy f2)] s.heap := hP
  have hl := lv_entry ([.ref h0, .int p0]) (n := 2) (Nat.le_of_ble_eq_true rfl)
  rw [lg_entry_eq]
  generalize (lg_sl ([.ref h0, .int p0]) ++ List.replicate (2 - (lg_sl ([.ref h0, .int p0])).length) Slot.unset).toArray = ls at hl ⊢
  have hl : lv_has ls 2 [(0, .ref h0), (1, .int p0)] := hl
  refine lv_aload_n hx hb dX5_digits_0 rfl (lv_at hl 0 rfl) ?_
  refine lv_iload_n hx hb dX5_digits_1 rfl (lv_at hl 1 rfl) ?_
  have hPc := hP.sub (ws' := []) [] rfl
  have hKc := hK.sub (tys' := []) [] rfl
  refine va_calli (va_runS (As := [.int p0]) (rest := [.ref h0]) ⟨hx, hb, hml, hown, hts⟩ (k_X5_isNo l dC dI s.heap.size p0) (va_cwS 1 hts gX5_digits_X5_isNo rfl rfl rfl (by decide +kernel) ⟨Nat.le_of_ble_eq_true rfl, Nat.le_of_ble_eq_true rfl⟩) (xB.preS hKc hPc) rfl rfl hl.1 rfl (lv_room (Nat.le_of_ble_eq_true rfl)) dX5_digits_2 ⟨Nat.le_of_ble_eq_true rfl, Nat.le_of_ble_eq_true rfl⟩) hS xA_old (fun q h => hA q (Nat.le_trans hS.1 h)) (fun r_1 u t H locs ht hvm hw hB hz hk hS => ?_)
  replace hw : r_1 = b2i (o_X5_isNo p0) := hw
  subst r_1
  have hP := xP_keep hP hk
  refine lv_iconst (v := 0) hx hb dX5_digits_5 (by decide +kernel) ?_
  have hPc := hP.sub (ws' := [(h0, eM h1 h2 th rf kn)]) [0] rfl
  have hDc := hD.sub (ws' := [(h0, eM h1 h2 th rf kn)]) [0] (by decide +kernel) rfl
  have hKc := hK.sub (tys' := []) [] rfl
  have hFc := va_free (wc := [(h0, eM h1 h2 th rf kn)]) hD hS hA [0] rfl
  refine va_calli (va_runV (As := [.int (b2i (o_X5_isNo p0)), .int 0]) (rest := []) ⟨hx, hb, hml, hown, hts⟩ (k_X5_fails l dC dI h0 h1 h2 th rf kn H.size N (o_X5_isNo p0) false) (cwV 2 hts gX5_digits_X5_fails rfl rfl rfl (by decide +kernel) ⟨Nat.le_of_ble_eq_true rfl, Nat.le_of_ble_eq_true rfl⟩) (xM.preV hKc hPc hDc hAN (Nat.le_trans hN hS.1) (hG.kept hS hAN) (ci := 7) (q0 := 0) rfl rfl) rfl rfl hl.1 rfl (lv_room (Nat.le_of_ble_eq_true rfl)) dX5_digits_6 ⟨Nat.le_of_ble_eq_true rfl, Nat.le_of_ble_eq_true rfl⟩) hS (fun q _ h => hFc q h) hFc (fun r_2 u t H locs ht hvm hw hB hz hk hS => ?_)
  replace hw : r_2 = b2i ((o_X5_fails (o_X5_isNo p0) false).1) := hw
  subst r_2
  obtain ⟨hP1, hD1⟩ := hB
  rw [ht] at hP1
  obtain ⟨hP, hD⟩ := va_join (wr := [(h1, eMR true hc1 a1), (hc1, eA cy f1), (h2, eMR false hc2 a2), (hc2, eA cy f2)]) (w1 := [(h0, eM h1 h2 (o_X5_fails (o_X5_isNo p0) false).2 rf kn)]) hP hD [0] [1, 2, 3, 4] rfl rfl (by decide +kernel) (by decide +kernel) hk hFc hP1 hD1
  have hP := hP.sub (ws' := [(h0, eM h1 h2 (o_X5_fails (o_X5_isNo p0) false).2 rf kn), (h1, eMR true hc1 a1), (hc1, eA cy f1), (h2, eMR false hc2 a2), (hc2, eA cy f2)]) [4, 0, 1, 2, 3] rfl
  have hD := hD.sub (ws' := [(h0, eM h1 h2 (o_X5_fails (o_X5_isNo p0) false).2 rf kn), (h1, eMR true hc1 a1), (hc1, eA cy f1), (h2, eMR false hc2 a2), (hc2, eA cy f2)]) [4, 0, 1, 2, 3] (by decide +kernel) rfl
  refine xz_eq (tgt := 16) hx hb dX5_digits_9 (by decide +kernel) (fun c_3 => ?_) (fun c_3 => ?_)
  · skip
    refine lv_aload_n hx hb dX5_digits_16 rfl (lv_at hl 0 rfl) ?_
    refine va_get (D := (dC, dI)) (ci := 7) (v := .ref h2) (C := RX5) (T := TX5) (N := 5) hx hb hts (by decide +kernel) hown hK hP 0 rfl rfl 1 (by decide +kernel) (hts (.fieldLink RX5 24 "EdgefloatsModel" "narrow" "LEdgefloatsModel$Row;") (by decide +kernel)) (fun _ h9 => h9) rfl dX5_digits_17 ?_
    refine va_get (D := (dC, dI)) (ci := 6) (v := .ref hc2) (C := RX4) (T := TX4) (N := 5) hx hb hts (by decide +kernel) hown hK hP 3 rfl rfl 3 (by decide +kernel) (hts (.fieldLink RX5 74 "EdgefloatsModel$Row" "cells" "[J") (by decide +kernel)) (fun _ h9 => h9) rfl dX5_digits_20 ?_
    refine lv_iload_n hx hb dX5_digits_23 rfl (lv_at hl 1 rfl) ?_
    refine xa_lald hx hb hK hP 4 0 (f := f2) rfl rfl (k := p0.toNatClampNeg) (xm_isNo (xm_fails c_3)) rfl dX5_digits_24 ?_
    refine lv_l2i (v := ((f2 p0.toNatClampNeg).toInt32)) hx hb dX5_digits_25 rfl ?_
    have he : o_X5_digits f2 p0 = (((f2 p0.toNatClampNeg).toInt32), (o_X5_fails (o_X5_isNo p0) false).2) := by (rw [o_X5_digits, if_neg c_3]) <;> rfl
    refine W.widen (k := 0) (n := 0) (by omega) (by omega) ?_
    exact W.iret (v := ((f2 p0.toNatClampNeg).toInt32)) hx hb hr (fun t ht hW => ⟨⟨_, (), rfl, (by (rw [he]) <;> rfl), (by rw [he]; exact ⟨by rw [ht]; exact hP, hD⟩)⟩, hS.F ht⟩) hS.2.2 dX5_digits_26
  · skip
    refine lv_iconst (v := 0) hx hb dX5_digits_12 (by decide +kernel) ?_
    refine lv_goto (tgt := 26) hx hb dX5_digits_13 (by decide +kernel) ?_
    have he : o_X5_digits f2 p0 = (0, (o_X5_fails (o_X5_isNo p0) false).2) := by (rw [o_X5_digits, if_pos c_3]) <;> rfl
    refine W.widen (k := 0) (n := 0) (by omega) (by omega) ?_
    exact W.iret (v := 0) hx hb hr (fun t ht hW => ⟨⟨_, (), rfl, (by (rw [he]) <;> rfl), (by rw [he]; exact ⟨by rw [ht]; exact hP, hD⟩)⟩, hS.F ht⟩) hS.2.2 dX5_digits_26
theorem cl_X5_narrowOrder_1 : ∀ w ∈ wsX5_narrowOrder_r1, w ∈ wsX5_narrowOrder := fun _ h => (List.mem_cons_of_mem _ (List.mem_append_left _ (List.mem_append_left _ (List.mem_append_left _ h))))
theorem cl_X5_narrowOrder_2 : ∀ w ∈ wsX5_narrowOrder_r2, w ∈ wsX5_narrowOrder := fun _ h => (List.mem_cons_of_mem _ (List.mem_append_left _ (List.mem_append_left _ (List.mem_append_right _ h))))
theorem cl_X5_narrowOrder_3 : ∀ w ∈ wsX50, w ∈ wsX5_narrowOrder := fun _ h => (List.mem_cons_of_mem _ (List.mem_append_left _ (List.mem_append_right _ h)))
theorem cl_X5_narrowOrder_4 : ∀ w ∈ wsX40, w ∈ wsX5_narrowOrder := fun _ h => (List.mem_cons_of_mem _ (List.mem_append_right _ h))
set_option maxRecDepth 20000 in
theorem ggX5_narrowOrder_X5_order : GoodIn wsX5_narrowOrder wsX5_order := goodIn_sub (List.forall_mem_cons.mpr ⟨(cl_X5_narrowOrder_1 _ (List.mem_of_getElem? (i := 5) rfl)), fun w h => (List.mem_append.mp h).elim ((fun w h => (List.mem_append.mp h).elim ((fun w h => (List.mem_append.mp h).elim ((List.forall_mem_cons.mpr ⟨(cl_X5_narrowOrder_1 _ (List.mem_of_getElem? (i := 6) rfl)), List.forall_mem_cons.mpr ⟨(cl_X5_narrowOrder_1 _ (List.mem_of_getElem? (i := 7) rfl)), List.forall_mem_cons.mpr ⟨(cl_X5_narrowOrder_1 _ (List.mem_of_getElem? (i := 8) rfl)), List.forall_mem_cons.mpr ⟨(cl_X5_narrowOrder_1 _ (List.mem_of_getElem? (i := 4) rfl)), List.forall_mem_cons.mpr ⟨(cl_X5_narrowOrder_1 _ (List.mem_of_getElem? (i := 9) rfl)), List.forall_mem_cons.mpr ⟨(cl_X5_narrowOrder_1 _ (List.mem_of_getElem? (i := 10) rfl)), List.forall_mem_cons.mpr ⟨(cl_X5_narrowOrder_1 _ (List.mem_of_getElem? (i := 11) rfl)), List.forall_mem_cons.mpr ⟨(cl_X5_narrowOrder_1 _ (List.mem_of_getElem? (i := 12) rfl)), List.forall_mem_cons.mpr ⟨(cl_X5_narrowOrder_1 _ (List.mem_of_getElem? (i := 13) rfl)), List.forall_mem_cons.mpr ⟨(cl_X5_narrowOrder_1 _ (List.mem_of_getElem? (i := 14) rfl)), List.forall_mem_cons.mpr ⟨(cl_X5_narrowOrder_1 _ (List.mem_of_getElem? (i := 15) rfl)), List.forall_mem_cons.mpr ⟨(cl_X5_narrowOrder_1 _ (List.mem_of_getElem? (i := 16) rfl)), List.forall_mem_cons.mpr ⟨(cl_X5_narrowOrder_1 _ (List.mem_of_getElem? (i := 17) rfl)), List.forall_mem_cons.mpr ⟨(cl_X5_narrowOrder_1 _ (List.mem_of_getElem? (i := 18) rfl)), List.forall_mem_cons.mpr ⟨(cl_X5_narrowOrder_1 _ (List.mem_of_getElem? (i := 19) rfl)), List.forall_mem_cons.mpr ⟨(cl_X5_narrowOrder_1 _ (List.mem_of_getElem? (i := 20) rfl)), List.forall_mem_cons.mpr ⟨(cl_X5_narrowOrder_1 _ (List.mem_of_getElem? (i := 21) rfl)), List.forall_mem_cons.mpr ⟨(cl_X5_narrowOrder_1 _ (List.mem_of_getElem? (i := 22) rfl)), List.forall_mem_cons.mpr ⟨(cl_X5_narrowOrder_1 _ (List.mem_of_getElem? (i := 23) rfl)), List.forall_mem_cons.mpr ⟨(cl_X5_narrowOrder_2 _ (List.mem_of_getElem? (i := 0) rfl)), List.forall_mem_cons.mpr ⟨(cl_X5_narrowOrder_2 _ (List.mem_of_getElem? (i := 1) rfl)), List.forall_mem_cons.mpr ⟨(cl_X5_narrowOrder_2 _ (List.mem_of_getElem? (i := 2) rfl)), List.forall_mem_cons.mpr ⟨(cl_X5_narrowOrder_2 _ (List.mem_of_getElem? (i := 3) rfl)), List.forall_mem_cons.mpr ⟨(cl_X5_narrowOrder_2 _ (List.mem_of_getElem? (i := 4) rfl)), fun _ h => absurd h List.not_mem_nil⟩⟩⟩⟩⟩⟩⟩⟩⟩⟩⟩⟩⟩⟩⟩⟩⟩⟩⟩⟩⟩⟩⟩⟩) w) ((List.forall_mem_cons.mpr ⟨(cl_X5_narrowOrder_2 _ (List.mem_of_getElem? (i := 5) rfl)), List.forall_mem_cons.mpr ⟨(cl_X5_narrowOrder_2 _ (List.mem_of_getElem? (i := 6) rfl)), List.forall_mem_cons.mpr ⟨(cl_X5_narrowOrder_2 _ (List.mem_of_getElem? (i := 7) rfl)), List.forall_mem_cons.mpr ⟨(cl_X5_narrowOrder_2 _ (List.mem_of_getElem? (i := 8) rfl)), List.forall_mem_cons.mpr ⟨(cl_X5_narrowOrder_2 _ (List.mem_of_getElem? (i := 9) rfl)), List.forall_mem_cons.mpr ⟨(cl_X5_narrowOrder_2 _ (List.mem_of_getElem? (i := 10) rfl)), List.forall_mem_cons.mpr ⟨(cl_X5_narrowOrder_2 _ (List.mem_of_getElem? (i := 11) rfl)), List.forall_mem_cons.mpr ⟨(cl_X5_narrowOrder_2 _ (List.mem_of_getElem? (i := 12) rfl)), List.forall_mem_cons.mpr ⟨(cl_X5_narrowOrder_2 _ (List.mem_of_getElem? (i := 13) rfl)), List.forall_mem_cons.mpr ⟨(cl_X5_narrowOrder_2 _ (List.mem_of_getElem? (i := 14) rfl)), List.forall_mem_cons.mpr ⟨(cl_X5_narrowOrder_2 _ (List.mem_of_getElem? (i := 15) rfl)), List.forall_mem_cons.mpr ⟨(cl_X5_narrowOrder_2 _ (List.mem_of_getElem? (i := 16) rfl)), List.forall_mem_cons.mpr ⟨(cl_X5_narrowOrder_2 _ (List.mem_of_getElem? (i := 17) rfl)), List.forall_mem_cons.mpr ⟨(cl_X5_narrowOrder_2 _ (List.mem_of_getElem? (i := 18) rfl)), List.forall_mem_cons.mpr ⟨(cl_X5_narrowOrder_2 _ (List.mem_of_getElem? (i := 19) rfl)), List.forall_mem_cons.mpr ⟨(cl_X5_narrowOrder_2 _ (List.mem_of_getElem? (i := 20) rfl)), fun _ h => absurd h List.not_mem_nil⟩⟩⟩⟩⟩⟩⟩⟩⟩⟩⟩⟩⟩⟩⟩⟩) w)) w) ((cl_X5_narrowOrder_4) w)) w) ((cl_X5_narrowOrder_3) w)⟩) (by decide +kernel)
set_option maxRecDepth 20000 in
theorem gX5_narrowOrder_X5_order : GoodIn wsX5_narrowOrder (wsV RX5 158 RX5 yX5_order wsX5_order) := goodIn_app (goodIn_sub (List.forall_mem_cons.mpr ⟨(cl_X5_narrowOrder_1 _ (List.mem_of_getElem? (i := 1) rfl)), List.forall_mem_cons.mpr ⟨(cl_X5_narrowOrder_1 _ (List.mem_of_getElem? (i := 2) rfl)), List.forall_mem_cons.mpr ⟨(cl_X5_narrowOrder_1 _ (List.mem_of_getElem? (i := 3) rfl)), List.forall_mem_cons.mpr ⟨(cl_X5_narrowOrder_1 _ (List.mem_of_getElem? (i := 4) rfl)), fun _ h => absurd h List.not_mem_nil⟩⟩⟩⟩) (by decide +kernel)) ggX5_narrowOrder_X5_order
noncomputable def dz_p10_35 : List (Nat × Instr × Nat) := [(0, (.aload_n 0, 1)), (1, (.aload_n 0, 1)), (2, (.getfield 24, 3)), (5, (.iload_n 1, 1)), (6, (.iload_n 2, 1)), (7, (.iload_n 3, 1)), (8, (.invokevirtual 158, 3)), (11, (.ireturn, 1))]
theorem dy_p10_35 : dz_ok cX5_narrowOrder dz_p10_35 = true := by decide +kernel
theorem dX5_narrowOrder_0 : decode cX5_narrowOrder 0 = .ok (.aload_n 0, 1) := dz_at (i := 0) dy_p10_35 rfl
theorem dX5_narrowOrder_1 : decode cX5_narrowOrder 1 = .ok (.aload_n 0, 1) := dz_at (i := 1) dy_p10_35 rfl
theorem dX5_narrowOrder_2 : decode cX5_narrowOrder 2 = .ok (.getfield 24, 3) := dz_at (i := 2) dy_p10_35 rfl
theorem dX5_narrowOrder_5 : decode cX5_narrowOrder 5 = .ok (.iload_n 1, 1) := dz_at (i := 3) dy_p10_35 rfl
theorem dX5_narrowOrder_6 : decode cX5_narrowOrder 6 = .ok (.iload_n 2, 1) := dz_at (i := 4) dy_p10_35 rfl
theorem dX5_narrowOrder_7 : decode cX5_narrowOrder 7 = .ok (.iload_n 3, 1) := dz_at (i := 5) dy_p10_35 rfl
theorem dX5_narrowOrder_8 : decode cX5_narrowOrder 8 = .ok (.invokevirtual 158, 3) := dz_at (i := 6) dy_p10_35 rfl
theorem dX5_narrowOrder_11 : decode cX5_narrowOrder 11 = .ok (.ireturn, 1) := dz_at (i := 7) dy_p10_35 rfl
noncomputable def o_X5_narrowOrder (f2 : Nat → Int64) (p0 : Int32) (p1 : Int32) (p2 : Int32) : Int32 × Int32 :=
  ((o_X5_order false f2 p0 p1 p2).1, (o_X5_order false f2 p0 p1 p2).2)
set_option maxHeartbeats 4000000 in
set_option maxRecDepth 100000 in
theorem k_X5_narrowOrder (l : Launch) (dC : Nat → ClassId) (dI : Nat → Nat → Nat) (cy : ClassId) (h0 : Nat) (h1 : Nat) (hc1 : Nat) (h2 : Nat) (hc2 : Nat) (a1 : Int32) (f1 : Nat → Int64) (a2 : Int32) (f2 : Nat → Int64) (th : Int32) (rf : Int32) (kn : Int32) (sz : Nat) (N : Nat) (p0 : Int32) (p1 : Int32) (p2 : Int32) : Met l yX5_narrowOrder wsX5_narrowOrder ({ frames := 5, cells := 0, slots := 0, locals := 112 }) (va_Pc [.ref h0, .int p0, .int p1, .int p2] (xM (dC, dI) xCl [(h0, eM h1 h2 th rf kn), (h1, eMR true hc1 a1), (hc1, eA cy f1), (h2, eMR false hc2 a2), (hc2, eA cy f2)] [(cy, .long)] sz N)) (va_Qi (fun (r : Int32) (_ : Unit) => r = (o_X5_narrowOrder f2 p0 p1 p2).1) (fun _ t => xW (dC, dI) xCl [(h0, eM h1 h2 (o_X5_narrowOrder f2 p0 p1 p2).2 rf kn), (h1, eMR true hc1 a1), (hc1, eA cy f1), (h2, eMR false hc2 a2), (hc2, eA cy f2)] (va_A [(h0, eM h1 h2 th rf kn), (h1, eMR true hc1 a1), (hc1, eA cy f1), (h2, eMR false hc2 a2), (hc2, eA cy f2)] sz) t) (va_A [(h0, eM h1 h2 th rf kn), (h1, eMR true hc1 a1), (hc1, eA cy f1), (h2, eMR false hc2 a2), (hc2, eA cy f2)] sz)) 0 0 (va_A [(h0, eM h1 h2 th rf kn), (h1, eMR true hc1 a1), (hc1, eA cy f1), (h2, eMR false hc2 a2), (hc2, eA cy f2)] sz) := by
  refine Met.ofW (cc := cX5_narrowOrder) (maxL := 4) (ret := (some .int)) (by decide +kernel) rfl ?_
  intro p e s m args below meth c s₁ B hml hv
  obtain ⟨rfl, hsz, hP, hK, hD0, hN, hG⟩ := hv
  have hx := B.exec
  have hb := B.bytes
  have hr := B.returns
  have hts := atoms_spec (ws := wsX5_narrowOrder) B.pre
  have hown : s.vm.findClass RX5 = some m.cls := findClass_of_methodNamed B.named
  have hlocks := B.notSynchronized
  subst hsz
  have hAN : ∀ q, va_A [(h0, eM h1 h2 th rf kn), (h1, eMR true hc1 a1), (hc1, eA cy f1), (h2, eMR false hc2 a2), (hc2, eA cy f2)] s.heap.size q → N ≤ q := xA_N hD0 hN
  have hD := hD0.self (sz := s.heap.size)
  generalize hAe : va_A [(h0, eM h1 h2 th rf kn), (h1, eMR true hc1 a1), (hc1, eA cy f1), (h2, eMR false hc2 a2), (hc2, eA cy f2)] s.heap.size = A at hD hAN ⊢
  have hA : ∀ q : Nat, s.heap.size ≤ q → A q := fun q h => by rw [← hAe]; exact Or.inr h
  have hS : va_S A s.heap s.heap [] := va_S.rf
  have hP : va_P (dC, dI) xCl [(h0, eM h1 h2 th rf kn), (h1, eMR true hc1 a1), (hc1, eA cy f1), (h2, eMR false hc2 a2), (hc2, eA cy f2)] s.heap := hP
  have hl := lv_entry ([.ref h0, .int p0, .int p1, .int p2]) (n := 4) (Nat.le_of_ble_eq_true rfl)
  rw [lg_entry_eq]
  generalize (lg_sl ([.ref h0, .int p0, .int p1, .int p2]) ++ List.replicate (4 - (lg_sl ([.ref h0, .int p0, .int p1, .int p2])).length) Slot.unset).toArray = ls at hl ⊢
  have hl : lv_has ls 4 [(0, .ref h0), (1, .int p0), (2, .int p1), (3, .int p2)] := hl
  refine lv_aload_n hx hb dX5_narrowOrder_0 rfl (lv_at hl 0 rfl) ?_
  refine lv_aload_n hx hb dX5_narrowOrder_1 rfl (lv_at hl 0 rfl) ?_
  refine va_get (D := (dC, dI)) (ci := 7) (v := .ref h2) (C := RX5) (T := TX5) (N := 5) hx hb hts (by decide +kernel) hown hK hP 0 rfl rfl 1 (by decide +kernel) (hts (.fieldLink RX5 24 "EdgefloatsModel" "narrow" "LEdgefloatsModel$Row;") (by decide +kernel)) (fun _ h9 => h9) rfl dX5_narrowOrder_2 ?_
  refine lv_iload_n hx hb dX5_narrowOrder_5 rfl (lv_at hl 1 rfl) ?_
  refine lv_iload_n hx hb dX5_narrowOrder_6 rfl (lv_at hl 2 rfl) ?_
  refine lv_iload_n hx hb dX5_narrowOrder_7 rfl (lv_at hl 3 rfl) ?_
  have hPc := hP.sub (ws' := [(h0, eM h1 h2 th rf kn), (h2, eMR false hc2 a2), (hc2, eA cy f2)]) [0, 3, 4] rfl
  have hDc := hD.sub (ws' := [(h0, eM h1 h2 th rf kn), (h2, eMR false hc2 a2), (hc2, eA cy f2)]) [0, 3, 4] (by decide +kernel) rfl
  have hKc := hK.sub (tys' := [(cy, .long)]) [0] rfl
  have hFc := va_free (wc := [(h0, eM h1 h2 th rf kn), (h2, eMR false hc2 a2), (hc2, eA cy f2)]) hD hS hA [0, 3, 4] rfl
  refine va_calli (va_runV (As := [.ref h2, .int p0, .int p1, .int p2]) (rest := []) ⟨hx, hb, hml, hown, hts⟩ (k_X5_order l dC dI cy h0 h1 h2 h2 hc2 false a2 f2 th rf kn s.heap.size N p0 p1 p2) (cwV 4 hts gX5_narrowOrder_X5_order rfl rfl rfl (by decide +kernel) ⟨Nat.le_of_ble_eq_true rfl, Nat.le_of_ble_eq_true rfl⟩) (xM.preV hKc hPc hDc hAN (Nat.le_trans hN hS.1) (hG.kept hS hAN) (ci := 7) (q0 := 0) rfl rfl) rfl rfl hl.1 rfl (lv_room (Nat.le_of_ble_eq_true rfl)) dX5_narrowOrder_8 ⟨Nat.le_of_ble_eq_true rfl, Nat.le_of_ble_eq_true rfl⟩) hS (fun q _ h => hFc q h) hFc (fun r_1 u t H locs ht hvm hw hB hz hk hS => ?_)
  replace hw : r_1 = (o_X5_order false f2 p0 p1 p2).1 := hw
  subst r_1
  obtain ⟨hP1, hD1⟩ := hB
  rw [ht] at hP1
  obtain ⟨hP, hD⟩ := va_join (wr := [(h1, eMR true hc1 a1), (hc1, eA cy f1)]) (w1 := [(h0, eM h1 h2 (o_X5_order false f2 p0 p1 p2).2 rf kn), (h2, eMR false hc2 a2), (hc2, eA cy f2)]) hP hD [0, 3, 4] [1, 2] rfl rfl (by decide +kernel) (by decide +kernel) hk hFc hP1 hD1
  have hP := hP.sub (ws' := [(h0, eM h1 h2 (o_X5_order false f2 p0 p1 p2).2 rf kn), (h1, eMR true hc1 a1), (hc1, eA cy f1), (h2, eMR false hc2 a2), (hc2, eA cy f2)]) [2, 0, 1, 3, 4] rfl
  have hD := hD.sub (ws' := [(h0, eM h1 h2 (o_X5_order false f2 p0 p1 p2).2 rf kn), (h1, eMR true hc1 a1), (hc1, eA cy f1), (h2, eMR false hc2 a2), (hc2, eA cy f2)]) [2, 0, 1, 3, 4] (by decide +kernel) rfl
  have he : o_X5_narrowOrder f2 p0 p1 p2 = ((o_X5_order false f2 p0 p1 p2).1, (o_X5_order false f2 p0 p1 p2).2) := by (rw [o_X5_narrowOrder]) <;> rfl
  refine W.widen (k := 0) (n := 0) (by omega) (by omega) ?_
  exact W.iret (v := ((o_X5_order false f2 p0 p1 p2).1)) hx hb hr (fun t ht hW => ⟨⟨_, (), rfl, (by (rw [he]) <;> rfl), (by rw [he]; exact ⟨by rw [ht]; exact hP, hD⟩)⟩, hS.F ht⟩) hS.2.2 dX5_narrowOrder_11
theorem cl_X5_narrowSame_1 : ∀ w ∈ [.fieldLink RX5 24 "EdgefloatsModel" "narrow" "LEdgefloatsModel$Row;", .methodLink RX5 160 yX5_same, .instanceMethod yX5_same, .selects RX5 yX5_same yX5_same, .initialized RX5, .code yX5_same cX5_same 5 (some .boolean), .fieldLink RX5 74 "EdgefloatsModel$Row" "cells" "[J", .methodLink RX5 70 yX5_areNo, .static yX5_areNo, .code yX5_areNo cX5_areNo 2 (some .boolean), .methodLink RX5 35 yX5_isNo, .static yX5_isNo, .code yX5_isNo cX5_isNo 1 (some .boolean), .methodLink RX5 31 yX5_isIn, .static yX5_isIn, .code yX5_isIn cX5_isIn 3 (some .boolean), .methodLink RX5 42 yX5_fails, .instanceMethod yX5_fails, .selects RX5 yX5_fails yX5_fails, .code yX5_fails cX5_fails 3 (some .boolean), .fieldLink RX5 27 "EdgefloatsModel" "thrown" "I"], w ∈ wsX5_narrowSame := fun _ h => (List.mem_cons_of_mem _ (List.mem_append_left _ (List.mem_append_left _ h)))
theorem cl_X5_narrowSame_2 : ∀ w ∈ wsX50, w ∈ wsX5_narrowSame := fun _ h => (List.mem_cons_of_mem _ (List.mem_append_left _ (List.mem_append_right _ h)))
theorem cl_X5_narrowSame_3 : ∀ w ∈ wsX40, w ∈ wsX5_narrowSame := fun _ h => (List.mem_cons_of_mem _ (List.mem_append_right _ h))
set_option maxRecDepth 20000 in
theorem ggX5_narrowSame_X5_same : GoodIn wsX5_narrowSame wsX5_same := goodIn_sub (List.forall_mem_cons.mpr ⟨(cl_X5_narrowSame_1 _ (List.mem_of_getElem? (i := 5) rfl)), fun w h => (List.mem_append.mp h).elim ((fun w h => (List.mem_append.mp h).elim ((List.forall_mem_cons.mpr ⟨(cl_X5_narrowSame_1 _ (List.mem_of_getElem? (i := 6) rfl)), List.forall_mem_cons.mpr ⟨(cl_X5_narrowSame_1 _ (List.mem_of_getElem? (i := 7) rfl)), List.forall_mem_cons.mpr ⟨(cl_X5_narrowSame_1 _ (List.mem_of_getElem? (i := 8) rfl)), List.forall_mem_cons.mpr ⟨(cl_X5_narrowSame_1 _ (List.mem_of_getElem? (i := 4) rfl)), List.forall_mem_cons.mpr ⟨(cl_X5_narrowSame_1 _ (List.mem_of_getElem? (i := 9) rfl)), List.forall_mem_cons.mpr ⟨(cl_X5_narrowSame_1 _ (List.mem_of_getElem? (i := 10) rfl)), List.forall_mem_cons.mpr ⟨(cl_X5_narrowSame_1 _ (List.mem_of_getElem? (i := 11) rfl)), List.forall_mem_cons.mpr ⟨(cl_X5_narrowSame_1 _ (List.mem_of_getElem? (i := 12) rfl)), List.forall_mem_cons.mpr ⟨(cl_X5_narrowSame_1 _ (List.mem_of_getElem? (i := 13) rfl)), List.forall_mem_cons.mpr ⟨(cl_X5_narrowSame_1 _ (List.mem_of_getElem? (i := 14) rfl)), List.forall_mem_cons.mpr ⟨(cl_X5_narrowSame_1 _ (List.mem_of_getElem? (i := 15) rfl)), List.forall_mem_cons.mpr ⟨(cl_X5_narrowSame_1 _ (List.mem_of_getElem? (i := 16) rfl)), List.forall_mem_cons.mpr ⟨(cl_X5_narrowSame_1 _ (List.mem_of_getElem? (i := 17) rfl)), List.forall_mem_cons.mpr ⟨(cl_X5_narrowSame_1 _ (List.mem_of_getElem? (i := 18) rfl)), List.forall_mem_cons.mpr ⟨(cl_X5_narrowSame_1 _ (List.mem_of_getElem? (i := 19) rfl)), List.forall_mem_cons.mpr ⟨(cl_X5_narrowSame_1 _ (List.mem_of_getElem? (i := 20) rfl)), fun _ h => absurd h List.not_mem_nil⟩⟩⟩⟩⟩⟩⟩⟩⟩⟩⟩⟩⟩⟩⟩⟩) w) ((cl_X5_narrowSame_3) w)) w) ((cl_X5_narrowSame_2) w)⟩) (by decide +kernel)
set_option maxRecDepth 20000 in
theorem gX5_narrowSame_X5_same : GoodIn wsX5_narrowSame (wsV RX5 160 RX5 yX5_same wsX5_same) := goodIn_app (goodIn_sub (List.forall_mem_cons.mpr ⟨(cl_X5_narrowSame_1 _ (List.mem_of_getElem? (i := 1) rfl)), List.forall_mem_cons.mpr ⟨(cl_X5_narrowSame_1 _ (List.mem_of_getElem? (i := 2) rfl)), List.forall_mem_cons.mpr ⟨(cl_X5_narrowSame_1 _ (List.mem_of_getElem? (i := 3) rfl)), List.forall_mem_cons.mpr ⟨(cl_X5_narrowSame_1 _ (List.mem_of_getElem? (i := 4) rfl)), fun _ h => absurd h List.not_mem_nil⟩⟩⟩⟩) (by decide +kernel)) ggX5_narrowSame_X5_same
noncomputable def dz_p10_36 : List (Nat × Instr × Nat) := [(0, (.aload_n 0, 1)), (1, (.aload_n 0, 1)), (2, (.getfield 24, 3)), (5, (.iload_n 1, 1)), (6, (.iload_n 2, 1)), (7, (.iload_n 3, 1)), (8, (.invokevirtual 160, 3)), (11, (.ireturn, 1))]
theorem dy_p10_36 : dz_ok cX5_narrowSame dz_p10_36 = true := by decide +kernel
theorem dX5_narrowSame_0 : decode cX5_narrowSame 0 = .ok (.aload_n 0, 1) := dz_at (i := 0) dy_p10_36 rfl
theorem dX5_narrowSame_1 : decode cX5_narrowSame 1 = .ok (.aload_n 0, 1) := dz_at (i := 1) dy_p10_36 rfl
theorem dX5_narrowSame_2 : decode cX5_narrowSame 2 = .ok (.getfield 24, 3) := dz_at (i := 2) dy_p10_36 rfl
theorem dX5_narrowSame_5 : decode cX5_narrowSame 5 = .ok (.iload_n 1, 1) := dz_at (i := 3) dy_p10_36 rfl
theorem dX5_narrowSame_6 : decode cX5_narrowSame 6 = .ok (.iload_n 2, 1) := dz_at (i := 4) dy_p10_36 rfl
theorem dX5_narrowSame_7 : decode cX5_narrowSame 7 = .ok (.iload_n 3, 1) := dz_at (i := 5) dy_p10_36 rfl
theorem dX5_narrowSame_8 : decode cX5_narrowSame 8 = .ok (.invokevirtual 160, 3) := dz_at (i := 6) dy_p10_36 rfl
theorem dX5_narrowSame_11 : decode cX5_narrowSame 11 = .ok (.ireturn, 1) := dz_at (i := 7) dy_p10_36 rfl
noncomputable def o_X5_narrowSame (f2 : Nat → Int64) (p0 : Int32) (p1 : Int32) (p2 : Int32) : Bool × Int32 :=
  ((o_X5_same f2 p0 p1 p2).1, (o_X5_same f2 p0 p1 p2).2)
set_option maxHeartbeats 4000000 in
set_option maxRecDepth 100000 in
theorem k_X5_narrowSame (l : Launch) (dC : Nat → ClassId) (dI : Nat → Nat → Nat) (cy : ClassId) (h0 : Nat) (h1 : Nat) (hc1 : Nat) (h2 : Nat) (hc2 : Nat) (a1 : Int32) (f1 : Nat → Int64) (a2 : Int32) (f2 : Nat → Int64) (th : Int32) (rf : Int32) (kn : Int32) (sz : Nat) (N : Nat) (p0 : Int32) (p1 : Int32) (p2 : Int32) : Met l yX5_narrowSame wsX5_narrowSame ({ frames := 4, cells := 0, slots := 0, locals := 87 }) (va_Pc [.ref h0, .int p0, .int p1, .int p2] (xM (dC, dI) xCl [(h0, eM h1 h2 th rf kn), (h1, eMR true hc1 a1), (hc1, eA cy f1), (h2, eMR false hc2 a2), (hc2, eA cy f2)] [(cy, .long)] sz N)) (va_Qi (fun (r : Int32) (_ : Unit) => r = b2i ((o_X5_narrowSame f2 p0 p1 p2).1)) (fun _ t => xW (dC, dI) xCl [(h0, eM h1 h2 (o_X5_narrowSame f2 p0 p1 p2).2 rf kn), (h1, eMR true hc1 a1), (hc1, eA cy f1), (h2, eMR false hc2 a2), (hc2, eA cy f2)] (va_A [(h0, eM h1 h2 th rf kn), (h1, eMR true hc1 a1), (hc1, eA cy f1), (h2, eMR false hc2 a2), (hc2, eA cy f2)] sz) t) (va_A [(h0, eM h1 h2 th rf kn), (h1, eMR true hc1 a1), (hc1, eA cy f1), (h2, eMR false hc2 a2), (hc2, eA cy f2)] sz)) 0 0 (va_A [(h0, eM h1 h2 th rf kn), (h1, eMR true hc1 a1), (hc1, eA cy f1), (h2, eMR false hc2 a2), (hc2, eA cy f2)] sz) := by
  refine Met.ofW (cc := cX5_narrowSame) (maxL := 4) (ret := (some .boolean)) (by decide +kernel) rfl ?_
  intro p e s m args below meth c s₁ B hml hv
  obtain ⟨rfl, hsz, hP, hK, hD0, hN, hG⟩ := hv
  have hx := B.exec
  have hb := B.bytes
  have hr := B.returns
  have hts := atoms_spec (ws := wsX5_narrowSame) B.pre
  have hown : s.vm.findClass RX5 = some m.cls := findClass_of_methodNamed B.named
  have hlocks := B.notSynchronized
  subst hsz
  have hAN : ∀ q, va_A [(h0, eM h1 h2 th rf kn), (h1, eMR true hc1 a1), (hc1, eA cy f1), (h2, eMR false hc2 a2), (hc2, eA cy f2)] s.heap.size q → N ≤ q := xA_N hD0 hN
  have hD := hD0.self (sz := s.heap.size)
  generalize hAe : va_A [(h0, eM h1 h2 th rf kn), (h1, eMR true hc1 a1), (hc1, eA cy f1), (h2, eMR false hc2 a2), (hc2, eA cy f2)] s.heap.size = A at hD hAN ⊢
  have hA : ∀ q : Nat, s.heap.size ≤ q → A q := fun q h => by rw [← hAe]; exact Or.inr h
  have hS : va_S A s.heap s.heap [] := va_S.rf
  have hP : va_P (dC, dI) xCl [(h0, eM h1 h2 th rf kn), (h1, eMR true hc1 a1), (hc1, eA cy f1), (h2, eMR false hc2 a2), (hc2, eA cy f2)] s.heap := hP
  have hl := lv_entry ([.ref h0, .int p0, .int p1, .int p2]) (n := 4) (Nat.le_of_ble_eq_true rfl)
  rw [lg_entry_eq]
  generalize (lg_sl ([.ref h0, .int p0, .int p1, .int p2]) ++ List.replicate (4 - (lg_sl ([.ref h0, .int p0, .int p1, .int p2])).length) Slot.unset).toArray = ls at hl ⊢
  have hl : lv_has ls 4 [(0, .ref h0), (1, .int p0), (2, .int p1), (3, .int p2)] := hl
  refine lv_aload_n hx hb dX5_narrowSame_0 rfl (lv_at hl 0 rfl) ?_
  refine lv_aload_n hx hb dX5_narrowSame_1 rfl (lv_at hl 0 rfl) ?_
  refine va_get (D := (dC, dI)) (ci := 7) (v := .ref h2) (C := RX5) (T := TX5) (N := 5) hx hb hts (by decide +kernel) hown hK hP 0 rfl rfl 1 (by decide +kernel) (hts (.fieldLink RX5 24 "EdgefloatsModel" "narrow" "LEdgefloatsModel$Row;") (by decide +kernel)) (fun _ h9 => h9) rfl dX5_narrowSame_2 ?_
  refine lv_iload_n hx hb dX5_narrowSame_5 rfl (lv_at hl 1 rfl) ?_
  refine lv_iload_n hx hb dX5_narrowSame_6 rfl (lv_at hl 2 rfl) ?_
  refine lv_iload_n hx hb dX5_narrowSame_7 rfl (lv_at hl 3 rfl) ?_
  have hPc := hP.sub (ws' := [(h0, eM h1 h2 th rf kn), (h2, eMR false hc2 a2), (hc2, eA cy f2)]) [0, 3, 4] rfl
  have hDc := hD.sub (ws' := [(h0, eM h1 h2 th rf kn), (h2, eMR false hc2 a2), (hc2, eA cy f2)]) [0, 3, 4] (by decide +kernel) rfl
  have hKc := hK.sub (tys' := [(cy, .long)]) [0] rfl
  have hFc := va_free (wc := [(h0, eM h1 h2 th rf kn), (h2, eMR false hc2 a2), (hc2, eA cy f2)]) hD hS hA [0, 3, 4] rfl
  refine va_calli (va_runV (As := [.ref h2, .int p0, .int p1, .int p2]) (rest := []) ⟨hx, hb, hml, hown, hts⟩ (k_X5_same l dC dI cy h0 h1 h2 h2 hc2 false a2 f2 th rf kn s.heap.size N p0 p1 p2) (cwV 4 hts gX5_narrowSame_X5_same rfl rfl rfl (by decide +kernel) ⟨Nat.le_of_ble_eq_true rfl, Nat.le_of_ble_eq_true rfl⟩) (xM.preV hKc hPc hDc hAN (Nat.le_trans hN hS.1) (hG.kept hS hAN) (ci := 7) (q0 := 0) rfl rfl) rfl rfl hl.1 rfl (lv_room (Nat.le_of_ble_eq_true rfl)) dX5_narrowSame_8 ⟨Nat.le_of_ble_eq_true rfl, Nat.le_of_ble_eq_true rfl⟩) hS (fun q _ h => hFc q h) hFc (fun r_1 u t H locs ht hvm hw hB hz hk hS => ?_)
  replace hw : r_1 = b2i ((o_X5_same f2 p0 p1 p2).1) := hw
  subst r_1
  obtain ⟨hP1, hD1⟩ := hB
  rw [ht] at hP1
  obtain ⟨hP, hD⟩ := va_join (wr := [(h1, eMR true hc1 a1), (hc1, eA cy f1)]) (w1 := [(h0, eM h1 h2 (o_X5_same f2 p0 p1 p2).2 rf kn), (h2, eMR false hc2 a2), (hc2, eA cy f2)]) hP hD [0, 3, 4] [1, 2] rfl rfl (by decide +kernel) (by decide +kernel) hk hFc hP1 hD1
  have hP := hP.sub (ws' := [(h0, eM h1 h2 (o_X5_same f2 p0 p1 p2).2 rf kn), (h1, eMR true hc1 a1), (hc1, eA cy f1), (h2, eMR false hc2 a2), (hc2, eA cy f2)]) [2, 0, 1, 3, 4] rfl
  have hD := hD.sub (ws' := [(h0, eM h1 h2 (o_X5_same f2 p0 p1 p2).2 rf kn), (h1, eMR true hc1 a1), (hc1, eA cy f1), (h2, eMR false hc2 a2), (hc2, eA cy f2)]) [2, 0, 1, 3, 4] (by decide +kernel) rfl
  have he : o_X5_narrowSame f2 p0 p1 p2 = ((o_X5_same f2 p0 p1 p2).1, (o_X5_same f2 p0 p1 p2).2) := by (rw [o_X5_narrowSame]) <;> rfl
  refine W.widen (k := 0) (n := 0) (by omega) (by omega) ?_
  exact W.zret (v := (b2i ((o_X5_same f2 p0 p1 p2).1))) (ty := .boolean) hx hb hr (b2i_nar _) (fun t ht hW => ⟨⟨_, (), rfl, (by (rw [he]) <;> rfl), (by rw [he]; exact ⟨by rw [ht]; exact hP, hD⟩)⟩, hS.F ht⟩) hS.2.2 dX5_narrowSame_11
theorem cl_X5_narrowOther_1 : ∀ w ∈ [.methodLink RX5 164 yX5_other, .instanceMethod yX5_other, .selects RX5 yX5_other yX5_other, .initialized RX5, .code yX5_other cX5_other 3 (some .boolean), .methodLink RX5 35 yX5_isNo, .static yX5_isNo, .code yX5_isNo cX5_isNo 1 (some .boolean), .methodLink RX5 31 yX5_isIn, .static yX5_isIn, .code yX5_isIn cX5_isIn 3 (some .boolean), .methodLink RX5 42 yX5_fails, .instanceMethod yX5_fails, .selects RX5 yX5_fails yX5_fails, .code yX5_fails cX5_fails 3 (some .boolean), .fieldLink RX5 27 "EdgefloatsModel" "thrown" "I"], w ∈ wsX5_narrowOther := fun _ h => (List.mem_cons_of_mem _ (List.mem_append_left _ h))
theorem cl_X5_narrowOther_2 : ∀ w ∈ wsX50, w ∈ wsX5_narrowOther := fun _ h => (List.mem_cons_of_mem _ (List.mem_append_right _ h))
set_option maxRecDepth 20000 in
theorem ggX5_narrowOther_X5_other : GoodIn wsX5_narrowOther wsX5_other := goodIn_sub (List.forall_mem_cons.mpr ⟨(cl_X5_narrowOther_1 _ (List.mem_of_getElem? (i := 4) rfl)), fun w h => (List.mem_append.mp h).elim ((List.forall_mem_cons.mpr ⟨(cl_X5_narrowOther_1 _ (List.mem_of_getElem? (i := 5) rfl)), List.forall_mem_cons.mpr ⟨(cl_X5_narrowOther_1 _ (List.mem_of_getElem? (i := 6) rfl)), List.forall_mem_cons.mpr ⟨(cl_X5_narrowOther_1 _ (List.mem_of_getElem? (i := 3) rfl)), List.forall_mem_cons.mpr ⟨(cl_X5_narrowOther_1 _ (List.mem_of_getElem? (i := 7) rfl)), List.forall_mem_cons.mpr ⟨(cl_X5_narrowOther_1 _ (List.mem_of_getElem? (i := 8) rfl)), List.forall_mem_cons.mpr ⟨(cl_X5_narrowOther_1 _ (List.mem_of_getElem? (i := 9) rfl)), List.forall_mem_cons.mpr ⟨(cl_X5_narrowOther_1 _ (List.mem_of_getElem? (i := 10) rfl)), List.forall_mem_cons.mpr ⟨(cl_X5_narrowOther_1 _ (List.mem_of_getElem? (i := 11) rfl)), List.forall_mem_cons.mpr ⟨(cl_X5_narrowOther_1 _ (List.mem_of_getElem? (i := 12) rfl)), List.forall_mem_cons.mpr ⟨(cl_X5_narrowOther_1 _ (List.mem_of_getElem? (i := 13) rfl)), List.forall_mem_cons.mpr ⟨(cl_X5_narrowOther_1 _ (List.mem_of_getElem? (i := 14) rfl)), List.forall_mem_cons.mpr ⟨(cl_X5_narrowOther_1 _ (List.mem_of_getElem? (i := 15) rfl)), fun _ h => absurd h List.not_mem_nil⟩⟩⟩⟩⟩⟩⟩⟩⟩⟩⟩⟩) w) ((cl_X5_narrowOther_2) w)⟩) (by decide +kernel)
set_option maxRecDepth 20000 in
theorem gX5_narrowOther_X5_other : GoodIn wsX5_narrowOther (wsV RX5 164 RX5 yX5_other wsX5_other) := goodIn_app (goodIn_sub (List.forall_mem_cons.mpr ⟨(cl_X5_narrowOther_1 _ (List.mem_of_getElem? (i := 0) rfl)), List.forall_mem_cons.mpr ⟨(cl_X5_narrowOther_1 _ (List.mem_of_getElem? (i := 1) rfl)), List.forall_mem_cons.mpr ⟨(cl_X5_narrowOther_1 _ (List.mem_of_getElem? (i := 2) rfl)), List.forall_mem_cons.mpr ⟨(cl_X5_narrowOther_1 _ (List.mem_of_getElem? (i := 3) rfl)), fun _ h => absurd h List.not_mem_nil⟩⟩⟩⟩) (by decide +kernel)) ggX5_narrowOther_X5_other
noncomputable def dz_p10_37 : List (Nat × Instr × Nat) := [(0, (.aload_n 0, 1)), (1, (.iload_n 1, 1)), (2, (.iload_n 2, 1)), (3, (.invokevirtual 164, 3)), (6, (.ireturn, 1))]
theorem dy_p10_37 : dz_ok cX5_narrowOther dz_p10_37 = true := by decide +kernel
theorem dX5_narrowOther_0 : decode cX5_narrowOther 0 = .ok (.aload_n 0, 1) := dz_at (i := 0) dy_p10_37 rfl
theorem dX5_narrowOther_1 : decode cX5_narrowOther 1 = .ok (.iload_n 1, 1) := dz_at (i := 1) dy_p10_37 rfl
theorem dX5_narrowOther_2 : decode cX5_narrowOther 2 = .ok (.iload_n 2, 1) := dz_at (i := 2) dy_p10_37 rfl
theorem dX5_narrowOther_3 : decode cX5_narrowOther 3 = .ok (.invokevirtual 164, 3) := dz_at (i := 3) dy_p10_37 rfl
theorem dX5_narrowOther_6 : decode cX5_narrowOther 6 = .ok (.ireturn, 1) := dz_at (i := 4) dy_p10_37 rfl
noncomputable def o_X5_narrowOther  (p0 : Int32) (p1 : Int32) : Bool × Int32 :=
  ((o_X5_other p0 p1).1, (o_X5_other p0 p1).2)
set_option maxHeartbeats 4000000 in
set_option maxRecDepth 100000 in
theorem k_X5_narrowOther (l : Launch) (dC : Nat → ClassId) (dI : Nat → Nat → Nat) (cy : ClassId) (h0 : Nat) (h1 : Nat) (hc1 : Nat) (h2 : Nat) (hc2 : Nat) (a1 : Int32) (f1 : Nat → Int64) (a2 : Int32) (f2 : Nat → Int64) (th : Int32) (rf : Int32) (kn : Int32) (sz : Nat) (N : Nat) (p0 : Int32) (p1 : Int32) : Met l yX5_narrowOther wsX5_narrowOther ({ frames := 3, cells := 0, slots := 0, locals := 64 }) (va_Pc [.ref h0, .int p0, .int p1] (xM (dC, dI) xCl [(h0, eM h1 h2 th rf kn), (h1, eMR true hc1 a1), (hc1, eA cy f1), (h2, eMR false hc2 a2), (hc2, eA cy f2)] [(cy, .long)] sz N)) (va_Qi (fun (r : Int32) (_ : Unit) => r = b2i ((o_X5_narrowOther p0 p1).1)) (fun _ t => xW (dC, dI) xCl [(h0, eM h1 h2 (o_X5_narrowOther p0 p1).2 rf kn), (h1, eMR true hc1 a1), (hc1, eA cy f1), (h2, eMR false hc2 a2), (hc2, eA cy f2)] (va_A [(h0, eM h1 h2 th rf kn), (h1, eMR true hc1 a1), (hc1, eA cy f1), (h2, eMR false hc2 a2), (hc2, eA cy f2)] sz) t) (va_A [(h0, eM h1 h2 th rf kn), (h1, eMR true hc1 a1), (hc1, eA cy f1), (h2, eMR false hc2 a2), (hc2, eA cy f2)] sz)) 0 0 (va_A [(h0, eM h1 h2 th rf kn), (h1, eMR true hc1 a1), (hc1, eA cy f1), (h2, eMR false hc2 a2), (hc2, eA cy f2)] sz) := by
  refine Met.ofW (cc := cX5_narrowOther) (maxL := 3) (ret := (some .boolean)) (by decide +kernel) rfl ?_
  intro p e s m args below meth c s₁ B hml hv
  obtain ⟨rfl, hsz, hP, hK, hD0, hN, hG⟩ := hv
  have hx := B.exec
  have hb := B.bytes
  have hr := B.returns
  have hts := atoms_spec (ws := wsX5_narrowOther) B.pre
  have hown : s.vm.findClass RX5 = some m.cls := findClass_of_methodNamed B.named
  have hlocks := B.notSynchronized
  subst hsz
  have hAN : ∀ q, va_A [(h0, eM h1 h2 th rf kn), (h1, eMR true hc1 a1), (hc1, eA cy f1), (h2, eMR false hc2 a2), (hc2, eA cy f2)] s.heap.size q → N ≤ q := xA_N hD0 hN
  have hD := hD0.self (sz := s.heap.size)
  generalize hAe : va_A [(h0, eM h1 h2 th rf kn), (h1, eMR true hc1 a1), (hc1, eA cy f1), (h2, eMR false hc2 a2), (hc2, eA cy f2)] s.heap.size = A at hD hAN ⊢
  have hA : ∀ q : Nat, s.heap.size ≤ q → A q := fun q h => by rw [← hAe]; exact Or.inr h
  have hS : va_S A s.heap s.heap [] := va_S.rf
  have hP : va_P (dC, dI) xCl [(h0, eM h1 h2 th rf kn), (h1, eMR true hc1 a1), (hc1, eA cy f1), (h2, eMR false hc2 a2), (hc2, eA cy f2)] s.heap := hP
  have hl := lv_entry ([.ref h0, .int p0, .int p1]) (n := 3) (Nat.le_of_ble_eq_true rfl)
  rw [lg_entry_eq]
  generalize (lg_sl ([.ref h0, .int p0, .int p1]) ++ List.replicate (3 - (lg_sl ([.ref h0, .int p0, .int p1])).length) Slot.unset).toArray = ls at hl ⊢
  have hl : lv_has ls 3 [(0, .ref h0), (1, .int p0), (2, .int p1)] := hl
  refine lv_aload_n hx hb dX5_narrowOther_0 rfl (lv_at hl 0 rfl) ?_
  refine lv_iload_n hx hb dX5_narrowOther_1 rfl (lv_at hl 1 rfl) ?_
  refine lv_iload_n hx hb dX5_narrowOther_2 rfl (lv_at hl 2 rfl) ?_
  have hPc := hP.sub (ws' := [(h0, eM h1 h2 th rf kn)]) [0] rfl
  have hDc := hD.sub (ws' := [(h0, eM h1 h2 th rf kn)]) [0] (by decide +kernel) rfl
  have hKc := hK.sub (tys' := []) [] rfl
  have hFc := va_free (wc := [(h0, eM h1 h2 th rf kn)]) hD hS hA [0] rfl
  refine va_calli (va_runV (As := [.int p0, .int p1]) (rest := []) ⟨hx, hb, hml, hown, hts⟩ (k_X5_other l dC dI h0 h1 h2 th rf kn s.heap.size N p0 p1) (cwV 2 hts gX5_narrowOther_X5_other rfl rfl rfl (by decide +kernel) ⟨Nat.le_of_ble_eq_true rfl, Nat.le_of_ble_eq_true rfl⟩) (xM.preV hKc hPc hDc hAN (Nat.le_trans hN hS.1) (hG.kept hS hAN) (ci := 7) (q0 := 0) rfl rfl) rfl rfl hl.1 rfl (lv_room (Nat.le_of_ble_eq_true rfl)) dX5_narrowOther_3 ⟨Nat.le_of_ble_eq_true rfl, Nat.le_of_ble_eq_true rfl⟩) hS (fun q _ h => hFc q h) hFc (fun r_1 u t H locs ht hvm hw hB hz hk hS => ?_)
  replace hw : r_1 = b2i ((o_X5_other p0 p1).1) := hw
  subst r_1
  obtain ⟨hP1, hD1⟩ := hB
  rw [ht] at hP1
  obtain ⟨hP, hD⟩ := va_join (wr := [(h1, eMR true hc1 a1), (hc1, eA cy f1), (h2, eMR false hc2 a2), (hc2, eA cy f2)]) (w1 := [(h0, eM h1 h2 (o_X5_other p0 p1).2 rf kn)]) hP hD [0] [1, 2, 3, 4] rfl rfl (by decide +kernel) (by decide +kernel) hk hFc hP1 hD1
  have hP := hP.sub (ws' := [(h0, eM h1 h2 (o_X5_other p0 p1).2 rf kn), (h1, eMR true hc1 a1), (hc1, eA cy f1), (h2, eMR false hc2 a2), (hc2, eA cy f2)]) [4, 0, 1, 2, 3] rfl
  have hD := hD.sub (ws' := [(h0, eM h1 h2 (o_X5_other p0 p1).2 rf kn), (h1, eMR true hc1 a1), (hc1, eA cy f1), (h2, eMR false hc2 a2), (hc2, eA cy f2)]) [4, 0, 1, 2, 3] (by decide +kernel) rfl
  have he : o_X5_narrowOther p0 p1 = ((o_X5_other p0 p1).1, (o_X5_other p0 p1).2) := by (rw [o_X5_narrowOther]) <;> rfl
  refine W.widen (k := 0) (n := 0) (by omega) (by omega) ?_
  exact W.zret (v := (b2i ((o_X5_other p0 p1).1))) (ty := .boolean) hx hb hr (b2i_nar _) (fun t ht hW => ⟨⟨_, (), rfl, (by (rw [he]) <;> rfl), (by rw [he]; exact ⟨by rw [ht]; exact hP, hD⟩)⟩, hS.F ht⟩) hS.2.2 dX5_narrowOther_6
theorem cl_X5_narrowLike_1 : ∀ w ∈ wsX5_narrowLike_r1, w ∈ wsX5_narrowLike := fun _ h => (List.mem_cons_of_mem _ (List.mem_append_left _ (List.mem_append_left _ (List.mem_append_left _ h))))
theorem cl_X5_narrowLike_2 : ∀ w ∈ wsX5_narrowLike_r2, w ∈ wsX5_narrowLike := fun _ h => (List.mem_cons_of_mem _ (List.mem_append_left _ (List.mem_append_left _ (List.mem_append_right _ h))))
theorem cl_X5_narrowLike_3 : ∀ w ∈ wsX50, w ∈ wsX5_narrowLike := fun _ h => (List.mem_cons_of_mem _ (List.mem_append_left _ (List.mem_append_right _ h)))
theorem cl_X5_narrowLike_4 : ∀ w ∈ wsX40, w ∈ wsX5_narrowLike := fun _ h => (List.mem_cons_of_mem _ (List.mem_append_right _ h))
set_option maxRecDepth 20000 in
theorem ggX5_narrowLike_X5_like : GoodIn wsX5_narrowLike wsX5_like := goodIn_sub (List.forall_mem_cons.mpr ⟨(cl_X5_narrowLike_1 _ (List.mem_of_getElem? (i := 5) rfl)), fun w h => (List.mem_append.mp h).elim ((fun w h => (List.mem_append.mp h).elim ((fun w h => (List.mem_append.mp h).elim ((List.forall_mem_cons.mpr ⟨(cl_X5_narrowLike_1 _ (List.mem_of_getElem? (i := 6) rfl)), List.forall_mem_cons.mpr ⟨(cl_X5_narrowLike_1 _ (List.mem_of_getElem? (i := 7) rfl)), List.forall_mem_cons.mpr ⟨(cl_X5_narrowLike_1 _ (List.mem_of_getElem? (i := 8) rfl)), List.forall_mem_cons.mpr ⟨(cl_X5_narrowLike_1 _ (List.mem_of_getElem? (i := 4) rfl)), List.forall_mem_cons.mpr ⟨(cl_X5_narrowLike_1 _ (List.mem_of_getElem? (i := 9) rfl)), List.forall_mem_cons.mpr ⟨(cl_X5_narrowLike_1 _ (List.mem_of_getElem? (i := 10) rfl)), List.forall_mem_cons.mpr ⟨(cl_X5_narrowLike_1 _ (List.mem_of_getElem? (i := 11) rfl)), List.forall_mem_cons.mpr ⟨(cl_X5_narrowLike_1 _ (List.mem_of_getElem? (i := 12) rfl)), List.forall_mem_cons.mpr ⟨(cl_X5_narrowLike_1 _ (List.mem_of_getElem? (i := 13) rfl)), List.forall_mem_cons.mpr ⟨(cl_X5_narrowLike_1 _ (List.mem_of_getElem? (i := 14) rfl)), List.forall_mem_cons.mpr ⟨(cl_X5_narrowLike_1 _ (List.mem_of_getElem? (i := 15) rfl)), List.forall_mem_cons.mpr ⟨(cl_X5_narrowLike_1 _ (List.mem_of_getElem? (i := 16) rfl)), List.forall_mem_cons.mpr ⟨(cl_X5_narrowLike_1 _ (List.mem_of_getElem? (i := 17) rfl)), List.forall_mem_cons.mpr ⟨(cl_X5_narrowLike_1 _ (List.mem_of_getElem? (i := 18) rfl)), List.forall_mem_cons.mpr ⟨(cl_X5_narrowLike_1 _ (List.mem_of_getElem? (i := 19) rfl)), List.forall_mem_cons.mpr ⟨(cl_X5_narrowLike_1 _ (List.mem_of_getElem? (i := 20) rfl)), List.forall_mem_cons.mpr ⟨(cl_X5_narrowLike_1 _ (List.mem_of_getElem? (i := 21) rfl)), List.forall_mem_cons.mpr ⟨(cl_X5_narrowLike_1 _ (List.mem_of_getElem? (i := 22) rfl)), List.forall_mem_cons.mpr ⟨(cl_X5_narrowLike_1 _ (List.mem_of_getElem? (i := 23) rfl)), List.forall_mem_cons.mpr ⟨(cl_X5_narrowLike_2 _ (List.mem_of_getElem? (i := 0) rfl)), List.forall_mem_cons.mpr ⟨(cl_X5_narrowLike_2 _ (List.mem_of_getElem? (i := 1) rfl)), List.forall_mem_cons.mpr ⟨(cl_X5_narrowLike_2 _ (List.mem_of_getElem? (i := 2) rfl)), List.forall_mem_cons.mpr ⟨(cl_X5_narrowLike_2 _ (List.mem_of_getElem? (i := 3) rfl)), List.forall_mem_cons.mpr ⟨(cl_X5_narrowLike_2 _ (List.mem_of_getElem? (i := 4) rfl)), fun _ h => absurd h List.not_mem_nil⟩⟩⟩⟩⟩⟩⟩⟩⟩⟩⟩⟩⟩⟩⟩⟩⟩⟩⟩⟩⟩⟩⟩⟩) w) ((List.forall_mem_cons.mpr ⟨(cl_X5_narrowLike_2 _ (List.mem_of_getElem? (i := 5) rfl)), List.forall_mem_cons.mpr ⟨(cl_X5_narrowLike_2 _ (List.mem_of_getElem? (i := 6) rfl)), List.forall_mem_cons.mpr ⟨(cl_X5_narrowLike_2 _ (List.mem_of_getElem? (i := 7) rfl)), List.forall_mem_cons.mpr ⟨(cl_X5_narrowLike_2 _ (List.mem_of_getElem? (i := 8) rfl)), List.forall_mem_cons.mpr ⟨(cl_X5_narrowLike_2 _ (List.mem_of_getElem? (i := 9) rfl)), List.forall_mem_cons.mpr ⟨(cl_X5_narrowLike_2 _ (List.mem_of_getElem? (i := 10) rfl)), List.forall_mem_cons.mpr ⟨(cl_X5_narrowLike_2 _ (List.mem_of_getElem? (i := 11) rfl)), List.forall_mem_cons.mpr ⟨(cl_X5_narrowLike_2 _ (List.mem_of_getElem? (i := 12) rfl)), List.forall_mem_cons.mpr ⟨(cl_X5_narrowLike_2 _ (List.mem_of_getElem? (i := 13) rfl)), List.forall_mem_cons.mpr ⟨(cl_X5_narrowLike_2 _ (List.mem_of_getElem? (i := 14) rfl)), List.forall_mem_cons.mpr ⟨(cl_X5_narrowLike_2 _ (List.mem_of_getElem? (i := 15) rfl)), List.forall_mem_cons.mpr ⟨(cl_X5_narrowLike_2 _ (List.mem_of_getElem? (i := 16) rfl)), List.forall_mem_cons.mpr ⟨(cl_X5_narrowLike_2 _ (List.mem_of_getElem? (i := 17) rfl)), List.forall_mem_cons.mpr ⟨(cl_X5_narrowLike_2 _ (List.mem_of_getElem? (i := 18) rfl)), List.forall_mem_cons.mpr ⟨(cl_X5_narrowLike_2 _ (List.mem_of_getElem? (i := 19) rfl)), fun _ h => absurd h List.not_mem_nil⟩⟩⟩⟩⟩⟩⟩⟩⟩⟩⟩⟩⟩⟩⟩) w)) w) ((cl_X5_narrowLike_4) w)) w) ((cl_X5_narrowLike_3) w)⟩) (by decide +kernel)
set_option maxRecDepth 20000 in
theorem gX5_narrowLike_X5_like : GoodIn wsX5_narrowLike (wsV RX5 167 RX5 yX5_like wsX5_like) := goodIn_app (goodIn_sub (List.forall_mem_cons.mpr ⟨(cl_X5_narrowLike_1 _ (List.mem_of_getElem? (i := 1) rfl)), List.forall_mem_cons.mpr ⟨(cl_X5_narrowLike_1 _ (List.mem_of_getElem? (i := 2) rfl)), List.forall_mem_cons.mpr ⟨(cl_X5_narrowLike_1 _ (List.mem_of_getElem? (i := 3) rfl)), List.forall_mem_cons.mpr ⟨(cl_X5_narrowLike_1 _ (List.mem_of_getElem? (i := 4) rfl)), fun _ h => absurd h List.not_mem_nil⟩⟩⟩⟩) (by decide +kernel)) ggX5_narrowLike_X5_like
noncomputable def dz_p10_38 : List (Nat × Instr × Nat) := [(0, (.aload_n 0, 1)), (1, (.aload_n 0, 1)), (2, (.getfield 24, 3)), (5, (.iload_n 1, 1)), (6, (.iload_n 2, 1)), (7, (.invokevirtual 167, 3)), (10, (.ireturn, 1))]
theorem dy_p10_38 : dz_ok cX5_narrowLike dz_p10_38 = true := by decide +kernel
theorem dX5_narrowLike_0 : decode cX5_narrowLike 0 = .ok (.aload_n 0, 1) := dz_at (i := 0) dy_p10_38 rfl
theorem dX5_narrowLike_1 : decode cX5_narrowLike 1 = .ok (.aload_n 0, 1) := dz_at (i := 1) dy_p10_38 rfl
theorem dX5_narrowLike_2 : decode cX5_narrowLike 2 = .ok (.getfield 24, 3) := dz_at (i := 2) dy_p10_38 rfl
theorem dX5_narrowLike_5 : decode cX5_narrowLike 5 = .ok (.iload_n 1, 1) := dz_at (i := 3) dy_p10_38 rfl
theorem dX5_narrowLike_6 : decode cX5_narrowLike 6 = .ok (.iload_n 2, 1) := dz_at (i := 4) dy_p10_38 rfl
theorem dX5_narrowLike_7 : decode cX5_narrowLike 7 = .ok (.invokevirtual 167, 3) := dz_at (i := 5) dy_p10_38 rfl
theorem dX5_narrowLike_10 : decode cX5_narrowLike 10 = .ok (.ireturn, 1) := dz_at (i := 6) dy_p10_38 rfl
noncomputable def o_X5_narrowLike (f2 : Nat → Int64) (p0 : Int32) (p1 : Int32) : Bool × Int32 :=
  ((o_X5_like false f2 p0 p1).1, (o_X5_like false f2 p0 p1).2)
set_option maxHeartbeats 4000000 in
set_option maxRecDepth 100000 in
theorem k_X5_narrowLike (l : Launch) (dC : Nat → ClassId) (dI : Nat → Nat → Nat) (cy : ClassId) (h0 : Nat) (h1 : Nat) (hc1 : Nat) (h2 : Nat) (hc2 : Nat) (a1 : Int32) (f1 : Nat → Int64) (a2 : Int32) (f2 : Nat → Int64) (th : Int32) (rf : Int32) (kn : Int32) (sz : Nat) (N : Nat) (p0 : Int32) (p1 : Int32) : Met l yX5_narrowLike wsX5_narrowLike ({ frames := 5, cells := 0, slots := 0, locals := 111 }) (va_Pc [.ref h0, .int p0, .int p1] (xM (dC, dI) xCl [(h0, eM h1 h2 th rf kn), (h1, eMR true hc1 a1), (hc1, eA cy f1), (h2, eMR false hc2 a2), (hc2, eA cy f2)] [(cy, .long)] sz N)) (va_Qi (fun (r : Int32) (_ : Unit) => r = b2i ((o_X5_narrowLike f2 p0 p1).1)) (fun _ t => xW (dC, dI) xCl [(h0, eM h1 h2 (o_X5_narrowLike f2 p0 p1).2 rf kn), (h1, eMR true hc1 a1), (hc1, eA cy f1), (h2, eMR false hc2 a2), (hc2, eA cy f2)] (va_A [(h0, eM h1 h2 th rf kn), (h1, eMR true hc1 a1), (hc1, eA cy f1), (h2, eMR false hc2 a2), (hc2, eA cy f2)] sz) t) (va_A [(h0, eM h1 h2 th rf kn), (h1, eMR true hc1 a1), (hc1, eA cy f1), (h2, eMR false hc2 a2), (hc2, eA cy f2)] sz)) 0 0 (va_A [(h0, eM h1 h2 th rf kn), (h1, eMR true hc1 a1), (hc1, eA cy f1), (h2, eMR false hc2 a2), (hc2, eA cy f2)] sz) := by
  refine Met.ofW (cc := cX5_narrowLike) (maxL := 3) (ret := (some .boolean)) (by decide +kernel) rfl ?_
  intro p e s m args below meth c s₁ B hml hv
  obtain ⟨rfl, hsz, hP, hK, hD0, hN, hG⟩ := hv
  have hx := B.exec
  have hb := B.bytes
  have hr := B.returns
  have hts := atoms_spec (ws := wsX5_narrowLike) B.pre
  have hown : s.vm.findClass RX5 = some m.cls := findClass_of_methodNamed B.named
  have hlocks := B.notSynchronized
  subst hsz
  have hAN : ∀ q, va_A [(h0, eM h1 h2 th rf kn), (h1, eMR true hc1 a1), (hc1, eA cy f1), (h2, eMR false hc2 a2), (hc2, eA cy f2)] s.heap.size q → N ≤ q := xA_N hD0 hN
  have hD := hD0.self (sz := s.heap.size)
  generalize hAe : va_A [(h0, eM h1 h2 th rf kn), (h1, eMR true hc1 a1), (hc1, eA cy f1), (h2, eMR false hc2 a2), (hc2, eA cy f2)] s.heap.size = A at hD hAN ⊢
  have hA : ∀ q : Nat, s.heap.size ≤ q → A q := fun q h => by rw [← hAe]; exact Or.inr h
  have hS : va_S A s.heap s.heap [] := va_S.rf
  have hP : va_P (dC, dI) xCl [(h0, eM h1 h2 th rf kn), (h1, eMR true hc1 a1), (hc1, eA cy f1), (h2, eMR false hc2 a2), (hc2, eA cy f2)] s.heap := hP
  have hl := lv_entry ([.ref h0, .int p0, .int p1]) (n := 3) (Nat.le_of_ble_eq_true rfl)
  rw [lg_entry_eq]
  generalize (lg_sl ([.ref h0, .int p0, .int p1]) ++ List.replicate (3 - (lg_sl ([.ref h0, .int p0, .int p1])).length) Slot.unset).toArray = ls at hl ⊢
  have hl : lv_has ls 3 [(0, .ref h0), (1, .int p0), (2, .int p1)] := hl
  refine lv_aload_n hx hb dX5_narrowLike_0 rfl (lv_at hl 0 rfl) ?_
  refine lv_aload_n hx hb dX5_narrowLike_1 rfl (lv_at hl 0 rfl) ?_
  refine va_get (D := (dC, dI)) (ci := 7) (v := .ref h2) (C := RX5) (T := TX5) (N := 5) hx hb hts (by decide +kernel) hown hK hP 0 rfl rfl 1 (by decide +kernel) (hts (.fieldLink RX5 24 "EdgefloatsModel" "narrow" "LEdgefloatsModel$Row;") (by decide +kernel)) (fun _ h9 => h9) rfl dX5_narrowLike_2 ?_
  refine lv_iload_n hx hb dX5_narrowLike_5 rfl (lv_at hl 1 rfl) ?_
  refine lv_iload_n hx hb dX5_narrowLike_6 rfl (lv_at hl 2 rfl) ?_
  have hPc := hP.sub (ws' := [(h0, eM h1 h2 th rf kn), (h2, eMR false hc2 a2), (hc2, eA cy f2)]) [0, 3, 4] rfl
  have hDc := hD.sub (ws' := [(h0, eM h1 h2 th rf kn), (h2, eMR false hc2 a2), (hc2, eA cy f2)]) [0, 3, 4] (by decide +kernel) rfl
  have hKc := hK.sub (tys' := [(cy, .long)]) [0] rfl
  have hFc := va_free (wc := [(h0, eM h1 h2 th rf kn), (h2, eMR false hc2 a2), (hc2, eA cy f2)]) hD hS hA [0, 3, 4] rfl
  refine va_calli (va_runV (As := [.ref h2, .int p0, .int p1]) (rest := []) ⟨hx, hb, hml, hown, hts⟩ (k_X5_like l dC dI cy h0 h1 h2 h2 hc2 false a2 f2 th rf kn s.heap.size N p0 p1) (cwV 3 hts gX5_narrowLike_X5_like rfl rfl rfl (by decide +kernel) ⟨Nat.le_of_ble_eq_true rfl, Nat.le_of_ble_eq_true rfl⟩) (xM.preV hKc hPc hDc hAN (Nat.le_trans hN hS.1) (hG.kept hS hAN) (ci := 7) (q0 := 0) rfl rfl) rfl rfl hl.1 rfl (lv_room (Nat.le_of_ble_eq_true rfl)) dX5_narrowLike_7 ⟨Nat.le_of_ble_eq_true rfl, Nat.le_of_ble_eq_true rfl⟩) hS (fun q _ h => hFc q h) hFc (fun r_1 u t H locs ht hvm hw hB hz hk hS => ?_)
  replace hw : r_1 = b2i ((o_X5_like false f2 p0 p1).1) := hw
  subst r_1
  obtain ⟨hP1, hD1⟩ := hB
  rw [ht] at hP1
  obtain ⟨hP, hD⟩ := va_join (wr := [(h1, eMR true hc1 a1), (hc1, eA cy f1)]) (w1 := [(h0, eM h1 h2 (o_X5_like false f2 p0 p1).2 rf kn), (h2, eMR false hc2 a2), (hc2, eA cy f2)]) hP hD [0, 3, 4] [1, 2] rfl rfl (by decide +kernel) (by decide +kernel) hk hFc hP1 hD1
  have hP := hP.sub (ws' := [(h0, eM h1 h2 (o_X5_like false f2 p0 p1).2 rf kn), (h1, eMR true hc1 a1), (hc1, eA cy f1), (h2, eMR false hc2 a2), (hc2, eA cy f2)]) [2, 0, 1, 3, 4] rfl
  have hD := hD.sub (ws' := [(h0, eM h1 h2 (o_X5_like false f2 p0 p1).2 rf kn), (h1, eMR true hc1 a1), (hc1, eA cy f1), (h2, eMR false hc2 a2), (hc2, eA cy f2)]) [2, 0, 1, 3, 4] (by decide +kernel) rfl
  have he : o_X5_narrowLike f2 p0 p1 = ((o_X5_like false f2 p0 p1).1, (o_X5_like false f2 p0 p1).2) := by (rw [o_X5_narrowLike]) <;> rfl
  refine W.widen (k := 0) (n := 0) (by omega) (by omega) ?_
  exact W.zret (v := (b2i ((o_X5_like false f2 p0 p1).1))) (ty := .boolean) hx hb hr (b2i_nar _) (fun t ht hW => ⟨⟨_, (), rfl, (by (rw [he]) <;> rfl), (by rw [he]; exact ⟨by rw [ht]; exact hP, hD⟩)⟩, hS.F ht⟩) hS.2.2 dX5_narrowLike_10
theorem cl_X5_narrowBelow_1 : ∀ w ∈ wsX5_narrowBelow_r1, w ∈ wsX5_narrowBelow := fun _ h => (List.mem_cons_of_mem _ (List.mem_append_left _ (List.mem_append_left _ (List.mem_append_left _ h))))
theorem cl_X5_narrowBelow_2 : ∀ w ∈ wsX5_narrowBelow_r2, w ∈ wsX5_narrowBelow := fun _ h => (List.mem_cons_of_mem _ (List.mem_append_left _ (List.mem_append_left _ (List.mem_append_right _ h))))
theorem cl_X5_narrowBelow_3 : ∀ w ∈ wsX50, w ∈ wsX5_narrowBelow := fun _ h => (List.mem_cons_of_mem _ (List.mem_append_left _ (List.mem_append_right _ h)))
theorem cl_X5_narrowBelow_4 : ∀ w ∈ wsX40, w ∈ wsX5_narrowBelow := fun _ h => (List.mem_cons_of_mem _ (List.mem_append_right _ h))
set_option maxRecDepth 20000 in
theorem ggX5_narrowBelow_X5_below : GoodIn wsX5_narrowBelow wsX5_below := goodIn_sub (List.forall_mem_cons.mpr ⟨(cl_X5_narrowBelow_1 _ (List.mem_of_getElem? (i := 5) rfl)), fun w h => (List.mem_append.mp h).elim ((fun w h => (List.mem_append.mp h).elim ((fun w h => (List.mem_append.mp h).elim ((List.forall_mem_cons.mpr ⟨(cl_X5_narrowBelow_1 _ (List.mem_of_getElem? (i := 6) rfl)), List.forall_mem_cons.mpr ⟨(cl_X5_narrowBelow_1 _ (List.mem_of_getElem? (i := 7) rfl)), List.forall_mem_cons.mpr ⟨(cl_X5_narrowBelow_1 _ (List.mem_of_getElem? (i := 8) rfl)), List.forall_mem_cons.mpr ⟨(cl_X5_narrowBelow_1 _ (List.mem_of_getElem? (i := 4) rfl)), List.forall_mem_cons.mpr ⟨(cl_X5_narrowBelow_1 _ (List.mem_of_getElem? (i := 9) rfl)), List.forall_mem_cons.mpr ⟨(cl_X5_narrowBelow_1 _ (List.mem_of_getElem? (i := 10) rfl)), List.forall_mem_cons.mpr ⟨(cl_X5_narrowBelow_1 _ (List.mem_of_getElem? (i := 11) rfl)), List.forall_mem_cons.mpr ⟨(cl_X5_narrowBelow_1 _ (List.mem_of_getElem? (i := 12) rfl)), List.forall_mem_cons.mpr ⟨(cl_X5_narrowBelow_1 _ (List.mem_of_getElem? (i := 13) rfl)), List.forall_mem_cons.mpr ⟨(cl_X5_narrowBelow_1 _ (List.mem_of_getElem? (i := 14) rfl)), List.forall_mem_cons.mpr ⟨(cl_X5_narrowBelow_1 _ (List.mem_of_getElem? (i := 15) rfl)), List.forall_mem_cons.mpr ⟨(cl_X5_narrowBelow_1 _ (List.mem_of_getElem? (i := 16) rfl)), List.forall_mem_cons.mpr ⟨(cl_X5_narrowBelow_1 _ (List.mem_of_getElem? (i := 17) rfl)), List.forall_mem_cons.mpr ⟨(cl_X5_narrowBelow_1 _ (List.mem_of_getElem? (i := 18) rfl)), List.forall_mem_cons.mpr ⟨(cl_X5_narrowBelow_1 _ (List.mem_of_getElem? (i := 19) rfl)), List.forall_mem_cons.mpr ⟨(cl_X5_narrowBelow_1 _ (List.mem_of_getElem? (i := 20) rfl)), List.forall_mem_cons.mpr ⟨(cl_X5_narrowBelow_1 _ (List.mem_of_getElem? (i := 21) rfl)), List.forall_mem_cons.mpr ⟨(cl_X5_narrowBelow_1 _ (List.mem_of_getElem? (i := 22) rfl)), List.forall_mem_cons.mpr ⟨(cl_X5_narrowBelow_1 _ (List.mem_of_getElem? (i := 23) rfl)), List.forall_mem_cons.mpr ⟨(cl_X5_narrowBelow_2 _ (List.mem_of_getElem? (i := 0) rfl)), List.forall_mem_cons.mpr ⟨(cl_X5_narrowBelow_2 _ (List.mem_of_getElem? (i := 1) rfl)), List.forall_mem_cons.mpr ⟨(cl_X5_narrowBelow_2 _ (List.mem_of_getElem? (i := 2) rfl)), List.forall_mem_cons.mpr ⟨(cl_X5_narrowBelow_2 _ (List.mem_of_getElem? (i := 3) rfl)), List.forall_mem_cons.mpr ⟨(cl_X5_narrowBelow_2 _ (List.mem_of_getElem? (i := 4) rfl)), fun _ h => absurd h List.not_mem_nil⟩⟩⟩⟩⟩⟩⟩⟩⟩⟩⟩⟩⟩⟩⟩⟩⟩⟩⟩⟩⟩⟩⟩⟩) w) ((List.forall_mem_cons.mpr ⟨(cl_X5_narrowBelow_2 _ (List.mem_of_getElem? (i := 5) rfl)), List.forall_mem_cons.mpr ⟨(cl_X5_narrowBelow_2 _ (List.mem_of_getElem? (i := 6) rfl)), List.forall_mem_cons.mpr ⟨(cl_X5_narrowBelow_2 _ (List.mem_of_getElem? (i := 7) rfl)), List.forall_mem_cons.mpr ⟨(cl_X5_narrowBelow_2 _ (List.mem_of_getElem? (i := 8) rfl)), List.forall_mem_cons.mpr ⟨(cl_X5_narrowBelow_2 _ (List.mem_of_getElem? (i := 9) rfl)), List.forall_mem_cons.mpr ⟨(cl_X5_narrowBelow_2 _ (List.mem_of_getElem? (i := 10) rfl)), List.forall_mem_cons.mpr ⟨(cl_X5_narrowBelow_2 _ (List.mem_of_getElem? (i := 11) rfl)), List.forall_mem_cons.mpr ⟨(cl_X5_narrowBelow_2 _ (List.mem_of_getElem? (i := 12) rfl)), List.forall_mem_cons.mpr ⟨(cl_X5_narrowBelow_2 _ (List.mem_of_getElem? (i := 13) rfl)), List.forall_mem_cons.mpr ⟨(cl_X5_narrowBelow_2 _ (List.mem_of_getElem? (i := 14) rfl)), List.forall_mem_cons.mpr ⟨(cl_X5_narrowBelow_2 _ (List.mem_of_getElem? (i := 15) rfl)), List.forall_mem_cons.mpr ⟨(cl_X5_narrowBelow_2 _ (List.mem_of_getElem? (i := 16) rfl)), fun _ h => absurd h List.not_mem_nil⟩⟩⟩⟩⟩⟩⟩⟩⟩⟩⟩⟩) w)) w) ((cl_X5_narrowBelow_4) w)) w) ((cl_X5_narrowBelow_3) w)⟩) (by decide +kernel)
set_option maxRecDepth 20000 in
theorem gX5_narrowBelow_X5_below : GoodIn wsX5_narrowBelow (wsV RX5 171 RX5 yX5_below wsX5_below) := goodIn_app (goodIn_sub (List.forall_mem_cons.mpr ⟨(cl_X5_narrowBelow_1 _ (List.mem_of_getElem? (i := 1) rfl)), List.forall_mem_cons.mpr ⟨(cl_X5_narrowBelow_1 _ (List.mem_of_getElem? (i := 2) rfl)), List.forall_mem_cons.mpr ⟨(cl_X5_narrowBelow_1 _ (List.mem_of_getElem? (i := 3) rfl)), List.forall_mem_cons.mpr ⟨(cl_X5_narrowBelow_1 _ (List.mem_of_getElem? (i := 4) rfl)), fun _ h => absurd h List.not_mem_nil⟩⟩⟩⟩) (by decide +kernel)) ggX5_narrowBelow_X5_below
noncomputable def dz_p10_39 : List (Nat × Instr × Nat) := [(0, (.aload_n 0, 1)), (1, (.aload_n 0, 1)), (2, (.getfield 24, 3)), (5, (.iload_n 1, 1)), (6, (.iload_n 2, 1)), (7, (.iload_n 3, 1)), (8, (.invokevirtual 171, 3)), (11, (.ireturn, 1))]
theorem dy_p10_39 : dz_ok cX5_narrowBelow dz_p10_39 = true := by decide +kernel
theorem dX5_narrowBelow_0 : decode cX5_narrowBelow 0 = .ok (.aload_n 0, 1) := dz_at (i := 0) dy_p10_39 rfl
theorem dX5_narrowBelow_1 : decode cX5_narrowBelow 1 = .ok (.aload_n 0, 1) := dz_at (i := 1) dy_p10_39 rfl
theorem dX5_narrowBelow_2 : decode cX5_narrowBelow 2 = .ok (.getfield 24, 3) := dz_at (i := 2) dy_p10_39 rfl
theorem dX5_narrowBelow_5 : decode cX5_narrowBelow 5 = .ok (.iload_n 1, 1) := dz_at (i := 3) dy_p10_39 rfl
theorem dX5_narrowBelow_6 : decode cX5_narrowBelow 6 = .ok (.iload_n 2, 1) := dz_at (i := 4) dy_p10_39 rfl
theorem dX5_narrowBelow_7 : decode cX5_narrowBelow 7 = .ok (.iload_n 3, 1) := dz_at (i := 5) dy_p10_39 rfl
theorem dX5_narrowBelow_8 : decode cX5_narrowBelow 8 = .ok (.invokevirtual 171, 3) := dz_at (i := 6) dy_p10_39 rfl
theorem dX5_narrowBelow_11 : decode cX5_narrowBelow 11 = .ok (.ireturn, 1) := dz_at (i := 7) dy_p10_39 rfl
noncomputable def o_X5_narrowBelow (f2 : Nat → Int64) (p0 : Int32) (p1 : Int32) (p2 : Bool) : Bool × Int32 :=
  ((o_X5_below false f2 p0 p1 p2).1, (o_X5_below false f2 p0 p1 p2).2)
set_option maxHeartbeats 4000000 in
set_option maxRecDepth 100000 in
theorem k_X5_narrowBelow (l : Launch) (dC : Nat → ClassId) (dI : Nat → Nat → Nat) (cy : ClassId) (h0 : Nat) (h1 : Nat) (hc1 : Nat) (h2 : Nat) (hc2 : Nat) (a1 : Int32) (f1 : Nat → Int64) (a2 : Int32) (f2 : Nat → Int64) (th : Int32) (rf : Int32) (kn : Int32) (sz : Nat) (N : Nat) (p0 : Int32) (p1 : Int32) (p2 : Bool) : Met l yX5_narrowBelow wsX5_narrowBelow ({ frames := 4, cells := 0, slots := 0, locals := 92 }) (va_Pc [.ref h0, .int p0, .int p1, .int (b2i p2)] (xM (dC, dI) xCl [(h0, eM h1 h2 th rf kn), (h1, eMR true hc1 a1), (hc1, eA cy f1), (h2, eMR false hc2 a2), (hc2, eA cy f2)] [(cy, .long)] sz N)) (va_Qi (fun (r : Int32) (_ : Unit) => r = b2i ((o_X5_narrowBelow f2 p0 p1 p2).1)) (fun _ t => xW (dC, dI) xCl [(h0, eM h1 h2 (o_X5_narrowBelow f2 p0 p1 p2).2 rf kn), (h1, eMR true hc1 a1), (hc1, eA cy f1), (h2, eMR false hc2 a2), (hc2, eA cy f2)] (va_A [(h0, eM h1 h2 th rf kn), (h1, eMR true hc1 a1), (hc1, eA cy f1), (h2, eMR false hc2 a2), (hc2, eA cy f2)] sz) t) (va_A [(h0, eM h1 h2 th rf kn), (h1, eMR true hc1 a1), (hc1, eA cy f1), (h2, eMR false hc2 a2), (hc2, eA cy f2)] sz)) 0 0 (va_A [(h0, eM h1 h2 th rf kn), (h1, eMR true hc1 a1), (hc1, eA cy f1), (h2, eMR false hc2 a2), (hc2, eA cy f2)] sz) := by
  refine Met.ofW (cc := cX5_narrowBelow) (maxL := 4) (ret := (some .boolean)) (by decide +kernel) rfl ?_
  intro p e s m args below meth c s₁ B hml hv
  obtain ⟨rfl, hsz, hP, hK, hD0, hN, hG⟩ := hv
  have hx := B.exec
  have hb := B.bytes
  have hr := B.returns
  have hts := atoms_spec (ws := wsX5_narrowBelow) B.pre
  have hown : s.vm.findClass RX5 = some m.cls := findClass_of_methodNamed B.named
  have hlocks := B.notSynchronized
  subst hsz
  have hAN : ∀ q, va_A [(h0, eM h1 h2 th rf kn), (h1, eMR true hc1 a1), (hc1, eA cy f1), (h2, eMR false hc2 a2), (hc2, eA cy f2)] s.heap.size q → N ≤ q := xA_N hD0 hN
  have hD := hD0.self (sz := s.heap.size)
  generalize hAe : va_A [(h0, eM h1 h2 th rf kn), (h1, eMR true hc1 a1), (hc1, eA cy f1), (h2, eMR false hc2 a2), (hc2, eA cy f2)] s.heap.size = A at hD hAN ⊢
  have hA : ∀ q : Nat, s.heap.size ≤ q → A q := fun q h => by rw [← hAe]; exact Or.inr h
  have hS : va_S A s.heap s.heap [] := va_S.rf
  have hP : va_P (dC, dI) xCl [(h0, eM h1 h2 th rf kn), (h1, eMR true hc1 a1), (hc1, eA cy f1), (h2, eMR false hc2 a2), (hc2, eA cy f2)] s.heap := hP
  have hl := lv_entry ([.ref h0, .int p0, .int p1, .int (b2i p2)]) (n := 4) (Nat.le_of_ble_eq_true rfl)
  rw [lg_entry_eq]
  generalize (lg_sl ([.ref h0, .int p0, .int p1, .int (b2i p2)]) ++ List.replicate (4 - (lg_sl ([.ref h0, .int p0, .int p1, .int (b2i p2)])).length) Slot.unset).toArray = ls at hl ⊢
  have hl : lv_has ls 4 [(0, .ref h0), (1, .int p0), (2, .int p1), (3, .int (b2i p2))] := hl
  refine lv_aload_n hx hb dX5_narrowBelow_0 rfl (lv_at hl 0 rfl) ?_
  refine lv_aload_n hx hb dX5_narrowBelow_1 rfl (lv_at hl 0 rfl) ?_
  refine va_get (D := (dC, dI)) (ci := 7) (v := .ref h2) (C := RX5) (T := TX5) (N := 5) hx hb hts (by decide +kernel) hown hK hP 0 rfl rfl 1 (by decide +kernel) (hts (.fieldLink RX5 24 "EdgefloatsModel" "narrow" "LEdgefloatsModel$Row;") (by decide +kernel)) (fun _ h9 => h9) rfl dX5_narrowBelow_2 ?_
  refine lv_iload_n hx hb dX5_narrowBelow_5 rfl (lv_at hl 1 rfl) ?_
  refine lv_iload_n hx hb dX5_narrowBelow_6 rfl (lv_at hl 2 rfl) ?_
  refine lv_iload_n hx hb dX5_narrowBelow_7 rfl (lv_at hl 3 rfl) ?_
  have hPc := hP.sub (ws' := [(h0, eM h1 h2 th rf kn), (h2, eMR false hc2 a2), (hc2, eA cy f2)]) [0, 3, 4] rfl
  have hDc := hD.sub (ws' := [(h0, eM h1 h2 th rf kn), (h2, eMR false hc2 a2), (hc2, eA cy f2)]) [0, 3, 4] (by decide +kernel) rfl
  have hKc := hK.sub (tys' := [(cy, .long)]) [0] rfl
  have hFc := va_free (wc := [(h0, eM h1 h2 th rf kn), (h2, eMR false hc2 a2), (hc2, eA cy f2)]) hD hS hA [0, 3, 4] rfl
  refine va_calli (va_runV (As := [.ref h2, .int p0, .int p1, .int (b2i p2)]) (rest := []) ⟨hx, hb, hml, hown, hts⟩ (k_X5_below l dC dI cy h0 h1 h2 h2 hc2 false a2 f2 th rf kn s.heap.size N p0 p1 p2) (cwV 4 hts gX5_narrowBelow_X5_below rfl rfl rfl (by decide +kernel) ⟨Nat.le_of_ble_eq_true rfl, Nat.le_of_ble_eq_true rfl⟩) (xM.preV hKc hPc hDc hAN (Nat.le_trans hN hS.1) (hG.kept hS hAN) (ci := 7) (q0 := 0) rfl rfl) rfl rfl hl.1 rfl (lv_room (Nat.le_of_ble_eq_true rfl)) dX5_narrowBelow_8 ⟨Nat.le_of_ble_eq_true rfl, Nat.le_of_ble_eq_true rfl⟩) hS (fun q _ h => hFc q h) hFc (fun r_1 u t H locs ht hvm hw hB hz hk hS => ?_)
  replace hw : r_1 = b2i ((o_X5_below false f2 p0 p1 p2).1) := hw
  subst r_1
  obtain ⟨hP1, hD1⟩ := hB
  rw [ht] at hP1
  obtain ⟨hP, hD⟩ := va_join (wr := [(h1, eMR true hc1 a1), (hc1, eA cy f1)]) (w1 := [(h0, eM h1 h2 (o_X5_below false f2 p0 p1 p2).2 rf kn), (h2, eMR false hc2 a2), (hc2, eA cy f2)]) hP hD [0, 3, 4] [1, 2] rfl rfl (by decide +kernel) (by decide +kernel) hk hFc hP1 hD1
  have hP := hP.sub (ws' := [(h0, eM h1 h2 (o_X5_below false f2 p0 p1 p2).2 rf kn), (h1, eMR true hc1 a1), (hc1, eA cy f1), (h2, eMR false hc2 a2), (hc2, eA cy f2)]) [2, 0, 1, 3, 4] rfl
  have hD := hD.sub (ws' := [(h0, eM h1 h2 (o_X5_below false f2 p0 p1 p2).2 rf kn), (h1, eMR true hc1 a1), (hc1, eA cy f1), (h2, eMR false hc2 a2), (hc2, eA cy f2)]) [2, 0, 1, 3, 4] (by decide +kernel) rfl
  have he : o_X5_narrowBelow f2 p0 p1 p2 = ((o_X5_below false f2 p0 p1 p2).1, (o_X5_below false f2 p0 p1 p2).2) := by (rw [o_X5_narrowBelow]) <;> rfl
  refine W.widen (k := 0) (n := 0) (by omega) (by omega) ?_
  exact W.zret (v := (b2i ((o_X5_below false f2 p0 p1 p2).1))) (ty := .boolean) hx hb hr (b2i_nar _) (fun t ht hW => ⟨⟨_, (), rfl, (by (rw [he]) <;> rfl), (by rw [he]; exact ⟨by rw [ht]; exact hP, hD⟩)⟩, hS.F ht⟩) hS.2.2 dX5_narrowBelow_11
theorem cl_X5_narrowHash_1 : ∀ w ∈ [.fieldLink RX5 24 "EdgefloatsModel" "narrow" "LEdgefloatsModel$Row;", .fieldLink RX5 74 "EdgefloatsModel$Row" "cells" "[J", .methodLink RX5 35 yX5_isNo, .static yX5_isNo, .initialized RX5, .code yX5_isNo cX5_isNo 1 (some .boolean), .methodLink RX5 31 yX5_isIn, .static yX5_isIn, .code yX5_isIn cX5_isIn 3 (some .boolean), .methodLink RX5 42 yX5_fails, .instanceMethod yX5_fails, .selects RX5 yX5_fails yX5_fails, .code yX5_fails cX5_fails 3 (some .boolean), .fieldLink RX5 27 "EdgefloatsModel" "thrown" "I"], w ∈ wsX5_narrowHash := fun _ h => (List.mem_cons_of_mem _ (List.mem_append_left _ (List.mem_append_left _ h)))
theorem cl_X5_narrowHash_2 : ∀ w ∈ wsX50, w ∈ wsX5_narrowHash := fun _ h => (List.mem_cons_of_mem _ (List.mem_append_left _ (List.mem_append_right _ h)))
theorem cl_X5_narrowHash_3 : ∀ w ∈ wsX40, w ∈ wsX5_narrowHash := fun _ h => (List.mem_cons_of_mem _ (List.mem_append_right _ h))
set_option maxRecDepth 20000 in
theorem ggX5_narrowHash_X5_isNo : GoodIn wsX5_narrowHash wsX5_isNo := goodIn_sub (List.forall_mem_cons.mpr ⟨(cl_X5_narrowHash_1 _ (List.mem_of_getElem? (i := 5) rfl)), List.forall_mem_cons.mpr ⟨(cl_X5_narrowHash_1 _ (List.mem_of_getElem? (i := 6) rfl)), List.forall_mem_cons.mpr ⟨(cl_X5_narrowHash_1 _ (List.mem_of_getElem? (i := 7) rfl)), List.forall_mem_cons.mpr ⟨(cl_X5_narrowHash_1 _ (List.mem_of_getElem? (i := 4) rfl)), List.forall_mem_cons.mpr ⟨(cl_X5_narrowHash_1 _ (List.mem_of_getElem? (i := 8) rfl)), fun _ h => absurd h List.not_mem_nil⟩⟩⟩⟩⟩) (by decide +kernel)
set_option maxRecDepth 20000 in
theorem gX5_narrowHash_X5_isNo : GoodIn wsX5_narrowHash (va_wsS RX5 35 yX5_isNo wsX5_isNo) := goodIn_app (goodIn_sub (List.forall_mem_cons.mpr ⟨(cl_X5_narrowHash_1 _ (List.mem_of_getElem? (i := 2) rfl)), List.forall_mem_cons.mpr ⟨(cl_X5_narrowHash_1 _ (List.mem_of_getElem? (i := 3) rfl)), List.forall_mem_cons.mpr ⟨(cl_X5_narrowHash_1 _ (List.mem_of_getElem? (i := 4) rfl)), fun _ h => absurd h List.not_mem_nil⟩⟩⟩) (by decide +kernel)) ggX5_narrowHash_X5_isNo
set_option maxRecDepth 20000 in
theorem ggX5_narrowHash_X5_isIn : GoodIn wsX5_narrowHash wsX5_isIn := goodIn_r _ [9] (by decide +kernel) (by decide +kernel)
set_option maxRecDepth 20000 in
theorem gX5_narrowHash_X5_isIn : GoodIn wsX5_narrowHash (va_wsS RX5 31 yX5_isIn wsX5_isIn) := goodIn_app (goodIn_sub (List.forall_mem_cons.mpr ⟨(cl_X5_narrowHash_1 _ (List.mem_of_getElem? (i := 6) rfl)), List.forall_mem_cons.mpr ⟨(cl_X5_narrowHash_1 _ (List.mem_of_getElem? (i := 7) rfl)), List.forall_mem_cons.mpr ⟨(cl_X5_narrowHash_1 _ (List.mem_of_getElem? (i := 4) rfl)), fun _ h => absurd h List.not_mem_nil⟩⟩⟩) (by decide +kernel)) ggX5_narrowHash_X5_isIn
set_option maxRecDepth 20000 in
theorem ggX5_narrowHash_X5_fails : GoodIn wsX5_narrowHash wsX5_fails := goodIn_sub (List.forall_mem_cons.mpr ⟨(cl_X5_narrowHash_1 _ (List.mem_of_getElem? (i := 12) rfl)), fun w h => (List.mem_append.mp h).elim ((List.forall_mem_cons.mpr ⟨(cl_X5_narrowHash_1 _ (List.mem_of_getElem? (i := 13) rfl)), fun _ h => absurd h List.not_mem_nil⟩) w) ((cl_X5_narrowHash_2) w)⟩) (by decide +kernel)
set_option maxRecDepth 20000 in
theorem gX5_narrowHash_X5_fails : GoodIn wsX5_narrowHash (wsV RX5 42 RX5 yX5_fails wsX5_fails) := goodIn_app (goodIn_sub (List.forall_mem_cons.mpr ⟨(cl_X5_narrowHash_1 _ (List.mem_of_getElem? (i := 9) rfl)), List.forall_mem_cons.mpr ⟨(cl_X5_narrowHash_1 _ (List.mem_of_getElem? (i := 10) rfl)), List.forall_mem_cons.mpr ⟨(cl_X5_narrowHash_1 _ (List.mem_of_getElem? (i := 11) rfl)), List.forall_mem_cons.mpr ⟨(cl_X5_narrowHash_1 _ (List.mem_of_getElem? (i := 4) rfl)), fun _ h => absurd h List.not_mem_nil⟩⟩⟩⟩) (by decide +kernel)) ggX5_narrowHash_X5_fails
noncomputable def dz_p10_40 : List (Nat × Instr × Nat) := [(0, (.aload_n 0, 1)), (1, (.iload_n 1, 1)), (2, (.invokestatic 35, 3)), (5, (.iload_n 2, 1)), (6, (.iconst 0, 1)), (7, (.iconst 1, 1)), (8, (.invokestatic 31, 3)), (11, (.ifCond .ne 7, 3)), (14, (.iconst 1, 1)), (15, (.goto 4, 3)), (18, (.iconst 0, 1)), (19, (.invokevirtual 42, 3)), (22, (.ifCond .eq 7, 3)), (25, (.iconst 0, 1)), (26, (.goto 13, 3)), (29, (.aload_n 0, 1)), (30, (.getfield 24, 3)), (33, (.getfield 74, 3)), (36, (.iload_n 1, 1)), (37, (.laload, 1)), (38, (.l2i, 1)), (39, (.ireturn, 1))]
theorem dy_p10_40 : dz_ok cX5_narrowHash dz_p10_40 = true := by decide +kernel
theorem dX5_narrowHash_0 : decode cX5_narrowHash 0 = .ok (.aload_n 0, 1) := dz_at (i := 0) dy_p10_40 rfl
theorem dX5_narrowHash_1 : decode cX5_narrowHash 1 = .ok (.iload_n 1, 1) := dz_at (i := 1) dy_p10_40 rfl
theorem dX5_narrowHash_2 : decode cX5_narrowHash 2 = .ok (.invokestatic 35, 3) := dz_at (i := 2) dy_p10_40 rfl
theorem dX5_narrowHash_5 : decode cX5_narrowHash 5 = .ok (.iload_n 2, 1) := dz_at (i := 3) dy_p10_40 rfl
theorem dX5_narrowHash_6 : decode cX5_narrowHash 6 = .ok (.iconst 0, 1) := dz_at (i := 4) dy_p10_40 rfl
theorem dX5_narrowHash_7 : decode cX5_narrowHash 7 = .ok (.iconst 1, 1) := dz_at (i := 5) dy_p10_40 rfl
theorem dX5_narrowHash_8 : decode cX5_narrowHash 8 = .ok (.invokestatic 31, 3) := dz_at (i := 6) dy_p10_40 rfl
theorem dX5_narrowHash_11 : decode cX5_narrowHash 11 = .ok (.ifCond .ne 7, 3) := dz_at (i := 7) dy_p10_40 rfl
theorem dX5_narrowHash_14 : decode cX5_narrowHash 14 = .ok (.iconst 1, 1) := dz_at (i := 8) dy_p10_40 rfl
theorem dX5_narrowHash_15 : decode cX5_narrowHash 15 = .ok (.goto 4, 3) := dz_at (i := 9) dy_p10_40 rfl
theorem dX5_narrowHash_18 : decode cX5_narrowHash 18 = .ok (.iconst 0, 1) := dz_at (i := 10) dy_p10_40 rfl
theorem dX5_narrowHash_19 : decode cX5_narrowHash 19 = .ok (.invokevirtual 42, 3) := dz_at (i := 11) dy_p10_40 rfl
theorem dX5_narrowHash_22 : decode cX5_narrowHash 22 = .ok (.ifCond .eq 7, 3) := dz_at (i := 12) dy_p10_40 rfl
theorem dX5_narrowHash_25 : decode cX5_narrowHash 25 = .ok (.iconst 0, 1) := dz_at (i := 13) dy_p10_40 rfl
theorem dX5_narrowHash_26 : decode cX5_narrowHash 26 = .ok (.goto 13, 3) := dz_at (i := 14) dy_p10_40 rfl
theorem dX5_narrowHash_29 : decode cX5_narrowHash 29 = .ok (.aload_n 0, 1) := dz_at (i := 15) dy_p10_40 rfl
theorem dX5_narrowHash_30 : decode cX5_narrowHash 30 = .ok (.getfield 24, 3) := dz_at (i := 16) dy_p10_40 rfl
theorem dX5_narrowHash_33 : decode cX5_narrowHash 33 = .ok (.getfield 74, 3) := dz_at (i := 17) dy_p10_40 rfl
theorem dX5_narrowHash_36 : decode cX5_narrowHash 36 = .ok (.iload_n 1, 1) := dz_at (i := 18) dy_p10_40 rfl
theorem dX5_narrowHash_37 : decode cX5_narrowHash 37 = .ok (.laload, 1) := dz_at (i := 19) dy_p10_40 rfl
theorem dX5_narrowHash_38 : decode cX5_narrowHash 38 = .ok (.l2i, 1) := dz_at (i := 20) dy_p10_40 rfl
theorem dX5_narrowHash_39 : decode cX5_narrowHash 39 = .ok (.ireturn, 1) := dz_at (i := 21) dy_p10_40 rfl
noncomputable def o_X5_narrowHash (f2 : Nat → Int64) (p0 : Int32) (p1 : Int32) : Int32 × Int32 :=
  if (o_X5_isIn p1 0 1) = true then (if (o_X5_fails (o_X5_isNo p0) false).1 = true then (0, (o_X5_fails (o_X5_isNo p0) false).2)
    else (((f2 p0.toNatClampNeg).toInt32), (o_X5_fails (o_X5_isNo p0) false).2))
  else if (o_X5_fails (o_X5_isNo p0) true).1 = true then (0, (o_X5_fails (o_X5_isNo p0) true).2)
  else (((f2 p0.toNatClampNeg).toInt32), (o_X5_fails (o_X5_isNo p0) true).2)
set_option maxHeartbeats 4000000 in
set_option maxRecDepth 100000 in
theorem k_X5_narrowHash (l : Launch) (dC : Nat → ClassId) (dI : Nat → Nat → Nat) (cy : ClassId) (h0 : Nat) (h1 : Nat) (hc1 : Nat) (h2 : Nat) (hc2 : Nat) (a1 : Int32) (f1 : Nat → Int64) (a2 : Int32) (f2 : Nat → Int64) (th : Int32) (rf : Int32) (kn : Int32) (sz : Nat) (N : Nat) (p0 : Int32) (p1 : Int32) : Met l yX5_narrowHash wsX5_narrowHash ({ frames := 2, cells := 0, slots := 0, locals := 42 }) (va_Pc [.ref h0, .int p0, .int p1] (xM (dC, dI) xCl [(h0, eM h1 h2 th rf kn), (h1, eMR true hc1 a1), (hc1, eA cy f1), (h2, eMR false hc2 a2), (hc2, eA cy f2)] [(cy, .long)] sz N)) (va_Qi (fun (r : Int32) (_ : Unit) => r = (o_X5_narrowHash f2 p0 p1).1) (fun _ t => xW (dC, dI) xCl [(h0, eM h1 h2 (o_X5_narrowHash f2 p0 p1).2 rf kn), (h1, eMR true hc1 a1), (hc1, eA cy f1), (h2, eMR false hc2 a2), (hc2, eA cy f2)] (va_A [(h0, eM h1 h2 th rf kn), (h1, eMR true hc1 a1), (hc1, eA cy f1), (h2, eMR false hc2 a2), (hc2, eA cy f2)] sz) t) (va_A [(h0, eM h1 h2 th rf kn), (h1, eMR true hc1 a1), (hc1, eA cy f1), (h2, eMR false hc2 a2), (hc2, eA cy f2)] sz)) 0 0 (va_A [(h0, eM h1 h2 th rf kn), (h1, eMR true hc1 a1), (hc1, eA cy f1), (h2, eMR false hc2 a2), (hc2, eA cy f2)] sz) := by
  refine Met.ofW (cc := cX5_narrowHash) (maxL := 3) (ret := (some .int)) (by decide +kernel) rfl ?_
  intro p e s m args below meth c s₁ B hml hv
  obtain ⟨rfl, hsz, hP, hK, hD0, hN, hG⟩ := hv
  have hx := B.exec
  have hb := B.bytes
  have hr := B.returns
  have hts := atoms_spec (ws := wsX5_narrowHash) B.pre
  have hown : s.vm.findClass RX5 = some m.cls := findClass_of_methodNamed B.named
  have hlocks := B.notSynchronized
  subst hsz
  have hAN : ∀ q, va_A [(h0, eM h1 h2 th rf kn), (h1, eMR true hc1 a1), (hc1, eA cy f1), (h2, eMR false hc2 a2), (hc2, eA cy f2)] s.heap.size q → N ≤ q := xA_N hD0 hN
  have hD := hD0.self (sz := s.heap.size)
  generalize hAe : va_A [(h0, eM h1 h2 th rf kn), (h1, eMR true hc1 a1), (hc1, eA cy f1), (h2, eMR false hc2 a2), (hc2, eA cy f2)] s.heap.size = A at hD hAN ⊢
  have hA : ∀ q : Nat, s.heap.size ≤ q → A q := fun q h => by rw [← hAe]; exact Or.inr h
  have hS : va_S A s.heap s.heap [] := va_S.rf
  have hP : va_P (dC, dI) xCl [(h0, eM h1 h2 th rf kn), (h1, eMR true hc1 a1), (hc1, eA cy f1), (h2, eMR false hc2 a2), (hc2, eA cy f2)] s.heap := hP
  have hl := lv_entry ([.ref h0, .int p0, .int p1]) (n := 3) (Nat.le_of_ble_eq_true rfl)
  rw [lg_entry_eq]
  generalize (lg_sl ([.ref h0, .int p0, .int p1]) ++ List.replicate (3 - (lg_sl ([.ref h0, .int p0, .int p1])).length) Slot.unset).toArray = ls at hl ⊢
  have hl : lv_has ls 3 [(0, .ref h0), (1, .int p0), (2, .int p1)] := hl
  refine lv_aload_n hx hb dX5_narrowHash_0 rfl (lv_at hl 0 rfl) ?_
  refine lv_iload_n hx hb dX5_narrowHash_1 rfl (lv_at hl 1 rfl) ?_
  have hPc := hP.sub (ws' := []) [] rfl
  have hKc := hK.sub (tys' := []) [] rfl
  refine va_calli (va_runS (As := [.int p0]) (rest := [.ref h0]) ⟨hx, hb, hml, hown, hts⟩ (k_X5_isNo l dC dI s.heap.size p0) (va_cwS 1 hts gX5_narrowHash_X5_isNo rfl rfl rfl (by decide +kernel) ⟨Nat.le_of_ble_eq_true rfl, Nat.le_of_ble_eq_true rfl⟩) (xB.preS hKc hPc) rfl rfl hl.1 rfl (lv_room (Nat.le_of_ble_eq_true rfl)) dX5_narrowHash_2 ⟨Nat.le_of_ble_eq_true rfl, Nat.le_of_ble_eq_true rfl⟩) hS xA_old (fun q h => hA q (Nat.le_trans hS.1 h)) (fun r_1 u t H locs ht hvm hw hB hz hk hS => ?_)
  replace hw : r_1 = b2i (o_X5_isNo p0) := hw
  subst r_1
  have hP := xP_keep hP hk
  refine lv_iload_n hx hb dX5_narrowHash_5 rfl (lv_at hl 2 rfl) ?_
  refine lv_iconst (v := 0) hx hb dX5_narrowHash_6 (by decide +kernel) ?_
  refine lv_iconst (v := 1) hx hb dX5_narrowHash_7 (by decide +kernel) ?_
  have hPc := hP.sub (ws' := []) [] rfl
  have hKc := hK.sub (tys' := []) [] rfl
  refine va_calli (va_runS (As := [.int p1, .int 0, .int 1]) (rest := [.int (b2i (o_X5_isNo p0)), .ref h0]) ⟨hx, hb, hml, hown, hts⟩ (k_X5_isIn l dC dI H.size p1 0 1) (va_cwS 3 hts gX5_narrowHash_X5_isIn rfl rfl rfl (by decide +kernel) ⟨Nat.le_of_ble_eq_true rfl, Nat.le_of_ble_eq_true rfl⟩) (xB.preS hKc hPc) rfl rfl hl.1 rfl (lv_room (Nat.le_of_ble_eq_true rfl)) dX5_narrowHash_8 ⟨Nat.le_of_ble_eq_true rfl, Nat.le_of_ble_eq_true rfl⟩) hS xA_old (fun q h => hA q (Nat.le_trans hS.1 h)) (fun r_2 u t H locs ht hvm hw hB hz hk hS => ?_)
  replace hw : r_2 = b2i (o_X5_isIn p1 0 1) := hw
  subst r_2
  have hP := xP_keep hP hk
  refine xz_ne (tgt := 18) hx hb dX5_narrowHash_11 (by decide +kernel) (fun c_3 => ?_) (fun c_3 => ?_)
  · skip
    refine lv_iconst (v := 0) hx hb dX5_narrowHash_18 (by decide +kernel) ?_
    have hPc := hP.sub (ws' := [(h0, eM h1 h2 th rf kn)]) [0] rfl
    have hDc := hD.sub (ws' := [(h0, eM h1 h2 th rf kn)]) [0] (by decide +kernel) rfl
    have hKc := hK.sub (tys' := []) [] rfl
    have hFc := va_free (wc := [(h0, eM h1 h2 th rf kn)]) hD hS hA [0] rfl
    refine va_calli (va_runV (As := [.int (b2i (o_X5_isNo p0)), .int 0]) (rest := []) ⟨hx, hb, hml, hown, hts⟩ (k_X5_fails l dC dI h0 h1 h2 th rf kn H.size N (o_X5_isNo p0) false) (cwV 2 hts gX5_narrowHash_X5_fails rfl rfl rfl (by decide +kernel) ⟨Nat.le_of_ble_eq_true rfl, Nat.le_of_ble_eq_true rfl⟩) (xM.preV hKc hPc hDc hAN (Nat.le_trans hN hS.1) (hG.kept hS hAN) (ci := 7) (q0 := 0) rfl rfl) rfl rfl hl.1 rfl (lv_room (Nat.le_of_ble_eq_true rfl)) dX5_narrowHash_19 ⟨Nat.le_of_ble_eq_true rfl, Nat.le_of_ble_eq_true rfl⟩) hS (fun q _ h => hFc q h) hFc (fun r_4 u t H locs ht hvm hw hB hz hk hS => ?_)
    replace hw : r_4 = b2i ((o_X5_fails (o_X5_isNo p0) false).1) := hw
    subst r_4
    obtain ⟨hP1, hD1⟩ := hB
    rw [ht] at hP1
    obtain ⟨hP, hD⟩ := va_join (wr := [(h1, eMR true hc1 a1), (hc1, eA cy f1), (h2, eMR false hc2 a2), (hc2, eA cy f2)]) (w1 := [(h0, eM h1 h2 (o_X5_fails (o_X5_isNo p0) false).2 rf kn)]) hP hD [0] [1, 2, 3, 4] rfl rfl (by decide +kernel) (by decide +kernel) hk hFc hP1 hD1
    have hP := hP.sub (ws' := [(h0, eM h1 h2 (o_X5_fails (o_X5_isNo p0) false).2 rf kn), (h1, eMR true hc1 a1), (hc1, eA cy f1), (h2, eMR false hc2 a2), (hc2, eA cy f2)]) [4, 0, 1, 2, 3] rfl
    have hD := hD.sub (ws' := [(h0, eM h1 h2 (o_X5_fails (o_X5_isNo p0) false).2 rf kn), (h1, eMR true hc1 a1), (hc1, eA cy f1), (h2, eMR false hc2 a2), (hc2, eA cy f2)]) [4, 0, 1, 2, 3] (by decide +kernel) rfl
    refine xz_eq (tgt := 29) hx hb dX5_narrowHash_22 (by decide +kernel) (fun c_5 => ?_) (fun c_5 => ?_)
    · skip
      refine lv_aload_n hx hb dX5_narrowHash_29 rfl (lv_at hl 0 rfl) ?_
      refine va_get (D := (dC, dI)) (ci := 7) (v := .ref h2) (C := RX5) (T := TX5) (N := 5) hx hb hts (by decide +kernel) hown hK hP 0 rfl rfl 1 (by decide +kernel) (hts (.fieldLink RX5 24 "EdgefloatsModel" "narrow" "LEdgefloatsModel$Row;") (by decide +kernel)) (fun _ h9 => h9) rfl dX5_narrowHash_30 ?_
      refine va_get (D := (dC, dI)) (ci := 6) (v := .ref hc2) (C := RX4) (T := TX4) (N := 5) hx hb hts (by decide +kernel) hown hK hP 3 rfl rfl 3 (by decide +kernel) (hts (.fieldLink RX5 74 "EdgefloatsModel$Row" "cells" "[J") (by decide +kernel)) (fun _ h9 => h9) rfl dX5_narrowHash_33 ?_
      refine lv_iload_n hx hb dX5_narrowHash_36 rfl (lv_at hl 1 rfl) ?_
      refine xa_lald hx hb hK hP 4 0 (f := f2) rfl rfl (k := p0.toNatClampNeg) (xm_isNo (xm_fails c_5)) rfl dX5_narrowHash_37 ?_
      refine lv_l2i (v := ((f2 p0.toNatClampNeg).toInt32)) hx hb dX5_narrowHash_38 rfl ?_
      have he : o_X5_narrowHash f2 p0 p1 = (((f2 p0.toNatClampNeg).toInt32), (o_X5_fails (o_X5_isNo p0) false).2) := by (rw [o_X5_narrowHash, if_pos c_3, if_neg c_5]) <;> rfl
      refine W.widen (k := 0) (n := 0) (by omega) (by omega) ?_
      exact W.iret (v := ((f2 p0.toNatClampNeg).toInt32)) hx hb hr (fun t ht hW => ⟨⟨_, (), rfl, (by (rw [he]) <;> rfl), (by rw [he]; exact ⟨by rw [ht]; exact hP, hD⟩)⟩, hS.F ht⟩) hS.2.2 dX5_narrowHash_39
    · skip
      refine lv_iconst (v := 0) hx hb dX5_narrowHash_25 (by decide +kernel) ?_
      refine lv_goto (tgt := 39) hx hb dX5_narrowHash_26 (by decide +kernel) ?_
      have he : o_X5_narrowHash f2 p0 p1 = (0, (o_X5_fails (o_X5_isNo p0) false).2) := by (rw [o_X5_narrowHash, if_pos c_3, if_pos c_5]) <;> rfl
      refine W.widen (k := 0) (n := 0) (by omega) (by omega) ?_
      exact W.iret (v := 0) hx hb hr (fun t ht hW => ⟨⟨_, (), rfl, (by (rw [he]) <;> rfl), (by rw [he]; exact ⟨by rw [ht]; exact hP, hD⟩)⟩, hS.F ht⟩) hS.2.2 dX5_narrowHash_39
  · skip
    refine lv_iconst (v := 1) hx hb dX5_narrowHash_14 (by decide +kernel) ?_
    refine lv_goto (tgt := 19) hx hb dX5_narrowHash_15 (by decide +kernel) ?_
    have hPc := hP.sub (ws' := [(h0, eM h1 h2 th rf kn)]) [0] rfl
    have hDc := hD.sub (ws' := [(h0, eM h1 h2 th rf kn)]) [0] (by decide +kernel) rfl
    have hKc := hK.sub (tys' := []) [] rfl
    have hFc := va_free (wc := [(h0, eM h1 h2 th rf kn)]) hD hS hA [0] rfl
    refine va_calli (va_runV (As := [.int (b2i (o_X5_isNo p0)), .int 1]) (rest := []) ⟨hx, hb, hml, hown, hts⟩ (k_X5_fails l dC dI h0 h1 h2 th rf kn H.size N (o_X5_isNo p0) true) (cwV 2 hts gX5_narrowHash_X5_fails rfl rfl rfl (by decide +kernel) ⟨Nat.le_of_ble_eq_true rfl, Nat.le_of_ble_eq_true rfl⟩) (xM.preV hKc hPc hDc hAN (Nat.le_trans hN hS.1) (hG.kept hS hAN) (ci := 7) (q0 := 0) rfl rfl) rfl rfl hl.1 rfl (lv_room (Nat.le_of_ble_eq_true rfl)) dX5_narrowHash_19 ⟨Nat.le_of_ble_eq_true rfl, Nat.le_of_ble_eq_true rfl⟩) hS (fun q _ h => hFc q h) hFc (fun r_6 u t H locs ht hvm hw hB hz hk hS => ?_)
    replace hw : r_6 = b2i ((o_X5_fails (o_X5_isNo p0) true).1) := hw
    subst r_6
    obtain ⟨hP1, hD1⟩ := hB
    rw [ht] at hP1
    obtain ⟨hP, hD⟩ := va_join (wr := [(h1, eMR true hc1 a1), (hc1, eA cy f1), (h2, eMR false hc2 a2), (hc2, eA cy f2)]) (w1 := [(h0, eM h1 h2 (o_X5_fails (o_X5_isNo p0) true).2 rf kn)]) hP hD [0] [1, 2, 3, 4] rfl rfl (by decide +kernel) (by decide +kernel) hk hFc hP1 hD1
    have hP := hP.sub (ws' := [(h0, eM h1 h2 (o_X5_fails (o_X5_isNo p0) true).2 rf kn), (h1, eMR true hc1 a1), (hc1, eA cy f1), (h2, eMR false hc2 a2), (hc2, eA cy f2)]) [4, 0, 1, 2, 3] rfl
    have hD := hD.sub (ws' := [(h0, eM h1 h2 (o_X5_fails (o_X5_isNo p0) true).2 rf kn), (h1, eMR true hc1 a1), (hc1, eA cy f1), (h2, eMR false hc2 a2), (hc2, eA cy f2)]) [4, 0, 1, 2, 3] (by decide +kernel) rfl
    refine xz_eq (tgt := 29) hx hb dX5_narrowHash_22 (by decide +kernel) (fun c_7 => ?_) (fun c_7 => ?_)
    · skip
      refine lv_aload_n hx hb dX5_narrowHash_29 rfl (lv_at hl 0 rfl) ?_
      refine va_get (D := (dC, dI)) (ci := 7) (v := .ref h2) (C := RX5) (T := TX5) (N := 5) hx hb hts (by decide +kernel) hown hK hP 0 rfl rfl 1 (by decide +kernel) (hts (.fieldLink RX5 24 "EdgefloatsModel" "narrow" "LEdgefloatsModel$Row;") (by decide +kernel)) (fun _ h9 => h9) rfl dX5_narrowHash_30 ?_
      refine va_get (D := (dC, dI)) (ci := 6) (v := .ref hc2) (C := RX4) (T := TX4) (N := 5) hx hb hts (by decide +kernel) hown hK hP 3 rfl rfl 3 (by decide +kernel) (hts (.fieldLink RX5 74 "EdgefloatsModel$Row" "cells" "[J") (by decide +kernel)) (fun _ h9 => h9) rfl dX5_narrowHash_33 ?_
      refine lv_iload_n hx hb dX5_narrowHash_36 rfl (lv_at hl 1 rfl) ?_
      refine xa_lald hx hb hK hP 4 0 (f := f2) rfl rfl (k := p0.toNatClampNeg) (xm_isNo (xm_fails c_7)) rfl dX5_narrowHash_37 ?_
      refine lv_l2i (v := ((f2 p0.toNatClampNeg).toInt32)) hx hb dX5_narrowHash_38 rfl ?_
      have he : o_X5_narrowHash f2 p0 p1 = (((f2 p0.toNatClampNeg).toInt32), (o_X5_fails (o_X5_isNo p0) true).2) := by (rw [o_X5_narrowHash, if_neg c_3, if_neg c_7]) <;> rfl
      refine W.widen (k := 0) (n := 0) (by omega) (by omega) ?_
      exact W.iret (v := ((f2 p0.toNatClampNeg).toInt32)) hx hb hr (fun t ht hW => ⟨⟨_, (), rfl, (by (rw [he]) <;> rfl), (by rw [he]; exact ⟨by rw [ht]; exact hP, hD⟩)⟩, hS.F ht⟩) hS.2.2 dX5_narrowHash_39
    · skip
      refine lv_iconst (v := 0) hx hb dX5_narrowHash_25 (by decide +kernel) ?_
      refine lv_goto (tgt := 39) hx hb dX5_narrowHash_26 (by decide +kernel) ?_
      have he : o_X5_narrowHash f2 p0 p1 = (0, (o_X5_fails (o_X5_isNo p0) true).2) := by (rw [o_X5_narrowHash, if_neg c_3, if_pos c_7]) <;> rfl
      refine W.widen (k := 0) (n := 0) (by omega) (by omega) ?_
      exact W.iret (v := 0) hx hb hr (fun t ht hW => ⟨⟨_, (), rfl, (by (rw [he]) <;> rfl), (by rw [he]; exact ⟨by rw [ht]; exact hP, hD⟩)⟩, hS.F ht⟩) hS.2.2 dX5_narrowHash_39
theorem cl_X5_narrowEndless_1 : ∀ w ∈ wsX5_narrowEndless_r1, w ∈ wsX5_narrowEndless := fun _ h => (List.mem_cons_of_mem _ (List.mem_append_left _ (List.mem_append_left _ (List.mem_append_left _ h))))
theorem cl_X5_narrowEndless_2 : ∀ w ∈ wsX5_narrowEndless_r2, w ∈ wsX5_narrowEndless := fun _ h => (List.mem_cons_of_mem _ (List.mem_append_left _ (List.mem_append_left _ (List.mem_append_right _ h))))
theorem cl_X5_narrowEndless_3 : ∀ w ∈ wsX50, w ∈ wsX5_narrowEndless := fun _ h => (List.mem_cons_of_mem _ (List.mem_append_left _ (List.mem_append_right _ h)))
theorem cl_X5_narrowEndless_4 : ∀ w ∈ wsX40, w ∈ wsX5_narrowEndless := fun _ h => (List.mem_cons_of_mem _ (List.mem_append_right _ h))
set_option maxRecDepth 20000 in
theorem ggX5_narrowEndless_X5_endless : GoodIn wsX5_narrowEndless wsX5_endless := goodIn_sub (List.forall_mem_cons.mpr ⟨(cl_X5_narrowEndless_1 _ (List.mem_of_getElem? (i := 5) rfl)), fun w h => (List.mem_append.mp h).elim ((fun w h => (List.mem_append.mp h).elim ((fun w h => (List.mem_append.mp h).elim ((List.forall_mem_cons.mpr ⟨(cl_X5_narrowEndless_1 _ (List.mem_of_getElem? (i := 6) rfl)), List.forall_mem_cons.mpr ⟨(cl_X5_narrowEndless_1 _ (List.mem_of_getElem? (i := 7) rfl)), List.forall_mem_cons.mpr ⟨(cl_X5_narrowEndless_1 _ (List.mem_of_getElem? (i := 8) rfl)), List.forall_mem_cons.mpr ⟨(cl_X5_narrowEndless_1 _ (List.mem_of_getElem? (i := 4) rfl)), List.forall_mem_cons.mpr ⟨(cl_X5_narrowEndless_1 _ (List.mem_of_getElem? (i := 9) rfl)), List.forall_mem_cons.mpr ⟨(cl_X5_narrowEndless_1 _ (List.mem_of_getElem? (i := 10) rfl)), List.forall_mem_cons.mpr ⟨(cl_X5_narrowEndless_1 _ (List.mem_of_getElem? (i := 11) rfl)), List.forall_mem_cons.mpr ⟨(cl_X5_narrowEndless_1 _ (List.mem_of_getElem? (i := 12) rfl)), List.forall_mem_cons.mpr ⟨(cl_X5_narrowEndless_1 _ (List.mem_of_getElem? (i := 13) rfl)), List.forall_mem_cons.mpr ⟨(cl_X5_narrowEndless_1 _ (List.mem_of_getElem? (i := 14) rfl)), List.forall_mem_cons.mpr ⟨(cl_X5_narrowEndless_1 _ (List.mem_of_getElem? (i := 15) rfl)), List.forall_mem_cons.mpr ⟨(cl_X5_narrowEndless_1 _ (List.mem_of_getElem? (i := 16) rfl)), List.forall_mem_cons.mpr ⟨(cl_X5_narrowEndless_1 _ (List.mem_of_getElem? (i := 17) rfl)), List.forall_mem_cons.mpr ⟨(cl_X5_narrowEndless_1 _ (List.mem_of_getElem? (i := 18) rfl)), List.forall_mem_cons.mpr ⟨(cl_X5_narrowEndless_1 _ (List.mem_of_getElem? (i := 19) rfl)), List.forall_mem_cons.mpr ⟨(cl_X5_narrowEndless_1 _ (List.mem_of_getElem? (i := 20) rfl)), List.forall_mem_cons.mpr ⟨(cl_X5_narrowEndless_1 _ (List.mem_of_getElem? (i := 21) rfl)), List.forall_mem_cons.mpr ⟨(cl_X5_narrowEndless_1 _ (List.mem_of_getElem? (i := 22) rfl)), List.forall_mem_cons.mpr ⟨(cl_X5_narrowEndless_1 _ (List.mem_of_getElem? (i := 23) rfl)), List.forall_mem_cons.mpr ⟨(cl_X5_narrowEndless_2 _ (List.mem_of_getElem? (i := 0) rfl)), List.forall_mem_cons.mpr ⟨(cl_X5_narrowEndless_2 _ (List.mem_of_getElem? (i := 1) rfl)), List.forall_mem_cons.mpr ⟨(cl_X5_narrowEndless_2 _ (List.mem_of_getElem? (i := 2) rfl)), List.forall_mem_cons.mpr ⟨(cl_X5_narrowEndless_2 _ (List.mem_of_getElem? (i := 3) rfl)), List.forall_mem_cons.mpr ⟨(cl_X5_narrowEndless_2 _ (List.mem_of_getElem? (i := 4) rfl)), fun _ h => absurd h List.not_mem_nil⟩⟩⟩⟩⟩⟩⟩⟩⟩⟩⟩⟩⟩⟩⟩⟩⟩⟩⟩⟩⟩⟩⟩⟩) w) ((List.forall_mem_cons.mpr ⟨(cl_X5_narrowEndless_2 _ (List.mem_of_getElem? (i := 5) rfl)), List.forall_mem_cons.mpr ⟨(cl_X5_narrowEndless_2 _ (List.mem_of_getElem? (i := 6) rfl)), List.forall_mem_cons.mpr ⟨(cl_X5_narrowEndless_2 _ (List.mem_of_getElem? (i := 7) rfl)), List.forall_mem_cons.mpr ⟨(cl_X5_narrowEndless_2 _ (List.mem_of_getElem? (i := 8) rfl)), List.forall_mem_cons.mpr ⟨(cl_X5_narrowEndless_2 _ (List.mem_of_getElem? (i := 9) rfl)), List.forall_mem_cons.mpr ⟨(cl_X5_narrowEndless_2 _ (List.mem_of_getElem? (i := 10) rfl)), List.forall_mem_cons.mpr ⟨(cl_X5_narrowEndless_2 _ (List.mem_of_getElem? (i := 11) rfl)), List.forall_mem_cons.mpr ⟨(cl_X5_narrowEndless_2 _ (List.mem_of_getElem? (i := 12) rfl)), List.forall_mem_cons.mpr ⟨(cl_X5_narrowEndless_2 _ (List.mem_of_getElem? (i := 13) rfl)), fun _ h => absurd h List.not_mem_nil⟩⟩⟩⟩⟩⟩⟩⟩⟩) w)) w) ((cl_X5_narrowEndless_4) w)) w) ((cl_X5_narrowEndless_3) w)⟩) (by decide +kernel)
set_option maxRecDepth 20000 in
theorem gX5_narrowEndless_X5_endless : GoodIn wsX5_narrowEndless (wsV RX5 179 RX5 yX5_endless wsX5_endless) := goodIn_app (goodIn_sub (List.forall_mem_cons.mpr ⟨(cl_X5_narrowEndless_1 _ (List.mem_of_getElem? (i := 1) rfl)), List.forall_mem_cons.mpr ⟨(cl_X5_narrowEndless_1 _ (List.mem_of_getElem? (i := 2) rfl)), List.forall_mem_cons.mpr ⟨(cl_X5_narrowEndless_1 _ (List.mem_of_getElem? (i := 3) rfl)), List.forall_mem_cons.mpr ⟨(cl_X5_narrowEndless_1 _ (List.mem_of_getElem? (i := 4) rfl)), fun _ h => absurd h List.not_mem_nil⟩⟩⟩⟩) (by decide +kernel)) ggX5_narrowEndless_X5_endless
noncomputable def dz_p10_41 : List (Nat × Instr × Nat) := [(0, (.aload_n 0, 1)), (1, (.aload_n 0, 1)), (2, (.getfield 24, 3)), (5, (.iload_n 1, 1)), (6, (.iload_n 2, 1)), (7, (.invokevirtual 179, 3)), (10, (.ireturn, 1))]
theorem dy_p10_41 : dz_ok cX5_narrowEndless dz_p10_41 = true := by decide +kernel
theorem dX5_narrowEndless_0 : decode cX5_narrowEndless 0 = .ok (.aload_n 0, 1) := dz_at (i := 0) dy_p10_41 rfl
theorem dX5_narrowEndless_1 : decode cX5_narrowEndless 1 = .ok (.aload_n 0, 1) := dz_at (i := 1) dy_p10_41 rfl
theorem dX5_narrowEndless_2 : decode cX5_narrowEndless 2 = .ok (.getfield 24, 3) := dz_at (i := 2) dy_p10_41 rfl
theorem dX5_narrowEndless_5 : decode cX5_narrowEndless 5 = .ok (.iload_n 1, 1) := dz_at (i := 3) dy_p10_41 rfl
theorem dX5_narrowEndless_6 : decode cX5_narrowEndless 6 = .ok (.iload_n 2, 1) := dz_at (i := 4) dy_p10_41 rfl
theorem dX5_narrowEndless_7 : decode cX5_narrowEndless 7 = .ok (.invokevirtual 179, 3) := dz_at (i := 5) dy_p10_41 rfl
theorem dX5_narrowEndless_10 : decode cX5_narrowEndless 10 = .ok (.ireturn, 1) := dz_at (i := 6) dy_p10_41 rfl
noncomputable def o_X5_narrowEndless (f2 : Nat → Int64) (p0 : Int32) (p1 : Int32) : Bool × Int32 :=
  ((o_X5_endless false f2 p0 p1).1, (o_X5_endless false f2 p0 p1).2)
set_option maxHeartbeats 4000000 in
set_option maxRecDepth 100000 in
theorem k_X5_narrowEndless (l : Launch) (dC : Nat → ClassId) (dI : Nat → Nat → Nat) (cy : ClassId) (h0 : Nat) (h1 : Nat) (hc1 : Nat) (h2 : Nat) (hc2 : Nat) (a1 : Int32) (f1 : Nat → Int64) (a2 : Int32) (f2 : Nat → Int64) (th : Int32) (rf : Int32) (kn : Int32) (sz : Nat) (N : Nat) (p0 : Int32) (p1 : Int32) : Met l yX5_narrowEndless wsX5_narrowEndless ({ frames := 4, cells := 0, slots := 0, locals := 87 }) (va_Pc [.ref h0, .int p0, .int p1] (xM (dC, dI) xCl [(h0, eM h1 h2 th rf kn), (h1, eMR true hc1 a1), (hc1, eA cy f1), (h2, eMR false hc2 a2), (hc2, eA cy f2)] [(cy, .long)] sz N)) (va_Qi (fun (r : Int32) (_ : Unit) => r = b2i ((o_X5_narrowEndless f2 p0 p1).1)) (fun _ t => xW (dC, dI) xCl [(h0, eM h1 h2 (o_X5_narrowEndless f2 p0 p1).2 rf kn), (h1, eMR true hc1 a1), (hc1, eA cy f1), (h2, eMR false hc2 a2), (hc2, eA cy f2)] (va_A [(h0, eM h1 h2 th rf kn), (h1, eMR true hc1 a1), (hc1, eA cy f1), (h2, eMR false hc2 a2), (hc2, eA cy f2)] sz) t) (va_A [(h0, eM h1 h2 th rf kn), (h1, eMR true hc1 a1), (hc1, eA cy f1), (h2, eMR false hc2 a2), (hc2, eA cy f2)] sz)) 0 0 (va_A [(h0, eM h1 h2 th rf kn), (h1, eMR true hc1 a1), (hc1, eA cy f1), (h2, eMR false hc2 a2), (hc2, eA cy f2)] sz) := by
  refine Met.ofW (cc := cX5_narrowEndless) (maxL := 3) (ret := (some .boolean)) (by decide +kernel) rfl ?_
  intro p e s m args below meth c s₁ B hml hv
  obtain ⟨rfl, hsz, hP, hK, hD0, hN, hG⟩ := hv
  have hx := B.exec
  have hb := B.bytes
  have hr := B.returns
  have hts := atoms_spec (ws := wsX5_narrowEndless) B.pre
  have hown : s.vm.findClass RX5 = some m.cls := findClass_of_methodNamed B.named
  have hlocks := B.notSynchronized
  subst hsz
  have hAN : ∀ q, va_A [(h0, eM h1 h2 th rf kn), (h1, eMR true hc1 a1), (hc1, eA cy f1), (h2, eMR false hc2 a2), (hc2, eA cy f2)] s.heap.size q → N ≤ q := xA_N hD0 hN
  have hD := hD0.self (sz := s.heap.size)
  generalize hAe : va_A [(h0, eM h1 h2 th rf kn), (h1, eMR true hc1 a1), (hc1, eA cy f1), (h2, eMR false hc2 a2), (hc2, eA cy f2)] s.heap.size = A at hD hAN ⊢
  have hA : ∀ q : Nat, s.heap.size ≤ q → A q := fun q h => by rw [← hAe]; exact Or.inr h
  have hS : va_S A s.heap s.heap [] := va_S.rf
  have hP : va_P (dC, dI) xCl [(h0, eM h1 h2 th rf kn), (h1, eMR true hc1 a1), (hc1, eA cy f1), (h2, eMR false hc2 a2), (hc2, eA cy f2)] s.heap := hP
  have hl := lv_entry ([.ref h0, .int p0, .int p1]) (n := 3) (Nat.le_of_ble_eq_true rfl)
  rw [lg_entry_eq]
  generalize (lg_sl ([.ref h0, .int p0, .int p1]) ++ List.replicate (3 - (lg_sl ([.ref h0, .int p0, .int p1])).length) Slot.unset).toArray = ls at hl ⊢
  have hl : lv_has ls 3 [(0, .ref h0), (1, .int p0), (2, .int p1)] := hl
  refine lv_aload_n hx hb dX5_narrowEndless_0 rfl (lv_at hl 0 rfl) ?_
  refine lv_aload_n hx hb dX5_narrowEndless_1 rfl (lv_at hl 0 rfl) ?_
  refine va_get (D := (dC, dI)) (ci := 7) (v := .ref h2) (C := RX5) (T := TX5) (N := 5) hx hb hts (by decide +kernel) hown hK hP 0 rfl rfl 1 (by decide +kernel) (hts (.fieldLink RX5 24 "EdgefloatsModel" "narrow" "LEdgefloatsModel$Row;") (by decide +kernel)) (fun _ h9 => h9) rfl dX5_narrowEndless_2 ?_
  refine lv_iload_n hx hb dX5_narrowEndless_5 rfl (lv_at hl 1 rfl) ?_
  refine lv_iload_n hx hb dX5_narrowEndless_6 rfl (lv_at hl 2 rfl) ?_
  have hPc := hP.sub (ws' := [(h0, eM h1 h2 th rf kn), (h2, eMR false hc2 a2), (hc2, eA cy f2)]) [0, 3, 4] rfl
  have hDc := hD.sub (ws' := [(h0, eM h1 h2 th rf kn), (h2, eMR false hc2 a2), (hc2, eA cy f2)]) [0, 3, 4] (by decide +kernel) rfl
  have hKc := hK.sub (tys' := [(cy, .long)]) [0] rfl
  have hFc := va_free (wc := [(h0, eM h1 h2 th rf kn), (h2, eMR false hc2 a2), (hc2, eA cy f2)]) hD hS hA [0, 3, 4] rfl
  refine va_calli (va_runV (As := [.ref h2, .int p0, .int p1]) (rest := []) ⟨hx, hb, hml, hown, hts⟩ (k_X5_endless l dC dI cy h0 h1 h2 h2 hc2 false a2 f2 th rf kn s.heap.size N p0 p1) (cwV 3 hts gX5_narrowEndless_X5_endless rfl rfl rfl (by decide +kernel) ⟨Nat.le_of_ble_eq_true rfl, Nat.le_of_ble_eq_true rfl⟩) (xM.preV hKc hPc hDc hAN (Nat.le_trans hN hS.1) (hG.kept hS hAN) (ci := 7) (q0 := 0) rfl rfl) rfl rfl hl.1 rfl (lv_room (Nat.le_of_ble_eq_true rfl)) dX5_narrowEndless_7 ⟨Nat.le_of_ble_eq_true rfl, Nat.le_of_ble_eq_true rfl⟩) hS (fun q _ h => hFc q h) hFc (fun r_1 u t H locs ht hvm hw hB hz hk hS => ?_)
  replace hw : r_1 = b2i ((o_X5_endless false f2 p0 p1).1) := hw
  subst r_1
  obtain ⟨hP1, hD1⟩ := hB
  rw [ht] at hP1
  obtain ⟨hP, hD⟩ := va_join (wr := [(h1, eMR true hc1 a1), (hc1, eA cy f1)]) (w1 := [(h0, eM h1 h2 (o_X5_endless false f2 p0 p1).2 rf kn), (h2, eMR false hc2 a2), (hc2, eA cy f2)]) hP hD [0, 3, 4] [1, 2] rfl rfl (by decide +kernel) (by decide +kernel) hk hFc hP1 hD1
  have hP := hP.sub (ws' := [(h0, eM h1 h2 (o_X5_endless false f2 p0 p1).2 rf kn), (h1, eMR true hc1 a1), (hc1, eA cy f1), (h2, eMR false hc2 a2), (hc2, eA cy f2)]) [2, 0, 1, 3, 4] rfl
  have hD := hD.sub (ws' := [(h0, eM h1 h2 (o_X5_endless false f2 p0 p1).2 rf kn), (h1, eMR true hc1 a1), (hc1, eA cy f1), (h2, eMR false hc2 a2), (hc2, eA cy f2)]) [2, 0, 1, 3, 4] (by decide +kernel) rfl
  have he : o_X5_narrowEndless f2 p0 p1 = ((o_X5_endless false f2 p0 p1).1, (o_X5_endless false f2 p0 p1).2) := by (rw [o_X5_narrowEndless]) <;> rfl
  refine W.widen (k := 0) (n := 0) (by omega) (by omega) ?_
  exact W.zret (v := (b2i ((o_X5_endless false f2 p0 p1).1))) (ty := .boolean) hx hb hr (b2i_nar _) (fun t ht hW => ⟨⟨_, (), rfl, (by (rw [he]) <;> rfl), (by rw [he]; exact ⟨by rw [ht]; exact hP, hD⟩)⟩, hS.F ht⟩) hS.2.2 dX5_narrowEndless_10
theorem cl_X5_narrowCount_1 : ∀ w ∈ wsX5_narrowCount_r1, w ∈ wsX5_narrowCount := fun _ h => (List.mem_cons_of_mem _ (List.mem_append_left _ (List.mem_append_left _ (List.mem_append_left _ h))))
theorem cl_X5_narrowCount_2 : ∀ w ∈ wsX5_narrowCount_r2, w ∈ wsX5_narrowCount := fun _ h => (List.mem_cons_of_mem _ (List.mem_append_left _ (List.mem_append_left _ (List.mem_append_right _ (List.mem_append_left _ h)))))
theorem cl_X5_narrowCount_3 : ∀ w ∈ wsX5_narrowCount_r3, w ∈ wsX5_narrowCount := fun _ h => (List.mem_cons_of_mem _ (List.mem_append_left _ (List.mem_append_left _ (List.mem_append_right _ (List.mem_append_right _ h)))))
theorem cl_X5_narrowCount_4 : ∀ w ∈ wsX50, w ∈ wsX5_narrowCount := fun _ h => (List.mem_cons_of_mem _ (List.mem_append_left _ (List.mem_append_right _ h)))
theorem cl_X5_narrowCount_5 : ∀ w ∈ wsX40, w ∈ wsX5_narrowCount := fun _ h => (List.mem_cons_of_mem _ (List.mem_append_right _ h))
set_option maxRecDepth 20000 in
theorem ggX5_narrowCount_X5_count : GoodIn wsX5_narrowCount wsX5_count := goodIn_sub (List.forall_mem_cons.mpr ⟨(cl_X5_narrowCount_1 _ (List.mem_of_getElem? (i := 5) rfl)), fun w h => (List.mem_append.mp h).elim ((fun w h => (List.mem_append.mp h).elim ((fun w h => (List.mem_append.mp h).elim ((List.forall_mem_cons.mpr ⟨(cl_X5_narrowCount_1 _ (List.mem_of_getElem? (i := 6) rfl)), List.forall_mem_cons.mpr ⟨(cl_X5_narrowCount_1 _ (List.mem_of_getElem? (i := 7) rfl)), List.forall_mem_cons.mpr ⟨(cl_X5_narrowCount_1 _ (List.mem_of_getElem? (i := 8) rfl)), List.forall_mem_cons.mpr ⟨(cl_X5_narrowCount_1 _ (List.mem_of_getElem? (i := 4) rfl)), List.forall_mem_cons.mpr ⟨(cl_X5_narrowCount_1 _ (List.mem_of_getElem? (i := 9) rfl)), List.forall_mem_cons.mpr ⟨(cl_X5_narrowCount_1 _ (List.mem_of_getElem? (i := 10) rfl)), List.forall_mem_cons.mpr ⟨(cl_X5_narrowCount_1 _ (List.mem_of_getElem? (i := 11) rfl)), List.forall_mem_cons.mpr ⟨(cl_X5_narrowCount_1 _ (List.mem_of_getElem? (i := 12) rfl)), List.forall_mem_cons.mpr ⟨(cl_X5_narrowCount_1 _ (List.mem_of_getElem? (i := 13) rfl)), List.forall_mem_cons.mpr ⟨(cl_X5_narrowCount_1 _ (List.mem_of_getElem? (i := 14) rfl)), List.forall_mem_cons.mpr ⟨(cl_X5_narrowCount_1 _ (List.mem_of_getElem? (i := 15) rfl)), List.forall_mem_cons.mpr ⟨(cl_X5_narrowCount_1 _ (List.mem_of_getElem? (i := 16) rfl)), List.forall_mem_cons.mpr ⟨(cl_X5_narrowCount_1 _ (List.mem_of_getElem? (i := 17) rfl)), List.forall_mem_cons.mpr ⟨(cl_X5_narrowCount_1 _ (List.mem_of_getElem? (i := 18) rfl)), List.forall_mem_cons.mpr ⟨(cl_X5_narrowCount_1 _ (List.mem_of_getElem? (i := 19) rfl)), List.forall_mem_cons.mpr ⟨(cl_X5_narrowCount_1 _ (List.mem_of_getElem? (i := 20) rfl)), List.forall_mem_cons.mpr ⟨(cl_X5_narrowCount_1 _ (List.mem_of_getElem? (i := 21) rfl)), List.forall_mem_cons.mpr ⟨(cl_X5_narrowCount_1 _ (List.mem_of_getElem? (i := 22) rfl)), List.forall_mem_cons.mpr ⟨(cl_X5_narrowCount_1 _ (List.mem_of_getElem? (i := 23) rfl)), List.forall_mem_cons.mpr ⟨(cl_X5_narrowCount_2 _ (List.mem_of_getElem? (i := 0) rfl)), List.forall_mem_cons.mpr ⟨(cl_X5_narrowCount_2 _ (List.mem_of_getElem? (i := 1) rfl)), List.forall_mem_cons.mpr ⟨(cl_X5_narrowCount_2 _ (List.mem_of_getElem? (i := 2) rfl)), List.forall_mem_cons.mpr ⟨(cl_X5_narrowCount_2 _ (List.mem_of_getElem? (i := 3) rfl)), List.forall_mem_cons.mpr ⟨(cl_X5_narrowCount_2 _ (List.mem_of_getElem? (i := 4) rfl)), fun _ h => absurd h List.not_mem_nil⟩⟩⟩⟩⟩⟩⟩⟩⟩⟩⟩⟩⟩⟩⟩⟩⟩⟩⟩⟩⟩⟩⟩⟩) w) ((fun w h => (List.mem_append.mp h).elim ((List.forall_mem_cons.mpr ⟨(cl_X5_narrowCount_2 _ (List.mem_of_getElem? (i := 5) rfl)), List.forall_mem_cons.mpr ⟨(cl_X5_narrowCount_2 _ (List.mem_of_getElem? (i := 6) rfl)), List.forall_mem_cons.mpr ⟨(cl_X5_narrowCount_2 _ (List.mem_of_getElem? (i := 7) rfl)), List.forall_mem_cons.mpr ⟨(cl_X5_narrowCount_2 _ (List.mem_of_getElem? (i := 8) rfl)), List.forall_mem_cons.mpr ⟨(cl_X5_narrowCount_2 _ (List.mem_of_getElem? (i := 9) rfl)), List.forall_mem_cons.mpr ⟨(cl_X5_narrowCount_2 _ (List.mem_of_getElem? (i := 10) rfl)), List.forall_mem_cons.mpr ⟨(cl_X5_narrowCount_2 _ (List.mem_of_getElem? (i := 11) rfl)), List.forall_mem_cons.mpr ⟨(cl_X5_narrowCount_2 _ (List.mem_of_getElem? (i := 12) rfl)), List.forall_mem_cons.mpr ⟨(cl_X5_narrowCount_2 _ (List.mem_of_getElem? (i := 13) rfl)), List.forall_mem_cons.mpr ⟨(cl_X5_narrowCount_2 _ (List.mem_of_getElem? (i := 14) rfl)), List.forall_mem_cons.mpr ⟨(cl_X5_narrowCount_2 _ (List.mem_of_getElem? (i := 15) rfl)), List.forall_mem_cons.mpr ⟨(cl_X5_narrowCount_2 _ (List.mem_of_getElem? (i := 16) rfl)), List.forall_mem_cons.mpr ⟨(cl_X5_narrowCount_2 _ (List.mem_of_getElem? (i := 17) rfl)), List.forall_mem_cons.mpr ⟨(cl_X5_narrowCount_2 _ (List.mem_of_getElem? (i := 18) rfl)), List.forall_mem_cons.mpr ⟨(cl_X5_narrowCount_2 _ (List.mem_of_getElem? (i := 19) rfl)), List.forall_mem_cons.mpr ⟨(cl_X5_narrowCount_2 _ (List.mem_of_getElem? (i := 20) rfl)), List.forall_mem_cons.mpr ⟨(cl_X5_narrowCount_2 _ (List.mem_of_getElem? (i := 21) rfl)), List.forall_mem_cons.mpr ⟨(cl_X5_narrowCount_2 _ (List.mem_of_getElem? (i := 22) rfl)), List.forall_mem_cons.mpr ⟨(cl_X5_narrowCount_2 _ (List.mem_of_getElem? (i := 23) rfl)), List.forall_mem_cons.mpr ⟨(cl_X5_narrowCount_3 _ (List.mem_of_getElem? (i := 0) rfl)), List.forall_mem_cons.mpr ⟨(cl_X5_narrowCount_3 _ (List.mem_of_getElem? (i := 1) rfl)), List.forall_mem_cons.mpr ⟨(cl_X5_narrowCount_3 _ (List.mem_of_getElem? (i := 2) rfl)), List.forall_mem_cons.mpr ⟨(cl_X5_narrowCount_3 _ (List.mem_of_getElem? (i := 3) rfl)), List.forall_mem_cons.mpr ⟨(cl_X5_narrowCount_3 _ (List.mem_of_getElem? (i := 4) rfl)), fun _ h => absurd h List.not_mem_nil⟩⟩⟩⟩⟩⟩⟩⟩⟩⟩⟩⟩⟩⟩⟩⟩⟩⟩⟩⟩⟩⟩⟩⟩) w) ((List.forall_mem_cons.mpr ⟨(cl_X5_narrowCount_3 _ (List.mem_of_getElem? (i := 5) rfl)), List.forall_mem_cons.mpr ⟨(cl_X5_narrowCount_3 _ (List.mem_of_getElem? (i := 6) rfl)), List.forall_mem_cons.mpr ⟨(cl_X5_narrowCount_3 _ (List.mem_of_getElem? (i := 7) rfl)), List.forall_mem_cons.mpr ⟨(cl_X5_narrowCount_3 _ (List.mem_of_getElem? (i := 8) rfl)), List.forall_mem_cons.mpr ⟨(cl_X5_narrowCount_3 _ (List.mem_of_getElem? (i := 9) rfl)), fun _ h => absurd h List.not_mem_nil⟩⟩⟩⟩⟩) w)) w)) w) ((cl_X5_narrowCount_5) w)) w) ((cl_X5_narrowCount_4) w)⟩) (by decide +kernel)
set_option maxRecDepth 20000 in
theorem gX5_narrowCount_X5_count : GoodIn wsX5_narrowCount (wsV RX5 182 RX5 yX5_count wsX5_count) := goodIn_app (goodIn_sub (List.forall_mem_cons.mpr ⟨(cl_X5_narrowCount_1 _ (List.mem_of_getElem? (i := 1) rfl)), List.forall_mem_cons.mpr ⟨(cl_X5_narrowCount_1 _ (List.mem_of_getElem? (i := 2) rfl)), List.forall_mem_cons.mpr ⟨(cl_X5_narrowCount_1 _ (List.mem_of_getElem? (i := 3) rfl)), List.forall_mem_cons.mpr ⟨(cl_X5_narrowCount_1 _ (List.mem_of_getElem? (i := 4) rfl)), fun _ h => absurd h List.not_mem_nil⟩⟩⟩⟩) (by decide +kernel)) ggX5_narrowCount_X5_count
noncomputable def dz_p10_42 : List (Nat × Instr × Nat) := [(0, (.aload_n 0, 1)), (1, (.aload_n 0, 1)), (2, (.getfield 24, 3)), (5, (.iload_n 1, 1)), (6, (.invokevirtual 182, 3)), (9, (.ireturn, 1))]
theorem dy_p10_42 : dz_ok cX5_narrowCount dz_p10_42 = true := by decide +kernel
theorem dX5_narrowCount_0 : decode cX5_narrowCount 0 = .ok (.aload_n 0, 1) := dz_at (i := 0) dy_p10_42 rfl
theorem dX5_narrowCount_1 : decode cX5_narrowCount 1 = .ok (.aload_n 0, 1) := dz_at (i := 1) dy_p10_42 rfl
theorem dX5_narrowCount_2 : decode cX5_narrowCount 2 = .ok (.getfield 24, 3) := dz_at (i := 2) dy_p10_42 rfl
theorem dX5_narrowCount_5 : decode cX5_narrowCount 5 = .ok (.iload_n 1, 1) := dz_at (i := 3) dy_p10_42 rfl
theorem dX5_narrowCount_6 : decode cX5_narrowCount 6 = .ok (.invokevirtual 182, 3) := dz_at (i := 4) dy_p10_42 rfl
theorem dX5_narrowCount_9 : decode cX5_narrowCount 9 = .ok (.ireturn, 1) := dz_at (i := 5) dy_p10_42 rfl
noncomputable def o_X5_narrowCount (f2 : Nat → Int64) (p0 : Int32) : Int32 × Int32 :=
  ((o_X5_count false f2 p0).1, (o_X5_count false f2 p0).2)
set_option maxHeartbeats 4000000 in
set_option maxRecDepth 100000 in
theorem k_X5_narrowCount (l : Launch) (dC : Nat → ClassId) (dI : Nat → Nat → Nat) (cy : ClassId) (h0 : Nat) (h1 : Nat) (hc1 : Nat) (h2 : Nat) (hc2 : Nat) (a1 : Int32) (f1 : Nat → Int64) (a2 : Int32) (f2 : Nat → Int64) (th : Int32) (rf : Int32) (kn : Int32) (sz : Nat) (N : Nat) (p0 : Int32) (hok2 : okF false f2) : Met l yX5_narrowCount wsX5_narrowCount ({ frames := 5, cells := 0, slots := 0, locals := 114 }) (va_Pc [.ref h0, .int p0] (xM (dC, dI) xCl [(h0, eM h1 h2 th rf kn), (h1, eMR true hc1 a1), (hc1, eA cy f1), (h2, eMR false hc2 a2), (hc2, eA cy f2)] [(cy, .long)] sz N)) (va_Qi (fun (r : Int32) (_ : Unit) => r = (o_X5_narrowCount f2 p0).1) (fun _ t => xW (dC, dI) xCl [(h0, eM h1 h2 (o_X5_narrowCount f2 p0).2 rf kn), (h1, eMR true hc1 a1), (hc1, eA cy f1), (h2, eMR false hc2 a2), (hc2, eA cy f2)] (va_A [(h0, eM h1 h2 th rf kn), (h1, eMR true hc1 a1), (hc1, eA cy f1), (h2, eMR false hc2 a2), (hc2, eA cy f2)] sz) t) (va_A [(h0, eM h1 h2 th rf kn), (h1, eMR true hc1 a1), (hc1, eA cy f1), (h2, eMR false hc2 a2), (hc2, eA cy f2)] sz)) 0 0 (va_A [(h0, eM h1 h2 th rf kn), (h1, eMR true hc1 a1), (hc1, eA cy f1), (h2, eMR false hc2 a2), (hc2, eA cy f2)] sz) := by
  refine Met.ofW (cc := cX5_narrowCount) (maxL := 2) (ret := (some .int)) (by decide +kernel) rfl ?_
  intro p e s m args below meth c s₁ B hml hv
  obtain ⟨rfl, hsz, hP, hK, hD0, hN, hG⟩ := hv
  have hx := B.exec
  have hb := B.bytes
  have hr := B.returns
  have hts := atoms_spec (ws := wsX5_narrowCount) B.pre
  have hown : s.vm.findClass RX5 = some m.cls := findClass_of_methodNamed B.named
  have hlocks := B.notSynchronized
  subst hsz
  have hAN : ∀ q, va_A [(h0, eM h1 h2 th rf kn), (h1, eMR true hc1 a1), (hc1, eA cy f1), (h2, eMR false hc2 a2), (hc2, eA cy f2)] s.heap.size q → N ≤ q := xA_N hD0 hN
  have hD := hD0.self (sz := s.heap.size)
  generalize hAe : va_A [(h0, eM h1 h2 th rf kn), (h1, eMR true hc1 a1), (hc1, eA cy f1), (h2, eMR false hc2 a2), (hc2, eA cy f2)] s.heap.size = A at hD hAN ⊢
  have hA : ∀ q : Nat, s.heap.size ≤ q → A q := fun q h => by rw [← hAe]; exact Or.inr h
  have hS : va_S A s.heap s.heap [] := va_S.rf
  have hP : va_P (dC, dI) xCl [(h0, eM h1 h2 th rf kn), (h1, eMR true hc1 a1), (hc1, eA cy f1), (h2, eMR false hc2 a2), (hc2, eA cy f2)] s.heap := hP
  have hl := lv_entry ([.ref h0, .int p0]) (n := 2) (Nat.le_of_ble_eq_true rfl)
  rw [lg_entry_eq]
  generalize (lg_sl ([.ref h0, .int p0]) ++ List.replicate (2 - (lg_sl ([.ref h0, .int p0])).length) Slot.unset).toArray = ls at hl ⊢
  have hl : lv_has ls 2 [(0, .ref h0), (1, .int p0)] := hl
  refine lv_aload_n hx hb dX5_narrowCount_0 rfl (lv_at hl 0 rfl) ?_
  refine lv_aload_n hx hb dX5_narrowCount_1 rfl (lv_at hl 0 rfl) ?_
  refine va_get (D := (dC, dI)) (ci := 7) (v := .ref h2) (C := RX5) (T := TX5) (N := 5) hx hb hts (by decide +kernel) hown hK hP 0 rfl rfl 1 (by decide +kernel) (hts (.fieldLink RX5 24 "EdgefloatsModel" "narrow" "LEdgefloatsModel$Row;") (by decide +kernel)) (fun _ h9 => h9) rfl dX5_narrowCount_2 ?_
  refine lv_iload_n hx hb dX5_narrowCount_5 rfl (lv_at hl 1 rfl) ?_
  have hPc := hP.sub (ws' := [(h0, eM h1 h2 th rf kn), (h2, eMR false hc2 a2), (hc2, eA cy f2)]) [0, 3, 4] rfl
  have hDc := hD.sub (ws' := [(h0, eM h1 h2 th rf kn), (h2, eMR false hc2 a2), (hc2, eA cy f2)]) [0, 3, 4] (by decide +kernel) rfl
  have hKc := hK.sub (tys' := [(cy, .long)]) [0] rfl
  have hFc := va_free (wc := [(h0, eM h1 h2 th rf kn), (h2, eMR false hc2 a2), (hc2, eA cy f2)]) hD hS hA [0, 3, 4] rfl
  refine va_calli (va_runV (As := [.ref h2, .int p0]) (rest := []) ⟨hx, hb, hml, hown, hts⟩ (k_X5_count l dC dI cy h0 h1 h2 h2 hc2 false a2 f2 th rf kn s.heap.size N p0 hok2) (cwV 2 hts gX5_narrowCount_X5_count rfl rfl rfl (by decide +kernel) ⟨Nat.le_of_ble_eq_true rfl, Nat.le_of_ble_eq_true rfl⟩) (xM.preV hKc hPc hDc hAN (Nat.le_trans hN hS.1) (hG.kept hS hAN) (ci := 7) (q0 := 0) rfl rfl) rfl rfl hl.1 rfl (lv_room (Nat.le_of_ble_eq_true rfl)) dX5_narrowCount_6 ⟨Nat.le_of_ble_eq_true rfl, Nat.le_of_ble_eq_true rfl⟩) hS (fun q _ h => hFc q h) hFc (fun r_1 u t H locs ht hvm hw hB hz hk hS => ?_)
  replace hw : r_1 = (o_X5_count false f2 p0).1 := hw
  subst r_1
  obtain ⟨hP1, hD1⟩ := hB
  rw [ht] at hP1
  obtain ⟨hP, hD⟩ := va_join (wr := [(h1, eMR true hc1 a1), (hc1, eA cy f1)]) (w1 := [(h0, eM h1 h2 (o_X5_count false f2 p0).2 rf kn), (h2, eMR false hc2 a2), (hc2, eA cy f2)]) hP hD [0, 3, 4] [1, 2] rfl rfl (by decide +kernel) (by decide +kernel) hk hFc hP1 hD1
  have hP := hP.sub (ws' := [(h0, eM h1 h2 (o_X5_count false f2 p0).2 rf kn), (h1, eMR true hc1 a1), (hc1, eA cy f1), (h2, eMR false hc2 a2), (hc2, eA cy f2)]) [2, 0, 1, 3, 4] rfl
  have hD := hD.sub (ws' := [(h0, eM h1 h2 (o_X5_count false f2 p0).2 rf kn), (h1, eMR true hc1 a1), (hc1, eA cy f1), (h2, eMR false hc2 a2), (hc2, eA cy f2)]) [2, 0, 1, 3, 4] (by decide +kernel) rfl
  have he : o_X5_narrowCount f2 p0 = ((o_X5_count false f2 p0).1, (o_X5_count false f2 p0).2) := by (rw [o_X5_narrowCount]) <;> rfl
  refine W.widen (k := 0) (n := 0) (by omega) (by omega) ?_
  exact W.iret (v := ((o_X5_count false f2 p0).1)) hx hb hr (fun t ht hW => ⟨⟨_, (), rfl, (by (rw [he]) <;> rfl), (by rw [he]; exact ⟨by rw [ht]; exact hP, hD⟩)⟩, hS.F ht⟩) hS.2.2 dX5_narrowCount_9
theorem cl_X5_narrowFind_1 : ∀ w ∈ [.fieldLink RX5 24 "EdgefloatsModel" "narrow" "LEdgefloatsModel$Row;", .methodLink RX5 184 yX5_find, .instanceMethod yX5_find, .selects RX5 yX5_find yX5_find, .initialized RX5, .code yX5_find cX5_find 4 (some .int), .fieldLink RX5 74 "EdgefloatsModel$Row" "cells" "[J", .methodLink RX5 35 yX5_isNo, .static yX5_isNo, .code yX5_isNo cX5_isNo 1 (some .boolean), .methodLink RX5 31 yX5_isIn, .static yX5_isIn, .code yX5_isIn cX5_isIn 3 (some .boolean), .methodLink RX5 42 yX5_fails, .instanceMethod yX5_fails, .selects RX5 yX5_fails yX5_fails, .code yX5_fails cX5_fails 3 (some .boolean), .fieldLink RX5 27 "EdgefloatsModel" "thrown" "I", .methodLink RX5 121 yX4_find, .instanceMethod yX4_find, .selects RX4 yX4_find yX4_find, .initialized RX4, .code yX4_find cX4_find 6 (some .int), .fieldLink RX4 9 "EdgefloatsModel$Row" "cells" "[J"], w ∈ wsX5_narrowFind := fun _ h => (List.mem_cons_of_mem _ (List.mem_append_left _ (List.mem_append_left _ h)))
theorem cl_X5_narrowFind_2 : ∀ w ∈ wsX50, w ∈ wsX5_narrowFind := fun _ h => (List.mem_cons_of_mem _ (List.mem_append_left _ (List.mem_append_right _ h)))
theorem cl_X5_narrowFind_3 : ∀ w ∈ wsX40, w ∈ wsX5_narrowFind := fun _ h => (List.mem_cons_of_mem _ (List.mem_append_right _ h))
set_option maxRecDepth 20000 in
theorem ggX5_narrowFind_X5_find : GoodIn wsX5_narrowFind wsX5_find := goodIn_sub (List.forall_mem_cons.mpr ⟨(cl_X5_narrowFind_1 _ (List.mem_of_getElem? (i := 5) rfl)), fun w h => (List.mem_append.mp h).elim ((fun w h => (List.mem_append.mp h).elim ((List.forall_mem_cons.mpr ⟨(cl_X5_narrowFind_1 _ (List.mem_of_getElem? (i := 6) rfl)), List.forall_mem_cons.mpr ⟨(cl_X5_narrowFind_1 _ (List.mem_of_getElem? (i := 7) rfl)), List.forall_mem_cons.mpr ⟨(cl_X5_narrowFind_1 _ (List.mem_of_getElem? (i := 8) rfl)), List.forall_mem_cons.mpr ⟨(cl_X5_narrowFind_1 _ (List.mem_of_getElem? (i := 4) rfl)), List.forall_mem_cons.mpr ⟨(cl_X5_narrowFind_1 _ (List.mem_of_getElem? (i := 9) rfl)), List.forall_mem_cons.mpr ⟨(cl_X5_narrowFind_1 _ (List.mem_of_getElem? (i := 10) rfl)), List.forall_mem_cons.mpr ⟨(cl_X5_narrowFind_1 _ (List.mem_of_getElem? (i := 11) rfl)), List.forall_mem_cons.mpr ⟨(cl_X5_narrowFind_1 _ (List.mem_of_getElem? (i := 12) rfl)), List.forall_mem_cons.mpr ⟨(cl_X5_narrowFind_1 _ (List.mem_of_getElem? (i := 13) rfl)), List.forall_mem_cons.mpr ⟨(cl_X5_narrowFind_1 _ (List.mem_of_getElem? (i := 14) rfl)), List.forall_mem_cons.mpr ⟨(cl_X5_narrowFind_1 _ (List.mem_of_getElem? (i := 15) rfl)), List.forall_mem_cons.mpr ⟨(cl_X5_narrowFind_1 _ (List.mem_of_getElem? (i := 16) rfl)), List.forall_mem_cons.mpr ⟨(cl_X5_narrowFind_1 _ (List.mem_of_getElem? (i := 17) rfl)), List.forall_mem_cons.mpr ⟨(cl_X5_narrowFind_1 _ (List.mem_of_getElem? (i := 18) rfl)), List.forall_mem_cons.mpr ⟨(cl_X5_narrowFind_1 _ (List.mem_of_getElem? (i := 19) rfl)), List.forall_mem_cons.mpr ⟨(cl_X5_narrowFind_1 _ (List.mem_of_getElem? (i := 20) rfl)), List.forall_mem_cons.mpr ⟨(cl_X5_narrowFind_1 _ (List.mem_of_getElem? (i := 21) rfl)), List.forall_mem_cons.mpr ⟨(cl_X5_narrowFind_1 _ (List.mem_of_getElem? (i := 22) rfl)), List.forall_mem_cons.mpr ⟨(cl_X5_narrowFind_1 _ (List.mem_of_getElem? (i := 23) rfl)), fun _ h => absurd h List.not_mem_nil⟩⟩⟩⟩⟩⟩⟩⟩⟩⟩⟩⟩⟩⟩⟩⟩⟩⟩⟩) w) ((cl_X5_narrowFind_3) w)) w) ((cl_X5_narrowFind_2) w)⟩) (by decide +kernel)
set_option maxRecDepth 20000 in
theorem gX5_narrowFind_X5_find : GoodIn wsX5_narrowFind (wsV RX5 184 RX5 yX5_find wsX5_find) := goodIn_app (goodIn_sub (List.forall_mem_cons.mpr ⟨(cl_X5_narrowFind_1 _ (List.mem_of_getElem? (i := 1) rfl)), List.forall_mem_cons.mpr ⟨(cl_X5_narrowFind_1 _ (List.mem_of_getElem? (i := 2) rfl)), List.forall_mem_cons.mpr ⟨(cl_X5_narrowFind_1 _ (List.mem_of_getElem? (i := 3) rfl)), List.forall_mem_cons.mpr ⟨(cl_X5_narrowFind_1 _ (List.mem_of_getElem? (i := 4) rfl)), fun _ h => absurd h List.not_mem_nil⟩⟩⟩⟩) (by decide +kernel)) ggX5_narrowFind_X5_find
noncomputable def dz_p10_43 : List (Nat × Instr × Nat) := [(0, (.aload_n 0, 1)), (1, (.aload_n 0, 1)), (2, (.getfield 24, 3)), (5, (.iload_n 1, 1)), (6, (.iload_n 2, 1)), (7, (.invokevirtual 184, 3)), (10, (.ireturn, 1))]
theorem dy_p10_43 : dz_ok cX5_narrowFind dz_p10_43 = true := by decide +kernel
theorem dX5_narrowFind_0 : decode cX5_narrowFind 0 = .ok (.aload_n 0, 1) := dz_at (i := 0) dy_p10_43 rfl
theorem dX5_narrowFind_1 : decode cX5_narrowFind 1 = .ok (.aload_n 0, 1) := dz_at (i := 1) dy_p10_43 rfl
theorem dX5_narrowFind_2 : decode cX5_narrowFind 2 = .ok (.getfield 24, 3) := dz_at (i := 2) dy_p10_43 rfl
theorem dX5_narrowFind_5 : decode cX5_narrowFind 5 = .ok (.iload_n 1, 1) := dz_at (i := 3) dy_p10_43 rfl
theorem dX5_narrowFind_6 : decode cX5_narrowFind 6 = .ok (.iload_n 2, 1) := dz_at (i := 4) dy_p10_43 rfl
theorem dX5_narrowFind_7 : decode cX5_narrowFind 7 = .ok (.invokevirtual 184, 3) := dz_at (i := 5) dy_p10_43 rfl
theorem dX5_narrowFind_10 : decode cX5_narrowFind 10 = .ok (.ireturn, 1) := dz_at (i := 6) dy_p10_43 rfl
noncomputable def o_X5_narrowFind (f2 : Nat → Int64) (p0 : Int32) (p1 : Bool) : Int32 × Int32 :=
  ((o_X5_find f2 p0 p1).1, (o_X5_find f2 p0 p1).2)
set_option maxHeartbeats 4000000 in
set_option maxRecDepth 100000 in
theorem k_X5_narrowFind (l : Launch) (dC : Nat → ClassId) (dI : Nat → Nat → Nat) (cy : ClassId) (h0 : Nat) (h1 : Nat) (hc1 : Nat) (h2 : Nat) (hc2 : Nat) (a1 : Int32) (f1 : Nat → Int64) (a2 : Int32) (f2 : Nat → Int64) (th : Int32) (rf : Int32) (kn : Int32) (sz : Nat) (N : Nat) (p0 : Int32) (p1 : Bool) : Met l yX5_narrowFind wsX5_narrowFind ({ frames := 3, cells := 0, slots := 0, locals := 65 }) (va_Pc [.ref h0, .int p0, .int (b2i p1)] (xM (dC, dI) xCl [(h0, eM h1 h2 th rf kn), (h1, eMR true hc1 a1), (hc1, eA cy f1), (h2, eMR false hc2 a2), (hc2, eA cy f2)] [(cy, .long)] sz N)) (va_Qi (fun (r : Int32) (_ : Unit) => r = (o_X5_narrowFind f2 p0 p1).1) (fun _ t => xW (dC, dI) xCl [(h0, eM h1 h2 (o_X5_narrowFind f2 p0 p1).2 rf kn), (h1, eMR true hc1 a1), (hc1, eA cy f1), (h2, eMR false hc2 a2), (hc2, eA cy f2)] (va_A [(h0, eM h1 h2 th rf kn), (h1, eMR true hc1 a1), (hc1, eA cy f1), (h2, eMR false hc2 a2), (hc2, eA cy f2)] sz) t) (va_A [(h0, eM h1 h2 th rf kn), (h1, eMR true hc1 a1), (hc1, eA cy f1), (h2, eMR false hc2 a2), (hc2, eA cy f2)] sz)) 0 0 (va_A [(h0, eM h1 h2 th rf kn), (h1, eMR true hc1 a1), (hc1, eA cy f1), (h2, eMR false hc2 a2), (hc2, eA cy f2)] sz) := by
  refine Met.ofW (cc := cX5_narrowFind) (maxL := 3) (ret := (some .int)) (by decide +kernel) rfl ?_
  intro p e s m args below meth c s₁ B hml hv
  obtain ⟨rfl, hsz, hP, hK, hD0, hN, hG⟩ := hv
  have hx := B.exec
  have hb := B.bytes
  have hr := B.returns
  have hts := atoms_spec (ws := wsX5_narrowFind) B.pre
  have hown : s.vm.findClass RX5 = some m.cls := findClass_of_methodNamed B.named
  have hlocks := B.notSynchronized
  subst hsz
  have hAN : ∀ q, va_A [(h0, eM h1 h2 th rf kn), (h1, eMR true hc1 a1), (hc1, eA cy f1), (h2, eMR false hc2 a2), (hc2, eA cy f2)] s.heap.size q → N ≤ q := xA_N hD0 hN
  have hD := hD0.self (sz := s.heap.size)
  generalize hAe : va_A [(h0, eM h1 h2 th rf kn), (h1, eMR true hc1 a1), (hc1, eA cy f1), (h2, eMR false hc2 a2), (hc2, eA cy f2)] s.heap.size = A at hD hAN ⊢
  have hA : ∀ q : Nat, s.heap.size ≤ q → A q := fun q h => by rw [← hAe]; exact Or.inr h
  have hS : va_S A s.heap s.heap [] := va_S.rf
  have hP : va_P (dC, dI) xCl [(h0, eM h1 h2 th rf kn), (h1, eMR true hc1 a1), (hc1, eA cy f1), (h2, eMR false hc2 a2), (hc2, eA cy f2)] s.heap := hP
  have hl := lv_entry ([.ref h0, .int p0, .int (b2i p1)]) (n := 3) (Nat.le_of_ble_eq_true rfl)
  rw [lg_entry_eq]
  generalize (lg_sl ([.ref h0, .int p0, .int (b2i p1)]) ++ List.replicate (3 - (lg_sl ([.ref h0, .int p0, .int (b2i p1)])).length) Slot.unset).toArray = ls at hl ⊢
  have hl : lv_has ls 3 [(0, .ref h0), (1, .int p0), (2, .int (b2i p1))] := hl
  refine lv_aload_n hx hb dX5_narrowFind_0 rfl (lv_at hl 0 rfl) ?_
  refine lv_aload_n hx hb dX5_narrowFind_1 rfl (lv_at hl 0 rfl) ?_
  refine va_get (D := (dC, dI)) (ci := 7) (v := .ref h2) (C := RX5) (T := TX5) (N := 5) hx hb hts (by decide +kernel) hown hK hP 0 rfl rfl 1 (by decide +kernel) (hts (.fieldLink RX5 24 "EdgefloatsModel" "narrow" "LEdgefloatsModel$Row;") (by decide +kernel)) (fun _ h9 => h9) rfl dX5_narrowFind_2 ?_
  refine lv_iload_n hx hb dX5_narrowFind_5 rfl (lv_at hl 1 rfl) ?_
  refine lv_iload_n hx hb dX5_narrowFind_6 rfl (lv_at hl 2 rfl) ?_
  have hPc := hP.sub (ws' := [(h0, eM h1 h2 th rf kn), (h2, eMR false hc2 a2), (hc2, eA cy f2)]) [0, 3, 4] rfl
  have hDc := hD.sub (ws' := [(h0, eM h1 h2 th rf kn), (h2, eMR false hc2 a2), (hc2, eA cy f2)]) [0, 3, 4] (by decide +kernel) rfl
  have hKc := hK.sub (tys' := [(cy, .long)]) [0] rfl
  have hFc := va_free (wc := [(h0, eM h1 h2 th rf kn), (h2, eMR false hc2 a2), (hc2, eA cy f2)]) hD hS hA [0, 3, 4] rfl
  refine va_calli (va_runV (As := [.ref h2, .int p0, .int (b2i p1)]) (rest := []) ⟨hx, hb, hml, hown, hts⟩ (k_X5_find l dC dI cy h0 h1 h2 h2 hc2 false a2 f2 th rf kn s.heap.size N p0 p1) (cwV 3 hts gX5_narrowFind_X5_find rfl rfl rfl (by decide +kernel) ⟨Nat.le_of_ble_eq_true rfl, Nat.le_of_ble_eq_true rfl⟩) (xM.preV hKc hPc hDc hAN (Nat.le_trans hN hS.1) (hG.kept hS hAN) (ci := 7) (q0 := 0) rfl rfl) rfl rfl hl.1 rfl (lv_room (Nat.le_of_ble_eq_true rfl)) dX5_narrowFind_7 ⟨Nat.le_of_ble_eq_true rfl, Nat.le_of_ble_eq_true rfl⟩) hS (fun q _ h => hFc q h) hFc (fun r_1 u t H locs ht hvm hw hB hz hk hS => ?_)
  replace hw : r_1 = (o_X5_find f2 p0 p1).1 := hw
  subst r_1
  obtain ⟨hP1, hD1⟩ := hB
  rw [ht] at hP1
  obtain ⟨hP, hD⟩ := va_join (wr := [(h1, eMR true hc1 a1), (hc1, eA cy f1)]) (w1 := [(h0, eM h1 h2 (o_X5_find f2 p0 p1).2 rf kn), (h2, eMR false hc2 a2), (hc2, eA cy f2)]) hP hD [0, 3, 4] [1, 2] rfl rfl (by decide +kernel) (by decide +kernel) hk hFc hP1 hD1
  have hP := hP.sub (ws' := [(h0, eM h1 h2 (o_X5_find f2 p0 p1).2 rf kn), (h1, eMR true hc1 a1), (hc1, eA cy f1), (h2, eMR false hc2 a2), (hc2, eA cy f2)]) [2, 0, 1, 3, 4] rfl
  have hD := hD.sub (ws' := [(h0, eM h1 h2 (o_X5_find f2 p0 p1).2 rf kn), (h1, eMR true hc1 a1), (hc1, eA cy f1), (h2, eMR false hc2 a2), (hc2, eA cy f2)]) [2, 0, 1, 3, 4] (by decide +kernel) rfl
  have he : o_X5_narrowFind f2 p0 p1 = ((o_X5_find f2 p0 p1).1, (o_X5_find f2 p0 p1).2) := by (rw [o_X5_narrowFind]) <;> rfl
  refine W.widen (k := 0) (n := 0) (by omega) (by omega) ?_
  exact W.iret (v := ((o_X5_find f2 p0 p1).1)) hx hb hr (fun t ht hW => ⟨⟨_, (), rfl, (by (rw [he]) <;> rfl), (by rw [he]; exact ⟨by rw [ht]; exact hP, hD⟩)⟩, hS.F ht⟩) hS.2.2 dX5_narrowFind_10
theorem cl_X5_narrowHas_1 : ∀ w ∈ wsX5_narrowHas_r1, w ∈ wsX5_narrowHas := fun _ h => (List.mem_cons_of_mem _ (List.mem_append_left _ (List.mem_append_left _ (List.mem_append_left _ h))))
theorem cl_X5_narrowHas_2 : ∀ w ∈ wsX5_narrowHas_r2, w ∈ wsX5_narrowHas := fun _ h => (List.mem_cons_of_mem _ (List.mem_append_left _ (List.mem_append_left _ (List.mem_append_right _ h))))
theorem cl_X5_narrowHas_3 : ∀ w ∈ wsX50, w ∈ wsX5_narrowHas := fun _ h => (List.mem_cons_of_mem _ (List.mem_append_left _ (List.mem_append_right _ h)))
theorem cl_X5_narrowHas_4 : ∀ w ∈ wsX40, w ∈ wsX5_narrowHas := fun _ h => (List.mem_cons_of_mem _ (List.mem_append_right _ h))
set_option maxRecDepth 20000 in
theorem ggX5_narrowHas_X5_has : GoodIn wsX5_narrowHas wsX5_has := goodIn_sub (List.forall_mem_cons.mpr ⟨(cl_X5_narrowHas_1 _ (List.mem_of_getElem? (i := 5) rfl)), fun w h => (List.mem_append.mp h).elim ((fun w h => (List.mem_append.mp h).elim ((fun w h => (List.mem_append.mp h).elim ((List.forall_mem_cons.mpr ⟨(cl_X5_narrowHas_1 _ (List.mem_of_getElem? (i := 6) rfl)), List.forall_mem_cons.mpr ⟨(cl_X5_narrowHas_1 _ (List.mem_of_getElem? (i := 7) rfl)), List.forall_mem_cons.mpr ⟨(cl_X5_narrowHas_1 _ (List.mem_of_getElem? (i := 4) rfl)), List.forall_mem_cons.mpr ⟨(cl_X5_narrowHas_1 _ (List.mem_of_getElem? (i := 8) rfl)), List.forall_mem_cons.mpr ⟨(cl_X5_narrowHas_1 _ (List.mem_of_getElem? (i := 9) rfl)), List.forall_mem_cons.mpr ⟨(cl_X5_narrowHas_1 _ (List.mem_of_getElem? (i := 10) rfl)), List.forall_mem_cons.mpr ⟨(cl_X5_narrowHas_1 _ (List.mem_of_getElem? (i := 11) rfl)), List.forall_mem_cons.mpr ⟨(cl_X5_narrowHas_1 _ (List.mem_of_getElem? (i := 12) rfl)), List.forall_mem_cons.mpr ⟨(cl_X5_narrowHas_1 _ (List.mem_of_getElem? (i := 13) rfl)), List.forall_mem_cons.mpr ⟨(cl_X5_narrowHas_1 _ (List.mem_of_getElem? (i := 14) rfl)), List.forall_mem_cons.mpr ⟨(cl_X5_narrowHas_1 _ (List.mem_of_getElem? (i := 15) rfl)), List.forall_mem_cons.mpr ⟨(cl_X5_narrowHas_1 _ (List.mem_of_getElem? (i := 16) rfl)), List.forall_mem_cons.mpr ⟨(cl_X5_narrowHas_1 _ (List.mem_of_getElem? (i := 17) rfl)), List.forall_mem_cons.mpr ⟨(cl_X5_narrowHas_1 _ (List.mem_of_getElem? (i := 18) rfl)), List.forall_mem_cons.mpr ⟨(cl_X5_narrowHas_1 _ (List.mem_of_getElem? (i := 19) rfl)), List.forall_mem_cons.mpr ⟨(cl_X5_narrowHas_1 _ (List.mem_of_getElem? (i := 20) rfl)), List.forall_mem_cons.mpr ⟨(cl_X5_narrowHas_1 _ (List.mem_of_getElem? (i := 21) rfl)), List.forall_mem_cons.mpr ⟨(cl_X5_narrowHas_1 _ (List.mem_of_getElem? (i := 22) rfl)), List.forall_mem_cons.mpr ⟨(cl_X5_narrowHas_1 _ (List.mem_of_getElem? (i := 23) rfl)), List.forall_mem_cons.mpr ⟨(cl_X5_narrowHas_2 _ (List.mem_of_getElem? (i := 0) rfl)), List.forall_mem_cons.mpr ⟨(cl_X5_narrowHas_2 _ (List.mem_of_getElem? (i := 1) rfl)), List.forall_mem_cons.mpr ⟨(cl_X5_narrowHas_2 _ (List.mem_of_getElem? (i := 2) rfl)), List.forall_mem_cons.mpr ⟨(cl_X5_narrowHas_2 _ (List.mem_of_getElem? (i := 3) rfl)), List.forall_mem_cons.mpr ⟨(cl_X5_narrowHas_2 _ (List.mem_of_getElem? (i := 4) rfl)), fun _ h => absurd h List.not_mem_nil⟩⟩⟩⟩⟩⟩⟩⟩⟩⟩⟩⟩⟩⟩⟩⟩⟩⟩⟩⟩⟩⟩⟩⟩) w) ((List.forall_mem_cons.mpr ⟨(cl_X5_narrowHas_2 _ (List.mem_of_getElem? (i := 5) rfl)), List.forall_mem_cons.mpr ⟨(cl_X5_narrowHas_2 _ (List.mem_of_getElem? (i := 6) rfl)), List.forall_mem_cons.mpr ⟨(cl_X5_narrowHas_2 _ (List.mem_of_getElem? (i := 7) rfl)), List.forall_mem_cons.mpr ⟨(cl_X5_narrowHas_2 _ (List.mem_of_getElem? (i := 8) rfl)), List.forall_mem_cons.mpr ⟨(cl_X5_narrowHas_2 _ (List.mem_of_getElem? (i := 9) rfl)), fun _ h => absurd h List.not_mem_nil⟩⟩⟩⟩⟩) w)) w) ((cl_X5_narrowHas_3) w)) w) ((cl_X5_narrowHas_4) w)⟩) (by decide +kernel)
set_option maxRecDepth 20000 in
theorem gX5_narrowHas_X5_has : GoodIn wsX5_narrowHas (wsV RX5 187 RX5 yX5_has wsX5_has) := goodIn_app (goodIn_sub (List.forall_mem_cons.mpr ⟨(cl_X5_narrowHas_1 _ (List.mem_of_getElem? (i := 1) rfl)), List.forall_mem_cons.mpr ⟨(cl_X5_narrowHas_1 _ (List.mem_of_getElem? (i := 2) rfl)), List.forall_mem_cons.mpr ⟨(cl_X5_narrowHas_1 _ (List.mem_of_getElem? (i := 3) rfl)), List.forall_mem_cons.mpr ⟨(cl_X5_narrowHas_1 _ (List.mem_of_getElem? (i := 4) rfl)), fun _ h => absurd h List.not_mem_nil⟩⟩⟩⟩) (by decide +kernel)) ggX5_narrowHas_X5_has
noncomputable def dz_p10_44 : List (Nat × Instr × Nat) := [(0, (.aload_n 0, 1)), (1, (.aload_n 0, 1)), (2, (.getfield 24, 3)), (5, (.iload_n 1, 1)), (6, (.invokevirtual 187, 3)), (9, (.ireturn, 1))]
theorem dy_p10_44 : dz_ok cX5_narrowHas dz_p10_44 = true := by decide +kernel
theorem dX5_narrowHas_0 : decode cX5_narrowHas 0 = .ok (.aload_n 0, 1) := dz_at (i := 0) dy_p10_44 rfl
theorem dX5_narrowHas_1 : decode cX5_narrowHas 1 = .ok (.aload_n 0, 1) := dz_at (i := 1) dy_p10_44 rfl
theorem dX5_narrowHas_2 : decode cX5_narrowHas 2 = .ok (.getfield 24, 3) := dz_at (i := 2) dy_p10_44 rfl
theorem dX5_narrowHas_5 : decode cX5_narrowHas 5 = .ok (.iload_n 1, 1) := dz_at (i := 3) dy_p10_44 rfl
theorem dX5_narrowHas_6 : decode cX5_narrowHas 6 = .ok (.invokevirtual 187, 3) := dz_at (i := 4) dy_p10_44 rfl
theorem dX5_narrowHas_9 : decode cX5_narrowHas 9 = .ok (.ireturn, 1) := dz_at (i := 5) dy_p10_44 rfl
noncomputable def o_X5_narrowHas (f2 : Nat → Int64) (p0 : Int32) : Bool × Int32 :=
  ((o_X5_has false f2 p0).1, (o_X5_has false f2 p0).2)
set_option maxHeartbeats 4000000 in
set_option maxRecDepth 100000 in
theorem k_X5_narrowHas (l : Launch) (dC : Nat → ClassId) (dI : Nat → Nat → Nat) (cy : ClassId) (h0 : Nat) (h1 : Nat) (hc1 : Nat) (h2 : Nat) (hc2 : Nat) (a1 : Int32) (f1 : Nat → Int64) (a2 : Int32) (f2 : Nat → Int64) (th : Int32) (rf : Int32) (kn : Int32) (sz : Nat) (N : Nat) (p0 : Int32) : Met l yX5_narrowHas wsX5_narrowHas ({ frames := 3, cells := 0, slots := 0, locals := 63 }) (va_Pc [.ref h0, .int p0] (xM (dC, dI) xCl [(h0, eM h1 h2 th rf kn), (h1, eMR true hc1 a1), (hc1, eA cy f1), (h2, eMR false hc2 a2), (hc2, eA cy f2)] [(cy, .long)] sz N)) (va_Qi (fun (r : Int32) (_ : Unit) => r = b2i ((o_X5_narrowHas f2 p0).1)) (fun _ t => xW (dC, dI) xCl [(h0, eM h1 h2 (o_X5_narrowHas f2 p0).2 rf kn), (h1, eMR true hc1 a1), (hc1, eA cy f1), (h2, eMR false hc2 a2), (hc2, eA cy f2)] (va_A [(h0, eM h1 h2 th rf kn), (h1, eMR true hc1 a1), (hc1, eA cy f1), (h2, eMR false hc2 a2), (hc2, eA cy f2)] sz) t) (va_A [(h0, eM h1 h2 th rf kn), (h1, eMR true hc1 a1), (hc1, eA cy f1), (h2, eMR false hc2 a2), (hc2, eA cy f2)] sz)) 0 0 (va_A [(h0, eM h1 h2 th rf kn), (h1, eMR true hc1 a1), (hc1, eA cy f1), (h2, eMR false hc2 a2), (hc2, eA cy f2)] sz) := by
  refine Met.ofW (cc := cX5_narrowHas) (maxL := 2) (ret := (some .boolean)) (by decide +kernel) rfl ?_
  intro p e s m args below meth c s₁ B hml hv
  obtain ⟨rfl, hsz, hP, hK, hD0, hN, hG⟩ := hv
  have hx := B.exec
  have hb := B.bytes
  have hr := B.returns
  have hts := atoms_spec (ws := wsX5_narrowHas) B.pre
  have hown : s.vm.findClass RX5 = some m.cls := findClass_of_methodNamed B.named
  have hlocks := B.notSynchronized
  subst hsz
  have hAN : ∀ q, va_A [(h0, eM h1 h2 th rf kn), (h1, eMR true hc1 a1), (hc1, eA cy f1), (h2, eMR false hc2 a2), (hc2, eA cy f2)] s.heap.size q → N ≤ q := xA_N hD0 hN
  have hD := hD0.self (sz := s.heap.size)
  generalize hAe : va_A [(h0, eM h1 h2 th rf kn), (h1, eMR true hc1 a1), (hc1, eA cy f1), (h2, eMR false hc2 a2), (hc2, eA cy f2)] s.heap.size = A at hD hAN ⊢
  have hA : ∀ q : Nat, s.heap.size ≤ q → A q := fun q h => by rw [← hAe]; exact Or.inr h
  have hS : va_S A s.heap s.heap [] := va_S.rf
  have hP : va_P (dC, dI) xCl [(h0, eM h1 h2 th rf kn), (h1, eMR true hc1 a1), (hc1, eA cy f1), (h2, eMR false hc2 a2), (hc2, eA cy f2)] s.heap := hP
  have hl := lv_entry ([.ref h0, .int p0]) (n := 2) (Nat.le_of_ble_eq_true rfl)
  rw [lg_entry_eq]
  generalize (lg_sl ([.ref h0, .int p0]) ++ List.replicate (2 - (lg_sl ([.ref h0, .int p0])).length) Slot.unset).toArray = ls at hl ⊢
  have hl : lv_has ls 2 [(0, .ref h0), (1, .int p0)] := hl
  refine lv_aload_n hx hb dX5_narrowHas_0 rfl (lv_at hl 0 rfl) ?_
  refine lv_aload_n hx hb dX5_narrowHas_1 rfl (lv_at hl 0 rfl) ?_
  refine va_get (D := (dC, dI)) (ci := 7) (v := .ref h2) (C := RX5) (T := TX5) (N := 5) hx hb hts (by decide +kernel) hown hK hP 0 rfl rfl 1 (by decide +kernel) (hts (.fieldLink RX5 24 "EdgefloatsModel" "narrow" "LEdgefloatsModel$Row;") (by decide +kernel)) (fun _ h9 => h9) rfl dX5_narrowHas_2 ?_
  refine lv_iload_n hx hb dX5_narrowHas_5 rfl (lv_at hl 1 rfl) ?_
  have hPc := hP.sub (ws' := [(h0, eM h1 h2 th rf kn), (h2, eMR false hc2 a2), (hc2, eA cy f2)]) [0, 3, 4] rfl
  have hDc := hD.sub (ws' := [(h0, eM h1 h2 th rf kn), (h2, eMR false hc2 a2), (hc2, eA cy f2)]) [0, 3, 4] (by decide +kernel) rfl
  have hKc := hK.sub (tys' := [(cy, .long)]) [0] rfl
  have hFc := va_free (wc := [(h0, eM h1 h2 th rf kn), (h2, eMR false hc2 a2), (hc2, eA cy f2)]) hD hS hA [0, 3, 4] rfl
  refine va_calli (va_runV (As := [.ref h2, .int p0]) (rest := []) ⟨hx, hb, hml, hown, hts⟩ (k_X5_has l dC dI cy h0 h1 h2 h2 hc2 false a2 f2 th rf kn s.heap.size N p0) (cwV 2 hts gX5_narrowHas_X5_has rfl rfl rfl (by decide +kernel) ⟨Nat.le_of_ble_eq_true rfl, Nat.le_of_ble_eq_true rfl⟩) (xM.preV hKc hPc hDc hAN (Nat.le_trans hN hS.1) (hG.kept hS hAN) (ci := 7) (q0 := 0) rfl rfl) rfl rfl hl.1 rfl (lv_room (Nat.le_of_ble_eq_true rfl)) dX5_narrowHas_6 ⟨Nat.le_of_ble_eq_true rfl, Nat.le_of_ble_eq_true rfl⟩) hS (fun q _ h => hFc q h) hFc (fun r_1 u t H locs ht hvm hw hB hz hk hS => ?_)
  replace hw : r_1 = b2i ((o_X5_has false f2 p0).1) := hw
  subst r_1
  obtain ⟨hP1, hD1⟩ := hB
  rw [ht] at hP1
  obtain ⟨hP, hD⟩ := va_join (wr := [(h1, eMR true hc1 a1), (hc1, eA cy f1)]) (w1 := [(h0, eM h1 h2 (o_X5_has false f2 p0).2 rf kn), (h2, eMR false hc2 a2), (hc2, eA cy f2)]) hP hD [0, 3, 4] [1, 2] rfl rfl (by decide +kernel) (by decide +kernel) hk hFc hP1 hD1
  have hP := hP.sub (ws' := [(h0, eM h1 h2 (o_X5_has false f2 p0).2 rf kn), (h1, eMR true hc1 a1), (hc1, eA cy f1), (h2, eMR false hc2 a2), (hc2, eA cy f2)]) [2, 0, 1, 3, 4] rfl
  have hD := hD.sub (ws' := [(h0, eM h1 h2 (o_X5_has false f2 p0).2 rf kn), (h1, eMR true hc1 a1), (hc1, eA cy f1), (h2, eMR false hc2 a2), (hc2, eA cy f2)]) [2, 0, 1, 3, 4] (by decide +kernel) rfl
  have he : o_X5_narrowHas f2 p0 = ((o_X5_has false f2 p0).1, (o_X5_has false f2 p0).2) := by (rw [o_X5_narrowHas]) <;> rfl
  refine W.widen (k := 0) (n := 0) (by omega) (by omega) ?_
  exact W.zret (v := (b2i ((o_X5_has false f2 p0).1))) (ty := .boolean) hx hb hr (b2i_nar _) (fun t ht hW => ⟨⟨_, (), rfl, (by (rw [he]) <;> rfl), (by rw [he]; exact ⟨by rw [ht]; exact hP, hD⟩)⟩, hS.F ht⟩) hS.2.2 dX5_narrowHas_9
noncomputable def dz_p10_45 : List (Nat × Instr × Nat) := [(0, (.iload_n 1, 1)), (1, (.ifCond .ne 13, 3)), (4, (.aload_n 0, 1)), (5, (.getfield 16, 3)), (8, (.getfield 191, 3)), (11, (.goto 34, 3)), (14, (.iload_n 1, 1)), (15, (.iconst 1, 1)), (16, (.if_icmp .ne 13, 3)), (19, (.aload_n 0, 1)), (20, (.getfield 24, 3)), (23, (.getfield 191, 3)), (26, (.goto 19, 3)), (29, (.iload_n 1, 1)), (30, (.iconst 2, 1)), (31, (.if_icmp .ne 10, 3)), (34, (.aload_n 0, 1)), (35, (.getfield 39, 3)), (38, (.goto 7, 3)), (41, (.aload_n 0, 1)), (42, (.getfield 194, 3)), (45, (.ireturn, 1))]
theorem dy_p10_45 : dz_ok cX5_houseOf dz_p10_45 = true := by decide +kernel
theorem dX5_houseOf_0 : decode cX5_houseOf 0 = .ok (.iload_n 1, 1) := dz_at (i := 0) dy_p10_45 rfl
theorem dX5_houseOf_1 : decode cX5_houseOf 1 = .ok (.ifCond .ne 13, 3) := dz_at (i := 1) dy_p10_45 rfl
theorem dX5_houseOf_4 : decode cX5_houseOf 4 = .ok (.aload_n 0, 1) := dz_at (i := 2) dy_p10_45 rfl
theorem dX5_houseOf_5 : decode cX5_houseOf 5 = .ok (.getfield 16, 3) := dz_at (i := 3) dy_p10_45 rfl
theorem dX5_houseOf_8 : decode cX5_houseOf 8 = .ok (.getfield 191, 3) := dz_at (i := 4) dy_p10_45 rfl
theorem dX5_houseOf_11 : decode cX5_houseOf 11 = .ok (.goto 34, 3) := dz_at (i := 5) dy_p10_45 rfl
theorem dX5_houseOf_14 : decode cX5_houseOf 14 = .ok (.iload_n 1, 1) := dz_at (i := 6) dy_p10_45 rfl
theorem dX5_houseOf_15 : decode cX5_houseOf 15 = .ok (.iconst 1, 1) := dz_at (i := 7) dy_p10_45 rfl
theorem dX5_houseOf_16 : decode cX5_houseOf 16 = .ok (.if_icmp .ne 13, 3) := dz_at (i := 8) dy_p10_45 rfl
theorem dX5_houseOf_19 : decode cX5_houseOf 19 = .ok (.aload_n 0, 1) := dz_at (i := 9) dy_p10_45 rfl
theorem dX5_houseOf_20 : decode cX5_houseOf 20 = .ok (.getfield 24, 3) := dz_at (i := 10) dy_p10_45 rfl
theorem dX5_houseOf_23 : decode cX5_houseOf 23 = .ok (.getfield 191, 3) := dz_at (i := 11) dy_p10_45 rfl
theorem dX5_houseOf_26 : decode cX5_houseOf 26 = .ok (.goto 19, 3) := dz_at (i := 12) dy_p10_45 rfl
theorem dX5_houseOf_29 : decode cX5_houseOf 29 = .ok (.iload_n 1, 1) := dz_at (i := 13) dy_p10_45 rfl
theorem dX5_houseOf_30 : decode cX5_houseOf 30 = .ok (.iconst 2, 1) := dz_at (i := 14) dy_p10_45 rfl
theorem dX5_houseOf_31 : decode cX5_houseOf 31 = .ok (.if_icmp .ne 10, 3) := dz_at (i := 15) dy_p10_45 rfl
theorem dX5_houseOf_34 : decode cX5_houseOf 34 = .ok (.aload_n 0, 1) := dz_at (i := 16) dy_p10_45 rfl
theorem dX5_houseOf_35 : decode cX5_houseOf 35 = .ok (.getfield 39, 3) := dz_at (i := 17) dy_p10_45 rfl
theorem dX5_houseOf_38 : decode cX5_houseOf 38 = .ok (.goto 7, 3) := dz_at (i := 18) dy_p10_45 rfl
theorem dX5_houseOf_41 : decode cX5_houseOf 41 = .ok (.aload_n 0, 1) := dz_at (i := 19) dy_p10_45 rfl
theorem dX5_houseOf_42 : decode cX5_houseOf 42 = .ok (.getfield 194, 3) := dz_at (i := 20) dy_p10_45 rfl
theorem dX5_houseOf_45 : decode cX5_houseOf 45 = .ok (.ireturn, 1) := dz_at (i := 21) dy_p10_45 rfl
noncomputable def o_X5_houseOf (a1 : Int32) (a2 : Int32) (rf : Int32) (kn : Int32) (p0 : Int32) : Int32 :=
  if p0 = 0 then a1
  else if p0 = 1 then a2
  else if p0 = 2 then rf
  else kn
set_option maxHeartbeats 4000000 in
set_option maxRecDepth 100000 in
theorem k_X5_houseOf (l : Launch) (dC : Nat → ClassId) (dI : Nat → Nat → Nat) (cy : ClassId) (h0 : Nat) (h1 : Nat) (hc1 : Nat) (h2 : Nat) (hc2 : Nat) (a1 : Int32) (f1 : Nat → Int64) (a2 : Int32) (f2 : Nat → Int64) (th : Int32) (rf : Int32) (kn : Int32) (sz : Nat) (p0 : Int32) : Met l yX5_houseOf wsX5_houseOf ({ frames := 0, cells := 0, slots := 0, locals := 0 }) (va_Pc [.ref h0, .int p0] (xB (dC, dI) xCl [(h0, eM h1 h2 th rf kn), (h1, eMR true hc1 a1), (hc1, eA cy f1), (h2, eMR false hc2 a2), (hc2, eA cy f2)] [(cy, .long)] sz)) (va_Qi (fun (r : Int32) (_ : Unit) => r = (o_X5_houseOf a1 a2 rf kn p0)) (fun _ _ => True) (aN sz)) 0 0 (aN sz) := by
  refine Met.ofW (cc := cX5_houseOf) (maxL := 2) (ret := (some .int)) (by decide +kernel) rfl ?_
  intro p e s m args below meth c s₁ B hml hv
  obtain ⟨rfl, hsz, hP, hK⟩ := hv
  have hx := B.exec
  have hb := B.bytes
  have hr := B.returns
  have hts := atoms_spec (ws := wsX5_houseOf) B.pre
  have hown : s.vm.findClass RX5 = some m.cls := findClass_of_methodNamed B.named
  have hlocks := B.notSynchronized
  subst hsz
  have hA : ∀ q : Nat, s.heap.size ≤ q → aN s.heap.size q := fun _ h => h
  have hS : va_S (aN s.heap.size) s.heap s.heap [] := va_S.rf
  have hP : va_P (dC, dI) xCl [(h0, eM h1 h2 th rf kn), (h1, eMR true hc1 a1), (hc1, eA cy f1), (h2, eMR false hc2 a2), (hc2, eA cy f2)] s.heap := hP
  have hl := lv_entry ([.ref h0, .int p0]) (n := 2) (Nat.le_of_ble_eq_true rfl)
  rw [lg_entry_eq]
  generalize (lg_sl ([.ref h0, .int p0]) ++ List.replicate (2 - (lg_sl ([.ref h0, .int p0])).length) Slot.unset).toArray = ls at hl ⊢
  have hl : lv_has ls 2 [(0, .ref h0), (1, .int p0)] := hl
  refine lv_iload_n hx hb dX5_houseOf_0 rfl (lv_at hl 1 rfl) ?_
  refine lv_if_ne (tgt := 14) hx hb dX5_houseOf_1 (by decide +kernel) (fun c_1 => ?_) (fun c_1 => ?_)
  · skip
    refine lv_iload_n hx hb dX5_houseOf_14 rfl (lv_at hl 1 rfl) ?_
    refine lv_iconst (v := 1) hx hb dX5_houseOf_15 (by decide +kernel) ?_
    refine lv_icmp_ne (tgt := 29) hx hb dX5_houseOf_16 (by decide +kernel) (fun c_2 => ?_) (fun c_2 => ?_)
    · skip
      refine lv_iload_n hx hb dX5_houseOf_29 rfl (lv_at hl 1 rfl) ?_
      refine lv_iconst (v := 2) hx hb dX5_houseOf_30 (by decide +kernel) ?_
      refine lv_icmp_ne (tgt := 41) hx hb dX5_houseOf_31 (by decide +kernel) (fun c_3 => ?_) (fun c_3 => ?_)
      · skip
        refine lv_aload_n hx hb dX5_houseOf_41 rfl (lv_at hl 0 rfl) ?_
        refine va_get (D := (dC, dI)) (ci := 7) (v := .int kn) (C := RX5) (T := TX5) (N := 5) hx hb hts (by decide +kernel) hown hK hP 0 rfl rfl 4 (by decide +kernel) (hts (.fieldLink RX5 194 "EdgefloatsModel" "knocks" "I") (by decide +kernel)) (fun _ h9 => h9) rfl dX5_houseOf_42 ?_
        have he : o_X5_houseOf a1 a2 rf kn p0 = kn := by (rw [o_X5_houseOf, if_neg c_1, if_neg c_2, if_neg c_3]) <;> rfl
        refine W.widen (k := 0) (n := 0) (by omega) (by omega) ?_
        exact W.iret (v := kn) hx hb hr (fun t ht hW => ⟨⟨_, (), rfl, (by (rw [he]) <;> rfl), trivial⟩, hS.F ht⟩) hS.2.2 dX5_houseOf_45
      · skip
        refine lv_aload_n hx hb dX5_houseOf_34 rfl (lv_at hl 0 rfl) ?_
        refine va_get (D := (dC, dI)) (ci := 7) (v := .int rf) (C := RX5) (T := TX5) (N := 5) hx hb hts (by decide +kernel) hown hK hP 0 rfl rfl 3 (by decide +kernel) (hts (.fieldLink RX5 39 "EdgefloatsModel" "refused" "I") (by decide +kernel)) (fun _ h9 => h9) rfl dX5_houseOf_35 ?_
        refine lv_goto (tgt := 45) hx hb dX5_houseOf_38 (by decide +kernel) ?_
        have he : o_X5_houseOf a1 a2 rf kn p0 = rf := by (rw [o_X5_houseOf, if_neg c_1, if_neg c_2, if_pos c_3]) <;> rfl
        refine W.widen (k := 0) (n := 0) (by omega) (by omega) ?_
        exact W.iret (v := rf) hx hb hr (fun t ht hW => ⟨⟨_, (), rfl, (by (rw [he]) <;> rfl), trivial⟩, hS.F ht⟩) hS.2.2 dX5_houseOf_45
    · skip
      refine lv_aload_n hx hb dX5_houseOf_19 rfl (lv_at hl 0 rfl) ?_
      refine va_get (D := (dC, dI)) (ci := 7) (v := .ref h2) (C := RX5) (T := TX5) (N := 5) hx hb hts (by decide +kernel) hown hK hP 0 rfl rfl 1 (by decide +kernel) (hts (.fieldLink RX5 24 "EdgefloatsModel" "narrow" "LEdgefloatsModel$Row;") (by decide +kernel)) (fun _ h9 => h9) rfl dX5_houseOf_20 ?_
      refine va_get (D := (dC, dI)) (ci := 6) (v := .int a2) (C := RX4) (T := TX4) (N := 5) hx hb hts (by decide +kernel) hown hK hP 3 rfl rfl 4 (by decide +kernel) (hts (.fieldLink RX5 191 "EdgefloatsModel$Row" "acts" "I") (by decide +kernel)) (fun _ h9 => h9) rfl dX5_houseOf_23 ?_
      refine lv_goto (tgt := 45) hx hb dX5_houseOf_26 (by decide +kernel) ?_
      have he : o_X5_houseOf a1 a2 rf kn p0 = a2 := by (rw [o_X5_houseOf, if_neg c_1, if_pos c_2]) <;> rfl
      refine W.widen (k := 0) (n := 0) (by omega) (by omega) ?_
      exact W.iret (v := a2) hx hb hr (fun t ht hW => ⟨⟨_, (), rfl, (by (rw [he]) <;> rfl), trivial⟩, hS.F ht⟩) hS.2.2 dX5_houseOf_45
  · skip
    refine lv_aload_n hx hb dX5_houseOf_4 rfl (lv_at hl 0 rfl) ?_
    refine va_get (D := (dC, dI)) (ci := 7) (v := .ref h1) (C := RX5) (T := TX5) (N := 5) hx hb hts (by decide +kernel) hown hK hP 0 rfl rfl 0 (by decide +kernel) (hts (.fieldLink RX5 16 "EdgefloatsModel" "wide" "LEdgefloatsModel$Row;") (by decide +kernel)) (fun _ h9 => h9) rfl dX5_houseOf_5 ?_
    refine va_get (D := (dC, dI)) (ci := 6) (v := .int a1) (C := RX4) (T := TX4) (N := 5) hx hb hts (by decide +kernel) hown hK hP 1 rfl rfl 4 (by decide +kernel) (hts (.fieldLink RX5 191 "EdgefloatsModel$Row" "acts" "I") (by decide +kernel)) (fun _ h9 => h9) rfl dX5_houseOf_8 ?_
    refine lv_goto (tgt := 45) hx hb dX5_houseOf_11 (by decide +kernel) ?_
    have he : o_X5_houseOf a1 a2 rf kn p0 = a1 := by (rw [o_X5_houseOf, if_pos c_1]) <;> rfl
    refine W.widen (k := 0) (n := 0) (by omega) (by omega) ?_
    exact W.iret (v := a1) hx hb hr (fun t ht hW => ⟨⟨_, (), rfl, (by (rw [he]) <;> rfl), trivial⟩, hS.F ht⟩) hS.2.2 dX5_houseOf_45
set_option maxRecDepth 20000 in
theorem ggX5_house_X5_isIn : GoodIn wsX5_house wsX5_isIn := goodIn_r _ [4] (by decide +kernel) (by decide +kernel)
theorem cl_X5_house_1 : ∀ w ∈ [.methodLink RX5 31 yX5_isIn, .static yX5_isIn, .initialized RX5, .code yX5_isIn cX5_isIn 3 (some .boolean), .methodLink RX5 42 yX5_fails, .instanceMethod yX5_fails, .selects RX5 yX5_fails yX5_fails, .code yX5_fails cX5_fails 3 (some .boolean), .fieldLink RX5 27 "EdgefloatsModel" "thrown" "I", .methodLink RX5 197 yX5_houseOf, .instanceMethod yX5_houseOf, .selects RX5 yX5_houseOf yX5_houseOf, .code yX5_houseOf cX5_houseOf 2 (some .int), .fieldLink RX5 16 "EdgefloatsModel" "wide" "LEdgefloatsModel$Row;", .fieldLink RX5 191 "EdgefloatsModel$Row" "acts" "I", .fieldLink RX5 24 "EdgefloatsModel" "narrow" "LEdgefloatsModel$Row;", .fieldLink RX5 39 "EdgefloatsModel" "refused" "I", .fieldLink RX5 194 "EdgefloatsModel" "knocks" "I"], w ∈ wsX5_house := fun _ h => (List.mem_cons_of_mem _ (List.mem_append_left _ (List.mem_append_left _ h)))
theorem cl_X5_house_2 : ∀ w ∈ wsX50, w ∈ wsX5_house := fun _ h => (List.mem_cons_of_mem _ (List.mem_append_left _ (List.mem_append_right _ h)))
theorem cl_X5_house_3 : ∀ w ∈ wsX40, w ∈ wsX5_house := fun _ h => (List.mem_cons_of_mem _ (List.mem_append_right _ h))
set_option maxRecDepth 20000 in
theorem gX5_house_X5_isIn : GoodIn wsX5_house (va_wsS RX5 31 yX5_isIn wsX5_isIn) := goodIn_app (goodIn_sub (List.forall_mem_cons.mpr ⟨(cl_X5_house_1 _ (List.mem_of_getElem? (i := 0) rfl)), List.forall_mem_cons.mpr ⟨(cl_X5_house_1 _ (List.mem_of_getElem? (i := 1) rfl)), List.forall_mem_cons.mpr ⟨(cl_X5_house_1 _ (List.mem_of_getElem? (i := 2) rfl)), fun _ h => absurd h List.not_mem_nil⟩⟩⟩) (by decide +kernel)) ggX5_house_X5_isIn
set_option maxRecDepth 20000 in
theorem ggX5_house_X5_fails : GoodIn wsX5_house wsX5_fails := goodIn_sub (List.forall_mem_cons.mpr ⟨(cl_X5_house_1 _ (List.mem_of_getElem? (i := 7) rfl)), fun w h => (List.mem_append.mp h).elim ((List.forall_mem_cons.mpr ⟨(cl_X5_house_1 _ (List.mem_of_getElem? (i := 8) rfl)), fun _ h => absurd h List.not_mem_nil⟩) w) ((cl_X5_house_2) w)⟩) (by decide +kernel)
set_option maxRecDepth 20000 in
theorem gX5_house_X5_fails : GoodIn wsX5_house (wsV RX5 42 RX5 yX5_fails wsX5_fails) := goodIn_app (goodIn_sub (List.forall_mem_cons.mpr ⟨(cl_X5_house_1 _ (List.mem_of_getElem? (i := 4) rfl)), List.forall_mem_cons.mpr ⟨(cl_X5_house_1 _ (List.mem_of_getElem? (i := 5) rfl)), List.forall_mem_cons.mpr ⟨(cl_X5_house_1 _ (List.mem_of_getElem? (i := 6) rfl)), List.forall_mem_cons.mpr ⟨(cl_X5_house_1 _ (List.mem_of_getElem? (i := 2) rfl)), fun _ h => absurd h List.not_mem_nil⟩⟩⟩⟩) (by decide +kernel)) ggX5_house_X5_fails
set_option maxRecDepth 20000 in
theorem ggX5_house_X5_houseOf : GoodIn wsX5_house wsX5_houseOf := goodIn_sub (List.forall_mem_cons.mpr ⟨(cl_X5_house_1 _ (List.mem_of_getElem? (i := 12) rfl)), fun w h => (List.mem_append.mp h).elim ((fun w h => (List.mem_append.mp h).elim ((List.forall_mem_cons.mpr ⟨(cl_X5_house_1 _ (List.mem_of_getElem? (i := 13) rfl)), List.forall_mem_cons.mpr ⟨(cl_X5_house_1 _ (List.mem_of_getElem? (i := 14) rfl)), List.forall_mem_cons.mpr ⟨(cl_X5_house_1 _ (List.mem_of_getElem? (i := 15) rfl)), List.forall_mem_cons.mpr ⟨(cl_X5_house_1 _ (List.mem_of_getElem? (i := 16) rfl)), List.forall_mem_cons.mpr ⟨(cl_X5_house_1 _ (List.mem_of_getElem? (i := 17) rfl)), fun _ h => absurd h List.not_mem_nil⟩⟩⟩⟩⟩) w) ((cl_X5_house_2) w)) w) ((cl_X5_house_3) w)⟩) (by decide +kernel)
set_option maxRecDepth 20000 in
theorem gX5_house_X5_houseOf : GoodIn wsX5_house (wsV RX5 197 RX5 yX5_houseOf wsX5_houseOf) := goodIn_app (goodIn_sub (List.forall_mem_cons.mpr ⟨(cl_X5_house_1 _ (List.mem_of_getElem? (i := 9) rfl)), List.forall_mem_cons.mpr ⟨(cl_X5_house_1 _ (List.mem_of_getElem? (i := 10) rfl)), List.forall_mem_cons.mpr ⟨(cl_X5_house_1 _ (List.mem_of_getElem? (i := 11) rfl)), List.forall_mem_cons.mpr ⟨(cl_X5_house_1 _ (List.mem_of_getElem? (i := 2) rfl)), fun _ h => absurd h List.not_mem_nil⟩⟩⟩⟩) (by decide +kernel)) ggX5_house_X5_houseOf
noncomputable def dz_p10_46 : List (Nat × Instr × Nat) := [(0, (.aload_n 0, 1)), (1, (.iload_n 1, 1)), (2, (.iconst 0, 1)), (3, (.iconst 3, 1)), (4, (.invokestatic 31, 3)), (7, (.ifCond .ne 7, 3)), (10, (.iconst 1, 1)), (11, (.goto 4, 3)), (14, (.iconst 0, 1)), (15, (.iconst 0, 1)), (16, (.invokevirtual 42, 3)), (19, (.ifCond .eq 7, 3)), (22, (.iconst 0, 1)), (23, (.goto 8, 3)), (26, (.aload_n 0, 1)), (27, (.iload_n 1, 1)), (28, (.invokevirtual 197, 3)), (31, (.ireturn, 1))]
theorem dy_p10_46 : dz_ok cX5_house dz_p10_46 = true := by decide +kernel
theorem dX5_house_0 : decode cX5_house 0 = .ok (.aload_n 0, 1) := dz_at (i := 0) dy_p10_46 rfl
theorem dX5_house_1 : decode cX5_house 1 = .ok (.iload_n 1, 1) := dz_at (i := 1) dy_p10_46 rfl
theorem dX5_house_2 : decode cX5_house 2 = .ok (.iconst 0, 1) := dz_at (i := 2) dy_p10_46 rfl
theorem dX5_house_3 : decode cX5_house 3 = .ok (.iconst 3, 1) := dz_at (i := 3) dy_p10_46 rfl
theorem dX5_house_4 : decode cX5_house 4 = .ok (.invokestatic 31, 3) := dz_at (i := 4) dy_p10_46 rfl
theorem dX5_house_7 : decode cX5_house 7 = .ok (.ifCond .ne 7, 3) := dz_at (i := 5) dy_p10_46 rfl
theorem dX5_house_10 : decode cX5_house 10 = .ok (.iconst 1, 1) := dz_at (i := 6) dy_p10_46 rfl
theorem dX5_house_11 : decode cX5_house 11 = .ok (.goto 4, 3) := dz_at (i := 7) dy_p10_46 rfl
theorem dX5_house_14 : decode cX5_house 14 = .ok (.iconst 0, 1) := dz_at (i := 8) dy_p10_46 rfl
theorem dX5_house_15 : decode cX5_house 15 = .ok (.iconst 0, 1) := dz_at (i := 9) dy_p10_46 rfl
theorem dX5_house_16 : decode cX5_house 16 = .ok (.invokevirtual 42, 3) := dz_at (i := 10) dy_p10_46 rfl
theorem dX5_house_19 : decode cX5_house 19 = .ok (.ifCond .eq 7, 3) := dz_at (i := 11) dy_p10_46 rfl
theorem dX5_house_22 : decode cX5_house 22 = .ok (.iconst 0, 1) := dz_at (i := 12) dy_p10_46 rfl
theorem dX5_house_23 : decode cX5_house 23 = .ok (.goto 8, 3) := dz_at (i := 13) dy_p10_46 rfl
theorem dX5_house_26 : decode cX5_house 26 = .ok (.aload_n 0, 1) := dz_at (i := 14) dy_p10_46 rfl
theorem dX5_house_27 : decode cX5_house 27 = .ok (.iload_n 1, 1) := dz_at (i := 15) dy_p10_46 rfl
theorem dX5_house_28 : decode cX5_house 28 = .ok (.invokevirtual 197, 3) := dz_at (i := 16) dy_p10_46 rfl
theorem dX5_house_31 : decode cX5_house 31 = .ok (.ireturn, 1) := dz_at (i := 17) dy_p10_46 rfl
noncomputable def o_X5_house (a1 : Int32) (a2 : Int32) (rf : Int32) (kn : Int32) (p0 : Int32) : Int32 × Int32 :=
  if (o_X5_isIn p0 0 3) = true then ((o_X5_houseOf a1 a2 rf kn p0), (o_X5_fails false false).2)
  else (0, (o_X5_fails true false).2)
set_option maxHeartbeats 4000000 in
set_option maxRecDepth 100000 in
theorem k_X5_house (l : Launch) (dC : Nat → ClassId) (dI : Nat → Nat → Nat) (cy : ClassId) (h0 : Nat) (h1 : Nat) (hc1 : Nat) (h2 : Nat) (hc2 : Nat) (a1 : Int32) (f1 : Nat → Int64) (a2 : Int32) (f2 : Nat → Int64) (th : Int32) (rf : Int32) (kn : Int32) (sz : Nat) (N : Nat) (p0 : Int32) : Met l yX5_house wsX5_house ({ frames := 1, cells := 0, slots := 0, locals := 22 }) (va_Pc [.ref h0, .int p0] (xM (dC, dI) xCl [(h0, eM h1 h2 th rf kn), (h1, eMR true hc1 a1), (hc1, eA cy f1), (h2, eMR false hc2 a2), (hc2, eA cy f2)] [(cy, .long)] sz N)) (va_Qi (fun (r : Int32) (_ : Unit) => r = (o_X5_house a1 a2 rf kn p0).1) (fun _ t => xW (dC, dI) xCl [(h0, eM h1 h2 (o_X5_house a1 a2 rf kn p0).2 rf kn), (h1, eMR true hc1 a1), (hc1, eA cy f1), (h2, eMR false hc2 a2), (hc2, eA cy f2)] (va_A [(h0, eM h1 h2 th rf kn), (h1, eMR true hc1 a1), (hc1, eA cy f1), (h2, eMR false hc2 a2), (hc2, eA cy f2)] sz) t) (va_A [(h0, eM h1 h2 th rf kn), (h1, eMR true hc1 a1), (hc1, eA cy f1), (h2, eMR false hc2 a2), (hc2, eA cy f2)] sz)) 0 0 (va_A [(h0, eM h1 h2 th rf kn), (h1, eMR true hc1 a1), (hc1, eA cy f1), (h2, eMR false hc2 a2), (hc2, eA cy f2)] sz) := by
  refine Met.ofW (cc := cX5_house) (maxL := 2) (ret := (some .int)) (by decide +kernel) rfl ?_
  intro p e s m args below meth c s₁ B hml hv
  obtain ⟨rfl, hsz, hP, hK, hD0, hN, hG⟩ := hv
  have hx := B.exec
  have hb := B.bytes
  have hr := B.returns
  have hts := atoms_spec (ws := wsX5_house) B.pre
  have hown : s.vm.findClass RX5 = some m.cls := findClass_of_methodNamed B.named
  have hlocks := B.notSynchronized
  subst hsz
  have hAN : ∀ q, va_A [(h0, eM h1 h2 th rf kn), (h1, eMR true hc1 a1), (hc1, eA cy f1), (h2, eMR false hc2 a2), (hc2, eA cy f2)] s.heap.size q → N ≤ q := xA_N hD0 hN
  have hD := hD0.self (sz := s.heap.size)
  generalize hAe : va_A [(h0, eM h1 h2 th rf kn), (h1, eMR true hc1 a1), (hc1, eA cy f1), (h2, eMR false hc2 a2), (hc2, eA cy f2)] s.heap.size = A at hD hAN ⊢
  have hA : ∀ q : Nat, s.heap.size ≤ q → A q := fun q h => by rw [← hAe]; exact Or.inr h
  have hS : va_S A s.heap s.heap [] := va_S.rf
  have hP : va_P (dC, dI) xCl [(h0, eM h1 h2 th rf kn), (h1, eMR true hc1 a1), (hc1, eA cy f1), (h2, eMR false hc2 a2), (hc2, eA cy f2)] s.heap := hP
  have hl := lv_entry ([.ref h0, .int p0]) (n := 2) (Nat.le_of_ble_eq_true rfl)
  rw [lg_entry_eq]
  generalize (lg_sl ([.ref h0, .int p0]) ++ List.replicate (2 - (lg_sl ([.ref h0, .int p0])).length) Slot.unset).toArray = ls at hl ⊢
  have hl : lv_has ls 2 [(0, .ref h0), (1, .int p0)] := hl
  refine lv_aload_n hx hb dX5_house_0 rfl (lv_at hl 0 rfl) ?_
  refine lv_iload_n hx hb dX5_house_1 rfl (lv_at hl 1 rfl) ?_
  refine lv_iconst (v := 0) hx hb dX5_house_2 (by decide +kernel) ?_
  refine lv_iconst (v := 3) hx hb dX5_house_3 (by decide +kernel) ?_
  have hPc := hP.sub (ws' := []) [] rfl
  have hKc := hK.sub (tys' := []) [] rfl
  refine va_calli (va_runS (As := [.int p0, .int 0, .int 3]) (rest := [.ref h0]) ⟨hx, hb, hml, hown, hts⟩ (k_X5_isIn l dC dI s.heap.size p0 0 3) (va_cwS 3 hts gX5_house_X5_isIn rfl rfl rfl (by decide +kernel) ⟨Nat.le_of_ble_eq_true rfl, Nat.le_of_ble_eq_true rfl⟩) (xB.preS hKc hPc) rfl rfl hl.1 rfl (lv_room (Nat.le_of_ble_eq_true rfl)) dX5_house_4 ⟨Nat.le_of_ble_eq_true rfl, Nat.le_of_ble_eq_true rfl⟩) hS xA_old (fun q h => hA q (Nat.le_trans hS.1 h)) (fun r_1 u t H locs ht hvm hw hB hz hk hS => ?_)
  replace hw : r_1 = b2i (o_X5_isIn p0 0 3) := hw
  subst r_1
  have hP := xP_keep hP hk
  refine xz_ne (tgt := 14) hx hb dX5_house_7 (by decide +kernel) (fun c_2 => ?_) (fun c_2 => ?_)
  · skip
    refine lv_iconst (v := 0) hx hb dX5_house_14 (by decide +kernel) ?_
    refine lv_iconst (v := 0) hx hb dX5_house_15 (by decide +kernel) ?_
    have hPc := hP.sub (ws' := [(h0, eM h1 h2 th rf kn)]) [0] rfl
    have hDc := hD.sub (ws' := [(h0, eM h1 h2 th rf kn)]) [0] (by decide +kernel) rfl
    have hKc := hK.sub (tys' := []) [] rfl
    have hFc := va_free (wc := [(h0, eM h1 h2 th rf kn)]) hD hS hA [0] rfl
    refine va_calli (va_runV (As := [.int 0, .int 0]) (rest := []) ⟨hx, hb, hml, hown, hts⟩ (k_X5_fails l dC dI h0 h1 h2 th rf kn H.size N false false) (cwV 2 hts gX5_house_X5_fails rfl rfl rfl (by decide +kernel) ⟨Nat.le_of_ble_eq_true rfl, Nat.le_of_ble_eq_true rfl⟩) (xM.preV hKc hPc hDc hAN (Nat.le_trans hN hS.1) (hG.kept hS hAN) (ci := 7) (q0 := 0) rfl rfl) rfl rfl hl.1 rfl (lv_room (Nat.le_of_ble_eq_true rfl)) dX5_house_16 ⟨Nat.le_of_ble_eq_true rfl, Nat.le_of_ble_eq_true rfl⟩) hS (fun q _ h => hFc q h) hFc (fun r_3 u t H locs ht hvm hw hB hz hk hS => ?_)
    replace hw : r_3 = b2i ((o_X5_fails false false).1) := hw
    subst r_3
    obtain ⟨hP1, hD1⟩ := hB
    rw [ht] at hP1
    obtain ⟨hP, hD⟩ := va_join (wr := [(h1, eMR true hc1 a1), (hc1, eA cy f1), (h2, eMR false hc2 a2), (hc2, eA cy f2)]) (w1 := [(h0, eM h1 h2 (o_X5_fails false false).2 rf kn)]) hP hD [0] [1, 2, 3, 4] rfl rfl (by decide +kernel) (by decide +kernel) hk hFc hP1 hD1
    have hP := hP.sub (ws' := [(h0, eM h1 h2 (o_X5_fails false false).2 rf kn), (h1, eMR true hc1 a1), (hc1, eA cy f1), (h2, eMR false hc2 a2), (hc2, eA cy f2)]) [4, 0, 1, 2, 3] rfl
    have hD := hD.sub (ws' := [(h0, eM h1 h2 (o_X5_fails false false).2 rf kn), (h1, eMR true hc1 a1), (hc1, eA cy f1), (h2, eMR false hc2 a2), (hc2, eA cy f2)]) [4, 0, 1, 2, 3] (by decide +kernel) rfl
    refine xz_eq (tgt := 26) hx hb dX5_house_19 (by decide +kernel) (fun c9 => ?_) (fun c9 => absurd c9 (by decide +kernel))
    refine lv_aload_n hx hb dX5_house_26 rfl (lv_at hl 0 rfl) ?_
    refine lv_iload_n hx hb dX5_house_27 rfl (lv_at hl 1 rfl) ?_
    have hPc := hP.sub (ws' := [(h0, eM h1 h2 (o_X5_fails false false).2 rf kn), (h1, eMR true hc1 a1), (hc1, eA cy f1), (h2, eMR false hc2 a2), (hc2, eA cy f2)]) [0, 1, 2, 3, 4] rfl
    have hKc := hK.sub (tys' := [(cy, .long)]) [0] rfl
    refine va_calli (va_runV (As := [.int p0]) (rest := []) ⟨hx, hb, hml, hown, hts⟩ (k_X5_houseOf l dC dI cy h0 h1 hc1 h2 hc2 a1 f1 a2 f2 ((o_X5_fails false false).2) rf kn H.size p0) (cwV 1 hts gX5_house_X5_houseOf rfl rfl rfl (by decide +kernel) ⟨Nat.le_of_ble_eq_true rfl, Nat.le_of_ble_eq_true rfl⟩) (xB.preV hKc hPc (ci := 7) (q0 := 0) rfl rfl) rfl rfl hl.1 rfl (lv_room (Nat.le_of_ble_eq_true rfl)) dX5_house_28 ⟨Nat.le_of_ble_eq_true rfl, Nat.le_of_ble_eq_true rfl⟩) hS xA_old (fun q h => hA q (Nat.le_trans hS.1 h)) (fun r_4 u t H locs ht hvm hw hB hz hk hS => ?_)
    replace hw : r_4 = (o_X5_houseOf a1 a2 rf kn p0) := hw
    subst r_4
    have hP := xP_keep hP hk
    have he : o_X5_house a1 a2 rf kn p0 = ((o_X5_houseOf a1 a2 rf kn p0), (o_X5_fails false false).2) := by (rw [o_X5_house, if_pos c_2]) <;> rfl
    refine W.widen (k := 0) (n := 0) (by omega) (by omega) ?_
    exact W.iret (v := (o_X5_houseOf a1 a2 rf kn p0)) hx hb hr (fun t ht hW => ⟨⟨_, (), rfl, (by (rw [he]) <;> rfl), (by rw [he]; exact ⟨by rw [ht]; exact hP, hD⟩)⟩, hS.F ht⟩) hS.2.2 dX5_house_31
  · skip
    refine lv_iconst (v := 1) hx hb dX5_house_10 (by decide +kernel) ?_
    refine lv_goto (tgt := 15) hx hb dX5_house_11 (by decide +kernel) ?_
    refine lv_iconst (v := 0) hx hb dX5_house_15 (by decide +kernel) ?_
    have hPc := hP.sub (ws' := [(h0, eM h1 h2 th rf kn)]) [0] rfl
    have hDc := hD.sub (ws' := [(h0, eM h1 h2 th rf kn)]) [0] (by decide +kernel) rfl
    have hKc := hK.sub (tys' := []) [] rfl
    have hFc := va_free (wc := [(h0, eM h1 h2 th rf kn)]) hD hS hA [0] rfl
    refine va_calli (va_runV (As := [.int 1, .int 0]) (rest := []) ⟨hx, hb, hml, hown, hts⟩ (k_X5_fails l dC dI h0 h1 h2 th rf kn H.size N true false) (cwV 2 hts gX5_house_X5_fails rfl rfl rfl (by decide +kernel) ⟨Nat.le_of_ble_eq_true rfl, Nat.le_of_ble_eq_true rfl⟩) (xM.preV hKc hPc hDc hAN (Nat.le_trans hN hS.1) (hG.kept hS hAN) (ci := 7) (q0 := 0) rfl rfl) rfl rfl hl.1 rfl (lv_room (Nat.le_of_ble_eq_true rfl)) dX5_house_16 ⟨Nat.le_of_ble_eq_true rfl, Nat.le_of_ble_eq_true rfl⟩) hS (fun q _ h => hFc q h) hFc (fun r_5 u t H locs ht hvm hw hB hz hk hS => ?_)
    replace hw : r_5 = b2i ((o_X5_fails true false).1) := hw
    subst r_5
    obtain ⟨hP1, hD1⟩ := hB
    rw [ht] at hP1
    obtain ⟨hP, hD⟩ := va_join (wr := [(h1, eMR true hc1 a1), (hc1, eA cy f1), (h2, eMR false hc2 a2), (hc2, eA cy f2)]) (w1 := [(h0, eM h1 h2 (o_X5_fails true false).2 rf kn)]) hP hD [0] [1, 2, 3, 4] rfl rfl (by decide +kernel) (by decide +kernel) hk hFc hP1 hD1
    have hP := hP.sub (ws' := [(h0, eM h1 h2 (o_X5_fails true false).2 rf kn), (h1, eMR true hc1 a1), (hc1, eA cy f1), (h2, eMR false hc2 a2), (hc2, eA cy f2)]) [4, 0, 1, 2, 3] rfl
    have hD := hD.sub (ws' := [(h0, eM h1 h2 (o_X5_fails true false).2 rf kn), (h1, eMR true hc1 a1), (hc1, eA cy f1), (h2, eMR false hc2 a2), (hc2, eA cy f2)]) [4, 0, 1, 2, 3] (by decide +kernel) rfl
    refine xz_eq (tgt := 26) hx hb dX5_house_19 (by decide +kernel) (fun c9 => absurd (by decide +kernel) c9) (fun c9 => ?_)
    refine lv_iconst (v := 0) hx hb dX5_house_22 (by decide +kernel) ?_
    refine lv_goto (tgt := 31) hx hb dX5_house_23 (by decide +kernel) ?_
    have he : o_X5_house a1 a2 rf kn p0 = (0, (o_X5_fails true false).2) := by (rw [o_X5_house, if_neg c_2]) <;> rfl
    refine W.widen (k := 0) (n := 0) (by omega) (by omega) ?_
    exact W.iret (v := 0) hx hb hr (fun t ht hW => ⟨⟨_, (), rfl, (by (rw [he]) <;> rfl), (by rw [he]; exact ⟨by rw [ht]; exact hP, hD⟩)⟩, hS.F ht⟩) hS.2.2 dX5_house_31
theorem cl_X5_addPairs_1 : ∀ w ∈ wsX5_addPairs_r1, w ∈ wsX5_addPairs := fun _ h => (List.mem_cons_of_mem _ (List.mem_append_left _ (List.mem_append_left _ h)))
theorem cl_X5_addPairs_2 : ∀ w ∈ wsX5_addPairs_r2, w ∈ wsX5_addPairs := fun _ h => (List.mem_cons_of_mem _ (List.mem_append_left _ (List.mem_append_right _ h)))
theorem cl_X5_addPairs_3 : ∀ w ∈ wsX40, w ∈ wsX5_addPairs := fun _ h => (List.mem_cons_of_mem _ (List.mem_append_right _ h))
set_option maxRecDepth 20000 in
theorem ggX5_addPairs_X4_order : GoodIn wsX5_addPairs wsX4_order := goodIn_sub (List.forall_mem_cons.mpr ⟨(cl_X5_addPairs_1 _ (List.mem_of_getElem? (i := 5) rfl)), fun w h => (List.mem_append.mp h).elim ((List.forall_mem_cons.mpr ⟨(cl_X5_addPairs_1 _ (List.mem_of_getElem? (i := 6) rfl)), List.forall_mem_cons.mpr ⟨(cl_X5_addPairs_1 _ (List.mem_of_getElem? (i := 7) rfl)), List.forall_mem_cons.mpr ⟨(cl_X5_addPairs_1 _ (List.mem_of_getElem? (i := 8) rfl)), List.forall_mem_cons.mpr ⟨(cl_X5_addPairs_1 _ (List.mem_of_getElem? (i := 4) rfl)), List.forall_mem_cons.mpr ⟨(cl_X5_addPairs_1 _ (List.mem_of_getElem? (i := 9) rfl)), List.forall_mem_cons.mpr ⟨(cl_X5_addPairs_1 _ (List.mem_of_getElem? (i := 10) rfl)), List.forall_mem_cons.mpr ⟨(cl_X5_addPairs_1 _ (List.mem_of_getElem? (i := 11) rfl)), List.forall_mem_cons.mpr ⟨(cl_X5_addPairs_1 _ (List.mem_of_getElem? (i := 12) rfl)), List.forall_mem_cons.mpr ⟨(cl_X5_addPairs_1 _ (List.mem_of_getElem? (i := 13) rfl)), List.forall_mem_cons.mpr ⟨(cl_X5_addPairs_1 _ (List.mem_of_getElem? (i := 14) rfl)), List.forall_mem_cons.mpr ⟨(cl_X5_addPairs_1 _ (List.mem_of_getElem? (i := 15) rfl)), List.forall_mem_cons.mpr ⟨(cl_X5_addPairs_1 _ (List.mem_of_getElem? (i := 16) rfl)), List.forall_mem_cons.mpr ⟨(cl_X5_addPairs_1 _ (List.mem_of_getElem? (i := 17) rfl)), List.forall_mem_cons.mpr ⟨(cl_X5_addPairs_1 _ (List.mem_of_getElem? (i := 18) rfl)), List.forall_mem_cons.mpr ⟨(cl_X5_addPairs_1 _ (List.mem_of_getElem? (i := 19) rfl)), List.forall_mem_cons.mpr ⟨(cl_X5_addPairs_1 _ (List.mem_of_getElem? (i := 20) rfl)), List.forall_mem_cons.mpr ⟨(cl_X5_addPairs_1 _ (List.mem_of_getElem? (i := 21) rfl)), List.forall_mem_cons.mpr ⟨(cl_X5_addPairs_1 _ (List.mem_of_getElem? (i := 22) rfl)), List.forall_mem_cons.mpr ⟨(cl_X5_addPairs_1 _ (List.mem_of_getElem? (i := 23) rfl)), List.forall_mem_cons.mpr ⟨(cl_X5_addPairs_2 _ (List.mem_of_getElem? (i := 0) rfl)), fun _ h => absurd h List.not_mem_nil⟩⟩⟩⟩⟩⟩⟩⟩⟩⟩⟩⟩⟩⟩⟩⟩⟩⟩⟩⟩) w) ((cl_X5_addPairs_3) w)⟩) (by decide +kernel)
set_option maxRecDepth 20000 in
theorem gX5_addPairs_X4_order : GoodIn wsX5_addPairs (wsV RX5 82 RX4 yX4_order wsX4_order) := goodIn_app (goodIn_sub (List.forall_mem_cons.mpr ⟨(cl_X5_addPairs_1 _ (List.mem_of_getElem? (i := 1) rfl)), List.forall_mem_cons.mpr ⟨(cl_X5_addPairs_1 _ (List.mem_of_getElem? (i := 2) rfl)), List.forall_mem_cons.mpr ⟨(cl_X5_addPairs_1 _ (List.mem_of_getElem? (i := 3) rfl)), List.forall_mem_cons.mpr ⟨(cl_X5_addPairs_1 _ (List.mem_of_getElem? (i := 4) rfl)), fun _ h => absurd h List.not_mem_nil⟩⟩⟩⟩) (by decide +kernel)) ggX5_addPairs_X4_order
set_option maxRecDepth 20000 in
theorem ggX5_addPairs_X5_add : GoodIn wsX5_addPairs wsX5_add := goodIn_sub (List.forall_mem_cons.mpr ⟨(cl_X5_addPairs_2 _ (List.mem_of_getElem? (i := 4) rfl)), List.forall_mem_cons.mpr ⟨(cl_X5_addPairs_2 _ (List.mem_of_getElem? (i := 5) rfl)), fun _ h => absurd h List.not_mem_nil⟩⟩) (by decide +kernel)
set_option maxRecDepth 20000 in
theorem gX5_addPairs_X5_add : GoodIn wsX5_addPairs (va_wsS RX5 202 yX5_add wsX5_add) := goodIn_app (goodIn_sub (List.forall_mem_cons.mpr ⟨(cl_X5_addPairs_2 _ (List.mem_of_getElem? (i := 1) rfl)), List.forall_mem_cons.mpr ⟨(cl_X5_addPairs_2 _ (List.mem_of_getElem? (i := 2) rfl)), List.forall_mem_cons.mpr ⟨(cl_X5_addPairs_2 _ (List.mem_of_getElem? (i := 3) rfl)), fun _ h => absurd h List.not_mem_nil⟩⟩⟩) (by decide +kernel)) ggX5_addPairs_X5_add
set_option maxRecDepth 20000 in
theorem ggX5_addPairs_X5_areLike : GoodIn wsX5_addPairs wsX5_areLike := goodIn_sub (List.forall_mem_cons.mpr ⟨(cl_X5_addPairs_2 _ (List.mem_of_getElem? (i := 8) rfl)), fun w h => (List.mem_append.mp h).elim ((List.forall_mem_cons.mpr ⟨(cl_X5_addPairs_2 _ (List.mem_of_getElem? (i := 9) rfl)), List.forall_mem_cons.mpr ⟨(cl_X5_addPairs_2 _ (List.mem_of_getElem? (i := 10) rfl)), List.forall_mem_cons.mpr ⟨(cl_X5_addPairs_2 _ (List.mem_of_getElem? (i := 11) rfl)), List.forall_mem_cons.mpr ⟨(cl_X5_addPairs_1 _ (List.mem_of_getElem? (i := 4) rfl)), List.forall_mem_cons.mpr ⟨(cl_X5_addPairs_2 _ (List.mem_of_getElem? (i := 12) rfl)), List.forall_mem_cons.mpr ⟨(cl_X5_addPairs_1 _ (List.mem_of_getElem? (i := 11) rfl)), List.forall_mem_cons.mpr ⟨(cl_X5_addPairs_1 _ (List.mem_of_getElem? (i := 12) rfl)), List.forall_mem_cons.mpr ⟨(cl_X5_addPairs_1 _ (List.mem_of_getElem? (i := 13) rfl)), List.forall_mem_cons.mpr ⟨(cl_X5_addPairs_1 _ (List.mem_of_getElem? (i := 14) rfl)), List.forall_mem_cons.mpr ⟨(cl_X5_addPairs_1 _ (List.mem_of_getElem? (i := 15) rfl)), List.forall_mem_cons.mpr ⟨(cl_X5_addPairs_1 _ (List.mem_of_getElem? (i := 16) rfl)), List.forall_mem_cons.mpr ⟨(cl_X5_addPairs_1 _ (List.mem_of_getElem? (i := 17) rfl)), List.forall_mem_cons.mpr ⟨(cl_X5_addPairs_1 _ (List.mem_of_getElem? (i := 18) rfl)), List.forall_mem_cons.mpr ⟨(cl_X5_addPairs_1 _ (List.mem_of_getElem? (i := 19) rfl)), List.forall_mem_cons.mpr ⟨(cl_X5_addPairs_1 _ (List.mem_of_getElem? (i := 20) rfl)), List.forall_mem_cons.mpr ⟨(cl_X5_addPairs_1 _ (List.mem_of_getElem? (i := 21) rfl)), List.forall_mem_cons.mpr ⟨(cl_X5_addPairs_1 _ (List.mem_of_getElem? (i := 22) rfl)), List.forall_mem_cons.mpr ⟨(cl_X5_addPairs_1 _ (List.mem_of_getElem? (i := 23) rfl)), List.forall_mem_cons.mpr ⟨(cl_X5_addPairs_2 _ (List.mem_of_getElem? (i := 0) rfl)), List.forall_mem_cons.mpr ⟨(cl_X5_addPairs_1 _ (List.mem_of_getElem? (i := 10) rfl)), fun _ h => absurd h List.not_mem_nil⟩⟩⟩⟩⟩⟩⟩⟩⟩⟩⟩⟩⟩⟩⟩⟩⟩⟩⟩⟩) w) ((cl_X5_addPairs_3) w)⟩) (by decide +kernel)
set_option maxRecDepth 20000 in
theorem gX5_addPairs_X5_areLike : GoodIn wsX5_addPairs (va_wsS RX5 110 yX5_areLike wsX5_areLike) := goodIn_app (goodIn_sub (List.forall_mem_cons.mpr ⟨(cl_X5_addPairs_2 _ (List.mem_of_getElem? (i := 6) rfl)), List.forall_mem_cons.mpr ⟨(cl_X5_addPairs_2 _ (List.mem_of_getElem? (i := 7) rfl)), List.forall_mem_cons.mpr ⟨(cl_X5_addPairs_2 _ (List.mem_of_getElem? (i := 3) rfl)), fun _ h => absurd h List.not_mem_nil⟩⟩⟩) (by decide +kernel)) ggX5_addPairs_X5_areLike
set_option maxRecDepth 20000 in
theorem ggX5_addPairs_X5_one : GoodIn wsX5_addPairs wsX5_one := goodIn_r _ [40] (by decide +kernel) (by decide +kernel)
set_option maxRecDepth 20000 in
theorem gX5_addPairs_X5_one : GoodIn wsX5_addPairs (va_wsS RX5 205 yX5_one wsX5_one) := goodIn_app (goodIn_sub (List.forall_mem_cons.mpr ⟨(cl_X5_addPairs_2 _ (List.mem_of_getElem? (i := 13) rfl)), List.forall_mem_cons.mpr ⟨(cl_X5_addPairs_2 _ (List.mem_of_getElem? (i := 14) rfl)), List.forall_mem_cons.mpr ⟨(cl_X5_addPairs_2 _ (List.mem_of_getElem? (i := 3) rfl)), fun _ h => absurd h List.not_mem_nil⟩⟩⟩) (by decide +kernel)) ggX5_addPairs_X5_one
noncomputable def dz_p10_47 : List (Nat × Instr × Nat) := [(0, (.lload_n 0, 1)), (1, (.lstore_n 3, 1)), (2, (.iconst 0, 1)), (3, (.istore 5, 2)), (5, (.iload 5, 2)), (7, (.bipush 8, 2)), (9, (.if_icmp .ge 77, 3)), (12, (.iload 5, 2)), (14, (.iconst 1, 1)), (15, (.iadd, 1)), (16, (.istore 6, 2)), (18, (.iload 6, 2)), (20, (.bipush 8, 2)), (22, (.if_icmp .ge 58, 3)), (25, (.lload_n 3, 1)), (26, (.aload_n 2, 1)), (27, (.aload_n 2, 1)), (28, (.getfield 74, 3)), (31, (.iload 5, 2)), (33, (.laload, 1)), (34, (.aload_n 2, 1)), (35, (.getfield 74, 3)), (38, (.iload 6, 2)), (40, (.laload, 1)), (41, (.invokevirtual 82, 3)), (44, (.i2l, 1)), (45, (.invokestatic 202, 3)), (48, (.aload_n 2, 1)), (49, (.aload_n 2, 1)), (50, (.getfield 74, 3)), (53, (.iload 5, 2)), (55, (.laload, 1)), (56, (.aload_n 2, 1)), (57, (.getfield 74, 3)), (60, (.iload 6, 2)), (62, (.laload, 1)), (63, (.invokestatic 110, 3)), (66, (.invokestatic 205, 3)), (69, (.i2l, 1)), (70, (.invokestatic 202, 3))]
theorem dy_p10_47 : dz_ok cX5_addPairs dz_p10_47 = true := by decide +kernel
theorem dX5_addPairs_0 : decode cX5_addPairs 0 = .ok (.lload_n 0, 1) := dz_at (i := 0) dy_p10_47 rfl
theorem dX5_addPairs_1 : decode cX5_addPairs 1 = .ok (.lstore_n 3, 1) := dz_at (i := 1) dy_p10_47 rfl
theorem dX5_addPairs_2 : decode cX5_addPairs 2 = .ok (.iconst 0, 1) := dz_at (i := 2) dy_p10_47 rfl
theorem dX5_addPairs_3 : decode cX5_addPairs 3 = .ok (.istore 5, 2) := dz_at (i := 3) dy_p10_47 rfl
theorem dX5_addPairs_5 : decode cX5_addPairs 5 = .ok (.iload 5, 2) := dz_at (i := 4) dy_p10_47 rfl
theorem dX5_addPairs_7 : decode cX5_addPairs 7 = .ok (.bipush 8, 2) := dz_at (i := 5) dy_p10_47 rfl
theorem dX5_addPairs_9 : decode cX5_addPairs 9 = .ok (.if_icmp .ge 77, 3) := dz_at (i := 6) dy_p10_47 rfl
theorem dX5_addPairs_12 : decode cX5_addPairs 12 = .ok (.iload 5, 2) := dz_at (i := 7) dy_p10_47 rfl
theorem dX5_addPairs_14 : decode cX5_addPairs 14 = .ok (.iconst 1, 1) := dz_at (i := 8) dy_p10_47 rfl
theorem dX5_addPairs_15 : decode cX5_addPairs 15 = .ok (.iadd, 1) := dz_at (i := 9) dy_p10_47 rfl
theorem dX5_addPairs_16 : decode cX5_addPairs 16 = .ok (.istore 6, 2) := dz_at (i := 10) dy_p10_47 rfl
theorem dX5_addPairs_18 : decode cX5_addPairs 18 = .ok (.iload 6, 2) := dz_at (i := 11) dy_p10_47 rfl
theorem dX5_addPairs_20 : decode cX5_addPairs 20 = .ok (.bipush 8, 2) := dz_at (i := 12) dy_p10_47 rfl
theorem dX5_addPairs_22 : decode cX5_addPairs 22 = .ok (.if_icmp .ge 58, 3) := dz_at (i := 13) dy_p10_47 rfl
theorem dX5_addPairs_25 : decode cX5_addPairs 25 = .ok (.lload_n 3, 1) := dz_at (i := 14) dy_p10_47 rfl
theorem dX5_addPairs_26 : decode cX5_addPairs 26 = .ok (.aload_n 2, 1) := dz_at (i := 15) dy_p10_47 rfl
theorem dX5_addPairs_27 : decode cX5_addPairs 27 = .ok (.aload_n 2, 1) := dz_at (i := 16) dy_p10_47 rfl
theorem dX5_addPairs_28 : decode cX5_addPairs 28 = .ok (.getfield 74, 3) := dz_at (i := 17) dy_p10_47 rfl
theorem dX5_addPairs_31 : decode cX5_addPairs 31 = .ok (.iload 5, 2) := dz_at (i := 18) dy_p10_47 rfl
theorem dX5_addPairs_33 : decode cX5_addPairs 33 = .ok (.laload, 1) := dz_at (i := 19) dy_p10_47 rfl
theorem dX5_addPairs_34 : decode cX5_addPairs 34 = .ok (.aload_n 2, 1) := dz_at (i := 20) dy_p10_47 rfl
theorem dX5_addPairs_35 : decode cX5_addPairs 35 = .ok (.getfield 74, 3) := dz_at (i := 21) dy_p10_47 rfl
theorem dX5_addPairs_38 : decode cX5_addPairs 38 = .ok (.iload 6, 2) := dz_at (i := 22) dy_p10_47 rfl
theorem dX5_addPairs_40 : decode cX5_addPairs 40 = .ok (.laload, 1) := dz_at (i := 23) dy_p10_47 rfl
theorem dX5_addPairs_41 : decode cX5_addPairs 41 = .ok (.invokevirtual 82, 3) := dz_at (i := 24) dy_p10_47 rfl
theorem dX5_addPairs_44 : decode cX5_addPairs 44 = .ok (.i2l, 1) := dz_at (i := 25) dy_p10_47 rfl
theorem dX5_addPairs_45 : decode cX5_addPairs 45 = .ok (.invokestatic 202, 3) := dz_at (i := 26) dy_p10_47 rfl
theorem dX5_addPairs_48 : decode cX5_addPairs 48 = .ok (.aload_n 2, 1) := dz_at (i := 27) dy_p10_47 rfl
theorem dX5_addPairs_49 : decode cX5_addPairs 49 = .ok (.aload_n 2, 1) := dz_at (i := 28) dy_p10_47 rfl
theorem dX5_addPairs_50 : decode cX5_addPairs 50 = .ok (.getfield 74, 3) := dz_at (i := 29) dy_p10_47 rfl
theorem dX5_addPairs_53 : decode cX5_addPairs 53 = .ok (.iload 5, 2) := dz_at (i := 30) dy_p10_47 rfl
theorem dX5_addPairs_55 : decode cX5_addPairs 55 = .ok (.laload, 1) := dz_at (i := 31) dy_p10_47 rfl
theorem dX5_addPairs_56 : decode cX5_addPairs 56 = .ok (.aload_n 2, 1) := dz_at (i := 32) dy_p10_47 rfl
theorem dX5_addPairs_57 : decode cX5_addPairs 57 = .ok (.getfield 74, 3) := dz_at (i := 33) dy_p10_47 rfl
theorem dX5_addPairs_60 : decode cX5_addPairs 60 = .ok (.iload 6, 2) := dz_at (i := 34) dy_p10_47 rfl
theorem dX5_addPairs_62 : decode cX5_addPairs 62 = .ok (.laload, 1) := dz_at (i := 35) dy_p10_47 rfl
theorem dX5_addPairs_63 : decode cX5_addPairs 63 = .ok (.invokestatic 110, 3) := dz_at (i := 36) dy_p10_47 rfl
theorem dX5_addPairs_66 : decode cX5_addPairs 66 = .ok (.invokestatic 205, 3) := dz_at (i := 37) dy_p10_47 rfl
theorem dX5_addPairs_69 : decode cX5_addPairs 69 = .ok (.i2l, 1) := dz_at (i := 38) dy_p10_47 rfl
theorem dX5_addPairs_70 : decode cX5_addPairs 70 = .ok (.invokestatic 202, 3) := dz_at (i := 39) dy_p10_47 rfl
noncomputable def dz_p10_48 : List (Nat × Instr × Nat) := [(73, (.lstore_n 3, 1)), (74, (.iinc 6 1, 3)), (77, (.goto (-59), 3)), (80, (.iinc 5 1, 3)), (83, (.goto (-78), 3)), (86, (.lload_n 3, 1)), (87, (.lreturn, 1))]
theorem dy_p10_48 : dz_ok cX5_addPairs dz_p10_48 = true := by decide +kernel
theorem dX5_addPairs_73 : decode cX5_addPairs 73 = .ok (.lstore_n 3, 1) := dz_at (i := 0) dy_p10_48 rfl
theorem dX5_addPairs_74 : decode cX5_addPairs 74 = .ok (.iinc 6 1, 3) := dz_at (i := 1) dy_p10_48 rfl
theorem dX5_addPairs_77 : decode cX5_addPairs 77 = .ok (.goto (-59), 3) := dz_at (i := 2) dy_p10_48 rfl
theorem dX5_addPairs_80 : decode cX5_addPairs 80 = .ok (.iinc 5 1, 3) := dz_at (i := 3) dy_p10_48 rfl
theorem dX5_addPairs_83 : decode cX5_addPairs 83 = .ok (.goto (-78), 3) := dz_at (i := 4) dy_p10_48 rfl
theorem dX5_addPairs_86 : decode cX5_addPairs 86 = .ok (.lload_n 3, 1) := dz_at (i := 5) dy_p10_48 rfl
theorem dX5_addPairs_87 : decode cX5_addPairs 87 = .ok (.lreturn, 1) := dz_at (i := 6) dy_p10_48 rfl
noncomputable def L_mpb (w : Bool) (f : Nat → Int64) (impa : Nat) : Nat → Nat → Int64 → Int64
  | 0, _, v9 => v9
  | nmpb + 1, impb, v9 => L_mpb w f impa nmpb (impb + 1) (o_X5_add (o_X5_add v9 ((o_X4_order w (f impa) (f impb)).toInt64)) ((o_X5_one (o_X5_areLike w (f impa) (f impb))).toInt64))
noncomputable def L_mpa (w : Bool) (f : Nat → Int64) : Nat → Nat → Int64 → Int64
  | 0, _, v => v
  | nmpa + 1, impa, v => L_mpa w f nmpa (impa + 1) (L_mpb w f impa (8 - (impa + 1)) (impa + 1) v)
noncomputable def o_X5_addPairs (w : Bool) (f : Nat → Int64) (p0 : Int64) : Int64 :=
  (L_mpa w f 8 0 p0)
set_option maxHeartbeats 4000000 in
set_option maxRecDepth 100000 in
theorem k_X5_addPairs (l : Launch) (dC : Nat → ClassId) (dI : Nat → Nat → Nat) (cy : ClassId) (ro : Nat) (hc : Nat) (w : Bool) (a : Int32) (f : Nat → Int64) (sz : Nat) (p0 : Int64) : Met l yX5_addPairs wsX5_addPairs ({ frames := 4, cells := 0, slots := 0, locals := 88 }) (va_Pc [.long p0, .ref ro] (xB (dC, dI) xCl [(ro, eMR w hc a), (hc, eA cy f)] [(cy, .long)] sz)) (va_Ql (fun (r : Int64) (_ : Unit) => r = (o_X5_addPairs w f p0)) (fun _ _ => True) (aN sz)) 0 0 (aN sz) := by
  refine Met.ofW (cc := cX5_addPairs) (maxL := 7) (ret := (some .long)) (by decide +kernel) rfl ?_
  intro p e s m args below meth c s₁ B hml hv
  obtain ⟨rfl, hsz, hP, hK⟩ := hv
  have hx := B.exec
  have hb := B.bytes
  have hr := B.returns
  have hts := atoms_spec (ws := wsX5_addPairs) B.pre
  have hown : s.vm.findClass RX5 = some m.cls := findClass_of_methodNamed B.named
  have hlocks := B.notSynchronized
  subst hsz
  have hA : ∀ q : Nat, s.heap.size ≤ q → aN s.heap.size q := fun _ h => h
  have hS : va_S (aN s.heap.size) s.heap s.heap [] := va_S.rf
  have hP : va_P (dC, dI) xCl [(ro, eMR w hc a), (hc, eA cy f)] s.heap := hP
  have hl := lv_entry ([.long p0, .ref ro]) (n := 7) (Nat.le_of_ble_eq_true rfl)
  rw [lg_entry_eq]
  generalize (lg_sl ([.long p0, .ref ro]) ++ List.replicate (7 - (lg_sl ([.long p0, .ref ro])).length) Slot.unset).toArray = ls at hl ⊢
  have hl : lv_has ls 7 [(0, .long p0), (2, .ref ro)] := hl
  refine lv_lload_n hx hb dX5_addPairs_0 rfl (lv_at hl 0 rfl) ?_
  refine lv_lstore_n (lv' := [(3, .long p0), (0, .long p0), (2, .ref ro)]) hx hb dX5_addPairs_1 rfl hl (by decide +kernel) rfl (fun ls hl => ?_)
  refine lv_iconst (v := 0) hx hb dX5_addPairs_2 (by decide +kernel) ?_
  refine lv_istore (lv' := [(5, .int 0), (3, .long p0), (0, .long p0), (2, .ref ro)]) hx hb dX5_addPairs_3 hl (by decide +kernel) rfl (fun ls hl => ?_)
  have loop_mpa : ∀ (nmpa impa : Nat) (v : Int64) (H : Heap) (locs : List Loc) (ls : Array Slot), impa + nmpa = 8 → 0 ≤ impa → (L_mpa w f 8 0 p0) = L_mpa w f nmpa impa v → va_P (dC, dI) xCl [(ro, eMR w hc a), (hc, eA cy f)] H → va_S (aN s.heap.size) s.heap H locs → lv_has ls 7 [(5, .int (nI impa)), (3, .long v), (0, .long p0), (2, .ref ro)] → (∀ (H : Heap) (locs : List Loc) (ls : Array Slot), va_P (dC, dI) xCl [(ro, eMR w hc a), (hc, eA cy f)] H → va_S (aN s.heap.size) s.heap H locs → lv_has ls 7 [(3, .long (L_mpa w f 8 0 p0)), (0, .long p0), (2, .ref ro)] → W p l e (headSpec wsX5_addPairs ({ frames := 4, cells := 0, slots := 0, locals := 88 } : Room)).room s m ([.long p0, .ref ro]).toArray below meth c H locs 0 0 (MQ below (va_Ql (fun (r : Int64) (_ : Unit) => r = (o_X5_addPairs w f p0)) (fun _ _ => True) (aN s.heap.size)) ([.long p0, .ref ro]).toArray s 0 0 (aN s.heap.size)) (F0 m 86 ls [])) → W p l e (headSpec wsX5_addPairs ({ frames := 4, cells := 0, slots := 0, locals := 88 } : Room)).room s m ([.long p0, .ref ro]).toArray below meth c H locs 0 0 (MQ below (va_Ql (fun (r : Int64) (_ : Unit) => r = (o_X5_addPairs w f p0)) (fun _ _ => True) (aN s.heap.size)) ([.long p0, .ref ro]).toArray s 0 0 (aN s.heap.size)) (F0 m 5 ls []) := by
    intro nmpa
    induction nmpa with
    | zero =>
      intro impa v H locs ls hin_mpa his_mpa hsp_mpa hP hS hl K_mpa
      have hv : (L_mpa w f 8 0 p0) = v := hsp_mpa
      subst hv
      have hi8 : impa = 8 := by omega
      refine lv_iload hx hb dX5_addPairs_5 (lv_at hl 0 rfl) ?_
      refine lv_bipush (v := 8) hx hb dX5_addPairs_7 (by decide +kernel) ?_
      refine lv_icmp_ge (tgt := 86) hx hb dX5_addPairs_9 (by decide +kernel) (fun c9 => ?_) (fun c9 => absurd (by rw [hi8]; decide) c9)
      exact K_mpa _ _ _ hP hS (lv_sub hl [1, 2, 3] rfl)
    | succ nmpa ih_mpa =>
      intro impa v H locs ls hin_mpa his_mpa hsp_mpa hP hS hl K_mpa
      refine lv_iload hx hb dX5_addPairs_5 (lv_at hl 0 rfl) ?_
      refine lv_bipush (v := 8) hx hb dX5_addPairs_7 (by decide +kernel) ?_
      refine lv_icmp_ge (tgt := 86) hx hb dX5_addPairs_9 (by decide +kernel) (fun c9 => absurd c9 (show ¬ (8 : Int32) ≤ nI impa from nI_ge (a := impa) (b := 8) (by omega) (by decide +kernel))) (fun c9 => ?_)
      refine lv_iload hx hb dX5_addPairs_12 (lv_at hl 0 rfl) ?_
      refine lv_iconst (v := 1) hx hb dX5_addPairs_14 (by decide +kernel) ?_
      refine lv_iadd hx hb dX5_addPairs_15 ?_
      rw [nI_1 impa]
      refine lv_istore (lv' := [(6, .int (nI (impa + 1))), (5, .int (nI impa)), (3, .long v), (0, .long p0), (2, .ref ro)]) hx hb dX5_addPairs_16 hl (by decide +kernel) rfl (fun ls hl => ?_)
      have loop_mpb : ∀ (nmpb impb : Nat) (v9 : Int64) (H : Heap) (locs : List Loc) (ls : Array Slot), impb + nmpb = 8 → impa + 1 ≤ impb → (L_mpb w f impa (8 - (impa + 1)) (impa + 1) v) = L_mpb w f impa nmpb impb v9 → va_P (dC, dI) xCl [(ro, eMR w hc a), (hc, eA cy f)] H → va_S (aN s.heap.size) s.heap H locs → lv_has ls 7 [(6, .int (nI impb)), (5, .int (nI impa)), (3, .long v9), (0, .long p0), (2, .ref ro)] → (∀ (H : Heap) (locs : List Loc) (ls : Array Slot), va_P (dC, dI) xCl [(ro, eMR w hc a), (hc, eA cy f)] H → va_S (aN s.heap.size) s.heap H locs → lv_has ls 7 [(5, .int (nI impa)), (3, .long (L_mpb w f impa (8 - (impa + 1)) (impa + 1) v)), (0, .long p0), (2, .ref ro)] → W p l e (headSpec wsX5_addPairs ({ frames := 4, cells := 0, slots := 0, locals := 88 } : Room)).room s m ([.long p0, .ref ro]).toArray below meth c H locs 0 0 (MQ below (va_Ql (fun (r : Int64) (_ : Unit) => r = (o_X5_addPairs w f p0)) (fun _ _ => True) (aN s.heap.size)) ([.long p0, .ref ro]).toArray s 0 0 (aN s.heap.size)) (F0 m 80 ls [])) → W p l e (headSpec wsX5_addPairs ({ frames := 4, cells := 0, slots := 0, locals := 88 } : Room)).room s m ([.long p0, .ref ro]).toArray below meth c H locs 0 0 (MQ below (va_Ql (fun (r : Int64) (_ : Unit) => r = (o_X5_addPairs w f p0)) (fun _ _ => True) (aN s.heap.size)) ([.long p0, .ref ro]).toArray s 0 0 (aN s.heap.size)) (F0 m 18 ls []) := by
        intro nmpb
        induction nmpb with
        | zero =>
          intro impb v9 H locs ls hin_mpb his_mpb hsp_mpb hP hS hl K_mpb
          have hv : (L_mpb w f impa (8 - (impa + 1)) (impa + 1) v) = v9 := hsp_mpb
          subst hv
          have hi8 : impb = 8 := by omega
          refine lv_iload hx hb dX5_addPairs_18 (lv_at hl 0 rfl) ?_
          refine lv_bipush (v := 8) hx hb dX5_addPairs_20 (by decide +kernel) ?_
          refine lv_icmp_ge (tgt := 80) hx hb dX5_addPairs_22 (by decide +kernel) (fun c9 => ?_) (fun c9 => absurd (by rw [hi8]; decide) c9)
          exact K_mpb _ _ _ hP hS (lv_sub hl [1, 2, 3, 4] rfl)
        | succ nmpb ih_mpb =>
          intro impb v9 H locs ls hin_mpb his_mpb hsp_mpb hP hS hl K_mpb
          refine lv_iload hx hb dX5_addPairs_18 (lv_at hl 0 rfl) ?_
          refine lv_bipush (v := 8) hx hb dX5_addPairs_20 (by decide +kernel) ?_
          refine lv_icmp_ge (tgt := 80) hx hb dX5_addPairs_22 (by decide +kernel) (fun c9 => absurd c9 (show ¬ (8 : Int32) ≤ nI impb from nI_ge (a := impb) (b := 8) (by omega) (by decide +kernel))) (fun c9 => ?_)
          refine lv_lload_n hx hb dX5_addPairs_25 rfl (lv_at hl 2 rfl) ?_
          refine lv_aload_n hx hb dX5_addPairs_26 rfl (lv_at hl 4 rfl) ?_
          refine lv_aload_n hx hb dX5_addPairs_27 rfl (lv_at hl 4 rfl) ?_
          refine va_get (D := (dC, dI)) (ci := 6) (v := .ref hc) (C := RX4) (T := TX4) (N := 5) hx hb hts (by decide +kernel) hown hK hP 0 rfl rfl 3 (by decide +kernel) (hts (.fieldLink RX5 74 "EdgefloatsModel$Row" "cells" "[J") (by decide +kernel)) (fun _ h9 => h9) rfl dX5_addPairs_28 ?_
          refine lv_iload hx hb dX5_addPairs_31 (lv_at hl 1 rfl) ?_
          refine xa_lald hx hb hK hP 1 0 (f := f) rfl rfl (k := impa) (vp_in_nI (n := impa) (N := 8) (by omega) (by decide +kernel)) (nI_clamp (n := impa) (by omega)) dX5_addPairs_33 ?_
          refine lv_aload_n hx hb dX5_addPairs_34 rfl (lv_at hl 4 rfl) ?_
          refine va_get (D := (dC, dI)) (ci := 6) (v := .ref hc) (C := RX4) (T := TX4) (N := 5) hx hb hts (by decide +kernel) hown hK hP 0 rfl rfl 3 (by decide +kernel) (hts (.fieldLink RX5 74 "EdgefloatsModel$Row" "cells" "[J") (by decide +kernel)) (fun _ h9 => h9) rfl dX5_addPairs_35 ?_
          refine lv_iload hx hb dX5_addPairs_38 (lv_at hl 0 rfl) ?_
          refine xa_lald hx hb hK hP 1 0 (f := f) rfl rfl (k := impb) (vp_in_nI (n := impb) (N := 8) (by omega) (by decide +kernel)) (nI_clamp (n := impb) (by omega)) dX5_addPairs_40 ?_
          have hPc := hP.sub (ws' := [(ro, eMR w hc a), (hc, eA cy f)]) [0, 1] rfl
          have hKc := hK.sub (tys' := [(cy, .long)]) [0] rfl
          refine va_calli (va_runV (As := [.long (f impa), .long (f impb)]) (rest := [.long v9]) ⟨hx, hb, hml, hown, hts⟩ (k_X4_order l dC dI cy ro hc w a f H.size (f impa) (f impb)) (cwV 2 hts gX5_addPairs_X4_order rfl rfl rfl (by decide +kernel) ⟨Nat.le_of_ble_eq_true rfl, Nat.le_of_ble_eq_true rfl⟩) (xB.preV hKc hPc (ci := 6) (q0 := 0) rfl rfl) rfl rfl hl.1 rfl (lv_room (Nat.le_of_ble_eq_true rfl)) dX5_addPairs_41 ⟨Nat.le_of_ble_eq_true rfl, Nat.le_of_ble_eq_true rfl⟩) hS xA_old (fun q h => hA q (Nat.le_trans hS.1 h)) (fun r_1 u t H locs ht hvm hw hB hz hk hS => ?_)
          replace hw : r_1 = (o_X4_order w (f impa) (f impb)) := hw
          subst r_1
          have hP := xP_keep hP hk
          refine lv_i2l (v := ((o_X4_order w (f impa) (f impb)).toInt64)) hx hb dX5_addPairs_44 rfl ?_
          have hPc := hP.sub (ws' := []) [] rfl
          have hKc := hK.sub (tys' := []) [] rfl
          refine va_calll (va_runS (As := [.long v9, .long ((o_X4_order w (f impa) (f impb)).toInt64)]) (rest := []) ⟨hx, hb, hml, hown, hts⟩ (k_X5_add l dC dI H.size v9 ((o_X4_order w (f impa) (f impb)).toInt64)) (va_cwS 2 hts gX5_addPairs_X5_add rfl rfl rfl (by decide +kernel) ⟨Nat.le_of_ble_eq_true rfl, Nat.le_of_ble_eq_true rfl⟩) (xB.preS hKc hPc) rfl rfl hl.1 rfl (lv_room (Nat.le_of_ble_eq_true rfl)) dX5_addPairs_45 ⟨Nat.le_of_ble_eq_true rfl, Nat.le_of_ble_eq_true rfl⟩) hS xA_old (fun q h => hA q (Nat.le_trans hS.1 h)) (fun r_2 u t H locs ht hvm hw hB hz hk hS => ?_)
          replace hw : r_2 = (o_X5_add v9 ((o_X4_order w (f impa) (f impb)).toInt64)) := hw
          subst r_2
          have hP := xP_keep hP hk
          refine lv_aload_n hx hb dX5_addPairs_48 rfl (lv_at hl 4 rfl) ?_
          refine lv_aload_n hx hb dX5_addPairs_49 rfl (lv_at hl 4 rfl) ?_
          refine va_get (D := (dC, dI)) (ci := 6) (v := .ref hc) (C := RX4) (T := TX4) (N := 5) hx hb hts (by decide +kernel) hown hK hP 0 rfl rfl 3 (by decide +kernel) (hts (.fieldLink RX5 74 "EdgefloatsModel$Row" "cells" "[J") (by decide +kernel)) (fun _ h9 => h9) rfl dX5_addPairs_50 ?_
          refine lv_iload hx hb dX5_addPairs_53 (lv_at hl 1 rfl) ?_
          refine xa_lald hx hb hK hP 1 0 (f := f) rfl rfl (k := impa) (vp_in_nI (n := impa) (N := 8) (by omega) (by decide +kernel)) (nI_clamp (n := impa) (by omega)) dX5_addPairs_55 ?_
          refine lv_aload_n hx hb dX5_addPairs_56 rfl (lv_at hl 4 rfl) ?_
          refine va_get (D := (dC, dI)) (ci := 6) (v := .ref hc) (C := RX4) (T := TX4) (N := 5) hx hb hts (by decide +kernel) hown hK hP 0 rfl rfl 3 (by decide +kernel) (hts (.fieldLink RX5 74 "EdgefloatsModel$Row" "cells" "[J") (by decide +kernel)) (fun _ h9 => h9) rfl dX5_addPairs_57 ?_
          refine lv_iload hx hb dX5_addPairs_60 (lv_at hl 0 rfl) ?_
          refine xa_lald hx hb hK hP 1 0 (f := f) rfl rfl (k := impb) (vp_in_nI (n := impb) (N := 8) (by omega) (by decide +kernel)) (nI_clamp (n := impb) (by omega)) dX5_addPairs_62 ?_
          have hPc := hP.sub (ws' := [(ro, eMR w hc a), (hc, eA cy f)]) [0, 1] rfl
          have hKc := hK.sub (tys' := [(cy, .long)]) [0] rfl
          refine va_calli (va_runS (As := [.ref ro, .long (f impa), .long (f impb)]) (rest := [.long (o_X5_add v9 ((o_X4_order w (f impa) (f impb)).toInt64))]) ⟨hx, hb, hml, hown, hts⟩ (k_X5_areLike l dC dI cy ro hc w a f H.size (f impa) (f impb)) (va_cwS 3 hts gX5_addPairs_X5_areLike rfl rfl rfl (by decide +kernel) ⟨Nat.le_of_ble_eq_true rfl, Nat.le_of_ble_eq_true rfl⟩) (xB.preS hKc hPc) rfl rfl hl.1 rfl (lv_room (Nat.le_of_ble_eq_true rfl)) dX5_addPairs_63 ⟨Nat.le_of_ble_eq_true rfl, Nat.le_of_ble_eq_true rfl⟩) hS xA_old (fun q h => hA q (Nat.le_trans hS.1 h)) (fun r_3 u t H locs ht hvm hw hB hz hk hS => ?_)
          replace hw : r_3 = b2i (o_X5_areLike w (f impa) (f impb)) := hw
          subst r_3
          have hP := xP_keep hP hk
          have hPc := hP.sub (ws' := []) [] rfl
          have hKc := hK.sub (tys' := []) [] rfl
          refine va_calli (va_runS (As := [.int (b2i (o_X5_areLike w (f impa) (f impb)))]) (rest := [.long (o_X5_add v9 ((o_X4_order w (f impa) (f impb)).toInt64))]) ⟨hx, hb, hml, hown, hts⟩ (k_X5_one l dC dI H.size (o_X5_areLike w (f impa) (f impb))) (va_cwS 1 hts gX5_addPairs_X5_one rfl rfl rfl (by decide +kernel) ⟨Nat.le_of_ble_eq_true rfl, Nat.le_of_ble_eq_true rfl⟩) (xB.preS hKc hPc) rfl rfl hl.1 rfl (lv_room (Nat.le_of_ble_eq_true rfl)) dX5_addPairs_66 ⟨Nat.le_of_ble_eq_true rfl, Nat.le_of_ble_eq_true rfl⟩) hS xA_old (fun q h => hA q (Nat.le_trans hS.1 h)) (fun r_4 u t H locs ht hvm hw hB hz hk hS => ?_)
          replace hw : r_4 = (o_X5_one (o_X5_areLike w (f impa) (f impb))) := hw
          subst r_4
          have hP := xP_keep hP hk
          refine lv_i2l (v := ((o_X5_one (o_X5_areLike w (f impa) (f impb))).toInt64)) hx hb dX5_addPairs_69 rfl ?_
          have hPc := hP.sub (ws' := []) [] rfl
          have hKc := hK.sub (tys' := []) [] rfl
          refine va_calll (va_runS (As := [.long (o_X5_add v9 ((o_X4_order w (f impa) (f impb)).toInt64)), .long ((o_X5_one (o_X5_areLike w (f impa) (f impb))).toInt64)]) (rest := []) ⟨hx, hb, hml, hown, hts⟩ (k_X5_add l dC dI H.size (o_X5_add v9 ((o_X4_order w (f impa) (f impb)).toInt64)) ((o_X5_one (o_X5_areLike w (f impa) (f impb))).toInt64)) (va_cwS 2 hts gX5_addPairs_X5_add rfl rfl rfl (by decide +kernel) ⟨Nat.le_of_ble_eq_true rfl, Nat.le_of_ble_eq_true rfl⟩) (xB.preS hKc hPc) rfl rfl hl.1 rfl (lv_room (Nat.le_of_ble_eq_true rfl)) dX5_addPairs_70 ⟨Nat.le_of_ble_eq_true rfl, Nat.le_of_ble_eq_true rfl⟩) hS xA_old (fun q h => hA q (Nat.le_trans hS.1 h)) (fun r_5 u t H locs ht hvm hw hB hz hk hS => ?_)
          replace hw : r_5 = (o_X5_add (o_X5_add v9 ((o_X4_order w (f impa) (f impb)).toInt64)) ((o_X5_one (o_X5_areLike w (f impa) (f impb))).toInt64)) := hw
          subst r_5
          have hP := xP_keep hP hk
          refine lv_lstore_n (lv' := [(3, .long (o_X5_add (o_X5_add v9 ((o_X4_order w (f impa) (f impb)).toInt64)) ((o_X5_one (o_X5_areLike w (f impa) (f impb))).toInt64))), (6, .int (nI impb)), (5, .int (nI impa)), (0, .long p0), (2, .ref ro)]) hx hb dX5_addPairs_73 rfl hl (by decide +kernel) rfl (fun ls hl => ?_)
          refine lv_iinc (v := (nI (impb + 1))) (lv' := [(6, .int (nI (impb + 1))), (3, .long (o_X5_add (o_X5_add v9 ((o_X4_order w (f impa) (f impb)).toInt64)) ((o_X5_one (o_X5_areLike w (f impa) (f impb))).toInt64))), (5, .int (nI impa)), (0, .long p0), (2, .ref ro)]) hx hb dX5_addPairs_74 hl (k := 1) rfl (nI_1 impb) (by decide +kernel) rfl (fun ls hl => ?_)
          refine lv_goto (tgt := 18) hx hb dX5_addPairs_77 (by decide +kernel) ?_
          refine W.widen (k := 0) (n := 0) (Nat.le_refl _) (Nat.le_refl _) ?_
          exact ih_mpb (impb + 1) (o_X5_add (o_X5_add v9 ((o_X4_order w (f impa) (f impb)).toInt64)) ((o_X5_one (o_X5_areLike w (f impa) (f impb))).toInt64)) _ _ _ (by omega) (by omega) (hsp_mpb.trans (by (rw [L_mpb]) <;> rfl)) hP hS (lv_sub hl [0, 2, 1, 3, 4] rfl) K_mpb
      refine loop_mpb (8 - (impa + 1)) (impa + 1) v _ _ _ (by omega) (by omega) rfl hP hS (lv_sub hl [0, 1, 2, 3, 4] rfl) (fun H locs ls hP hS hl => ?_)
      refine lv_iinc (v := (nI (impa + 1))) (lv' := [(5, .int (nI (impa + 1))), (3, .long (L_mpb w f impa (8 - (impa + 1)) (impa + 1) v)), (0, .long p0), (2, .ref ro)]) hx hb dX5_addPairs_80 hl (k := 0) rfl (nI_1 impa) (by decide +kernel) rfl (fun ls hl => ?_)
      refine lv_goto (tgt := 5) hx hb dX5_addPairs_83 (by decide +kernel) ?_
      refine W.widen (k := 0) (n := 0) (Nat.le_refl _) (Nat.le_refl _) ?_
      exact ih_mpa (impa + 1) (L_mpb w f impa (8 - (impa + 1)) (impa + 1) v) _ _ _ (by omega) (by omega) (hsp_mpa.trans (by (rw [L_mpa]) <;> rfl)) hP hS (lv_sub hl [0, 1, 2, 3] rfl) K_mpa
  refine loop_mpa 8 0 p0 _ _ _ (by omega) (by omega) rfl hP hS (lv_sub hl [0, 1, 2, 3] rfl) (fun H locs ls hP hS hl => ?_)
  refine lv_lload_n hx hb dX5_addPairs_86 rfl (lv_at hl 0 rfl) ?_
  have he : o_X5_addPairs w f p0 = (L_mpa w f 8 0 p0) := by (rw [o_X5_addPairs]) <;> rfl
  refine W.widen (k := 0) (n := 0) (by omega) (by omega) ?_
  exact W.lret (v := (L_mpa w f 8 0 p0)) hx hb hr (fun t ht hW => ⟨⟨_, (), rfl, (by (rw [he]) <;> rfl), trivial⟩, hS.F ht⟩) hS.2.2 dX5_addPairs_87
theorem cl_X5_addCell_1 : ∀ w ∈ wsX5_addCell_r1, w ∈ wsX5_addCell := fun _ h => (List.mem_cons_of_mem _ (List.mem_append_left _ (List.mem_append_left _ h)))
theorem cl_X5_addCell_2 : ∀ w ∈ wsX5_addCell_r2, w ∈ wsX5_addCell := fun _ h => (List.mem_cons_of_mem _ (List.mem_append_left _ (List.mem_append_right _ (List.mem_append_left _ h))))
theorem cl_X5_addCell_3 : ∀ w ∈ wsX5_addCell_r3, w ∈ wsX5_addCell := fun _ h => (List.mem_cons_of_mem _ (List.mem_append_left _ (List.mem_append_right _ (List.mem_append_right _ h))))
theorem cl_X5_addCell_4 : ∀ w ∈ wsX40, w ∈ wsX5_addCell := fun _ h => (List.mem_cons_of_mem _ (List.mem_append_right _ h))
set_option maxRecDepth 20000 in
theorem ggX5_addCell_X4_count : GoodIn wsX5_addCell wsX4_count := goodIn_sub (List.forall_mem_cons.mpr ⟨(cl_X5_addCell_1 _ (List.mem_of_getElem? (i := 5) rfl)), fun w h => (List.mem_append.mp h).elim ((fun w h => (List.mem_append.mp h).elim ((List.forall_mem_cons.mpr ⟨(cl_X5_addCell_1 _ (List.mem_of_getElem? (i := 6) rfl)), List.forall_mem_cons.mpr ⟨(cl_X5_addCell_1 _ (List.mem_of_getElem? (i := 7) rfl)), List.forall_mem_cons.mpr ⟨(cl_X5_addCell_1 _ (List.mem_of_getElem? (i := 8) rfl)), List.forall_mem_cons.mpr ⟨(cl_X5_addCell_1 _ (List.mem_of_getElem? (i := 9) rfl)), List.forall_mem_cons.mpr ⟨(cl_X5_addCell_1 _ (List.mem_of_getElem? (i := 10) rfl)), List.forall_mem_cons.mpr ⟨(cl_X5_addCell_1 _ (List.mem_of_getElem? (i := 11) rfl)), List.forall_mem_cons.mpr ⟨(cl_X5_addCell_1 _ (List.mem_of_getElem? (i := 12) rfl)), List.forall_mem_cons.mpr ⟨(cl_X5_addCell_1 _ (List.mem_of_getElem? (i := 13) rfl)), List.forall_mem_cons.mpr ⟨(cl_X5_addCell_1 _ (List.mem_of_getElem? (i := 14) rfl)), List.forall_mem_cons.mpr ⟨(cl_X5_addCell_1 _ (List.mem_of_getElem? (i := 4) rfl)), List.forall_mem_cons.mpr ⟨(cl_X5_addCell_1 _ (List.mem_of_getElem? (i := 15) rfl)), List.forall_mem_cons.mpr ⟨(cl_X5_addCell_1 _ (List.mem_of_getElem? (i := 16) rfl)), List.forall_mem_cons.mpr ⟨(cl_X5_addCell_1 _ (List.mem_of_getElem? (i := 17) rfl)), List.forall_mem_cons.mpr ⟨(cl_X5_addCell_1 _ (List.mem_of_getElem? (i := 18) rfl)), List.forall_mem_cons.mpr ⟨(cl_X5_addCell_1 _ (List.mem_of_getElem? (i := 19) rfl)), List.forall_mem_cons.mpr ⟨(cl_X5_addCell_1 _ (List.mem_of_getElem? (i := 20) rfl)), List.forall_mem_cons.mpr ⟨(cl_X5_addCell_1 _ (List.mem_of_getElem? (i := 21) rfl)), List.forall_mem_cons.mpr ⟨(cl_X5_addCell_1 _ (List.mem_of_getElem? (i := 22) rfl)), List.forall_mem_cons.mpr ⟨(cl_X5_addCell_1 _ (List.mem_of_getElem? (i := 23) rfl)), List.forall_mem_cons.mpr ⟨(cl_X5_addCell_2 _ (List.mem_of_getElem? (i := 0) rfl)), List.forall_mem_cons.mpr ⟨(cl_X5_addCell_2 _ (List.mem_of_getElem? (i := 1) rfl)), List.forall_mem_cons.mpr ⟨(cl_X5_addCell_2 _ (List.mem_of_getElem? (i := 2) rfl)), List.forall_mem_cons.mpr ⟨(cl_X5_addCell_2 _ (List.mem_of_getElem? (i := 3) rfl)), List.forall_mem_cons.mpr ⟨(cl_X5_addCell_2 _ (List.mem_of_getElem? (i := 4) rfl)), fun _ h => absurd h List.not_mem_nil⟩⟩⟩⟩⟩⟩⟩⟩⟩⟩⟩⟩⟩⟩⟩⟩⟩⟩⟩⟩⟩⟩⟩⟩) w) ((List.forall_mem_cons.mpr ⟨(cl_X5_addCell_2 _ (List.mem_of_getElem? (i := 5) rfl)), List.forall_mem_cons.mpr ⟨(cl_X5_addCell_2 _ (List.mem_of_getElem? (i := 6) rfl)), List.forall_mem_cons.mpr ⟨(cl_X5_addCell_2 _ (List.mem_of_getElem? (i := 7) rfl)), List.forall_mem_cons.mpr ⟨(cl_X5_addCell_2 _ (List.mem_of_getElem? (i := 8) rfl)), List.forall_mem_cons.mpr ⟨(cl_X5_addCell_2 _ (List.mem_of_getElem? (i := 9) rfl)), List.forall_mem_cons.mpr ⟨(cl_X5_addCell_2 _ (List.mem_of_getElem? (i := 10) rfl)), List.forall_mem_cons.mpr ⟨(cl_X5_addCell_2 _ (List.mem_of_getElem? (i := 11) rfl)), List.forall_mem_cons.mpr ⟨(cl_X5_addCell_2 _ (List.mem_of_getElem? (i := 12) rfl)), List.forall_mem_cons.mpr ⟨(cl_X5_addCell_2 _ (List.mem_of_getElem? (i := 13) rfl)), List.forall_mem_cons.mpr ⟨(cl_X5_addCell_2 _ (List.mem_of_getElem? (i := 14) rfl)), List.forall_mem_cons.mpr ⟨(cl_X5_addCell_2 _ (List.mem_of_getElem? (i := 15) rfl)), List.forall_mem_cons.mpr ⟨(cl_X5_addCell_2 _ (List.mem_of_getElem? (i := 16) rfl)), fun _ h => absurd h List.not_mem_nil⟩⟩⟩⟩⟩⟩⟩⟩⟩⟩⟩⟩) w)) w) ((cl_X5_addCell_4) w)⟩) (by decide +kernel)
set_option maxRecDepth 20000 in
theorem gX5_addCell_X4_count : GoodIn wsX5_addCell (wsV RX5 117 RX4 yX4_count wsX4_count) := goodIn_app (goodIn_sub (List.forall_mem_cons.mpr ⟨(cl_X5_addCell_1 _ (List.mem_of_getElem? (i := 1) rfl)), List.forall_mem_cons.mpr ⟨(cl_X5_addCell_1 _ (List.mem_of_getElem? (i := 2) rfl)), List.forall_mem_cons.mpr ⟨(cl_X5_addCell_1 _ (List.mem_of_getElem? (i := 3) rfl)), List.forall_mem_cons.mpr ⟨(cl_X5_addCell_1 _ (List.mem_of_getElem? (i := 4) rfl)), fun _ h => absurd h List.not_mem_nil⟩⟩⟩⟩) (by decide +kernel)) ggX5_addCell_X4_count
set_option maxRecDepth 20000 in
theorem ggX5_addCell_X5_add : GoodIn wsX5_addCell wsX5_add := goodIn_sub (List.forall_mem_cons.mpr ⟨(cl_X5_addCell_2 _ (List.mem_of_getElem? (i := 20) rfl)), List.forall_mem_cons.mpr ⟨(cl_X5_addCell_2 _ (List.mem_of_getElem? (i := 21) rfl)), fun _ h => absurd h List.not_mem_nil⟩⟩) (by decide +kernel)
set_option maxRecDepth 20000 in
theorem gX5_addCell_X5_add : GoodIn wsX5_addCell (va_wsS RX5 202 yX5_add wsX5_add) := goodIn_app (goodIn_sub (List.forall_mem_cons.mpr ⟨(cl_X5_addCell_2 _ (List.mem_of_getElem? (i := 17) rfl)), List.forall_mem_cons.mpr ⟨(cl_X5_addCell_2 _ (List.mem_of_getElem? (i := 18) rfl)), List.forall_mem_cons.mpr ⟨(cl_X5_addCell_2 _ (List.mem_of_getElem? (i := 19) rfl)), fun _ h => absurd h List.not_mem_nil⟩⟩⟩) (by decide +kernel)) ggX5_addCell_X5_add
set_option maxRecDepth 20000 in
theorem ggX5_addCell_X4_find : GoodIn wsX5_addCell wsX4_find := goodIn_sub (List.forall_mem_cons.mpr ⟨(cl_X5_addCell_3 _ (List.mem_of_getElem? (i := 1) rfl)), fun w h => (List.mem_append.mp h).elim ((List.forall_mem_cons.mpr ⟨(cl_X5_addCell_3 _ (List.mem_of_getElem? (i := 2) rfl)), fun _ h => absurd h List.not_mem_nil⟩) w) ((cl_X5_addCell_4) w)⟩) (by decide +kernel)
set_option maxRecDepth 20000 in
theorem gX5_addCell_X4_find : GoodIn wsX5_addCell (wsV RX5 121 RX4 yX4_find wsX4_find) := goodIn_app (goodIn_sub (List.forall_mem_cons.mpr ⟨(cl_X5_addCell_2 _ (List.mem_of_getElem? (i := 22) rfl)), List.forall_mem_cons.mpr ⟨(cl_X5_addCell_2 _ (List.mem_of_getElem? (i := 23) rfl)), List.forall_mem_cons.mpr ⟨(cl_X5_addCell_3 _ (List.mem_of_getElem? (i := 0) rfl)), List.forall_mem_cons.mpr ⟨(cl_X5_addCell_1 _ (List.mem_of_getElem? (i := 4) rfl)), fun _ h => absurd h List.not_mem_nil⟩⟩⟩⟩) (by decide +kernel)) ggX5_addCell_X4_find
noncomputable def dz_p10_49 : List (Nat × Instr × Nat) := [(0, (.aload_n 2, 1)), (1, (.getfield 74, 3)), (4, (.iload_n 3, 1)), (5, (.laload, 1)), (6, (.lstore 4, 2)), (8, (.lload_n 0, 1)), (9, (.aload_n 2, 1)), (10, (.lload 4, 2)), (12, (.invokevirtual 117, 3)), (15, (.i2l, 1)), (16, (.invokestatic 202, 3)), (19, (.aload_n 2, 1)), (20, (.lload 4, 2)), (22, (.iconst 0, 1)), (23, (.invokevirtual 121, 3)), (26, (.i2l, 1)), (27, (.invokestatic 202, 3)), (30, (.aload_n 2, 1)), (31, (.lload 4, 2)), (33, (.iconst 1, 1)), (34, (.invokevirtual 121, 3)), (37, (.i2l, 1)), (38, (.invokestatic 202, 3)), (41, (.lreturn, 1))]
theorem dy_p10_49 : dz_ok cX5_addCell dz_p10_49 = true := by decide +kernel
theorem dX5_addCell_0 : decode cX5_addCell 0 = .ok (.aload_n 2, 1) := dz_at (i := 0) dy_p10_49 rfl
theorem dX5_addCell_1 : decode cX5_addCell 1 = .ok (.getfield 74, 3) := dz_at (i := 1) dy_p10_49 rfl
theorem dX5_addCell_4 : decode cX5_addCell 4 = .ok (.iload_n 3, 1) := dz_at (i := 2) dy_p10_49 rfl
theorem dX5_addCell_5 : decode cX5_addCell 5 = .ok (.laload, 1) := dz_at (i := 3) dy_p10_49 rfl
theorem dX5_addCell_6 : decode cX5_addCell 6 = .ok (.lstore 4, 2) := dz_at (i := 4) dy_p10_49 rfl
theorem dX5_addCell_8 : decode cX5_addCell 8 = .ok (.lload_n 0, 1) := dz_at (i := 5) dy_p10_49 rfl
theorem dX5_addCell_9 : decode cX5_addCell 9 = .ok (.aload_n 2, 1) := dz_at (i := 6) dy_p10_49 rfl
theorem dX5_addCell_10 : decode cX5_addCell 10 = .ok (.lload 4, 2) := dz_at (i := 7) dy_p10_49 rfl
theorem dX5_addCell_12 : decode cX5_addCell 12 = .ok (.invokevirtual 117, 3) := dz_at (i := 8) dy_p10_49 rfl
theorem dX5_addCell_15 : decode cX5_addCell 15 = .ok (.i2l, 1) := dz_at (i := 9) dy_p10_49 rfl
theorem dX5_addCell_16 : decode cX5_addCell 16 = .ok (.invokestatic 202, 3) := dz_at (i := 10) dy_p10_49 rfl
theorem dX5_addCell_19 : decode cX5_addCell 19 = .ok (.aload_n 2, 1) := dz_at (i := 11) dy_p10_49 rfl
theorem dX5_addCell_20 : decode cX5_addCell 20 = .ok (.lload 4, 2) := dz_at (i := 12) dy_p10_49 rfl
theorem dX5_addCell_22 : decode cX5_addCell 22 = .ok (.iconst 0, 1) := dz_at (i := 13) dy_p10_49 rfl
theorem dX5_addCell_23 : decode cX5_addCell 23 = .ok (.invokevirtual 121, 3) := dz_at (i := 14) dy_p10_49 rfl
theorem dX5_addCell_26 : decode cX5_addCell 26 = .ok (.i2l, 1) := dz_at (i := 15) dy_p10_49 rfl
theorem dX5_addCell_27 : decode cX5_addCell 27 = .ok (.invokestatic 202, 3) := dz_at (i := 16) dy_p10_49 rfl
theorem dX5_addCell_30 : decode cX5_addCell 30 = .ok (.aload_n 2, 1) := dz_at (i := 17) dy_p10_49 rfl
theorem dX5_addCell_31 : decode cX5_addCell 31 = .ok (.lload 4, 2) := dz_at (i := 18) dy_p10_49 rfl
theorem dX5_addCell_33 : decode cX5_addCell 33 = .ok (.iconst 1, 1) := dz_at (i := 19) dy_p10_49 rfl
theorem dX5_addCell_34 : decode cX5_addCell 34 = .ok (.invokevirtual 121, 3) := dz_at (i := 20) dy_p10_49 rfl
theorem dX5_addCell_37 : decode cX5_addCell 37 = .ok (.i2l, 1) := dz_at (i := 21) dy_p10_49 rfl
theorem dX5_addCell_38 : decode cX5_addCell 38 = .ok (.invokestatic 202, 3) := dz_at (i := 22) dy_p10_49 rfl
theorem dX5_addCell_41 : decode cX5_addCell 41 = .ok (.lreturn, 1) := dz_at (i := 23) dy_p10_49 rfl
noncomputable def o_X5_addCell (w : Bool) (f : Nat → Int64) (p0 : Int64) (p2 : Int32) : Int64 :=
  (o_X5_add (o_X5_add (o_X5_add p0 ((o_X4_count w (f p2.toNatClampNeg)).toInt64)) ((o_X4_find f (f p2.toNatClampNeg) false).toInt64)) ((o_X4_find f (f p2.toNatClampNeg) true).toInt64))
set_option maxHeartbeats 4000000 in
set_option maxRecDepth 100000 in
theorem k_X5_addCell (l : Launch) (dC : Nat → ClassId) (dI : Nat → Nat → Nat) (cy : ClassId) (ro : Nat) (hc : Nat) (w : Bool) (a : Int32) (f : Nat → Int64) (sz : Nat) (p0 : Int64) (p2 : Int32) (hin_p2 : vp_in p2 8) (hokf : okF w f) : Met l yX5_addCell wsX5_addCell ({ frames := 4, cells := 0, slots := 0, locals := 92 }) (va_Pc [.long p0, .ref ro, .int p2] (xB (dC, dI) xCl [(ro, eMR w hc a), (hc, eA cy f)] [(cy, .long)] sz)) (va_Ql (fun (r : Int64) (_ : Unit) => r = (o_X5_addCell w f p0 p2)) (fun _ _ => True) (aN sz)) 0 0 (aN sz) := by
  refine Met.ofW (cc := cX5_addCell) (maxL := 6) (ret := (some .long)) (by decide +kernel) rfl ?_
  intro p e s m args below meth c s₁ B hml hv
  obtain ⟨rfl, hsz, hP, hK⟩ := hv
  have hx := B.exec
  have hb := B.bytes
  have hr := B.returns
  have hts := atoms_spec (ws := wsX5_addCell) B.pre
  have hown : s.vm.findClass RX5 = some m.cls := findClass_of_methodNamed B.named
  have hlocks := B.notSynchronized
  subst hsz
  have hA : ∀ q : Nat, s.heap.size ≤ q → aN s.heap.size q := fun _ h => h
  have hS : va_S (aN s.heap.size) s.heap s.heap [] := va_S.rf
  have hP : va_P (dC, dI) xCl [(ro, eMR w hc a), (hc, eA cy f)] s.heap := hP
  have hl := lv_entry ([.long p0, .ref ro, .int p2]) (n := 6) (Nat.le_of_ble_eq_true rfl)
  rw [lg_entry_eq]
  generalize (lg_sl ([.long p0, .ref ro, .int p2]) ++ List.replicate (6 - (lg_sl ([.long p0, .ref ro, .int p2])).length) Slot.unset).toArray = ls at hl ⊢
  have hl : lv_has ls 6 [(0, .long p0), (2, .ref ro), (3, .int p2)] := hl
  refine lv_aload_n hx hb dX5_addCell_0 rfl (lv_at hl 1 rfl) ?_
  refine va_get (D := (dC, dI)) (ci := 6) (v := .ref hc) (C := RX4) (T := TX4) (N := 5) hx hb hts (by decide +kernel) hown hK hP 0 rfl rfl 3 (by decide +kernel) (hts (.fieldLink RX5 74 "EdgefloatsModel$Row" "cells" "[J") (by decide +kernel)) (fun _ h9 => h9) rfl dX5_addCell_1 ?_
  refine lv_iload_n hx hb dX5_addCell_4 rfl (lv_at hl 2 rfl) ?_
  refine xa_lald hx hb hK hP 1 0 (f := f) rfl rfl (k := p2.toNatClampNeg) hin_p2 rfl dX5_addCell_5 ?_
  refine lv_lstore (lv' := [(4, .long (f p2.toNatClampNeg)), (0, .long p0), (2, .ref ro), (3, .int p2)]) hx hb dX5_addCell_6 hl (by decide +kernel) rfl (fun ls hl => ?_)
  refine lv_lload_n hx hb dX5_addCell_8 rfl (lv_at hl 1 rfl) ?_
  refine lv_aload_n hx hb dX5_addCell_9 rfl (lv_at hl 2 rfl) ?_
  refine lv_lload hx hb dX5_addCell_10 (lv_at hl 0 rfl) ?_
  have hPc := hP.sub (ws' := [(ro, eMR w hc a), (hc, eA cy f)]) [0, 1] rfl
  have hKc := hK.sub (tys' := [(cy, .long)]) [0] rfl
  refine va_calli (va_runV (As := [.long (f p2.toNatClampNeg)]) (rest := [.long p0]) ⟨hx, hb, hml, hown, hts⟩ (k_X4_count l dC dI cy ro hc w a f s.heap.size (f p2.toNatClampNeg) (hokf _ (xm_lt hin_p2))) (cwV 1 hts gX5_addCell_X4_count rfl rfl rfl (by decide +kernel) ⟨Nat.le_of_ble_eq_true rfl, Nat.le_of_ble_eq_true rfl⟩) (xB.preV hKc hPc (ci := 6) (q0 := 0) rfl rfl) rfl rfl hl.1 rfl (lv_room (Nat.le_of_ble_eq_true rfl)) dX5_addCell_12 ⟨Nat.le_of_ble_eq_true rfl, Nat.le_of_ble_eq_true rfl⟩) hS xA_old (fun q h => hA q (Nat.le_trans hS.1 h)) (fun r_1 u t H locs ht hvm hw hB hz hk hS => ?_)
  replace hw : r_1 = (o_X4_count w (f p2.toNatClampNeg)) := hw
  subst r_1
  have hP := xP_keep hP hk
  refine lv_i2l (v := ((o_X4_count w (f p2.toNatClampNeg)).toInt64)) hx hb dX5_addCell_15 rfl ?_
  have hPc := hP.sub (ws' := []) [] rfl
  have hKc := hK.sub (tys' := []) [] rfl
  refine va_calll (va_runS (As := [.long p0, .long ((o_X4_count w (f p2.toNatClampNeg)).toInt64)]) (rest := []) ⟨hx, hb, hml, hown, hts⟩ (k_X5_add l dC dI H.size p0 ((o_X4_count w (f p2.toNatClampNeg)).toInt64)) (va_cwS 2 hts gX5_addCell_X5_add rfl rfl rfl (by decide +kernel) ⟨Nat.le_of_ble_eq_true rfl, Nat.le_of_ble_eq_true rfl⟩) (xB.preS hKc hPc) rfl rfl hl.1 rfl (lv_room (Nat.le_of_ble_eq_true rfl)) dX5_addCell_16 ⟨Nat.le_of_ble_eq_true rfl, Nat.le_of_ble_eq_true rfl⟩) hS xA_old (fun q h => hA q (Nat.le_trans hS.1 h)) (fun r_2 u t H locs ht hvm hw hB hz hk hS => ?_)
  replace hw : r_2 = (o_X5_add p0 ((o_X4_count w (f p2.toNatClampNeg)).toInt64)) := hw
  subst r_2
  have hP := xP_keep hP hk
  refine lv_aload_n hx hb dX5_addCell_19 rfl (lv_at hl 2 rfl) ?_
  refine lv_lload hx hb dX5_addCell_20 (lv_at hl 0 rfl) ?_
  refine lv_iconst (v := 0) hx hb dX5_addCell_22 (by decide +kernel) ?_
  have hPc := hP.sub (ws' := [(ro, eMR w hc a), (hc, eA cy f)]) [0, 1] rfl
  have hKc := hK.sub (tys' := [(cy, .long)]) [0] rfl
  refine va_calli (va_runV (As := [.long (f p2.toNatClampNeg), .int 0]) (rest := [.long (o_X5_add p0 ((o_X4_count w (f p2.toNatClampNeg)).toInt64))]) ⟨hx, hb, hml, hown, hts⟩ (k_X4_find l dC dI cy ro hc w a f H.size (f p2.toNatClampNeg) false) (cwV 2 hts gX5_addCell_X4_find rfl rfl rfl (by decide +kernel) ⟨Nat.le_of_ble_eq_true rfl, Nat.le_of_ble_eq_true rfl⟩) (xB.preV hKc hPc (ci := 6) (q0 := 0) rfl rfl) rfl rfl hl.1 rfl (lv_room (Nat.le_of_ble_eq_true rfl)) dX5_addCell_23 ⟨Nat.le_of_ble_eq_true rfl, Nat.le_of_ble_eq_true rfl⟩) hS xA_old (fun q h => hA q (Nat.le_trans hS.1 h)) (fun r_3 u t H locs ht hvm hw hB hz hk hS => ?_)
  replace hw : r_3 = (o_X4_find f (f p2.toNatClampNeg) false) := hw
  subst r_3
  have hP := xP_keep hP hk
  refine lv_i2l (v := ((o_X4_find f (f p2.toNatClampNeg) false).toInt64)) hx hb dX5_addCell_26 rfl ?_
  have hPc := hP.sub (ws' := []) [] rfl
  have hKc := hK.sub (tys' := []) [] rfl
  refine va_calll (va_runS (As := [.long (o_X5_add p0 ((o_X4_count w (f p2.toNatClampNeg)).toInt64)), .long ((o_X4_find f (f p2.toNatClampNeg) false).toInt64)]) (rest := []) ⟨hx, hb, hml, hown, hts⟩ (k_X5_add l dC dI H.size (o_X5_add p0 ((o_X4_count w (f p2.toNatClampNeg)).toInt64)) ((o_X4_find f (f p2.toNatClampNeg) false).toInt64)) (va_cwS 2 hts gX5_addCell_X5_add rfl rfl rfl (by decide +kernel) ⟨Nat.le_of_ble_eq_true rfl, Nat.le_of_ble_eq_true rfl⟩) (xB.preS hKc hPc) rfl rfl hl.1 rfl (lv_room (Nat.le_of_ble_eq_true rfl)) dX5_addCell_27 ⟨Nat.le_of_ble_eq_true rfl, Nat.le_of_ble_eq_true rfl⟩) hS xA_old (fun q h => hA q (Nat.le_trans hS.1 h)) (fun r_4 u t H locs ht hvm hw hB hz hk hS => ?_)
  replace hw : r_4 = (o_X5_add (o_X5_add p0 ((o_X4_count w (f p2.toNatClampNeg)).toInt64)) ((o_X4_find f (f p2.toNatClampNeg) false).toInt64)) := hw
  subst r_4
  have hP := xP_keep hP hk
  refine lv_aload_n hx hb dX5_addCell_30 rfl (lv_at hl 2 rfl) ?_
  refine lv_lload hx hb dX5_addCell_31 (lv_at hl 0 rfl) ?_
  refine lv_iconst (v := 1) hx hb dX5_addCell_33 (by decide +kernel) ?_
  have hPc := hP.sub (ws' := [(ro, eMR w hc a), (hc, eA cy f)]) [0, 1] rfl
  have hKc := hK.sub (tys' := [(cy, .long)]) [0] rfl
  refine va_calli (va_runV (As := [.long (f p2.toNatClampNeg), .int 1]) (rest := [.long (o_X5_add (o_X5_add p0 ((o_X4_count w (f p2.toNatClampNeg)).toInt64)) ((o_X4_find f (f p2.toNatClampNeg) false).toInt64))]) ⟨hx, hb, hml, hown, hts⟩ (k_X4_find l dC dI cy ro hc w a f H.size (f p2.toNatClampNeg) true) (cwV 2 hts gX5_addCell_X4_find rfl rfl rfl (by decide +kernel) ⟨Nat.le_of_ble_eq_true rfl, Nat.le_of_ble_eq_true rfl⟩) (xB.preV hKc hPc (ci := 6) (q0 := 0) rfl rfl) rfl rfl hl.1 rfl (lv_room (Nat.le_of_ble_eq_true rfl)) dX5_addCell_34 ⟨Nat.le_of_ble_eq_true rfl, Nat.le_of_ble_eq_true rfl⟩) hS xA_old (fun q h => hA q (Nat.le_trans hS.1 h)) (fun r_5 u t H locs ht hvm hw hB hz hk hS => ?_)
  replace hw : r_5 = (o_X4_find f (f p2.toNatClampNeg) true) := hw
  subst r_5
  have hP := xP_keep hP hk
  refine lv_i2l (v := ((o_X4_find f (f p2.toNatClampNeg) true).toInt64)) hx hb dX5_addCell_37 rfl ?_
  have hPc := hP.sub (ws' := []) [] rfl
  have hKc := hK.sub (tys' := []) [] rfl
  refine va_calll (va_runS (As := [.long (o_X5_add (o_X5_add p0 ((o_X4_count w (f p2.toNatClampNeg)).toInt64)) ((o_X4_find f (f p2.toNatClampNeg) false).toInt64)), .long ((o_X4_find f (f p2.toNatClampNeg) true).toInt64)]) (rest := []) ⟨hx, hb, hml, hown, hts⟩ (k_X5_add l dC dI H.size (o_X5_add (o_X5_add p0 ((o_X4_count w (f p2.toNatClampNeg)).toInt64)) ((o_X4_find f (f p2.toNatClampNeg) false).toInt64)) ((o_X4_find f (f p2.toNatClampNeg) true).toInt64)) (va_cwS 2 hts gX5_addCell_X5_add rfl rfl rfl (by decide +kernel) ⟨Nat.le_of_ble_eq_true rfl, Nat.le_of_ble_eq_true rfl⟩) (xB.preS hKc hPc) rfl rfl hl.1 rfl (lv_room (Nat.le_of_ble_eq_true rfl)) dX5_addCell_38 ⟨Nat.le_of_ble_eq_true rfl, Nat.le_of_ble_eq_true rfl⟩) hS xA_old (fun q h => hA q (Nat.le_trans hS.1 h)) (fun r_6 u t H locs ht hvm hw hB hz hk hS => ?_)
  replace hw : r_6 = (o_X5_add (o_X5_add (o_X5_add p0 ((o_X4_count w (f p2.toNatClampNeg)).toInt64)) ((o_X4_find f (f p2.toNatClampNeg) false).toInt64)) ((o_X4_find f (f p2.toNatClampNeg) true).toInt64)) := hw
  subst r_6
  have hP := xP_keep hP hk
  have he : o_X5_addCell w f p0 p2 = (o_X5_add (o_X5_add (o_X5_add p0 ((o_X4_count w (f p2.toNatClampNeg)).toInt64)) ((o_X4_find f (f p2.toNatClampNeg) false).toInt64)) ((o_X4_find f (f p2.toNatClampNeg) true).toInt64)) := by (rw [o_X5_addCell]) <;> rfl
  refine W.widen (k := 0) (n := 0) (by omega) (by omega) ?_
  exact W.lret (v := (o_X5_add (o_X5_add (o_X5_add p0 ((o_X4_count w (f p2.toNatClampNeg)).toInt64)) ((o_X4_find f (f p2.toNatClampNeg) false).toInt64)) ((o_X4_find f (f p2.toNatClampNeg) true).toInt64))) hx hb hr (fun t ht hW => ⟨⟨_, (), rfl, (by (rw [he]) <;> rfl), trivial⟩, hS.F ht⟩) hS.2.2 dX5_addCell_41
theorem cl_X5_digest_1 : ∀ w ∈ wsX5_digest_r1, w ∈ wsX5_digest := fun _ h => (List.mem_cons_of_mem _ (List.mem_append_left _ (List.mem_append_left _ (List.mem_append_left _ h))))
theorem cl_X5_digest_2 : ∀ w ∈ wsX5_digest_r2, w ∈ wsX5_digest := fun _ h => (List.mem_cons_of_mem _ (List.mem_append_left _ (List.mem_append_left _ (List.mem_append_right _ (List.mem_append_left _ h)))))
theorem cl_X5_digest_3 : ∀ w ∈ wsX5_digest_r3, w ∈ wsX5_digest := fun _ h => (List.mem_cons_of_mem _ (List.mem_append_left _ (List.mem_append_left _ (List.mem_append_right _ (List.mem_append_right _ (List.mem_append_left _ h))))))
theorem cl_X5_digest_4 : ∀ w ∈ wsX5_digest_r4, w ∈ wsX5_digest := fun _ h => (List.mem_cons_of_mem _ (List.mem_append_left _ (List.mem_append_left _ (List.mem_append_right _ (List.mem_append_right _ (List.mem_append_right _ h))))))
theorem cl_X5_digest_5 : ∀ w ∈ wsX50, w ∈ wsX5_digest := fun _ h => (List.mem_cons_of_mem _ (List.mem_append_left _ (List.mem_append_right _ h)))
theorem cl_X5_digest_6 : ∀ w ∈ wsX40, w ∈ wsX5_digest := fun _ h => (List.mem_cons_of_mem _ (List.mem_append_right _ h))
set_option maxRecDepth 20000 in
theorem ggX5_digest_X5_add : GoodIn wsX5_digest wsX5_add := goodIn_sub (List.forall_mem_cons.mpr ⟨(cl_X5_digest_1 _ (List.mem_of_getElem? (i := 8) rfl)), List.forall_mem_cons.mpr ⟨(cl_X5_digest_1 _ (List.mem_of_getElem? (i := 9) rfl)), fun _ h => absurd h List.not_mem_nil⟩⟩) (by decide +kernel)
set_option maxRecDepth 20000 in
theorem gX5_digest_X5_add : GoodIn wsX5_digest (va_wsS RX5 202 yX5_add wsX5_add) := goodIn_app (goodIn_sub (List.forall_mem_cons.mpr ⟨(cl_X5_digest_1 _ (List.mem_of_getElem? (i := 5) rfl)), List.forall_mem_cons.mpr ⟨(cl_X5_digest_1 _ (List.mem_of_getElem? (i := 6) rfl)), List.forall_mem_cons.mpr ⟨(cl_X5_digest_1 _ (List.mem_of_getElem? (i := 7) rfl)), fun _ h => absurd h List.not_mem_nil⟩⟩⟩) (by decide +kernel)) ggX5_digest_X5_add
set_option maxRecDepth 20000 in
theorem ggX5_digest_X5_hashOf : GoodIn wsX5_digest wsX5_hashOf := goodIn_sub (List.forall_mem_cons.mpr ⟨(cl_X5_digest_1 _ (List.mem_of_getElem? (i := 13) rfl)), fun w h => (List.mem_append.mp h).elim ((fun w h => (List.mem_append.mp h).elim ((List.forall_mem_cons.mpr ⟨(cl_X5_digest_1 _ (List.mem_of_getElem? (i := 2) rfl)), List.forall_mem_cons.mpr ⟨(cl_X5_digest_1 _ (List.mem_of_getElem? (i := 3) rfl)), fun _ h => absurd h List.not_mem_nil⟩⟩) w) ((cl_X5_digest_5) w)) w) ((cl_X5_digest_6) w)⟩) (by decide +kernel)
set_option maxRecDepth 20000 in
theorem gX5_digest_X5_hashOf : GoodIn wsX5_digest (wsV RX5 175 RX5 yX5_hashOf wsX5_hashOf) := goodIn_app (goodIn_sub (List.forall_mem_cons.mpr ⟨(cl_X5_digest_1 _ (List.mem_of_getElem? (i := 10) rfl)), List.forall_mem_cons.mpr ⟨(cl_X5_digest_1 _ (List.mem_of_getElem? (i := 11) rfl)), List.forall_mem_cons.mpr ⟨(cl_X5_digest_1 _ (List.mem_of_getElem? (i := 12) rfl)), List.forall_mem_cons.mpr ⟨(cl_X5_digest_1 _ (List.mem_of_getElem? (i := 7) rfl)), fun _ h => absurd h List.not_mem_nil⟩⟩⟩⟩) (by decide +kernel)) ggX5_digest_X5_hashOf
set_option maxRecDepth 20000 in
theorem ggX5_digest_X5_addCell : GoodIn wsX5_digest wsX5_addCell := goodIn_sub (List.forall_mem_cons.mpr ⟨(cl_X5_digest_1 _ (List.mem_of_getElem? (i := 16) rfl)), fun w h => (List.mem_append.mp h).elim ((fun w h => (List.mem_append.mp h).elim ((List.forall_mem_cons.mpr ⟨(cl_X5_digest_1 _ (List.mem_of_getElem? (i := 3) rfl)), List.forall_mem_cons.mpr ⟨(cl_X5_digest_1 _ (List.mem_of_getElem? (i := 17) rfl)), List.forall_mem_cons.mpr ⟨(cl_X5_digest_1 _ (List.mem_of_getElem? (i := 18) rfl)), List.forall_mem_cons.mpr ⟨(cl_X5_digest_1 _ (List.mem_of_getElem? (i := 19) rfl)), List.forall_mem_cons.mpr ⟨(cl_X5_digest_1 _ (List.mem_of_getElem? (i := 20) rfl)), List.forall_mem_cons.mpr ⟨(cl_X5_digest_1 _ (List.mem_of_getElem? (i := 21) rfl)), List.forall_mem_cons.mpr ⟨(cl_X5_digest_1 _ (List.mem_of_getElem? (i := 22) rfl)), List.forall_mem_cons.mpr ⟨(cl_X5_digest_1 _ (List.mem_of_getElem? (i := 23) rfl)), List.forall_mem_cons.mpr ⟨(cl_X5_digest_2 _ (List.mem_of_getElem? (i := 0) rfl)), List.forall_mem_cons.mpr ⟨(cl_X5_digest_2 _ (List.mem_of_getElem? (i := 1) rfl)), List.forall_mem_cons.mpr ⟨(cl_X5_digest_2 _ (List.mem_of_getElem? (i := 2) rfl)), List.forall_mem_cons.mpr ⟨(cl_X5_digest_2 _ (List.mem_of_getElem? (i := 3) rfl)), List.forall_mem_cons.mpr ⟨(cl_X5_digest_2 _ (List.mem_of_getElem? (i := 4) rfl)), List.forall_mem_cons.mpr ⟨(cl_X5_digest_2 _ (List.mem_of_getElem? (i := 5) rfl)), List.forall_mem_cons.mpr ⟨(cl_X5_digest_2 _ (List.mem_of_getElem? (i := 6) rfl)), List.forall_mem_cons.mpr ⟨(cl_X5_digest_2 _ (List.mem_of_getElem? (i := 7) rfl)), List.forall_mem_cons.mpr ⟨(cl_X5_digest_2 _ (List.mem_of_getElem? (i := 8) rfl)), List.forall_mem_cons.mpr ⟨(cl_X5_digest_2 _ (List.mem_of_getElem? (i := 9) rfl)), List.forall_mem_cons.mpr ⟨(cl_X5_digest_2 _ (List.mem_of_getElem? (i := 10) rfl)), List.forall_mem_cons.mpr ⟨(cl_X5_digest_2 _ (List.mem_of_getElem? (i := 11) rfl)), List.forall_mem_cons.mpr ⟨(cl_X5_digest_2 _ (List.mem_of_getElem? (i := 12) rfl)), List.forall_mem_cons.mpr ⟨(cl_X5_digest_2 _ (List.mem_of_getElem? (i := 13) rfl)), List.forall_mem_cons.mpr ⟨(cl_X5_digest_2 _ (List.mem_of_getElem? (i := 14) rfl)), List.forall_mem_cons.mpr ⟨(cl_X5_digest_2 _ (List.mem_of_getElem? (i := 15) rfl)), fun _ h => absurd h List.not_mem_nil⟩⟩⟩⟩⟩⟩⟩⟩⟩⟩⟩⟩⟩⟩⟩⟩⟩⟩⟩⟩⟩⟩⟩⟩) w) ((fun w h => (List.mem_append.mp h).elim ((List.forall_mem_cons.mpr ⟨(cl_X5_digest_2 _ (List.mem_of_getElem? (i := 16) rfl)), List.forall_mem_cons.mpr ⟨(cl_X5_digest_2 _ (List.mem_of_getElem? (i := 17) rfl)), List.forall_mem_cons.mpr ⟨(cl_X5_digest_2 _ (List.mem_of_getElem? (i := 18) rfl)), List.forall_mem_cons.mpr ⟨(cl_X5_digest_2 _ (List.mem_of_getElem? (i := 19) rfl)), List.forall_mem_cons.mpr ⟨(cl_X5_digest_2 _ (List.mem_of_getElem? (i := 20) rfl)), List.forall_mem_cons.mpr ⟨(cl_X5_digest_2 _ (List.mem_of_getElem? (i := 21) rfl)), List.forall_mem_cons.mpr ⟨(cl_X5_digest_2 _ (List.mem_of_getElem? (i := 22) rfl)), List.forall_mem_cons.mpr ⟨(cl_X5_digest_2 _ (List.mem_of_getElem? (i := 23) rfl)), List.forall_mem_cons.mpr ⟨(cl_X5_digest_3 _ (List.mem_of_getElem? (i := 0) rfl)), List.forall_mem_cons.mpr ⟨(cl_X5_digest_3 _ (List.mem_of_getElem? (i := 1) rfl)), List.forall_mem_cons.mpr ⟨(cl_X5_digest_3 _ (List.mem_of_getElem? (i := 2) rfl)), List.forall_mem_cons.mpr ⟨(cl_X5_digest_3 _ (List.mem_of_getElem? (i := 3) rfl)), List.forall_mem_cons.mpr ⟨(cl_X5_digest_3 _ (List.mem_of_getElem? (i := 4) rfl)), List.forall_mem_cons.mpr ⟨(cl_X5_digest_3 _ (List.mem_of_getElem? (i := 5) rfl)), List.forall_mem_cons.mpr ⟨(cl_X5_digest_3 _ (List.mem_of_getElem? (i := 6) rfl)), List.forall_mem_cons.mpr ⟨(cl_X5_digest_3 _ (List.mem_of_getElem? (i := 7) rfl)), List.forall_mem_cons.mpr ⟨(cl_X5_digest_3 _ (List.mem_of_getElem? (i := 8) rfl)), List.forall_mem_cons.mpr ⟨(cl_X5_digest_1 _ (List.mem_of_getElem? (i := 5) rfl)), List.forall_mem_cons.mpr ⟨(cl_X5_digest_1 _ (List.mem_of_getElem? (i := 6) rfl)), List.forall_mem_cons.mpr ⟨(cl_X5_digest_1 _ (List.mem_of_getElem? (i := 7) rfl)), List.forall_mem_cons.mpr ⟨(cl_X5_digest_1 _ (List.mem_of_getElem? (i := 8) rfl)), List.forall_mem_cons.mpr ⟨(cl_X5_digest_1 _ (List.mem_of_getElem? (i := 9) rfl)), List.forall_mem_cons.mpr ⟨(cl_X5_digest_3 _ (List.mem_of_getElem? (i := 9) rfl)), List.forall_mem_cons.mpr ⟨(cl_X5_digest_3 _ (List.mem_of_getElem? (i := 10) rfl)), fun _ h => absurd h List.not_mem_nil⟩⟩⟩⟩⟩⟩⟩⟩⟩⟩⟩⟩⟩⟩⟩⟩⟩⟩⟩⟩⟩⟩⟩⟩) w) ((List.forall_mem_cons.mpr ⟨(cl_X5_digest_3 _ (List.mem_of_getElem? (i := 11) rfl)), List.forall_mem_cons.mpr ⟨(cl_X5_digest_3 _ (List.mem_of_getElem? (i := 12) rfl)), List.forall_mem_cons.mpr ⟨(cl_X5_digest_3 _ (List.mem_of_getElem? (i := 13) rfl)), fun _ h => absurd h List.not_mem_nil⟩⟩⟩) w)) w)) w) ((cl_X5_digest_6) w)⟩) (by decide +kernel)
set_option maxRecDepth 20000 in
theorem gX5_digest_X5_addCell : GoodIn wsX5_digest (va_wsS RX5 211 yX5_addCell wsX5_addCell) := goodIn_app (goodIn_sub (List.forall_mem_cons.mpr ⟨(cl_X5_digest_1 _ (List.mem_of_getElem? (i := 14) rfl)), List.forall_mem_cons.mpr ⟨(cl_X5_digest_1 _ (List.mem_of_getElem? (i := 15) rfl)), List.forall_mem_cons.mpr ⟨(cl_X5_digest_1 _ (List.mem_of_getElem? (i := 7) rfl)), fun _ h => absurd h List.not_mem_nil⟩⟩⟩) (by decide +kernel)) ggX5_digest_X5_addCell
set_option maxRecDepth 20000 in
theorem ggX5_digest_X5_addPairs : GoodIn wsX5_digest wsX5_addPairs := goodIn_sub (List.forall_mem_cons.mpr ⟨(cl_X5_digest_3 _ (List.mem_of_getElem? (i := 16) rfl)), fun w h => (List.mem_append.mp h).elim ((fun w h => (List.mem_append.mp h).elim ((List.forall_mem_cons.mpr ⟨(cl_X5_digest_1 _ (List.mem_of_getElem? (i := 3) rfl)), List.forall_mem_cons.mpr ⟨(cl_X5_digest_3 _ (List.mem_of_getElem? (i := 17) rfl)), List.forall_mem_cons.mpr ⟨(cl_X5_digest_3 _ (List.mem_of_getElem? (i := 18) rfl)), List.forall_mem_cons.mpr ⟨(cl_X5_digest_3 _ (List.mem_of_getElem? (i := 19) rfl)), List.forall_mem_cons.mpr ⟨(cl_X5_digest_1 _ (List.mem_of_getElem? (i := 20) rfl)), List.forall_mem_cons.mpr ⟨(cl_X5_digest_3 _ (List.mem_of_getElem? (i := 20) rfl)), List.forall_mem_cons.mpr ⟨(cl_X5_digest_3 _ (List.mem_of_getElem? (i := 21) rfl)), List.forall_mem_cons.mpr ⟨(cl_X5_digest_3 _ (List.mem_of_getElem? (i := 22) rfl)), List.forall_mem_cons.mpr ⟨(cl_X5_digest_3 _ (List.mem_of_getElem? (i := 23) rfl)), List.forall_mem_cons.mpr ⟨(cl_X5_digest_4 _ (List.mem_of_getElem? (i := 0) rfl)), List.forall_mem_cons.mpr ⟨(cl_X5_digest_2 _ (List.mem_of_getElem? (i := 8) rfl)), List.forall_mem_cons.mpr ⟨(cl_X5_digest_3 _ (List.mem_of_getElem? (i := 5) rfl)), List.forall_mem_cons.mpr ⟨(cl_X5_digest_3 _ (List.mem_of_getElem? (i := 6) rfl)), List.forall_mem_cons.mpr ⟨(cl_X5_digest_3 _ (List.mem_of_getElem? (i := 7) rfl)), List.forall_mem_cons.mpr ⟨(cl_X5_digest_3 _ (List.mem_of_getElem? (i := 8) rfl)), List.forall_mem_cons.mpr ⟨(cl_X5_digest_2 _ (List.mem_of_getElem? (i := 9) rfl)), List.forall_mem_cons.mpr ⟨(cl_X5_digest_2 _ (List.mem_of_getElem? (i := 10) rfl)), List.forall_mem_cons.mpr ⟨(cl_X5_digest_2 _ (List.mem_of_getElem? (i := 11) rfl)), List.forall_mem_cons.mpr ⟨(cl_X5_digest_2 _ (List.mem_of_getElem? (i := 12) rfl)), List.forall_mem_cons.mpr ⟨(cl_X5_digest_2 _ (List.mem_of_getElem? (i := 0) rfl)), List.forall_mem_cons.mpr ⟨(cl_X5_digest_1 _ (List.mem_of_getElem? (i := 23) rfl)), List.forall_mem_cons.mpr ⟨(cl_X5_digest_2 _ (List.mem_of_getElem? (i := 4) rfl)), List.forall_mem_cons.mpr ⟨(cl_X5_digest_2 _ (List.mem_of_getElem? (i := 5) rfl)), List.forall_mem_cons.mpr ⟨(cl_X5_digest_2 _ (List.mem_of_getElem? (i := 6) rfl)), fun _ h => absurd h List.not_mem_nil⟩⟩⟩⟩⟩⟩⟩⟩⟩⟩⟩⟩⟩⟩⟩⟩⟩⟩⟩⟩⟩⟩⟩⟩) w) ((List.forall_mem_cons.mpr ⟨(cl_X5_digest_2 _ (List.mem_of_getElem? (i := 7) rfl)), List.forall_mem_cons.mpr ⟨(cl_X5_digest_1 _ (List.mem_of_getElem? (i := 5) rfl)), List.forall_mem_cons.mpr ⟨(cl_X5_digest_1 _ (List.mem_of_getElem? (i := 6) rfl)), List.forall_mem_cons.mpr ⟨(cl_X5_digest_1 _ (List.mem_of_getElem? (i := 7) rfl)), List.forall_mem_cons.mpr ⟨(cl_X5_digest_1 _ (List.mem_of_getElem? (i := 8) rfl)), List.forall_mem_cons.mpr ⟨(cl_X5_digest_1 _ (List.mem_of_getElem? (i := 9) rfl)), List.forall_mem_cons.mpr ⟨(cl_X5_digest_4 _ (List.mem_of_getElem? (i := 1) rfl)), List.forall_mem_cons.mpr ⟨(cl_X5_digest_4 _ (List.mem_of_getElem? (i := 2) rfl)), List.forall_mem_cons.mpr ⟨(cl_X5_digest_4 _ (List.mem_of_getElem? (i := 3) rfl)), List.forall_mem_cons.mpr ⟨(cl_X5_digest_4 _ (List.mem_of_getElem? (i := 4) rfl)), List.forall_mem_cons.mpr ⟨(cl_X5_digest_4 _ (List.mem_of_getElem? (i := 5) rfl)), List.forall_mem_cons.mpr ⟨(cl_X5_digest_4 _ (List.mem_of_getElem? (i := 6) rfl)), List.forall_mem_cons.mpr ⟨(cl_X5_digest_4 _ (List.mem_of_getElem? (i := 7) rfl)), List.forall_mem_cons.mpr ⟨(cl_X5_digest_4 _ (List.mem_of_getElem? (i := 8) rfl)), List.forall_mem_cons.mpr ⟨(cl_X5_digest_4 _ (List.mem_of_getElem? (i := 9) rfl)), List.forall_mem_cons.mpr ⟨(cl_X5_digest_4 _ (List.mem_of_getElem? (i := 10) rfl)), fun _ h => absurd h List.not_mem_nil⟩⟩⟩⟩⟩⟩⟩⟩⟩⟩⟩⟩⟩⟩⟩⟩) w)) w) ((cl_X5_digest_6) w)⟩) (by decide +kernel)
set_option maxRecDepth 20000 in
theorem gX5_digest_X5_addPairs : GoodIn wsX5_digest (va_wsS RX5 215 yX5_addPairs wsX5_addPairs) := goodIn_app (goodIn_sub (List.forall_mem_cons.mpr ⟨(cl_X5_digest_3 _ (List.mem_of_getElem? (i := 14) rfl)), List.forall_mem_cons.mpr ⟨(cl_X5_digest_3 _ (List.mem_of_getElem? (i := 15) rfl)), List.forall_mem_cons.mpr ⟨(cl_X5_digest_1 _ (List.mem_of_getElem? (i := 7) rfl)), fun _ h => absurd h List.not_mem_nil⟩⟩⟩) (by decide +kernel)) ggX5_digest_X5_addPairs
set_option maxRecDepth 20000 in
theorem ggX5_digest_X5_houseOf : GoodIn wsX5_digest wsX5_houseOf := goodIn_sub (List.forall_mem_cons.mpr ⟨(cl_X5_digest_4 _ (List.mem_of_getElem? (i := 14) rfl)), fun w h => (List.mem_append.mp h).elim ((fun w h => (List.mem_append.mp h).elim ((List.forall_mem_cons.mpr ⟨(cl_X5_digest_1 _ (List.mem_of_getElem? (i := 2) rfl)), List.forall_mem_cons.mpr ⟨(cl_X5_digest_4 _ (List.mem_of_getElem? (i := 15) rfl)), List.forall_mem_cons.mpr ⟨(cl_X5_digest_1 _ (List.mem_of_getElem? (i := 4) rfl)), List.forall_mem_cons.mpr ⟨(cl_X5_digest_4 _ (List.mem_of_getElem? (i := 16) rfl)), List.forall_mem_cons.mpr ⟨(cl_X5_digest_4 _ (List.mem_of_getElem? (i := 17) rfl)), fun _ h => absurd h List.not_mem_nil⟩⟩⟩⟩⟩) w) ((cl_X5_digest_5) w)) w) ((cl_X5_digest_6) w)⟩) (by decide +kernel)
set_option maxRecDepth 20000 in
theorem gX5_digest_X5_houseOf : GoodIn wsX5_digest (wsV RX5 197 RX5 yX5_houseOf wsX5_houseOf) := goodIn_app (goodIn_sub (List.forall_mem_cons.mpr ⟨(cl_X5_digest_4 _ (List.mem_of_getElem? (i := 11) rfl)), List.forall_mem_cons.mpr ⟨(cl_X5_digest_4 _ (List.mem_of_getElem? (i := 12) rfl)), List.forall_mem_cons.mpr ⟨(cl_X5_digest_4 _ (List.mem_of_getElem? (i := 13) rfl)), List.forall_mem_cons.mpr ⟨(cl_X5_digest_1 _ (List.mem_of_getElem? (i := 7) rfl)), fun _ h => absurd h List.not_mem_nil⟩⟩⟩⟩) (by decide +kernel)) ggX5_digest_X5_houseOf
noncomputable def dz_p10_50 : List (Nat × Instr × Nat) := [(0, (.aload_n 0, 1)), (1, (.iconst 0, 1)), (2, (.putfield 27, 3)), (5, (.ldc2_w 209, 3)), (8, (.lstore_n 1, 1)), (9, (.iconst 0, 1)), (10, (.istore_n 3, 1)), (11, (.iload_n 3, 1)), (12, (.bipush 8, 2)), (14, (.if_icmp .ge 59, 3)), (17, (.lload_n 1, 1)), (18, (.aload_n 0, 1)), (19, (.getfield 16, 3)), (22, (.getfield 74, 3)), (25, (.iload_n 3, 1)), (26, (.laload, 1)), (27, (.bipush 32, 2)), (29, (.lshr, 1)), (30, (.l2i, 1)), (31, (.i2l, 1)), (32, (.invokestatic 202, 3)), (35, (.aload_n 0, 1)), (36, (.getfield 16, 3)), (39, (.getfield 74, 3)), (42, (.iload_n 3, 1)), (43, (.laload, 1)), (44, (.l2i, 1)), (45, (.i2l, 1)), (46, (.invokestatic 202, 3)), (49, (.aload_n 0, 1)), (50, (.iload_n 3, 1)), (51, (.invokevirtual 175, 3)), (54, (.i2l, 1)), (55, (.invokestatic 202, 3)), (58, (.aload_n 0, 1)), (59, (.getfield 16, 3)), (62, (.iload_n 3, 1)), (63, (.invokestatic 211, 3)), (66, (.lstore_n 1, 1)), (67, (.iinc 3 1, 3))]
theorem dy_p10_50 : dz_ok cX5_digest dz_p10_50 = true := by decide +kernel
theorem dX5_digest_0 : decode cX5_digest 0 = .ok (.aload_n 0, 1) := dz_at (i := 0) dy_p10_50 rfl
theorem dX5_digest_1 : decode cX5_digest 1 = .ok (.iconst 0, 1) := dz_at (i := 1) dy_p10_50 rfl
theorem dX5_digest_2 : decode cX5_digest 2 = .ok (.putfield 27, 3) := dz_at (i := 2) dy_p10_50 rfl
theorem dX5_digest_5 : decode cX5_digest 5 = .ok (.ldc2_w 209, 3) := dz_at (i := 3) dy_p10_50 rfl
theorem dX5_digest_8 : decode cX5_digest 8 = .ok (.lstore_n 1, 1) := dz_at (i := 4) dy_p10_50 rfl
theorem dX5_digest_9 : decode cX5_digest 9 = .ok (.iconst 0, 1) := dz_at (i := 5) dy_p10_50 rfl
theorem dX5_digest_10 : decode cX5_digest 10 = .ok (.istore_n 3, 1) := dz_at (i := 6) dy_p10_50 rfl
theorem dX5_digest_11 : decode cX5_digest 11 = .ok (.iload_n 3, 1) := dz_at (i := 7) dy_p10_50 rfl
theorem dX5_digest_12 : decode cX5_digest 12 = .ok (.bipush 8, 2) := dz_at (i := 8) dy_p10_50 rfl
theorem dX5_digest_14 : decode cX5_digest 14 = .ok (.if_icmp .ge 59, 3) := dz_at (i := 9) dy_p10_50 rfl
theorem dX5_digest_17 : decode cX5_digest 17 = .ok (.lload_n 1, 1) := dz_at (i := 10) dy_p10_50 rfl
theorem dX5_digest_18 : decode cX5_digest 18 = .ok (.aload_n 0, 1) := dz_at (i := 11) dy_p10_50 rfl
theorem dX5_digest_19 : decode cX5_digest 19 = .ok (.getfield 16, 3) := dz_at (i := 12) dy_p10_50 rfl
theorem dX5_digest_22 : decode cX5_digest 22 = .ok (.getfield 74, 3) := dz_at (i := 13) dy_p10_50 rfl
theorem dX5_digest_25 : decode cX5_digest 25 = .ok (.iload_n 3, 1) := dz_at (i := 14) dy_p10_50 rfl
theorem dX5_digest_26 : decode cX5_digest 26 = .ok (.laload, 1) := dz_at (i := 15) dy_p10_50 rfl
theorem dX5_digest_27 : decode cX5_digest 27 = .ok (.bipush 32, 2) := dz_at (i := 16) dy_p10_50 rfl
theorem dX5_digest_29 : decode cX5_digest 29 = .ok (.lshr, 1) := dz_at (i := 17) dy_p10_50 rfl
theorem dX5_digest_30 : decode cX5_digest 30 = .ok (.l2i, 1) := dz_at (i := 18) dy_p10_50 rfl
theorem dX5_digest_31 : decode cX5_digest 31 = .ok (.i2l, 1) := dz_at (i := 19) dy_p10_50 rfl
theorem dX5_digest_32 : decode cX5_digest 32 = .ok (.invokestatic 202, 3) := dz_at (i := 20) dy_p10_50 rfl
theorem dX5_digest_35 : decode cX5_digest 35 = .ok (.aload_n 0, 1) := dz_at (i := 21) dy_p10_50 rfl
theorem dX5_digest_36 : decode cX5_digest 36 = .ok (.getfield 16, 3) := dz_at (i := 22) dy_p10_50 rfl
theorem dX5_digest_39 : decode cX5_digest 39 = .ok (.getfield 74, 3) := dz_at (i := 23) dy_p10_50 rfl
theorem dX5_digest_42 : decode cX5_digest 42 = .ok (.iload_n 3, 1) := dz_at (i := 24) dy_p10_50 rfl
theorem dX5_digest_43 : decode cX5_digest 43 = .ok (.laload, 1) := dz_at (i := 25) dy_p10_50 rfl
theorem dX5_digest_44 : decode cX5_digest 44 = .ok (.l2i, 1) := dz_at (i := 26) dy_p10_50 rfl
theorem dX5_digest_45 : decode cX5_digest 45 = .ok (.i2l, 1) := dz_at (i := 27) dy_p10_50 rfl
theorem dX5_digest_46 : decode cX5_digest 46 = .ok (.invokestatic 202, 3) := dz_at (i := 28) dy_p10_50 rfl
theorem dX5_digest_49 : decode cX5_digest 49 = .ok (.aload_n 0, 1) := dz_at (i := 29) dy_p10_50 rfl
theorem dX5_digest_50 : decode cX5_digest 50 = .ok (.iload_n 3, 1) := dz_at (i := 30) dy_p10_50 rfl
theorem dX5_digest_51 : decode cX5_digest 51 = .ok (.invokevirtual 175, 3) := dz_at (i := 31) dy_p10_50 rfl
theorem dX5_digest_54 : decode cX5_digest 54 = .ok (.i2l, 1) := dz_at (i := 32) dy_p10_50 rfl
theorem dX5_digest_55 : decode cX5_digest 55 = .ok (.invokestatic 202, 3) := dz_at (i := 33) dy_p10_50 rfl
theorem dX5_digest_58 : decode cX5_digest 58 = .ok (.aload_n 0, 1) := dz_at (i := 34) dy_p10_50 rfl
theorem dX5_digest_59 : decode cX5_digest 59 = .ok (.getfield 16, 3) := dz_at (i := 35) dy_p10_50 rfl
theorem dX5_digest_62 : decode cX5_digest 62 = .ok (.iload_n 3, 1) := dz_at (i := 36) dy_p10_50 rfl
theorem dX5_digest_63 : decode cX5_digest 63 = .ok (.invokestatic 211, 3) := dz_at (i := 37) dy_p10_50 rfl
theorem dX5_digest_66 : decode cX5_digest 66 = .ok (.lstore_n 1, 1) := dz_at (i := 38) dy_p10_50 rfl
theorem dX5_digest_67 : decode cX5_digest 67 = .ok (.iinc 3 1, 3) := dz_at (i := 39) dy_p10_50 rfl
noncomputable def dz_p10_51 : List (Nat × Instr × Nat) := [(70, (.goto (-59), 3)), (73, (.iconst 0, 1)), (74, (.istore_n 3, 1)), (75, (.iload_n 3, 1)), (76, (.bipush 8, 2)), (78, (.if_icmp .ge 47, 3)), (81, (.lload_n 1, 1)), (82, (.aload_n 0, 1)), (83, (.getfield 24, 3)), (86, (.getfield 74, 3)), (89, (.iload_n 3, 1)), (90, (.laload, 1)), (91, (.l2i, 1)), (92, (.i2l, 1)), (93, (.invokestatic 202, 3)), (96, (.aload_n 0, 1)), (97, (.getfield 24, 3)), (100, (.getfield 74, 3)), (103, (.iload_n 3, 1)), (104, (.laload, 1)), (105, (.l2i, 1)), (106, (.i2l, 1)), (107, (.invokestatic 202, 3)), (110, (.aload_n 0, 1)), (111, (.getfield 24, 3)), (114, (.iload_n 3, 1)), (115, (.invokestatic 211, 3)), (118, (.lstore_n 1, 1)), (119, (.iinc 3 1, 3)), (122, (.goto (-47), 3)), (125, (.lload_n 1, 1)), (126, (.aload_n 0, 1)), (127, (.getfield 16, 3)), (130, (.invokestatic 215, 3)), (133, (.aload_n 0, 1)), (134, (.getfield 24, 3)), (137, (.invokestatic 215, 3)), (140, (.lstore_n 1, 1)), (141, (.iconst 0, 1)), (142, (.istore_n 3, 1))]
theorem dy_p10_51 : dz_ok cX5_digest dz_p10_51 = true := by decide +kernel
theorem dX5_digest_70 : decode cX5_digest 70 = .ok (.goto (-59), 3) := dz_at (i := 0) dy_p10_51 rfl
theorem dX5_digest_73 : decode cX5_digest 73 = .ok (.iconst 0, 1) := dz_at (i := 1) dy_p10_51 rfl
theorem dX5_digest_74 : decode cX5_digest 74 = .ok (.istore_n 3, 1) := dz_at (i := 2) dy_p10_51 rfl
theorem dX5_digest_75 : decode cX5_digest 75 = .ok (.iload_n 3, 1) := dz_at (i := 3) dy_p10_51 rfl
theorem dX5_digest_76 : decode cX5_digest 76 = .ok (.bipush 8, 2) := dz_at (i := 4) dy_p10_51 rfl
theorem dX5_digest_78 : decode cX5_digest 78 = .ok (.if_icmp .ge 47, 3) := dz_at (i := 5) dy_p10_51 rfl
theorem dX5_digest_81 : decode cX5_digest 81 = .ok (.lload_n 1, 1) := dz_at (i := 6) dy_p10_51 rfl
theorem dX5_digest_82 : decode cX5_digest 82 = .ok (.aload_n 0, 1) := dz_at (i := 7) dy_p10_51 rfl
theorem dX5_digest_83 : decode cX5_digest 83 = .ok (.getfield 24, 3) := dz_at (i := 8) dy_p10_51 rfl
theorem dX5_digest_86 : decode cX5_digest 86 = .ok (.getfield 74, 3) := dz_at (i := 9) dy_p10_51 rfl
theorem dX5_digest_89 : decode cX5_digest 89 = .ok (.iload_n 3, 1) := dz_at (i := 10) dy_p10_51 rfl
theorem dX5_digest_90 : decode cX5_digest 90 = .ok (.laload, 1) := dz_at (i := 11) dy_p10_51 rfl
theorem dX5_digest_91 : decode cX5_digest 91 = .ok (.l2i, 1) := dz_at (i := 12) dy_p10_51 rfl
theorem dX5_digest_92 : decode cX5_digest 92 = .ok (.i2l, 1) := dz_at (i := 13) dy_p10_51 rfl
theorem dX5_digest_93 : decode cX5_digest 93 = .ok (.invokestatic 202, 3) := dz_at (i := 14) dy_p10_51 rfl
theorem dX5_digest_96 : decode cX5_digest 96 = .ok (.aload_n 0, 1) := dz_at (i := 15) dy_p10_51 rfl
theorem dX5_digest_97 : decode cX5_digest 97 = .ok (.getfield 24, 3) := dz_at (i := 16) dy_p10_51 rfl
theorem dX5_digest_100 : decode cX5_digest 100 = .ok (.getfield 74, 3) := dz_at (i := 17) dy_p10_51 rfl
theorem dX5_digest_103 : decode cX5_digest 103 = .ok (.iload_n 3, 1) := dz_at (i := 18) dy_p10_51 rfl
theorem dX5_digest_104 : decode cX5_digest 104 = .ok (.laload, 1) := dz_at (i := 19) dy_p10_51 rfl
theorem dX5_digest_105 : decode cX5_digest 105 = .ok (.l2i, 1) := dz_at (i := 20) dy_p10_51 rfl
theorem dX5_digest_106 : decode cX5_digest 106 = .ok (.i2l, 1) := dz_at (i := 21) dy_p10_51 rfl
theorem dX5_digest_107 : decode cX5_digest 107 = .ok (.invokestatic 202, 3) := dz_at (i := 22) dy_p10_51 rfl
theorem dX5_digest_110 : decode cX5_digest 110 = .ok (.aload_n 0, 1) := dz_at (i := 23) dy_p10_51 rfl
theorem dX5_digest_111 : decode cX5_digest 111 = .ok (.getfield 24, 3) := dz_at (i := 24) dy_p10_51 rfl
theorem dX5_digest_114 : decode cX5_digest 114 = .ok (.iload_n 3, 1) := dz_at (i := 25) dy_p10_51 rfl
theorem dX5_digest_115 : decode cX5_digest 115 = .ok (.invokestatic 211, 3) := dz_at (i := 26) dy_p10_51 rfl
theorem dX5_digest_118 : decode cX5_digest 118 = .ok (.lstore_n 1, 1) := dz_at (i := 27) dy_p10_51 rfl
theorem dX5_digest_119 : decode cX5_digest 119 = .ok (.iinc 3 1, 3) := dz_at (i := 28) dy_p10_51 rfl
theorem dX5_digest_122 : decode cX5_digest 122 = .ok (.goto (-47), 3) := dz_at (i := 29) dy_p10_51 rfl
theorem dX5_digest_125 : decode cX5_digest 125 = .ok (.lload_n 1, 1) := dz_at (i := 30) dy_p10_51 rfl
theorem dX5_digest_126 : decode cX5_digest 126 = .ok (.aload_n 0, 1) := dz_at (i := 31) dy_p10_51 rfl
theorem dX5_digest_127 : decode cX5_digest 127 = .ok (.getfield 16, 3) := dz_at (i := 32) dy_p10_51 rfl
theorem dX5_digest_130 : decode cX5_digest 130 = .ok (.invokestatic 215, 3) := dz_at (i := 33) dy_p10_51 rfl
theorem dX5_digest_133 : decode cX5_digest 133 = .ok (.aload_n 0, 1) := dz_at (i := 34) dy_p10_51 rfl
theorem dX5_digest_134 : decode cX5_digest 134 = .ok (.getfield 24, 3) := dz_at (i := 35) dy_p10_51 rfl
theorem dX5_digest_137 : decode cX5_digest 137 = .ok (.invokestatic 215, 3) := dz_at (i := 36) dy_p10_51 rfl
theorem dX5_digest_140 : decode cX5_digest 140 = .ok (.lstore_n 1, 1) := dz_at (i := 37) dy_p10_51 rfl
theorem dX5_digest_141 : decode cX5_digest 141 = .ok (.iconst 0, 1) := dz_at (i := 38) dy_p10_51 rfl
theorem dX5_digest_142 : decode cX5_digest 142 = .ok (.istore_n 3, 1) := dz_at (i := 39) dy_p10_51 rfl
noncomputable def dz_p10_52 : List (Nat × Instr × Nat) := [(143, (.iload_n 3, 1)), (144, (.iconst 4, 1)), (145, (.if_icmp .ge 20, 3)), (148, (.lload_n 1, 1)), (149, (.aload_n 0, 1)), (150, (.iload_n 3, 1)), (151, (.invokevirtual 197, 3)), (154, (.i2l, 1)), (155, (.invokestatic 202, 3)), (158, (.lstore_n 1, 1)), (159, (.iinc 3 1, 3)), (162, (.goto (-19), 3)), (165, (.lload_n 1, 1)), (166, (.lconst 1, 1)), (167, (.invokestatic 202, 3)), (170, (.lreturn, 1))]
theorem dy_p10_52 : dz_ok cX5_digest dz_p10_52 = true := by decide +kernel
theorem dX5_digest_143 : decode cX5_digest 143 = .ok (.iload_n 3, 1) := dz_at (i := 0) dy_p10_52 rfl
theorem dX5_digest_144 : decode cX5_digest 144 = .ok (.iconst 4, 1) := dz_at (i := 1) dy_p10_52 rfl
theorem dX5_digest_145 : decode cX5_digest 145 = .ok (.if_icmp .ge 20, 3) := dz_at (i := 2) dy_p10_52 rfl
theorem dX5_digest_148 : decode cX5_digest 148 = .ok (.lload_n 1, 1) := dz_at (i := 3) dy_p10_52 rfl
theorem dX5_digest_149 : decode cX5_digest 149 = .ok (.aload_n 0, 1) := dz_at (i := 4) dy_p10_52 rfl
theorem dX5_digest_150 : decode cX5_digest 150 = .ok (.iload_n 3, 1) := dz_at (i := 5) dy_p10_52 rfl
theorem dX5_digest_151 : decode cX5_digest 151 = .ok (.invokevirtual 197, 3) := dz_at (i := 6) dy_p10_52 rfl
theorem dX5_digest_154 : decode cX5_digest 154 = .ok (.i2l, 1) := dz_at (i := 7) dy_p10_52 rfl
theorem dX5_digest_155 : decode cX5_digest 155 = .ok (.invokestatic 202, 3) := dz_at (i := 8) dy_p10_52 rfl
theorem dX5_digest_158 : decode cX5_digest 158 = .ok (.lstore_n 1, 1) := dz_at (i := 9) dy_p10_52 rfl
theorem dX5_digest_159 : decode cX5_digest 159 = .ok (.iinc 3 1, 3) := dz_at (i := 10) dy_p10_52 rfl
theorem dX5_digest_162 : decode cX5_digest 162 = .ok (.goto (-19), 3) := dz_at (i := 11) dy_p10_52 rfl
theorem dX5_digest_165 : decode cX5_digest 165 = .ok (.lload_n 1, 1) := dz_at (i := 12) dy_p10_52 rfl
theorem dX5_digest_166 : decode cX5_digest 166 = .ok (.lconst 1, 1) := dz_at (i := 13) dy_p10_52 rfl
theorem dX5_digest_167 : decode cX5_digest 167 = .ok (.invokestatic 202, 3) := dz_at (i := 14) dy_p10_52 rfl
theorem dX5_digest_170 : decode cX5_digest 170 = .ok (.lreturn, 1) := dz_at (i := 15) dy_p10_52 rfl
noncomputable def L_mda (f1 : Nat → Int64) : Nat → Nat → Int64 → Int64
  | 0, _, v => v
  | nmda + 1, imda, v => L_mda f1 nmda (imda + 1) (o_X5_addCell true f1 (o_X5_add (o_X5_add (o_X5_add v (((jLshr (f1 imda) 32).toInt32).toInt64)) (((f1 imda).toInt32).toInt64)) ((o_X5_hashOf f1 (nI imda)).toInt64)) (nI imda))
noncomputable def L_mdb (f2 : Nat → Int64) : Nat → Nat → Int64 → Int64
  | 0, _, v => v
  | nmdb + 1, imdb, v => L_mdb f2 nmdb (imdb + 1) (o_X5_addCell false f2 (o_X5_add (o_X5_add v (((f2 imdb).toInt32).toInt64)) (((f2 imdb).toInt32).toInt64)) (nI imdb))
noncomputable def L_mdc (a1 : Int32) (a2 : Int32) (rf : Int32) (kn : Int32) : Nat → Nat → Int64 → Int64
  | 0, _, v => v
  | nmdc + 1, imdc, v => L_mdc a1 a2 rf kn nmdc (imdc + 1) (o_X5_add v ((o_X5_houseOf a1 a2 rf kn (nI imdc)).toInt64))
noncomputable def o_X5_digest (a1 : Int32) (f1 : Nat → Int64) (a2 : Int32) (f2 : Nat → Int64) (rf : Int32) (kn : Int32)  : Int64 × Int32 :=
  ((o_X5_add (L_mdc a1 a2 rf kn 4 0 (o_X5_addPairs false f2 (o_X5_addPairs true f1 (L_mdb f2 8 0 (L_mda f1 8 0 7638))))) 1), 0)
set_option maxHeartbeats 4000000 in
set_option maxRecDepth 100000 in
theorem k_X5_digest (l : Launch) (dC : Nat → ClassId) (dI : Nat → Nat → Nat) (cy : ClassId) (h0 : Nat) (h1 : Nat) (hc1 : Nat) (h2 : Nat) (hc2 : Nat) (a1 : Int32) (f1 : Nat → Int64) (a2 : Int32) (f2 : Nat → Int64) (th : Int32) (rf : Int32) (kn : Int32) (sz : Nat) (N : Nat)  (hok2 : okF false f2) : Met l yX5_digest wsX5_digest ({ frames := 5, cells := 0, slots := 0, locals := 117 }) (va_Pc [.ref h0] (xM (dC, dI) xCl [(h0, eM h1 h2 th rf kn), (h1, eMR true hc1 a1), (hc1, eA cy f1), (h2, eMR false hc2 a2), (hc2, eA cy f2)] [(cy, .long)] sz N)) (va_Ql (fun (r : Int64) (_ : Unit) => r = (o_X5_digest a1 f1 a2 f2 rf kn).1) (fun _ t => xW (dC, dI) xCl [(h0, eM h1 h2 (o_X5_digest a1 f1 a2 f2 rf kn).2 rf kn), (h1, eMR true hc1 a1), (hc1, eA cy f1), (h2, eMR false hc2 a2), (hc2, eA cy f2)] (va_A [(h0, eM h1 h2 th rf kn), (h1, eMR true hc1 a1), (hc1, eA cy f1), (h2, eMR false hc2 a2), (hc2, eA cy f2)] sz) t) (va_A [(h0, eM h1 h2 th rf kn), (h1, eMR true hc1 a1), (hc1, eA cy f1), (h2, eMR false hc2 a2), (hc2, eA cy f2)] sz)) 0 0 (va_A [(h0, eM h1 h2 th rf kn), (h1, eMR true hc1 a1), (hc1, eA cy f1), (h2, eMR false hc2 a2), (hc2, eA cy f2)] sz) := by
  refine Met.ofW (cc := cX5_digest) (maxL := 4) (ret := (some .long)) (by decide +kernel) rfl ?_
  intro p e s m args below meth c s₁ B hml hv
  obtain ⟨rfl, hsz, hP, hK, hD0, hN, hG⟩ := hv
  have hx := B.exec
  have hb := B.bytes
  have hr := B.returns
  have hts := atoms_spec (ws := wsX5_digest) B.pre
  have hown : s.vm.findClass RX5 = some m.cls := findClass_of_methodNamed B.named
  have hlocks := B.notSynchronized
  subst hsz
  have hAN : ∀ q, va_A [(h0, eM h1 h2 th rf kn), (h1, eMR true hc1 a1), (hc1, eA cy f1), (h2, eMR false hc2 a2), (hc2, eA cy f2)] s.heap.size q → N ≤ q := xA_N hD0 hN
  have hD := hD0.self (sz := s.heap.size)
  generalize hAe : va_A [(h0, eM h1 h2 th rf kn), (h1, eMR true hc1 a1), (hc1, eA cy f1), (h2, eMR false hc2 a2), (hc2, eA cy f2)] s.heap.size = A at hD hAN ⊢
  have hA : ∀ q : Nat, s.heap.size ≤ q → A q := fun q h => by rw [← hAe]; exact Or.inr h
  have hS : va_S A s.heap s.heap [] := va_S.rf
  have hP : va_P (dC, dI) xCl [(h0, eM h1 h2 th rf kn), (h1, eMR true hc1 a1), (hc1, eA cy f1), (h2, eMR false hc2 a2), (hc2, eA cy f2)] s.heap := hP
  have hl := lv_entry ([.ref h0]) (n := 4) (Nat.le_of_ble_eq_true rfl)
  rw [lg_entry_eq]
  generalize (lg_sl ([.ref h0]) ++ List.replicate (4 - (lg_sl ([.ref h0])).length) Slot.unset).toArray = ls at hl ⊢
  have hl : lv_has ls 4 [(0, .ref h0)] := hl
  refine lv_aload_n hx hb dX5_digest_0 rfl (lv_at hl 0 rfl) ?_
  refine lv_iconst (v := 0) hx hb dX5_digest_1 (by decide +kernel) ?_
  refine va_put (D := (dC, dI)) (ci := 7) (v := .int 0) (ty := .int) (C := RX5) (T := TX5) (N := 5) hx hb hts (by decide +kernel) tyX5 tyX5_ok nmX5 hown hK hP hD hS 0 rfl rfl 2 (by decide +kernel) (hts (.fieldLink RX5 27 "EdgefloatsModel" "thrown" "I") (by decide +kernel)) (fun _ h9 => h9) rfl (by decide +kernel) rfl rfl (Nat.le_of_ble_eq_true rfl) dX5_digest_2 (fun H locs hP hD hS => ?_)
  have hP : va_P (dC, dI) xCl [(h0, eM h1 h2 0 rf kn), (h1, eMR true hc1 a1), (hc1, eA cy f1), (h2, eMR false hc2 a2), (hc2, eA cy f2)] H := hP
  have hD : va_D A [(h0, eM h1 h2 0 rf kn), (h1, eMR true hc1 a1), (hc1, eA cy f1), (h2, eMR false hc2 a2), (hc2, eA cy f2)] := hD
  refine lv_ldc2 (own := RX5) (index := 209) (v := 7638) hx hb hown (hts (.constantLong RX5 209 (7638)) (by decide +kernel)) dX5_digest_5 ?_
  refine lv_lstore_n (lv' := [(1, .long 7638), (0, .ref h0)]) hx hb dX5_digest_8 rfl hl (by decide +kernel) rfl (fun ls hl => ?_)
  refine lv_iconst (v := 0) hx hb dX5_digest_9 (by decide +kernel) ?_
  refine lv_istore_n (lv' := [(3, .int 0), (1, .long 7638), (0, .ref h0)]) hx hb dX5_digest_10 rfl hl (by decide +kernel) rfl (fun ls hl => ?_)
  have loop_mda : ∀ (nmda imda : Nat) (v : Int64) (H : Heap) (locs : List Loc) (ls : Array Slot), imda + nmda = 8 → 0 ≤ imda → (L_mda f1 8 0 7638) = L_mda f1 nmda imda v → va_P (dC, dI) xCl [(h0, eM h1 h2 0 rf kn), (h1, eMR true hc1 a1), (hc1, eA cy f1), (h2, eMR false hc2 a2), (hc2, eA cy f2)] H → va_D A [(h0, eM h1 h2 0 rf kn), (h1, eMR true hc1 a1), (hc1, eA cy f1), (h2, eMR false hc2 a2), (hc2, eA cy f2)] → va_S A s.heap H locs → lv_has ls 4 [(3, .int (nI imda)), (1, .long v), (0, .ref h0)] → (∀ (H : Heap) (locs : List Loc) (ls : Array Slot), va_P (dC, dI) xCl [(h0, eM h1 h2 0 rf kn), (h1, eMR true hc1 a1), (hc1, eA cy f1), (h2, eMR false hc2 a2), (hc2, eA cy f2)] H → va_D A [(h0, eM h1 h2 0 rf kn), (h1, eMR true hc1 a1), (hc1, eA cy f1), (h2, eMR false hc2 a2), (hc2, eA cy f2)] → va_S A s.heap H locs → lv_has ls 4 [(1, .long (L_mda f1 8 0 7638)), (0, .ref h0)] → W p l e (headSpec wsX5_digest ({ frames := 5, cells := 0, slots := 0, locals := 117 } : Room)).room s m ([.ref h0]).toArray below meth c H locs 0 0 (MQ below (va_Ql (fun (r : Int64) (_ : Unit) => r = (o_X5_digest a1 f1 a2 f2 rf kn).1) (fun _ t => xW (dC, dI) xCl [(h0, eM h1 h2 (o_X5_digest a1 f1 a2 f2 rf kn).2 rf kn), (h1, eMR true hc1 a1), (hc1, eA cy f1), (h2, eMR false hc2 a2), (hc2, eA cy f2)] A t) A) ([.ref h0]).toArray s 0 0 A) (F0 m 73 ls [])) → W p l e (headSpec wsX5_digest ({ frames := 5, cells := 0, slots := 0, locals := 117 } : Room)).room s m ([.ref h0]).toArray below meth c H locs 0 0 (MQ below (va_Ql (fun (r : Int64) (_ : Unit) => r = (o_X5_digest a1 f1 a2 f2 rf kn).1) (fun _ t => xW (dC, dI) xCl [(h0, eM h1 h2 (o_X5_digest a1 f1 a2 f2 rf kn).2 rf kn), (h1, eMR true hc1 a1), (hc1, eA cy f1), (h2, eMR false hc2 a2), (hc2, eA cy f2)] A t) A) ([.ref h0]).toArray s 0 0 A) (F0 m 11 ls []) := by
    intro nmda
    induction nmda with
    | zero =>
      intro imda v H locs ls hin_mda his_mda hsp_mda hP hD hS hl K_mda
      have hv : (L_mda f1 8 0 7638) = v := hsp_mda
      subst hv
      have hi8 : imda = 8 := by omega
      refine lv_iload_n hx hb dX5_digest_11 rfl (lv_at hl 0 rfl) ?_
      refine lv_bipush (v := 8) hx hb dX5_digest_12 (by decide +kernel) ?_
      refine lv_icmp_ge (tgt := 73) hx hb dX5_digest_14 (by decide +kernel) (fun c9 => ?_) (fun c9 => absurd (by rw [hi8]; decide) c9)
      exact K_mda _ _ _ hP hD hS (lv_sub hl [1, 2] rfl)
    | succ nmda ih_mda =>
      intro imda v H locs ls hin_mda his_mda hsp_mda hP hD hS hl K_mda
      refine lv_iload_n hx hb dX5_digest_11 rfl (lv_at hl 0 rfl) ?_
      refine lv_bipush (v := 8) hx hb dX5_digest_12 (by decide +kernel) ?_
      refine lv_icmp_ge (tgt := 73) hx hb dX5_digest_14 (by decide +kernel) (fun c9 => absurd c9 (show ¬ (8 : Int32) ≤ nI imda from nI_ge (a := imda) (b := 8) (by omega) (by decide +kernel))) (fun c9 => ?_)
      refine lv_lload_n hx hb dX5_digest_17 rfl (lv_at hl 1 rfl) ?_
      refine lv_aload_n hx hb dX5_digest_18 rfl (lv_at hl 2 rfl) ?_
      refine va_get (D := (dC, dI)) (ci := 7) (v := .ref h1) (C := RX5) (T := TX5) (N := 5) hx hb hts (by decide +kernel) hown hK hP 0 rfl rfl 0 (by decide +kernel) (hts (.fieldLink RX5 16 "EdgefloatsModel" "wide" "LEdgefloatsModel$Row;") (by decide +kernel)) (fun _ h9 => h9) rfl dX5_digest_19 ?_
      refine va_get (D := (dC, dI)) (ci := 6) (v := .ref hc1) (C := RX4) (T := TX4) (N := 5) hx hb hts (by decide +kernel) hown hK hP 1 rfl rfl 3 (by decide +kernel) (hts (.fieldLink RX5 74 "EdgefloatsModel$Row" "cells" "[J") (by decide +kernel)) (fun _ h9 => h9) rfl dX5_digest_22 ?_
      refine lv_iload_n hx hb dX5_digest_25 rfl (lv_at hl 0 rfl) ?_
      refine xa_lald hx hb hK hP 2 0 (f := f1) rfl rfl (k := imda) (vp_in_nI (n := imda) (N := 8) (by omega) (by decide +kernel)) (nI_clamp (n := imda) (by omega)) dX5_digest_26 ?_
      refine lv_bipush (v := 32) hx hb dX5_digest_27 (by decide +kernel) ?_
      refine lv_lshr (v := (jLshr (f1 imda) 32)) hx hb dX5_digest_29 rfl ?_
      refine lv_l2i (v := ((jLshr (f1 imda) 32).toInt32)) hx hb dX5_digest_30 rfl ?_
      refine lv_i2l (v := (((jLshr (f1 imda) 32).toInt32).toInt64)) hx hb dX5_digest_31 rfl ?_
      have hPc := hP.sub (ws' := []) [] rfl
      have hKc := hK.sub (tys' := []) [] rfl
      refine va_calll (va_runS (As := [.long v, .long (((jLshr (f1 imda) 32).toInt32).toInt64)]) (rest := []) ⟨hx, hb, hml, hown, hts⟩ (k_X5_add l dC dI H.size v (((jLshr (f1 imda) 32).toInt32).toInt64)) (va_cwS 2 hts gX5_digest_X5_add rfl rfl rfl (by decide +kernel) ⟨Nat.le_of_ble_eq_true rfl, Nat.le_of_ble_eq_true rfl⟩) (xB.preS hKc hPc) rfl rfl hl.1 rfl (lv_room (Nat.le_of_ble_eq_true rfl)) dX5_digest_32 ⟨Nat.le_of_ble_eq_true rfl, Nat.le_of_ble_eq_true rfl⟩) hS xA_old (fun q h => hA q (Nat.le_trans hS.1 h)) (fun r_1 u t H locs ht hvm hw hB hz hk hS => ?_)
      replace hw : r_1 = (o_X5_add v (((jLshr (f1 imda) 32).toInt32).toInt64)) := hw
      subst r_1
      have hP := xP_keep hP hk
      refine lv_aload_n hx hb dX5_digest_35 rfl (lv_at hl 2 rfl) ?_
      refine va_get (D := (dC, dI)) (ci := 7) (v := .ref h1) (C := RX5) (T := TX5) (N := 5) hx hb hts (by decide +kernel) hown hK hP 0 rfl rfl 0 (by decide +kernel) (hts (.fieldLink RX5 16 "EdgefloatsModel" "wide" "LEdgefloatsModel$Row;") (by decide +kernel)) (fun _ h9 => h9) rfl dX5_digest_36 ?_
      refine va_get (D := (dC, dI)) (ci := 6) (v := .ref hc1) (C := RX4) (T := TX4) (N := 5) hx hb hts (by decide +kernel) hown hK hP 1 rfl rfl 3 (by decide +kernel) (hts (.fieldLink RX5 74 "EdgefloatsModel$Row" "cells" "[J") (by decide +kernel)) (fun _ h9 => h9) rfl dX5_digest_39 ?_
      refine lv_iload_n hx hb dX5_digest_42 rfl (lv_at hl 0 rfl) ?_
      refine xa_lald hx hb hK hP 2 0 (f := f1) rfl rfl (k := imda) (vp_in_nI (n := imda) (N := 8) (by omega) (by decide +kernel)) (nI_clamp (n := imda) (by omega)) dX5_digest_43 ?_
      refine lv_l2i (v := ((f1 imda).toInt32)) hx hb dX5_digest_44 rfl ?_
      refine lv_i2l (v := (((f1 imda).toInt32).toInt64)) hx hb dX5_digest_45 rfl ?_
      have hPc := hP.sub (ws' := []) [] rfl
      have hKc := hK.sub (tys' := []) [] rfl
      refine va_calll (va_runS (As := [.long (o_X5_add v (((jLshr (f1 imda) 32).toInt32).toInt64)), .long (((f1 imda).toInt32).toInt64)]) (rest := []) ⟨hx, hb, hml, hown, hts⟩ (k_X5_add l dC dI H.size (o_X5_add v (((jLshr (f1 imda) 32).toInt32).toInt64)) (((f1 imda).toInt32).toInt64)) (va_cwS 2 hts gX5_digest_X5_add rfl rfl rfl (by decide +kernel) ⟨Nat.le_of_ble_eq_true rfl, Nat.le_of_ble_eq_true rfl⟩) (xB.preS hKc hPc) rfl rfl hl.1 rfl (lv_room (Nat.le_of_ble_eq_true rfl)) dX5_digest_46 ⟨Nat.le_of_ble_eq_true rfl, Nat.le_of_ble_eq_true rfl⟩) hS xA_old (fun q h => hA q (Nat.le_trans hS.1 h)) (fun r_2 u t H locs ht hvm hw hB hz hk hS => ?_)
      replace hw : r_2 = (o_X5_add (o_X5_add v (((jLshr (f1 imda) 32).toInt32).toInt64)) (((f1 imda).toInt32).toInt64)) := hw
      subst r_2
      have hP := xP_keep hP hk
      refine lv_aload_n hx hb dX5_digest_49 rfl (lv_at hl 2 rfl) ?_
      refine lv_iload_n hx hb dX5_digest_50 rfl (lv_at hl 0 rfl) ?_
      have hPc := hP.sub (ws' := [(h0, eM h1 h2 0 rf kn), (h1, eMR true hc1 a1), (hc1, eA cy f1), (h2, eMR false hc2 a2), (hc2, eA cy f2)]) [0, 1, 2, 3, 4] rfl
      have hKc := hK.sub (tys' := [(cy, .long)]) [0] rfl
      refine va_calli (va_runV (As := [.int (nI imda)]) (rest := [.long (o_X5_add (o_X5_add v (((jLshr (f1 imda) 32).toInt32).toInt64)) (((f1 imda).toInt32).toInt64))]) ⟨hx, hb, hml, hown, hts⟩ (k_X5_hashOf l dC dI cy h0 h1 hc1 h2 hc2 a1 f1 a2 f2 0 rf kn H.size (nI imda) (vp_in_nI (n := imda) (N := 8) (by omega) (by decide +kernel))) (cwV 1 hts gX5_digest_X5_hashOf rfl rfl rfl (by decide +kernel) ⟨Nat.le_of_ble_eq_true rfl, Nat.le_of_ble_eq_true rfl⟩) (xB.preV hKc hPc (ci := 7) (q0 := 0) rfl rfl) rfl rfl hl.1 rfl (lv_room (Nat.le_of_ble_eq_true rfl)) dX5_digest_51 ⟨Nat.le_of_ble_eq_true rfl, Nat.le_of_ble_eq_true rfl⟩) hS xA_old (fun q h => hA q (Nat.le_trans hS.1 h)) (fun r_3 u t H locs ht hvm hw hB hz hk hS => ?_)
      replace hw : r_3 = (o_X5_hashOf f1 (nI imda)) := hw
      subst r_3
      have hP := xP_keep hP hk
      refine lv_i2l (v := ((o_X5_hashOf f1 (nI imda)).toInt64)) hx hb dX5_digest_54 rfl ?_
      have hPc := hP.sub (ws' := []) [] rfl
      have hKc := hK.sub (tys' := []) [] rfl
      refine va_calll (va_runS (As := [.long (o_X5_add (o_X5_add v (((jLshr (f1 imda) 32).toInt32).toInt64)) (((f1 imda).toInt32).toInt64)), .long ((o_X5_hashOf f1 (nI imda)).toInt64)]) (rest := []) ⟨hx, hb, hml, hown, hts⟩ (k_X5_add l dC dI H.size (o_X5_add (o_X5_add v (((jLshr (f1 imda) 32).toInt32).toInt64)) (((f1 imda).toInt32).toInt64)) ((o_X5_hashOf f1 (nI imda)).toInt64)) (va_cwS 2 hts gX5_digest_X5_add rfl rfl rfl (by decide +kernel) ⟨Nat.le_of_ble_eq_true rfl, Nat.le_of_ble_eq_true rfl⟩) (xB.preS hKc hPc) rfl rfl hl.1 rfl (lv_room (Nat.le_of_ble_eq_true rfl)) dX5_digest_55 ⟨Nat.le_of_ble_eq_true rfl, Nat.le_of_ble_eq_true rfl⟩) hS xA_old (fun q h => hA q (Nat.le_trans hS.1 h)) (fun r_4 u t H locs ht hvm hw hB hz hk hS => ?_)
      replace hw : r_4 = (o_X5_add (o_X5_add (o_X5_add v (((jLshr (f1 imda) 32).toInt32).toInt64)) (((f1 imda).toInt32).toInt64)) ((o_X5_hashOf f1 (nI imda)).toInt64)) := hw
      subst r_4
      have hP := xP_keep hP hk
      refine lv_aload_n hx hb dX5_digest_58 rfl (lv_at hl 2 rfl) ?_
      refine va_get (D := (dC, dI)) (ci := 7) (v := .ref h1) (C := RX5) (T := TX5) (N := 5) hx hb hts (by decide +kernel) hown hK hP 0 rfl rfl 0 (by decide +kernel) (hts (.fieldLink RX5 16 "EdgefloatsModel" "wide" "LEdgefloatsModel$Row;") (by decide +kernel)) (fun _ h9 => h9) rfl dX5_digest_59 ?_
      refine lv_iload_n hx hb dX5_digest_62 rfl (lv_at hl 0 rfl) ?_
      have hPc := hP.sub (ws' := [(h1, eMR true hc1 a1), (hc1, eA cy f1)]) [1, 2] rfl
      have hKc := hK.sub (tys' := [(cy, .long)]) [0] rfl
      refine va_calll (va_runS (As := [.long (o_X5_add (o_X5_add (o_X5_add v (((jLshr (f1 imda) 32).toInt32).toInt64)) (((f1 imda).toInt32).toInt64)) ((o_X5_hashOf f1 (nI imda)).toInt64)), .ref h1, .int (nI imda)]) (rest := []) ⟨hx, hb, hml, hown, hts⟩ (k_X5_addCell l dC dI cy h1 hc1 true a1 f1 H.size (o_X5_add (o_X5_add (o_X5_add v (((jLshr (f1 imda) 32).toInt32).toInt64)) (((f1 imda).toInt32).toInt64)) ((o_X5_hashOf f1 (nI imda)).toInt64)) (nI imda) (vp_in_nI (n := imda) (N := 8) (by omega) (by decide +kernel)) (okF_true _)) (va_cwS 3 hts gX5_digest_X5_addCell rfl rfl rfl (by decide +kernel) ⟨Nat.le_of_ble_eq_true rfl, Nat.le_of_ble_eq_true rfl⟩) (xB.preS hKc hPc) rfl rfl hl.1 rfl (lv_room (Nat.le_of_ble_eq_true rfl)) dX5_digest_63 ⟨Nat.le_of_ble_eq_true rfl, Nat.le_of_ble_eq_true rfl⟩) hS xA_old (fun q h => hA q (Nat.le_trans hS.1 h)) (fun r_5 u t H locs ht hvm hw hB hz hk hS => ?_)
      replace hw : r_5 = (o_X5_addCell true f1 (o_X5_add (o_X5_add (o_X5_add v (((jLshr (f1 imda) 32).toInt32).toInt64)) (((f1 imda).toInt32).toInt64)) ((o_X5_hashOf f1 (nI imda)).toInt64)) (nI imda)) := hw
      subst r_5
      have hP := xP_keep hP hk
      refine lv_lstore_n (lv' := [(1, .long (o_X5_addCell true f1 (o_X5_add (o_X5_add (o_X5_add v (((jLshr (f1 imda) 32).toInt32).toInt64)) (((f1 imda).toInt32).toInt64)) ((o_X5_hashOf f1 (nI imda)).toInt64)) (nI imda))), (3, .int (nI imda)), (0, .ref h0)]) hx hb dX5_digest_66 rfl hl (by decide +kernel) rfl (fun ls hl => ?_)
      refine lv_iinc (v := (nI (imda + 1))) (lv' := [(3, .int (nI (imda + 1))), (1, .long (o_X5_addCell true f1 (o_X5_add (o_X5_add (o_X5_add v (((jLshr (f1 imda) 32).toInt32).toInt64)) (((f1 imda).toInt32).toInt64)) ((o_X5_hashOf f1 (nI imda)).toInt64)) (nI imda))), (0, .ref h0)]) hx hb dX5_digest_67 hl (k := 1) rfl (nI_1 imda) (by decide +kernel) rfl (fun ls hl => ?_)
      refine lv_goto (tgt := 11) hx hb dX5_digest_70 (by decide +kernel) ?_
      refine W.widen (k := 0) (n := 0) (Nat.le_refl _) (Nat.le_refl _) ?_
      exact ih_mda (imda + 1) (o_X5_addCell true f1 (o_X5_add (o_X5_add (o_X5_add v (((jLshr (f1 imda) 32).toInt32).toInt64)) (((f1 imda).toInt32).toInt64)) ((o_X5_hashOf f1 (nI imda)).toInt64)) (nI imda)) _ _ _ (by omega) (by omega) (hsp_mda.trans (by (rw [L_mda]) <;> rfl)) hP hD hS (lv_sub hl [0, 1, 2] rfl) K_mda
  refine loop_mda 8 0 7638 _ _ _ (by omega) (by omega) rfl hP hD hS (lv_sub hl [0, 1, 2] rfl) (fun H locs ls hP hD hS hl => ?_)
  refine lv_iconst (v := 0) hx hb dX5_digest_73 (by decide +kernel) ?_
  refine lv_istore_n (lv' := [(3, .int 0), (1, .long (L_mda f1 8 0 7638)), (0, .ref h0)]) hx hb dX5_digest_74 rfl hl (by decide +kernel) rfl (fun ls hl => ?_)
  have loop_mdb : ∀ (nmdb imdb : Nat) (v : Int64) (H : Heap) (locs : List Loc) (ls : Array Slot), imdb + nmdb = 8 → 0 ≤ imdb → (L_mdb f2 8 0 (L_mda f1 8 0 7638)) = L_mdb f2 nmdb imdb v → va_P (dC, dI) xCl [(h0, eM h1 h2 0 rf kn), (h1, eMR true hc1 a1), (hc1, eA cy f1), (h2, eMR false hc2 a2), (hc2, eA cy f2)] H → va_D A [(h0, eM h1 h2 0 rf kn), (h1, eMR true hc1 a1), (hc1, eA cy f1), (h2, eMR false hc2 a2), (hc2, eA cy f2)] → va_S A s.heap H locs → lv_has ls 4 [(3, .int (nI imdb)), (1, .long v), (0, .ref h0)] → (∀ (H : Heap) (locs : List Loc) (ls : Array Slot), va_P (dC, dI) xCl [(h0, eM h1 h2 0 rf kn), (h1, eMR true hc1 a1), (hc1, eA cy f1), (h2, eMR false hc2 a2), (hc2, eA cy f2)] H → va_D A [(h0, eM h1 h2 0 rf kn), (h1, eMR true hc1 a1), (hc1, eA cy f1), (h2, eMR false hc2 a2), (hc2, eA cy f2)] → va_S A s.heap H locs → lv_has ls 4 [(1, .long (L_mdb f2 8 0 (L_mda f1 8 0 7638))), (0, .ref h0)] → W p l e (headSpec wsX5_digest ({ frames := 5, cells := 0, slots := 0, locals := 117 } : Room)).room s m ([.ref h0]).toArray below meth c H locs 0 0 (MQ below (va_Ql (fun (r : Int64) (_ : Unit) => r = (o_X5_digest a1 f1 a2 f2 rf kn).1) (fun _ t => xW (dC, dI) xCl [(h0, eM h1 h2 (o_X5_digest a1 f1 a2 f2 rf kn).2 rf kn), (h1, eMR true hc1 a1), (hc1, eA cy f1), (h2, eMR false hc2 a2), (hc2, eA cy f2)] A t) A) ([.ref h0]).toArray s 0 0 A) (F0 m 125 ls [])) → W p l e (headSpec wsX5_digest ({ frames := 5, cells := 0, slots := 0, locals := 117 } : Room)).room s m ([.ref h0]).toArray below meth c H locs 0 0 (MQ below (va_Ql (fun (r : Int64) (_ : Unit) => r = (o_X5_digest a1 f1 a2 f2 rf kn).1) (fun _ t => xW (dC, dI) xCl [(h0, eM h1 h2 (o_X5_digest a1 f1 a2 f2 rf kn).2 rf kn), (h1, eMR true hc1 a1), (hc1, eA cy f1), (h2, eMR false hc2 a2), (hc2, eA cy f2)] A t) A) ([.ref h0]).toArray s 0 0 A) (F0 m 75 ls []) := by
    intro nmdb
    induction nmdb with
    | zero =>
      intro imdb v H locs ls hin_mdb his_mdb hsp_mdb hP hD hS hl K_mdb
      have hv : (L_mdb f2 8 0 (L_mda f1 8 0 7638)) = v := hsp_mdb
      subst hv
      have hi8 : imdb = 8 := by omega
      refine lv_iload_n hx hb dX5_digest_75 rfl (lv_at hl 0 rfl) ?_
      refine lv_bipush (v := 8) hx hb dX5_digest_76 (by decide +kernel) ?_
      refine lv_icmp_ge (tgt := 125) hx hb dX5_digest_78 (by decide +kernel) (fun c9 => ?_) (fun c9 => absurd (by rw [hi8]; decide) c9)
      exact K_mdb _ _ _ hP hD hS (lv_sub hl [1, 2] rfl)
    | succ nmdb ih_mdb =>
      intro imdb v H locs ls hin_mdb his_mdb hsp_mdb hP hD hS hl K_mdb
      refine lv_iload_n hx hb dX5_digest_75 rfl (lv_at hl 0 rfl) ?_
      refine lv_bipush (v := 8) hx hb dX5_digest_76 (by decide +kernel) ?_
      refine lv_icmp_ge (tgt := 125) hx hb dX5_digest_78 (by decide +kernel) (fun c9 => absurd c9 (show ¬ (8 : Int32) ≤ nI imdb from nI_ge (a := imdb) (b := 8) (by omega) (by decide +kernel))) (fun c9 => ?_)
      refine lv_lload_n hx hb dX5_digest_81 rfl (lv_at hl 1 rfl) ?_
      refine lv_aload_n hx hb dX5_digest_82 rfl (lv_at hl 2 rfl) ?_
      refine va_get (D := (dC, dI)) (ci := 7) (v := .ref h2) (C := RX5) (T := TX5) (N := 5) hx hb hts (by decide +kernel) hown hK hP 0 rfl rfl 1 (by decide +kernel) (hts (.fieldLink RX5 24 "EdgefloatsModel" "narrow" "LEdgefloatsModel$Row;") (by decide +kernel)) (fun _ h9 => h9) rfl dX5_digest_83 ?_
      refine va_get (D := (dC, dI)) (ci := 6) (v := .ref hc2) (C := RX4) (T := TX4) (N := 5) hx hb hts (by decide +kernel) hown hK hP 3 rfl rfl 3 (by decide +kernel) (hts (.fieldLink RX5 74 "EdgefloatsModel$Row" "cells" "[J") (by decide +kernel)) (fun _ h9 => h9) rfl dX5_digest_86 ?_
      refine lv_iload_n hx hb dX5_digest_89 rfl (lv_at hl 0 rfl) ?_
      refine xa_lald hx hb hK hP 4 0 (f := f2) rfl rfl (k := imdb) (vp_in_nI (n := imdb) (N := 8) (by omega) (by decide +kernel)) (nI_clamp (n := imdb) (by omega)) dX5_digest_90 ?_
      refine lv_l2i (v := ((f2 imdb).toInt32)) hx hb dX5_digest_91 rfl ?_
      refine lv_i2l (v := (((f2 imdb).toInt32).toInt64)) hx hb dX5_digest_92 rfl ?_
      have hPc := hP.sub (ws' := []) [] rfl
      have hKc := hK.sub (tys' := []) [] rfl
      refine va_calll (va_runS (As := [.long v, .long (((f2 imdb).toInt32).toInt64)]) (rest := []) ⟨hx, hb, hml, hown, hts⟩ (k_X5_add l dC dI H.size v (((f2 imdb).toInt32).toInt64)) (va_cwS 2 hts gX5_digest_X5_add rfl rfl rfl (by decide +kernel) ⟨Nat.le_of_ble_eq_true rfl, Nat.le_of_ble_eq_true rfl⟩) (xB.preS hKc hPc) rfl rfl hl.1 rfl (lv_room (Nat.le_of_ble_eq_true rfl)) dX5_digest_93 ⟨Nat.le_of_ble_eq_true rfl, Nat.le_of_ble_eq_true rfl⟩) hS xA_old (fun q h => hA q (Nat.le_trans hS.1 h)) (fun r_6 u t H locs ht hvm hw hB hz hk hS => ?_)
      replace hw : r_6 = (o_X5_add v (((f2 imdb).toInt32).toInt64)) := hw
      subst r_6
      have hP := xP_keep hP hk
      refine lv_aload_n hx hb dX5_digest_96 rfl (lv_at hl 2 rfl) ?_
      refine va_get (D := (dC, dI)) (ci := 7) (v := .ref h2) (C := RX5) (T := TX5) (N := 5) hx hb hts (by decide +kernel) hown hK hP 0 rfl rfl 1 (by decide +kernel) (hts (.fieldLink RX5 24 "EdgefloatsModel" "narrow" "LEdgefloatsModel$Row;") (by decide +kernel)) (fun _ h9 => h9) rfl dX5_digest_97 ?_
      refine va_get (D := (dC, dI)) (ci := 6) (v := .ref hc2) (C := RX4) (T := TX4) (N := 5) hx hb hts (by decide +kernel) hown hK hP 3 rfl rfl 3 (by decide +kernel) (hts (.fieldLink RX5 74 "EdgefloatsModel$Row" "cells" "[J") (by decide +kernel)) (fun _ h9 => h9) rfl dX5_digest_100 ?_
      refine lv_iload_n hx hb dX5_digest_103 rfl (lv_at hl 0 rfl) ?_
      refine xa_lald hx hb hK hP 4 0 (f := f2) rfl rfl (k := imdb) (vp_in_nI (n := imdb) (N := 8) (by omega) (by decide +kernel)) (nI_clamp (n := imdb) (by omega)) dX5_digest_104 ?_
      refine lv_l2i (v := ((f2 imdb).toInt32)) hx hb dX5_digest_105 rfl ?_
      refine lv_i2l (v := (((f2 imdb).toInt32).toInt64)) hx hb dX5_digest_106 rfl ?_
      have hPc := hP.sub (ws' := []) [] rfl
      have hKc := hK.sub (tys' := []) [] rfl
      refine va_calll (va_runS (As := [.long (o_X5_add v (((f2 imdb).toInt32).toInt64)), .long (((f2 imdb).toInt32).toInt64)]) (rest := []) ⟨hx, hb, hml, hown, hts⟩ (k_X5_add l dC dI H.size (o_X5_add v (((f2 imdb).toInt32).toInt64)) (((f2 imdb).toInt32).toInt64)) (va_cwS 2 hts gX5_digest_X5_add rfl rfl rfl (by decide +kernel) ⟨Nat.le_of_ble_eq_true rfl, Nat.le_of_ble_eq_true rfl⟩) (xB.preS hKc hPc) rfl rfl hl.1 rfl (lv_room (Nat.le_of_ble_eq_true rfl)) dX5_digest_107 ⟨Nat.le_of_ble_eq_true rfl, Nat.le_of_ble_eq_true rfl⟩) hS xA_old (fun q h => hA q (Nat.le_trans hS.1 h)) (fun r_7 u t H locs ht hvm hw hB hz hk hS => ?_)
      replace hw : r_7 = (o_X5_add (o_X5_add v (((f2 imdb).toInt32).toInt64)) (((f2 imdb).toInt32).toInt64)) := hw
      subst r_7
      have hP := xP_keep hP hk
      refine lv_aload_n hx hb dX5_digest_110 rfl (lv_at hl 2 rfl) ?_
      refine va_get (D := (dC, dI)) (ci := 7) (v := .ref h2) (C := RX5) (T := TX5) (N := 5) hx hb hts (by decide +kernel) hown hK hP 0 rfl rfl 1 (by decide +kernel) (hts (.fieldLink RX5 24 "EdgefloatsModel" "narrow" "LEdgefloatsModel$Row;") (by decide +kernel)) (fun _ h9 => h9) rfl dX5_digest_111 ?_
      refine lv_iload_n hx hb dX5_digest_114 rfl (lv_at hl 0 rfl) ?_
      have hPc := hP.sub (ws' := [(h2, eMR false hc2 a2), (hc2, eA cy f2)]) [3, 4] rfl
      have hKc := hK.sub (tys' := [(cy, .long)]) [0] rfl
      refine va_calll (va_runS (As := [.long (o_X5_add (o_X5_add v (((f2 imdb).toInt32).toInt64)) (((f2 imdb).toInt32).toInt64)), .ref h2, .int (nI imdb)]) (rest := []) ⟨hx, hb, hml, hown, hts⟩ (k_X5_addCell l dC dI cy h2 hc2 false a2 f2 H.size (o_X5_add (o_X5_add v (((f2 imdb).toInt32).toInt64)) (((f2 imdb).toInt32).toInt64)) (nI imdb) (vp_in_nI (n := imdb) (N := 8) (by omega) (by decide +kernel)) hok2) (va_cwS 3 hts gX5_digest_X5_addCell rfl rfl rfl (by decide +kernel) ⟨Nat.le_of_ble_eq_true rfl, Nat.le_of_ble_eq_true rfl⟩) (xB.preS hKc hPc) rfl rfl hl.1 rfl (lv_room (Nat.le_of_ble_eq_true rfl)) dX5_digest_115 ⟨Nat.le_of_ble_eq_true rfl, Nat.le_of_ble_eq_true rfl⟩) hS xA_old (fun q h => hA q (Nat.le_trans hS.1 h)) (fun r_8 u t H locs ht hvm hw hB hz hk hS => ?_)
      replace hw : r_8 = (o_X5_addCell false f2 (o_X5_add (o_X5_add v (((f2 imdb).toInt32).toInt64)) (((f2 imdb).toInt32).toInt64)) (nI imdb)) := hw
      subst r_8
      have hP := xP_keep hP hk
      refine lv_lstore_n (lv' := [(1, .long (o_X5_addCell false f2 (o_X5_add (o_X5_add v (((f2 imdb).toInt32).toInt64)) (((f2 imdb).toInt32).toInt64)) (nI imdb))), (3, .int (nI imdb)), (0, .ref h0)]) hx hb dX5_digest_118 rfl hl (by decide +kernel) rfl (fun ls hl => ?_)
      refine lv_iinc (v := (nI (imdb + 1))) (lv' := [(3, .int (nI (imdb + 1))), (1, .long (o_X5_addCell false f2 (o_X5_add (o_X5_add v (((f2 imdb).toInt32).toInt64)) (((f2 imdb).toInt32).toInt64)) (nI imdb))), (0, .ref h0)]) hx hb dX5_digest_119 hl (k := 1) rfl (nI_1 imdb) (by decide +kernel) rfl (fun ls hl => ?_)
      refine lv_goto (tgt := 75) hx hb dX5_digest_122 (by decide +kernel) ?_
      refine W.widen (k := 0) (n := 0) (Nat.le_refl _) (Nat.le_refl _) ?_
      exact ih_mdb (imdb + 1) (o_X5_addCell false f2 (o_X5_add (o_X5_add v (((f2 imdb).toInt32).toInt64)) (((f2 imdb).toInt32).toInt64)) (nI imdb)) _ _ _ (by omega) (by omega) (hsp_mdb.trans (by (rw [L_mdb]) <;> rfl)) hP hD hS (lv_sub hl [0, 1, 2] rfl) K_mdb
  refine loop_mdb 8 0 (L_mda f1 8 0 7638) _ _ _ (by omega) (by omega) rfl hP hD hS (lv_sub hl [0, 1, 2] rfl) (fun H locs ls hP hD hS hl => ?_)
  refine lv_lload_n hx hb dX5_digest_125 rfl (lv_at hl 0 rfl) ?_
  refine lv_aload_n hx hb dX5_digest_126 rfl (lv_at hl 1 rfl) ?_
  refine va_get (D := (dC, dI)) (ci := 7) (v := .ref h1) (C := RX5) (T := TX5) (N := 5) hx hb hts (by decide +kernel) hown hK hP 0 rfl rfl 0 (by decide +kernel) (hts (.fieldLink RX5 16 "EdgefloatsModel" "wide" "LEdgefloatsModel$Row;") (by decide +kernel)) (fun _ h9 => h9) rfl dX5_digest_127 ?_
  have hPc := hP.sub (ws' := [(h1, eMR true hc1 a1), (hc1, eA cy f1)]) [1, 2] rfl
  have hKc := hK.sub (tys' := [(cy, .long)]) [0] rfl
  refine va_calll (va_runS (As := [.long (L_mdb f2 8 0 (L_mda f1 8 0 7638)), .ref h1]) (rest := []) ⟨hx, hb, hml, hown, hts⟩ (k_X5_addPairs l dC dI cy h1 hc1 true a1 f1 H.size (L_mdb f2 8 0 (L_mda f1 8 0 7638))) (va_cwS 2 hts gX5_digest_X5_addPairs rfl rfl rfl (by decide +kernel) ⟨Nat.le_of_ble_eq_true rfl, Nat.le_of_ble_eq_true rfl⟩) (xB.preS hKc hPc) rfl rfl hl.1 rfl (lv_room (Nat.le_of_ble_eq_true rfl)) dX5_digest_130 ⟨Nat.le_of_ble_eq_true rfl, Nat.le_of_ble_eq_true rfl⟩) hS xA_old (fun q h => hA q (Nat.le_trans hS.1 h)) (fun r_9 u t H locs ht hvm hw hB hz hk hS => ?_)
  replace hw : r_9 = (o_X5_addPairs true f1 (L_mdb f2 8 0 (L_mda f1 8 0 7638))) := hw
  subst r_9
  have hP := xP_keep hP hk
  refine lv_aload_n hx hb dX5_digest_133 rfl (lv_at hl 1 rfl) ?_
  refine va_get (D := (dC, dI)) (ci := 7) (v := .ref h2) (C := RX5) (T := TX5) (N := 5) hx hb hts (by decide +kernel) hown hK hP 0 rfl rfl 1 (by decide +kernel) (hts (.fieldLink RX5 24 "EdgefloatsModel" "narrow" "LEdgefloatsModel$Row;") (by decide +kernel)) (fun _ h9 => h9) rfl dX5_digest_134 ?_
  have hPc := hP.sub (ws' := [(h2, eMR false hc2 a2), (hc2, eA cy f2)]) [3, 4] rfl
  have hKc := hK.sub (tys' := [(cy, .long)]) [0] rfl
  refine va_calll (va_runS (As := [.long (o_X5_addPairs true f1 (L_mdb f2 8 0 (L_mda f1 8 0 7638))), .ref h2]) (rest := []) ⟨hx, hb, hml, hown, hts⟩ (k_X5_addPairs l dC dI cy h2 hc2 false a2 f2 H.size (o_X5_addPairs true f1 (L_mdb f2 8 0 (L_mda f1 8 0 7638)))) (va_cwS 2 hts gX5_digest_X5_addPairs rfl rfl rfl (by decide +kernel) ⟨Nat.le_of_ble_eq_true rfl, Nat.le_of_ble_eq_true rfl⟩) (xB.preS hKc hPc) rfl rfl hl.1 rfl (lv_room (Nat.le_of_ble_eq_true rfl)) dX5_digest_137 ⟨Nat.le_of_ble_eq_true rfl, Nat.le_of_ble_eq_true rfl⟩) hS xA_old (fun q h => hA q (Nat.le_trans hS.1 h)) (fun r_10 u t H locs ht hvm hw hB hz hk hS => ?_)
  replace hw : r_10 = (o_X5_addPairs false f2 (o_X5_addPairs true f1 (L_mdb f2 8 0 (L_mda f1 8 0 7638)))) := hw
  subst r_10
  have hP := xP_keep hP hk
  refine lv_lstore_n (lv' := [(1, .long (o_X5_addPairs false f2 (o_X5_addPairs true f1 (L_mdb f2 8 0 (L_mda f1 8 0 7638))))), (0, .ref h0)]) hx hb dX5_digest_140 rfl hl (by decide +kernel) rfl (fun ls hl => ?_)
  refine lv_iconst (v := 0) hx hb dX5_digest_141 (by decide +kernel) ?_
  refine lv_istore_n (lv' := [(3, .int 0), (1, .long (o_X5_addPairs false f2 (o_X5_addPairs true f1 (L_mdb f2 8 0 (L_mda f1 8 0 7638))))), (0, .ref h0)]) hx hb dX5_digest_142 rfl hl (by decide +kernel) rfl (fun ls hl => ?_)
  have loop_mdc : ∀ (nmdc imdc : Nat) (v : Int64) (H : Heap) (locs : List Loc) (ls : Array Slot), imdc + nmdc = 4 → 0 ≤ imdc → (L_mdc a1 a2 rf kn 4 0 (o_X5_addPairs false f2 (o_X5_addPairs true f1 (L_mdb f2 8 0 (L_mda f1 8 0 7638))))) = L_mdc a1 a2 rf kn nmdc imdc v → va_P (dC, dI) xCl [(h0, eM h1 h2 0 rf kn), (h1, eMR true hc1 a1), (hc1, eA cy f1), (h2, eMR false hc2 a2), (hc2, eA cy f2)] H → va_D A [(h0, eM h1 h2 0 rf kn), (h1, eMR true hc1 a1), (hc1, eA cy f1), (h2, eMR false hc2 a2), (hc2, eA cy f2)] → va_S A s.heap H locs → lv_has ls 4 [(3, .int (nI imdc)), (1, .long v), (0, .ref h0)] → (∀ (H : Heap) (locs : List Loc) (ls : Array Slot), va_P (dC, dI) xCl [(h0, eM h1 h2 0 rf kn), (h1, eMR true hc1 a1), (hc1, eA cy f1), (h2, eMR false hc2 a2), (hc2, eA cy f2)] H → va_D A [(h0, eM h1 h2 0 rf kn), (h1, eMR true hc1 a1), (hc1, eA cy f1), (h2, eMR false hc2 a2), (hc2, eA cy f2)] → va_S A s.heap H locs → lv_has ls 4 [(1, .long (L_mdc a1 a2 rf kn 4 0 (o_X5_addPairs false f2 (o_X5_addPairs true f1 (L_mdb f2 8 0 (L_mda f1 8 0 7638)))))), (0, .ref h0)] → W p l e (headSpec wsX5_digest ({ frames := 5, cells := 0, slots := 0, locals := 117 } : Room)).room s m ([.ref h0]).toArray below meth c H locs 0 0 (MQ below (va_Ql (fun (r : Int64) (_ : Unit) => r = (o_X5_digest a1 f1 a2 f2 rf kn).1) (fun _ t => xW (dC, dI) xCl [(h0, eM h1 h2 (o_X5_digest a1 f1 a2 f2 rf kn).2 rf kn), (h1, eMR true hc1 a1), (hc1, eA cy f1), (h2, eMR false hc2 a2), (hc2, eA cy f2)] A t) A) ([.ref h0]).toArray s 0 0 A) (F0 m 165 ls [])) → W p l e (headSpec wsX5_digest ({ frames := 5, cells := 0, slots := 0, locals := 117 } : Room)).room s m ([.ref h0]).toArray below meth c H locs 0 0 (MQ below (va_Ql (fun (r : Int64) (_ : Unit) => r = (o_X5_digest a1 f1 a2 f2 rf kn).1) (fun _ t => xW (dC, dI) xCl [(h0, eM h1 h2 (o_X5_digest a1 f1 a2 f2 rf kn).2 rf kn), (h1, eMR true hc1 a1), (hc1, eA cy f1), (h2, eMR false hc2 a2), (hc2, eA cy f2)] A t) A) ([.ref h0]).toArray s 0 0 A) (F0 m 143 ls []) := by
    intro nmdc
    induction nmdc with
    | zero =>
      intro imdc v H locs ls hin_mdc his_mdc hsp_mdc hP hD hS hl K_mdc
      have hv : (L_mdc a1 a2 rf kn 4 0 (o_X5_addPairs false f2 (o_X5_addPairs true f1 (L_mdb f2 8 0 (L_mda f1 8 0 7638))))) = v := hsp_mdc
      subst hv
      have hi8 : imdc = 4 := by omega
      refine lv_iload_n hx hb dX5_digest_143 rfl (lv_at hl 0 rfl) ?_
      refine lv_iconst (v := 4) hx hb dX5_digest_144 (by decide +kernel) ?_
      refine lv_icmp_ge (tgt := 165) hx hb dX5_digest_145 (by decide +kernel) (fun c9 => ?_) (fun c9 => absurd (by rw [hi8]; decide) c9)
      exact K_mdc _ _ _ hP hD hS (lv_sub hl [1, 2] rfl)
    | succ nmdc ih_mdc =>
      intro imdc v H locs ls hin_mdc his_mdc hsp_mdc hP hD hS hl K_mdc
      refine lv_iload_n hx hb dX5_digest_143 rfl (lv_at hl 0 rfl) ?_
      refine lv_iconst (v := 4) hx hb dX5_digest_144 (by decide +kernel) ?_
      refine lv_icmp_ge (tgt := 165) hx hb dX5_digest_145 (by decide +kernel) (fun c9 => absurd c9 (show ¬ (4 : Int32) ≤ nI imdc from nI_ge (a := imdc) (b := 4) (by omega) (by decide +kernel))) (fun c9 => ?_)
      refine lv_lload_n hx hb dX5_digest_148 rfl (lv_at hl 1 rfl) ?_
      refine lv_aload_n hx hb dX5_digest_149 rfl (lv_at hl 2 rfl) ?_
      refine lv_iload_n hx hb dX5_digest_150 rfl (lv_at hl 0 rfl) ?_
      have hPc := hP.sub (ws' := [(h0, eM h1 h2 0 rf kn), (h1, eMR true hc1 a1), (hc1, eA cy f1), (h2, eMR false hc2 a2), (hc2, eA cy f2)]) [0, 1, 2, 3, 4] rfl
      have hKc := hK.sub (tys' := [(cy, .long)]) [0] rfl
      refine va_calli (va_runV (As := [.int (nI imdc)]) (rest := [.long v]) ⟨hx, hb, hml, hown, hts⟩ (k_X5_houseOf l dC dI cy h0 h1 hc1 h2 hc2 a1 f1 a2 f2 0 rf kn H.size (nI imdc)) (cwV 1 hts gX5_digest_X5_houseOf rfl rfl rfl (by decide +kernel) ⟨Nat.le_of_ble_eq_true rfl, Nat.le_of_ble_eq_true rfl⟩) (xB.preV hKc hPc (ci := 7) (q0 := 0) rfl rfl) rfl rfl hl.1 rfl (lv_room (Nat.le_of_ble_eq_true rfl)) dX5_digest_151 ⟨Nat.le_of_ble_eq_true rfl, Nat.le_of_ble_eq_true rfl⟩) hS xA_old (fun q h => hA q (Nat.le_trans hS.1 h)) (fun r_11 u t H locs ht hvm hw hB hz hk hS => ?_)
      replace hw : r_11 = (o_X5_houseOf a1 a2 rf kn (nI imdc)) := hw
      subst r_11
      have hP := xP_keep hP hk
      refine lv_i2l (v := ((o_X5_houseOf a1 a2 rf kn (nI imdc)).toInt64)) hx hb dX5_digest_154 rfl ?_
      have hPc := hP.sub (ws' := []) [] rfl
      have hKc := hK.sub (tys' := []) [] rfl
      refine va_calll (va_runS (As := [.long v, .long ((o_X5_houseOf a1 a2 rf kn (nI imdc)).toInt64)]) (rest := []) ⟨hx, hb, hml, hown, hts⟩ (k_X5_add l dC dI H.size v ((o_X5_houseOf a1 a2 rf kn (nI imdc)).toInt64)) (va_cwS 2 hts gX5_digest_X5_add rfl rfl rfl (by decide +kernel) ⟨Nat.le_of_ble_eq_true rfl, Nat.le_of_ble_eq_true rfl⟩) (xB.preS hKc hPc) rfl rfl hl.1 rfl (lv_room (Nat.le_of_ble_eq_true rfl)) dX5_digest_155 ⟨Nat.le_of_ble_eq_true rfl, Nat.le_of_ble_eq_true rfl⟩) hS xA_old (fun q h => hA q (Nat.le_trans hS.1 h)) (fun r_12 u t H locs ht hvm hw hB hz hk hS => ?_)
      replace hw : r_12 = (o_X5_add v ((o_X5_houseOf a1 a2 rf kn (nI imdc)).toInt64)) := hw
      subst r_12
      have hP := xP_keep hP hk
      refine lv_lstore_n (lv' := [(1, .long (o_X5_add v ((o_X5_houseOf a1 a2 rf kn (nI imdc)).toInt64))), (3, .int (nI imdc)), (0, .ref h0)]) hx hb dX5_digest_158 rfl hl (by decide +kernel) rfl (fun ls hl => ?_)
      refine lv_iinc (v := (nI (imdc + 1))) (lv' := [(3, .int (nI (imdc + 1))), (1, .long (o_X5_add v ((o_X5_houseOf a1 a2 rf kn (nI imdc)).toInt64))), (0, .ref h0)]) hx hb dX5_digest_159 hl (k := 1) rfl (nI_1 imdc) (by decide +kernel) rfl (fun ls hl => ?_)
      refine lv_goto (tgt := 143) hx hb dX5_digest_162 (by decide +kernel) ?_
      refine W.widen (k := 0) (n := 0) (Nat.le_refl _) (Nat.le_refl _) ?_
      exact ih_mdc (imdc + 1) (o_X5_add v ((o_X5_houseOf a1 a2 rf kn (nI imdc)).toInt64)) _ _ _ (by omega) (by omega) (hsp_mdc.trans (by (rw [L_mdc]) <;> rfl)) hP hD hS (lv_sub hl [0, 1, 2] rfl) K_mdc
  refine loop_mdc 4 0 (o_X5_addPairs false f2 (o_X5_addPairs true f1 (L_mdb f2 8 0 (L_mda f1 8 0 7638)))) _ _ _ (by omega) (by omega) rfl hP hD hS (lv_sub hl [0, 1, 2] rfl) (fun H locs ls hP hD hS hl => ?_)
  refine lv_lload_n hx hb dX5_digest_165 rfl (lv_at hl 0 rfl) ?_
  refine lv_lconst (v := 1) hx hb dX5_digest_166 (by decide +kernel) ?_
  have hPc := hP.sub (ws' := []) [] rfl
  have hKc := hK.sub (tys' := []) [] rfl
  refine va_calll (va_runS (As := [.long (L_mdc a1 a2 rf kn 4 0 (o_X5_addPairs false f2 (o_X5_addPairs true f1 (L_mdb f2 8 0 (L_mda f1 8 0 7638))))), .long 1]) (rest := []) ⟨hx, hb, hml, hown, hts⟩ (k_X5_add l dC dI H.size (L_mdc a1 a2 rf kn 4 0 (o_X5_addPairs false f2 (o_X5_addPairs true f1 (L_mdb f2 8 0 (L_mda f1 8 0 7638))))) 1) (va_cwS 2 hts gX5_digest_X5_add rfl rfl rfl (by decide +kernel) ⟨Nat.le_of_ble_eq_true rfl, Nat.le_of_ble_eq_true rfl⟩) (xB.preS hKc hPc) rfl rfl hl.1 rfl (lv_room (Nat.le_of_ble_eq_true rfl)) dX5_digest_167 ⟨Nat.le_of_ble_eq_true rfl, Nat.le_of_ble_eq_true rfl⟩) hS xA_old (fun q h => hA q (Nat.le_trans hS.1 h)) (fun r_13 u t H locs ht hvm hw hB hz hk hS => ?_)
  replace hw : r_13 = (o_X5_add (L_mdc a1 a2 rf kn 4 0 (o_X5_addPairs false f2 (o_X5_addPairs true f1 (L_mdb f2 8 0 (L_mda f1 8 0 7638))))) 1) := hw
  subst r_13
  have hP := xP_keep hP hk
  have he : o_X5_digest a1 f1 a2 f2 rf kn = ((o_X5_add (L_mdc a1 a2 rf kn 4 0 (o_X5_addPairs false f2 (o_X5_addPairs true f1 (L_mdb f2 8 0 (L_mda f1 8 0 7638))))) 1), 0) := by (rw [o_X5_digest]) <;> rfl
  refine W.widen (k := 0) (n := 0) (by omega) (by omega) ?_
  exact W.lret (v := (o_X5_add (L_mdc a1 a2 rf kn 4 0 (o_X5_addPairs false f2 (o_X5_addPairs true f1 (L_mdb f2 8 0 (L_mda f1 8 0 7638))))) 1)) hx hb hr (fun t ht hW => ⟨⟨_, (), rfl, (by (rw [he]) <;> rfl), (by rw [he]; exact ⟨by rw [ht]; exact hP, hD⟩)⟩, hS.F ht⟩) hS.2.2 dX5_digest_170
