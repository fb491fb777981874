theorem cl_X2_putWide_1 : ∀ w ∈ wsX2_putWide_r1, w ∈ wsX2_putWide := fun _ h => (List.mem_cons_of_mem _ (List.mem_append_left _ (List.mem_append_left _ (List.mem_append_left _ (List.mem_append_left _ (List.mem_append_left _ h))))))
theorem cl_X2_putWide_2 : ∀ w ∈ wsX2_putWide_r2, w ∈ wsX2_putWide := fun _ h => (List.mem_cons_of_mem _ (List.mem_append_left _ (List.mem_append_left _ (List.mem_append_left _ (List.mem_append_left _ (List.mem_append_right _ h))))))
theorem cl_X2_putWide_3 : ∀ w ∈ wsX20, w ∈ wsX2_putWide := fun _ h => (List.mem_cons_of_mem _ (List.mem_append_left _ (List.mem_append_left _ (List.mem_append_left _ (List.mem_append_right _ h)))))
theorem cl_X2_putWide_4 : ∀ w ∈ wsX00, w ∈ wsX2_putWide := fun _ h => (List.mem_cons_of_mem _ (List.mem_append_left _ (List.mem_append_left _ (List.mem_append_right _ h))))
theorem cl_X2_putWide_5 : ∀ w ∈ wsX10, w ∈ wsX2_putWide := fun _ h => (List.mem_cons_of_mem _ (List.mem_append_left _ (List.mem_append_right _ h)))
theorem cl_X2_putWide_6 : ∀ w ∈ (vx_atS RX2 152 "java/lang/IndexOutOfBoundsException" ["java/lang/RuntimeException", "java/lang/Exception"]).filter goodWord, w ∈ wsX2_putWide := fun _ h => (List.mem_cons_of_mem _ (List.mem_append_right _ h))
set_option maxRecDepth 20000 in
theorem ggX2_putWide_X0_put : GoodIn wsX2_putWide wsX0_put := goodIn_sub (List.forall_mem_cons.mpr ⟨(cl_X2_putWide_1 _ (List.mem_of_getElem? (i := 6) rfl)), fun w h => (List.mem_append.mp h).elim ((fun w h => (List.mem_append.mp h).elim ((fun w h => (List.mem_append.mp h).elim ((fun w h => (List.mem_append.mp h).elim ((List.forall_mem_cons.mpr ⟨(cl_X2_putWide_1 _ (List.mem_of_getElem? (i := 7) rfl)), List.forall_mem_cons.mpr ⟨(cl_X2_putWide_1 _ (List.mem_of_getElem? (i := 8) rfl)), List.forall_mem_cons.mpr ⟨(cl_X2_putWide_1 _ (List.mem_of_getElem? (i := 9) rfl)), List.forall_mem_cons.mpr ⟨(cl_X2_putWide_1 _ (List.mem_of_getElem? (i := 10) rfl)), List.forall_mem_cons.mpr ⟨(cl_X2_putWide_1 _ (List.mem_of_getElem? (i := 11) rfl)), List.forall_mem_cons.mpr ⟨(cl_X2_putWide_1 _ (List.mem_of_getElem? (i := 12) rfl)), List.forall_mem_cons.mpr ⟨(cl_X2_putWide_1 _ (List.mem_of_getElem? (i := 13) rfl)), List.forall_mem_cons.mpr ⟨(cl_X2_putWide_1 _ (List.mem_of_getElem? (i := 14) rfl)), List.forall_mem_cons.mpr ⟨(cl_X2_putWide_1 _ (List.mem_of_getElem? (i := 15) rfl)), List.forall_mem_cons.mpr ⟨(cl_X2_putWide_1 _ (List.mem_of_getElem? (i := 16) rfl)), List.forall_mem_cons.mpr ⟨(cl_X2_putWide_1 _ (List.mem_of_getElem? (i := 17) rfl)), List.forall_mem_cons.mpr ⟨(cl_X2_putWide_1 _ (List.mem_of_getElem? (i := 18) rfl)), List.forall_mem_cons.mpr ⟨(cl_X2_putWide_1 _ (List.mem_of_getElem? (i := 19) rfl)), List.forall_mem_cons.mpr ⟨(cl_X2_putWide_1 _ (List.mem_of_getElem? (i := 20) rfl)), List.forall_mem_cons.mpr ⟨(cl_X2_putWide_1 _ (List.mem_of_getElem? (i := 21) rfl)), List.forall_mem_cons.mpr ⟨(cl_X2_putWide_1 _ (List.mem_of_getElem? (i := 22) rfl)), List.forall_mem_cons.mpr ⟨(cl_X2_putWide_1 _ (List.mem_of_getElem? (i := 23) rfl)), List.forall_mem_cons.mpr ⟨(cl_X2_putWide_2 _ (List.mem_of_getElem? (i := 0) rfl)), List.forall_mem_cons.mpr ⟨(cl_X2_putWide_2 _ (List.mem_of_getElem? (i := 1) rfl)), List.forall_mem_cons.mpr ⟨(cl_X2_putWide_2 _ (List.mem_of_getElem? (i := 2) rfl)), List.forall_mem_cons.mpr ⟨(cl_X2_putWide_2 _ (List.mem_of_getElem? (i := 3) rfl)), List.forall_mem_cons.mpr ⟨(cl_X2_putWide_2 _ (List.mem_of_getElem? (i := 4) rfl)), List.forall_mem_cons.mpr ⟨(cl_X2_putWide_2 _ (List.mem_of_getElem? (i := 5) rfl)), List.forall_mem_cons.mpr ⟨(cl_X2_putWide_2 _ (List.mem_of_getElem? (i := 6) rfl)), fun _ h => absurd h List.not_mem_nil⟩⟩⟩⟩⟩⟩⟩⟩⟩⟩⟩⟩⟩⟩⟩⟩⟩⟩⟩⟩⟩⟩⟩⟩) w) ((List.forall_mem_cons.mpr ⟨(cl_X2_putWide_2 _ (List.mem_of_getElem? (i := 7) rfl)), List.forall_mem_cons.mpr ⟨(cl_X2_putWide_1 _ (List.mem_of_getElem? (i := 5) rfl)), List.forall_mem_cons.mpr ⟨(cl_X2_putWide_2 _ (List.mem_of_getElem? (i := 8) rfl)), List.forall_mem_cons.mpr ⟨(cl_X2_putWide_2 _ (List.mem_of_getElem? (i := 9) rfl)), List.forall_mem_cons.mpr ⟨(cl_X2_putWide_2 _ (List.mem_of_getElem? (i := 10) rfl)), List.forall_mem_cons.mpr ⟨(cl_X2_putWide_2 _ (List.mem_of_getElem? (i := 11) rfl)), List.forall_mem_cons.mpr ⟨(cl_X2_putWide_2 _ (List.mem_of_getElem? (i := 12) rfl)), List.forall_mem_cons.mpr ⟨(cl_X2_putWide_2 _ (List.mem_of_getElem? (i := 13) rfl)), List.forall_mem_cons.mpr ⟨(cl_X2_putWide_2 _ (List.mem_of_getElem? (i := 14) rfl)), List.forall_mem_cons.mpr ⟨(cl_X2_putWide_2 _ (List.mem_of_getElem? (i := 15) rfl)), fun _ h => absurd h List.not_mem_nil⟩⟩⟩⟩⟩⟩⟩⟩⟩⟩) w)) w) ((cl_X2_putWide_4) w)) w) ((cl_X2_putWide_5) w)) w) ((cl_X2_putWide_6) w)⟩) (by decide +kernel)
set_option maxRecDepth 20000 in
theorem gX2_putWide_X0_put : GoodIn wsX2_putWide (wsV RX2 30 RX0 yX0_put wsX0_put) := goodIn_app (goodIn_sub (List.forall_mem_cons.mpr ⟨(cl_X2_putWide_1 _ (List.mem_of_getElem? (i := 2) rfl)), List.forall_mem_cons.mpr ⟨(cl_X2_putWide_1 _ (List.mem_of_getElem? (i := 3) rfl)), List.forall_mem_cons.mpr ⟨(cl_X2_putWide_1 _ (List.mem_of_getElem? (i := 4) rfl)), List.forall_mem_cons.mpr ⟨(cl_X2_putWide_1 _ (List.mem_of_getElem? (i := 5) rfl)), fun _ h => absurd h List.not_mem_nil⟩⟩⟩⟩) (by decide +kernel)) ggX2_putWide_X0_put
noncomputable def dz_p13_1 : List (Nat × Instr × Nat) := [(0, (.aload_n 0, 1)), (1, (.getfield 20, 3)), (4, (.iload_n 1, 1)), (5, (.iload_n 2, 1)), (6, (.i2l, 1)), (7, (.bipush 32, 2)), (9, (.lshl, 1)), (10, (.iload_n 3, 1)), (11, (.i2l, 1)), (12, (.ldc2_w 28, 3)), (15, (.land, 1)), (16, (.lor, 1)), (17, (.invokevirtual 30, 3)), (20, (.ireturn, 1))]
theorem dy_p13_1 : dz_ok cX2_putWide dz_p13_1 = true := by decide +kernel
theorem dX2_putWide_0 : decode cX2_putWide 0 = .ok (.aload_n 0, 1) := dz_at (i := 0) dy_p13_1 rfl
theorem dX2_putWide_1 : decode cX2_putWide 1 = .ok (.getfield 20, 3) := dz_at (i := 1) dy_p13_1 rfl
theorem dX2_putWide_4 : decode cX2_putWide 4 = .ok (.iload_n 1, 1) := dz_at (i := 2) dy_p13_1 rfl
theorem dX2_putWide_5 : decode cX2_putWide 5 = .ok (.iload_n 2, 1) := dz_at (i := 3) dy_p13_1 rfl
theorem dX2_putWide_6 : decode cX2_putWide 6 = .ok (.i2l, 1) := dz_at (i := 4) dy_p13_1 rfl
theorem dX2_putWide_7 : decode cX2_putWide 7 = .ok (.bipush 32, 2) := dz_at (i := 5) dy_p13_1 rfl
theorem dX2_putWide_9 : decode cX2_putWide 9 = .ok (.lshl, 1) := dz_at (i := 6) dy_p13_1 rfl
theorem dX2_putWide_10 : decode cX2_putWide 10 = .ok (.iload_n 3, 1) := dz_at (i := 7) dy_p13_1 rfl
theorem dX2_putWide_11 : decode cX2_putWide 11 = .ok (.i2l, 1) := dz_at (i := 8) dy_p13_1 rfl
theorem dX2_putWide_12 : decode cX2_putWide 12 = .ok (.ldc2_w 28, 3) := dz_at (i := 9) dy_p13_1 rfl
theorem dX2_putWide_15 : decode cX2_putWide 15 = .ok (.land, 1) := dz_at (i := 10) dy_p13_1 rfl
theorem dX2_putWide_16 : decode cX2_putWide 16 = .ok (.lor, 1) := dz_at (i := 11) dy_p13_1 rfl
theorem dX2_putWide_17 : decode cX2_putWide 17 = .ok (.invokevirtual 30, 3) := dz_at (i := 12) dy_p13_1 rfl
theorem dX2_putWide_20 : decode cX2_putWide 20 = .ok (.ireturn, 1) := dz_at (i := 13) dy_p13_1 rfl
noncomputable def o_X2_putWide (a1 : Int32) (r1 : Int32) (f1 : Nat → Int64) (p0 : Int32) (p1 : Int32) (p2 : Int32) : Int32 × Int32 × Int32 × Int32 × (Nat → Int64) :=
  if (o_X0_put true a1 r1 f1 p0 ((jLshl p1.toInt64 32) ||| (p2.toInt64 &&& 4294967295))).1 = 0 then (0, (o_X0_put true a1 r1 f1 p0 ((jLshl p1.toInt64 32) ||| (p2.toInt64 &&& 4294967295))).2.1, (o_X0_put true a1 r1 f1 p0 ((jLshl p1.toInt64 32) ||| (p2.toInt64 &&& 4294967295))).2.2.1, (o_X0_put true a1 r1 f1 p0 ((jLshl p1.toInt64 32) ||| (p2.toInt64 &&& 4294967295))).2.2.2.1, (o_X0_put true a1 r1 f1 p0 ((jLshl p1.toInt64 32) ||| (p2.toInt64 &&& 4294967295))).2.2.2.2)
  else ((o_X0_put true a1 r1 f1 p0 ((jLshl p1.toInt64 32) ||| (p2.toInt64 &&& 4294967295))).1, 0, a1, r1, f1)
set_option maxHeartbeats 4000000 in
set_option maxRecDepth 100000 in
theorem k_X2_putWide (l : Launch) (hfl : l.flags = flags0) (dC : Nat → ClassId) (dI : Nat → Nat → Nat) (cy : ClassId) (h0 : Nat) (h1 : Nat) (hw1 : Nat) (hc1 : Nat) (hb1 : Nat) (h2 : Nat) (hw2 : Nat) (hc2 : Nat) (hb2 : Nat) (a1 : Int32) (r1 : Int32) (f1 : Nat → Int64) (g1 : Nat → Int64) (a2 : Int32) (r2 : Int32) (f2 : Nat → Int64) (g2 : Nat → Int64) (kn : Int32) (sz : Nat) (N : Nat) (p0 : Int32) (p1 : Int32) (p2 : Int32) : vx_Met l yX2_putWide wsX2_putWide ({ frames := 8, cells := 1, slots := 6, locals := 143 }) (va_Pc [.ref h0, .int p0, .int p1, .int p2] (xM (dC, dI) xCl [(h0, eE h1 h2 kn), (h1, eR hw1 hc1 hb1 a1 r1), (hw1, eW true), (hc1, eA cy f1), (hb1, eA cy g1), (h2, eR hw2 hc2 hb2 a2 r2), (hw2, eW false), (hc2, eA cy f2), (hb2, eA cy g2)] [(cy, .long)] sz N)) (va_Qi (fun (r : Int32) (_ : Unit) => (o_X2_putWide a1 r1 f1 p0 p1 p2).1 = 0 ∧ r = (o_X2_putWide a1 r1 f1 p0 p1 p2).2.1) (fun _ t => xW (dC, dI) xCl [(h0, eE h1 h2 kn), (h1, eR hw1 hc1 hb1 (o_X2_putWide a1 r1 f1 p0 p1 p2).2.2.1 (o_X2_putWide a1 r1 f1 p0 p1 p2).2.2.2.1), (hw1, eW true), (hc1, eA cy (o_X2_putWide a1 r1 f1 p0 p1 p2).2.2.2.2), (hb1, eA cy g1), (h2, eR hw2 hc2 hb2 a2 r2), (hw2, eW false), (hc2, eA cy f2), (hb2, eA cy g2)] (va_A [(h0, eE h1 h2 kn), (h1, eR hw1 hc1 hb1 a1 r1), (hw1, eW true), (hc1, eA cy f1), (hb1, eA cy g1), (h2, eR hw2 hc2 hb2 a2 r2), (hw2, eW false), (hc2, eA cy f2), (hb2, eA cy g2)] sz) t) (va_A [(h0, eE h1 h2 kn), (h1, eR hw1 hc1 hb1 a1 r1), (hw1, eW true), (hc1, eA cy f1), (hb1, eA cy g1), (h2, eR hw2 hc2 hb2 a2 r2), (hw2, eW false), (hc2, eA cy f2), (hb2, eA cy g2)] sz)) (vx_X (fun _ : Unit => ¬ (o_X2_putWide a1 r1 f1 p0 p1 p2).1 = 0) (fun E _ t => E = xE (o_X2_putWide a1 r1 f1 p0 p1 p2).1 ∧ xW (dC, dI) xCl [(h0, eE h1 h2 kn), (h1, eR hw1 hc1 hb1 a1 r1), (hw1, eW true), (hc1, eA cy f1), (hb1, eA cy g1), (h2, eR hw2 hc2 hb2 a2 r2), (hw2, eW false), (hc2, eA cy f2), (hb2, eA cy g2)] (va_A [(h0, eE h1 h2 kn), (h1, eR hw1 hc1 hb1 a1 r1), (hw1, eW true), (hc1, eA cy f1), (hb1, eA cy g1), (h2, eR hw2 hc2 hb2 a2 r2), (hw2, eW false), (hc2, eA cy f2), (hb2, eA cy g2)] sz) t) (va_A [(h0, eE h1 h2 kn), (h1, eR hw1 hc1 hb1 a1 r1), (hw1, eW true), (hc1, eA cy f1), (hb1, eA cy g1), (h2, eR hw2 hc2 hb2 a2 r2), (hw2, eW false), (hc2, eA cy f2), (hb2, eA cy g2)] sz)) 1 6 (va_A [(h0, eE h1 h2 kn), (h1, eR hw1 hc1 hb1 a1 r1), (hw1, eW true), (hc1, eA cy f1), (hb1, eA cy g1), (h2, eR hw2 hc2 hb2 a2 r2), (hw2, eW false), (hc2, eA cy f2), (hb2, eA cy g2)] sz) := by
  refine vx_ofW (cc := cX2_putWide) (maxL := 4) (ret := (some .int)) (by decide +kernel) rfl ?_
  intro p e s m args below meth c s₁ B hml hno hv
  obtain ⟨rfl, hsz, hP, hK, hD0, hN, hG⟩ := hv
  have hx := B.exec
  have hb := B.bytes
  have hr := B.returns
  have hts := atoms_spec (ws := wsX2_putWide) B.pre
  have hown : s.vm.findClass RX2 = some m.cls := findClass_of_methodNamed B.named
  have hlocks := B.notSynchronized
  subst hsz
  have hAN : ∀ q, va_A [(h0, eE h1 h2 kn), (h1, eR hw1 hc1 hb1 a1 r1), (hw1, eW true), (hc1, eA cy f1), (hb1, eA cy g1), (h2, eR hw2 hc2 hb2 a2 r2), (hw2, eW false), (hc2, eA cy f2), (hb2, eA cy g2)] s.heap.size q → N ≤ q := xA_N hD0 hN
  have hD := hD0.self (sz := s.heap.size)
  generalize hAe : va_A [(h0, eE h1 h2 kn), (h1, eR hw1 hc1 hb1 a1 r1), (hw1, eW true), (hc1, eA cy f1), (hb1, eA cy g1), (h2, eR hw2 hc2 hb2 a2 r2), (hw2, eW false), (hc2, eA cy f2), (hb2, eA cy g2)] s.heap.size = A at hD hAN ⊢
  have hA : ∀ q : Nat, s.heap.size ≤ q → A q := fun q h => by rw [← hAe]; exact Or.inr h
  have hS : va_S A s.heap s.heap [] := va_S.rf
  have hP : va_P (dC, dI) xCl [(h0, eE h1 h2 kn), (h1, eR hw1 hc1 hb1 a1 r1), (hw1, eW true), (hc1, eA cy f1), (hb1, eA cy g1), (h2, eR hw2 hc2 hb2 a2 r2), (hw2, eW false), (hc2, eA cy f2), (hb2, eA cy g2)] s.heap := hP
  have hl := lv_entry ([.ref h0, .int p0, .int p1, .int p2]) (n := 4) (Nat.le_of_ble_eq_true rfl)
  rw [lg_entry_eq]
  generalize (lg_sl ([.ref h0, .int p0, .int p1, .int p2]) ++ List.replicate (4 - (lg_sl ([.ref h0, .int p0, .int p1, .int p2])).length) Slot.unset).toArray = ls at hl ⊢
  have hl : lv_has ls 4 [(0, .ref h0), (1, .int p0), (2, .int p1), (3, .int p2)] := hl
  refine lv_aload_n hx hb dX2_putWide_0 rfl (lv_at hl 0 rfl) ?_
  refine va_get (D := (dC, dI)) (ci := 4) (v := .ref h1) (C := RX2) (T := TX2) (N := 3) hx hb hts (by decide +kernel) hown hK hP 0 rfl rfl 0 (by decide +kernel) (hts (.fieldLink RX2 20 "Edgefloats" "wide" "LEdgefloats$Row;") (by decide +kernel)) (fun _ h9 => h9) rfl dX2_putWide_1 ?_
  refine lv_iload_n hx hb dX2_putWide_4 rfl (lv_at hl 1 rfl) ?_
  refine lv_iload_n hx hb dX2_putWide_5 rfl (lv_at hl 2 rfl) ?_
  refine lv_i2l (v := p1.toInt64) hx hb dX2_putWide_6 rfl ?_
  refine lv_bipush (v := 32) hx hb dX2_putWide_7 (by decide +kernel) ?_
  refine lv_lshl (v := (jLshl p1.toInt64 32)) hx hb dX2_putWide_9 rfl ?_
  refine lv_iload_n hx hb dX2_putWide_10 rfl (lv_at hl 3 rfl) ?_
  refine lv_i2l (v := p2.toInt64) hx hb dX2_putWide_11 rfl ?_
  refine lv_ldc2 (own := RX2) (index := 28) (v := 4294967295) hx hb hown (hts (.constantLong RX2 28 (4294967295)) (by decide +kernel)) dX2_putWide_12 ?_
  refine lv_land hx hb dX2_putWide_15 ?_
  refine lv_lor hx hb dX2_putWide_16 ?_
  have hPc := hP.sub (ws' := [(h1, eR hw1 hc1 hb1 a1 r1), (hw1, eW true), (hc1, eA cy f1), (hb1, eA cy g1)]) [1, 2, 3, 4] rfl
  have hDc := hD.sub (ws' := [(h1, eR hw1 hc1 hb1 a1 r1), (hw1, eW true), (hc1, eA cy f1), (hb1, eA cy g1)]) [1, 2, 3, 4] (by decide +kernel) rfl
  have hKc := hK.sub (tys' := [(cy, .long)]) [0] rfl
  have hFc := va_free (wc := [(h1, eR hw1 hc1 hb1 a1 r1), (hw1, eW true), (hc1, eA cy f1), (hb1, eA cy g1)]) hD hS hA [1, 2, 3, 4] rfl
  refine vx_calli (vx_runV (As := [.int p0, .long ((jLshl p1.toInt64 32) ||| (p2.toInt64 &&& 4294967295))]) (rest := []) ⟨hx, hb, hml, hown, hts⟩ (k_X0_put l hfl dC dI cy h1 hw1 hc1 hb1 true a1 r1 f1 g1 s.heap.size N p0 ((jLshl p1.toInt64 32) ||| (p2.toInt64 &&& 4294967295))) (cwV 2 hts gX2_putWide_X0_put rfl rfl rfl (by decide +kernel) ⟨Nat.le_of_ble_eq_true rfl, Nat.le_of_ble_eq_true rfl⟩) (xM.preV hKc hPc hDc hAN (Nat.le_trans hN hS.1) (hG.kept hS hAN) (ci := 2) (q0 := 0) rfl rfl) rfl rfl hl.1 rfl (lv_room (Nat.le_of_ble_eq_true rfl)) dX2_putWide_17 ⟨Nat.le_of_ble_eq_true rfl, Nat.le_of_ble_eq_true rfl⟩) hS (fun q _ h => hFc q h) hFc (fun q _ h => hFc q h) (fun E ce q9 u9 t H locs ht hvm hpx hbx hz hk hS hce hcv hcl => ?_) (fun r_1 u t H locs ht hvm hw hB hz hk hS => ?_)
  · have c_2 : ¬ (o_X0_put true a1 r1 f1 p0 ((jLshl p1.toInt64 32) ||| (p2.toInt64 &&& 4294967295))).1 = 0 := hpx
    obtain ⟨hbe, hP1, hD1⟩ := hbx
    rw [ht] at hP1
    obtain ⟨hP, hD⟩ := va_join (wr := [(h0, eE h1 h2 kn), (h2, eR hw2 hc2 hb2 a2 r2), (hw2, eW false), (hc2, eA cy f2), (hb2, eA cy g2)]) (w1 := [(h1, eR hw1 hc1 hb1 a1 r1), (hw1, eW true), (hc1, eA cy f1), (hb1, eA cy g1)]) hP hD [1, 2, 3, 4] [0, 5, 6, 7, 8] rfl rfl (by decide +kernel) (by decide +kernel) hk hFc hP1 hD1
    have hP := hP.sub (ws' := [(h0, eE h1 h2 kn), (h1, eR hw1 hc1 hb1 a1 r1), (hw1, eW true), (hc1, eA cy f1), (hb1, eA cy g1), (h2, eR hw2 hc2 hb2 a2 r2), (hw2, eW false), (hc2, eA cy f2), (hb2, eA cy g2)]) [0, 5, 6, 7, 8, 1, 2, 3, 4] rfl
    have hD := hD.sub (ws' := [(h0, eE h1 h2 kn), (h1, eR hw1 hc1 hb1 a1 r1), (hw1, eW true), (hc1, eA cy f1), (hb1, eA cy g1), (h2, eR hw2 hc2 hb2 a2 r2), (hw2, eW false), (hc2, eA cy f2), (hb2, eA cy g2)]) [0, 5, 6, 7, 8, 1, 2, 3, 4] (by decide +kernel) rfl
    have he : o_X2_putWide a1 r1 f1 p0 p1 p2 = ((o_X0_put true a1 r1 f1 p0 ((jLshl p1.toInt64 32) ||| (p2.toInt64 &&& 4294967295))).1, 0, a1, r1, f1) := by (rw [o_X2_putWide, if_neg c_2]) <;> rfl
    exact vx_out (fun x hx => (hno x hx).elim) hlocks hce hcv hcl (fun t ht hvm => ⟨(), by rw [he]; exact c_2, ⟨by rw [he]; exact hbe, by rw [ht]; exact hP, hD⟩, hS.F ht⟩) hS.2.2 (by omega) (by omega)
  · skip
    obtain ⟨c_3, hw⟩ := hw
    have c_3 : (o_X0_put true a1 r1 f1 p0 ((jLshl p1.toInt64 32) ||| (p2.toInt64 &&& 4294967295))).1 = 0 := c_3
    replace hw : r_1 = (o_X0_put true a1 r1 f1 p0 ((jLshl p1.toInt64 32) ||| (p2.toInt64 &&& 4294967295))).2.1 := hw
    subst r_1
    obtain ⟨hP1, hD1⟩ := hB
    rw [ht] at hP1
    obtain ⟨hP, hD⟩ := va_join (wr := [(h0, eE h1 h2 kn), (h2, eR hw2 hc2 hb2 a2 r2), (hw2, eW false), (hc2, eA cy f2), (hb2, eA cy g2)]) (w1 := [(h1, eR hw1 hc1 hb1 (o_X0_put true a1 r1 f1 p0 ((jLshl p1.toInt64 32) ||| (p2.toInt64 &&& 4294967295))).2.2.1 (o_X0_put true a1 r1 f1 p0 ((jLshl p1.toInt64 32) ||| (p2.toInt64 &&& 4294967295))).2.2.2.1), (hw1, eW true), (hc1, eA cy (o_X0_put true a1 r1 f1 p0 ((jLshl p1.toInt64 32) ||| (p2.toInt64 &&& 4294967295))).2.2.2.2), (hb1, eA cy g1)]) hP hD [1, 2, 3, 4] [0, 5, 6, 7, 8] rfl rfl (by decide +kernel) (by decide +kernel) hk hFc hP1 hD1
    have hP := hP.sub (ws' := [(h0, eE h1 h2 kn), (h1, eR hw1 hc1 hb1 (o_X0_put true a1 r1 f1 p0 ((jLshl p1.toInt64 32) ||| (p2.toInt64 &&& 4294967295))).2.2.1 (o_X0_put true a1 r1 f1 p0 ((jLshl p1.toInt64 32) ||| (p2.toInt64 &&& 4294967295))).2.2.2.1), (hw1, eW true), (hc1, eA cy (o_X0_put true a1 r1 f1 p0 ((jLshl p1.toInt64 32) ||| (p2.toInt64 &&& 4294967295))).2.2.2.2), (hb1, eA cy g1), (h2, eR hw2 hc2 hb2 a2 r2), (hw2, eW false), (hc2, eA cy f2), (hb2, eA cy g2)]) [0, 5, 6, 7, 8, 1, 2, 3, 4] rfl
    have hD := hD.sub (ws' := [(h0, eE h1 h2 kn), (h1, eR hw1 hc1 hb1 (o_X0_put true a1 r1 f1 p0 ((jLshl p1.toInt64 32) ||| (p2.toInt64 &&& 4294967295))).2.2.1 (o_X0_put true a1 r1 f1 p0 ((jLshl p1.toInt64 32) ||| (p2.toInt64 &&& 4294967295))).2.2.2.1), (hw1, eW true), (hc1, eA cy (o_X0_put true a1 r1 f1 p0 ((jLshl p1.toInt64 32) ||| (p2.toInt64 &&& 4294967295))).2.2.2.2), (hb1, eA cy g1), (h2, eR hw2 hc2 hb2 a2 r2), (hw2, eW false), (hc2, eA cy f2), (hb2, eA cy g2)]) [0, 5, 6, 7, 8, 1, 2, 3, 4] (by decide +kernel) rfl
    have he : o_X2_putWide a1 r1 f1 p0 p1 p2 = (0, (o_X0_put true a1 r1 f1 p0 ((jLshl p1.toInt64 32) ||| (p2.toInt64 &&& 4294967295))).2.1, (o_X0_put true a1 r1 f1 p0 ((jLshl p1.toInt64 32) ||| (p2.toInt64 &&& 4294967295))).2.2.1, (o_X0_put true a1 r1 f1 p0 ((jLshl p1.toInt64 32) ||| (p2.toInt64 &&& 4294967295))).2.2.2.1, (o_X0_put true a1 r1 f1 p0 ((jLshl p1.toInt64 32) ||| (p2.toInt64 &&& 4294967295))).2.2.2.2) := by (rw [o_X2_putWide, if_pos c_3]) <;> rfl
    refine W.widen (k := 1) (n := 6) (by omega) (by omega) ?_
    refine vx_ret ?_
    exact W.iret (v := ((o_X0_put true a1 r1 f1 p0 ((jLshl p1.toInt64 32) ||| (p2.toInt64 &&& 4294967295))).2.1)) hx hb hr (fun t ht hW => ⟨⟨_, (), rfl, ⟨(by (rw [he]) <;> rfl), (by (rw [he]) <;> rfl)⟩, (by rw [he]; exact ⟨by rw [ht]; exact hP, hD⟩)⟩, hS.F ht⟩) hS.2.2 dX2_putWide_20
theorem cl_X2_wideQuarters_1 : ∀ w ∈ wsX2_wideQuarters_r1, w ∈ wsX2_wideQuarters := fun _ h => (List.mem_cons_of_mem _ (List.mem_append_left _ (List.mem_append_left _ (List.mem_append_left _ (List.mem_append_left _ (List.mem_append_left _ (List.mem_append_left _ h)))))))
theorem cl_X2_wideQuarters_2 : ∀ w ∈ wsX2_wideQuarters_r2, w ∈ wsX2_wideQuarters := fun _ h => (List.mem_cons_of_mem _ (List.mem_append_left _ (List.mem_append_left _ (List.mem_append_left _ (List.mem_append_left _ (List.mem_append_left _ (List.mem_append_right _ h)))))))
theorem cl_X2_wideQuarters_3 : ∀ w ∈ wsX20, w ∈ wsX2_wideQuarters := fun _ h => (List.mem_cons_of_mem _ (List.mem_append_left _ (List.mem_append_left _ (List.mem_append_left _ (List.mem_append_left _ (List.mem_append_right _ h))))))
theorem cl_X2_wideQuarters_4 : ∀ w ∈ wsX00, w ∈ wsX2_wideQuarters := fun _ h => (List.mem_cons_of_mem _ (List.mem_append_left _ (List.mem_append_left _ (List.mem_append_left _ (List.mem_append_right _ h)))))
theorem cl_X2_wideQuarters_5 : ∀ w ∈ wsX10, w ∈ wsX2_wideQuarters := fun _ h => (List.mem_cons_of_mem _ (List.mem_append_left _ (List.mem_append_left _ (List.mem_append_right _ h))))
theorem cl_X2_wideQuarters_6 : ∀ w ∈ (vx_atS RX0 48 "java/lang/IllegalArgumentException" ["java/lang/RuntimeException", "java/lang/Exception"]).filter goodWord, w ∈ wsX2_wideQuarters := fun _ h => (List.mem_cons_of_mem _ (List.mem_append_left _ (List.mem_append_right _ h)))
theorem cl_X2_wideQuarters_7 : ∀ w ∈ (vx_atS RX2 152 "java/lang/IndexOutOfBoundsException" ["java/lang/RuntimeException", "java/lang/Exception"]).filter goodWord, w ∈ wsX2_wideQuarters := fun _ h => (List.mem_cons_of_mem _ (List.mem_append_right _ h))
set_option maxRecDepth 20000 in
theorem ggX2_wideQuarters_X0_putQuarters : GoodIn wsX2_wideQuarters wsX0_putQuarters := goodIn_sub (List.forall_mem_cons.mpr ⟨(cl_X2_wideQuarters_1 _ (List.mem_of_getElem? (i := 5) rfl)), fun w h => (List.mem_append.mp h).elim ((fun w h => (List.mem_append.mp h).elim ((fun w h => (List.mem_append.mp h).elim ((fun w h => (List.mem_append.mp h).elim ((fun w h => (List.mem_append.mp h).elim ((List.forall_mem_cons.mpr ⟨(cl_X2_wideQuarters_1 _ (List.mem_of_getElem? (i := 6) rfl)), List.forall_mem_cons.mpr ⟨(cl_X2_wideQuarters_1 _ (List.mem_of_getElem? (i := 7) rfl)), List.forall_mem_cons.mpr ⟨(cl_X2_wideQuarters_1 _ (List.mem_of_getElem? (i := 8) rfl)), List.forall_mem_cons.mpr ⟨(cl_X2_wideQuarters_1 _ (List.mem_of_getElem? (i := 9) rfl)), List.forall_mem_cons.mpr ⟨(cl_X2_wideQuarters_1 _ (List.mem_of_getElem? (i := 10) rfl)), List.forall_mem_cons.mpr ⟨(cl_X2_wideQuarters_1 _ (List.mem_of_getElem? (i := 11) rfl)), List.forall_mem_cons.mpr ⟨(cl_X2_wideQuarters_1 _ (List.mem_of_getElem? (i := 12) rfl)), List.forall_mem_cons.mpr ⟨(cl_X2_wideQuarters_1 _ (List.mem_of_getElem? (i := 13) rfl)), List.forall_mem_cons.mpr ⟨(cl_X2_wideQuarters_1 _ (List.mem_of_getElem? (i := 14) rfl)), List.forall_mem_cons.mpr ⟨(cl_X2_wideQuarters_1 _ (List.mem_of_getElem? (i := 15) rfl)), List.forall_mem_cons.mpr ⟨(cl_X2_wideQuarters_1 _ (List.mem_of_getElem? (i := 16) rfl)), List.forall_mem_cons.mpr ⟨(cl_X2_wideQuarters_1 _ (List.mem_of_getElem? (i := 17) rfl)), List.forall_mem_cons.mpr ⟨(cl_X2_wideQuarters_1 _ (List.mem_of_getElem? (i := 18) rfl)), List.forall_mem_cons.mpr ⟨(cl_X2_wideQuarters_1 _ (List.mem_of_getElem? (i := 19) rfl)), List.forall_mem_cons.mpr ⟨(cl_X2_wideQuarters_1 _ (List.mem_of_getElem? (i := 20) rfl)), List.forall_mem_cons.mpr ⟨(cl_X2_wideQuarters_1 _ (List.mem_of_getElem? (i := 21) rfl)), List.forall_mem_cons.mpr ⟨(cl_X2_wideQuarters_1 _ (List.mem_of_getElem? (i := 22) rfl)), List.forall_mem_cons.mpr ⟨(cl_X2_wideQuarters_1 _ (List.mem_of_getElem? (i := 23) rfl)), List.forall_mem_cons.mpr ⟨(cl_X2_wideQuarters_2 _ (List.mem_of_getElem? (i := 0) rfl)), List.forall_mem_cons.mpr ⟨(cl_X2_wideQuarters_2 _ (List.mem_of_getElem? (i := 1) rfl)), List.forall_mem_cons.mpr ⟨(cl_X2_wideQuarters_2 _ (List.mem_of_getElem? (i := 2) rfl)), List.forall_mem_cons.mpr ⟨(cl_X2_wideQuarters_2 _ (List.mem_of_getElem? (i := 3) rfl)), List.forall_mem_cons.mpr ⟨(cl_X2_wideQuarters_2 _ (List.mem_of_getElem? (i := 4) rfl)), List.forall_mem_cons.mpr ⟨(cl_X2_wideQuarters_2 _ (List.mem_of_getElem? (i := 5) rfl)), fun _ h => absurd h List.not_mem_nil⟩⟩⟩⟩⟩⟩⟩⟩⟩⟩⟩⟩⟩⟩⟩⟩⟩⟩⟩⟩⟩⟩⟩⟩) w) ((List.forall_mem_cons.mpr ⟨(cl_X2_wideQuarters_1 _ (List.mem_of_getElem? (i := 4) rfl)), List.forall_mem_cons.mpr ⟨(cl_X2_wideQuarters_2 _ (List.mem_of_getElem? (i := 6) rfl)), List.forall_mem_cons.mpr ⟨(cl_X2_wideQuarters_2 _ (List.mem_of_getElem? (i := 7) rfl)), List.forall_mem_cons.mpr ⟨(cl_X2_wideQuarters_2 _ (List.mem_of_getElem? (i := 8) rfl)), fun _ h => absurd h List.not_mem_nil⟩⟩⟩⟩) w)) w) ((cl_X2_wideQuarters_4) w)) w) ((cl_X2_wideQuarters_5) w)) w) ((cl_X2_wideQuarters_6) w)) w) ((cl_X2_wideQuarters_7) w)⟩) (by decide +kernel)
set_option maxRecDepth 20000 in
theorem gX2_wideQuarters_X0_putQuarters : GoodIn wsX2_wideQuarters (wsV RX2 34 RX0 yX0_putQuarters wsX0_putQuarters) := goodIn_app (goodIn_sub (List.forall_mem_cons.mpr ⟨(cl_X2_wideQuarters_1 _ (List.mem_of_getElem? (i := 1) rfl)), List.forall_mem_cons.mpr ⟨(cl_X2_wideQuarters_1 _ (List.mem_of_getElem? (i := 2) rfl)), List.forall_mem_cons.mpr ⟨(cl_X2_wideQuarters_1 _ (List.mem_of_getElem? (i := 3) rfl)), List.forall_mem_cons.mpr ⟨(cl_X2_wideQuarters_1 _ (List.mem_of_getElem? (i := 4) rfl)), fun _ h => absurd h List.not_mem_nil⟩⟩⟩⟩) (by decide +kernel)) ggX2_wideQuarters_X0_putQuarters
noncomputable def dz_p13_2 : List (Nat × Instr × Nat) := [(0, (.aload_n 0, 1)), (1, (.getfield 20, 3)), (4, (.iload_n 1, 1)), (5, (.iload_n 2, 1)), (6, (.invokevirtual 34, 3)), (9, (.ireturn, 1))]
theorem dy_p13_2 : dz_ok cX2_wideQuarters dz_p13_2 = true := by decide +kernel
theorem dX2_wideQuarters_0 : decode cX2_wideQuarters 0 = .ok (.aload_n 0, 1) := dz_at (i := 0) dy_p13_2 rfl
theorem dX2_wideQuarters_1 : decode cX2_wideQuarters 1 = .ok (.getfield 20, 3) := dz_at (i := 1) dy_p13_2 rfl
theorem dX2_wideQuarters_4 : decode cX2_wideQuarters 4 = .ok (.iload_n 1, 1) := dz_at (i := 2) dy_p13_2 rfl
theorem dX2_wideQuarters_5 : decode cX2_wideQuarters 5 = .ok (.iload_n 2, 1) := dz_at (i := 3) dy_p13_2 rfl
theorem dX2_wideQuarters_6 : decode cX2_wideQuarters 6 = .ok (.invokevirtual 34, 3) := dz_at (i := 4) dy_p13_2 rfl
theorem dX2_wideQuarters_9 : decode cX2_wideQuarters 9 = .ok (.ireturn, 1) := dz_at (i := 5) dy_p13_2 rfl
noncomputable def o_X2_wideQuarters (a1 : Int32) (f1 : Nat → Int64) (p0 : Int32) (p1 : Int32) : Int32 × Int32 × Int32 × (Nat → Int64) :=
  if (o_X0_putQuarters true a1 f1 p0 p1).1 = 0 then (0, (o_X0_putQuarters true a1 f1 p0 p1).2.1, (o_X0_putQuarters true a1 f1 p0 p1).2.2.1, (o_X0_putQuarters true a1 f1 p0 p1).2.2.2)
  else ((o_X0_putQuarters true a1 f1 p0 p1).1, 0, a1, f1)
set_option maxHeartbeats 4000000 in
set_option maxRecDepth 100000 in
theorem k_X2_wideQuarters (l : Launch) (hfl : l.flags = flags0) (dC : Nat → ClassId) (dI : Nat → Nat → Nat) (cy : ClassId) (h0 : Nat) (h1 : Nat) (hw1 : Nat) (hc1 : Nat) (hb1 : Nat) (h2 : Nat) (hw2 : Nat) (hc2 : Nat) (hb2 : Nat) (a1 : Int32) (r1 : Int32) (f1 : Nat → Int64) (g1 : Nat → Int64) (a2 : Int32) (r2 : Int32) (f2 : Nat → Int64) (g2 : Nat → Int64) (kn : Int32) (sz : Nat) (N : Nat) (p0 : Int32) (p1 : Int32) : vx_Met l yX2_wideQuarters wsX2_wideQuarters ({ frames := 8, cells := 2, slots := 12, locals := 142 }) (va_Pc [.ref h0, .int p0, .int p1] (xM (dC, dI) xCl [(h0, eE h1 h2 kn), (h1, eR hw1 hc1 hb1 a1 r1), (hw1, eW true), (hc1, eA cy f1), (hb1, eA cy g1), (h2, eR hw2 hc2 hb2 a2 r2), (hw2, eW false), (hc2, eA cy f2), (hb2, eA cy g2)] [(cy, .long)] sz N)) (va_Qi (fun (r : Int32) (_ : Unit) => (o_X2_wideQuarters a1 f1 p0 p1).1 = 0 ∧ r = (o_X2_wideQuarters a1 f1 p0 p1).2.1) (fun _ t => xW (dC, dI) xCl [(h0, eE h1 h2 kn), (h1, eR hw1 hc1 hb1 (o_X2_wideQuarters a1 f1 p0 p1).2.2.1 r1), (hw1, eW true), (hc1, eA cy (o_X2_wideQuarters a1 f1 p0 p1).2.2.2), (hb1, eA cy g1), (h2, eR hw2 hc2 hb2 a2 r2), (hw2, eW false), (hc2, eA cy f2), (hb2, eA cy g2)] (va_A [(h0, eE h1 h2 kn), (h1, eR hw1 hc1 hb1 a1 r1), (hw1, eW true), (hc1, eA cy f1), (hb1, eA cy g1), (h2, eR hw2 hc2 hb2 a2 r2), (hw2, eW false), (hc2, eA cy f2), (hb2, eA cy g2)] sz) t) (va_A [(h0, eE h1 h2 kn), (h1, eR hw1 hc1 hb1 a1 r1), (hw1, eW true), (hc1, eA cy f1), (hb1, eA cy g1), (h2, eR hw2 hc2 hb2 a2 r2), (hw2, eW false), (hc2, eA cy f2), (hb2, eA cy g2)] sz)) (vx_X (fun _ : Unit => ¬ (o_X2_wideQuarters a1 f1 p0 p1).1 = 0) (fun E _ t => E = xE (o_X2_wideQuarters a1 f1 p0 p1).1 ∧ xW (dC, dI) xCl [(h0, eE h1 h2 kn), (h1, eR hw1 hc1 hb1 a1 r1), (hw1, eW true), (hc1, eA cy f1), (hb1, eA cy g1), (h2, eR hw2 hc2 hb2 a2 r2), (hw2, eW false), (hc2, eA cy f2), (hb2, eA cy g2)] (va_A [(h0, eE h1 h2 kn), (h1, eR hw1 hc1 hb1 a1 r1), (hw1, eW true), (hc1, eA cy f1), (hb1, eA cy g1), (h2, eR hw2 hc2 hb2 a2 r2), (hw2, eW false), (hc2, eA cy f2), (hb2, eA cy g2)] sz) t) (va_A [(h0, eE h1 h2 kn), (h1, eR hw1 hc1 hb1 a1 r1), (hw1, eW true), (hc1, eA cy f1), (hb1, eA cy g1), (h2, eR hw2 hc2 hb2 a2 r2), (hw2, eW false), (hc2, eA cy f2), (hb2, eA cy g2)] sz)) 2 12 (va_A [(h0, eE h1 h2 kn), (h1, eR hw1 hc1 hb1 a1 r1), (hw1, eW true), (hc1, eA cy f1), (hb1, eA cy g1), (h2, eR hw2 hc2 hb2 a2 r2), (hw2, eW false), (hc2, eA cy f2), (hb2, eA cy g2)] sz) := by
  refine vx_ofW (cc := cX2_wideQuarters) (maxL := 3) (ret := (some .int)) (by decide +kernel) rfl ?_
  intro p e s m args below meth c s₁ B hml hno hv
  obtain ⟨rfl, hsz, hP, hK, hD0, hN, hG⟩ := hv
  have hx := B.exec
  have hb := B.bytes
  have hr := B.returns
  have hts := atoms_spec (ws := wsX2_wideQuarters) B.pre
  have hown : s.vm.findClass RX2 = some m.cls := findClass_of_methodNamed B.named
  have hlocks := B.notSynchronized
  subst hsz
  have hAN : ∀ q, va_A [(h0, eE h1 h2 kn), (h1, eR hw1 hc1 hb1 a1 r1), (hw1, eW true), (hc1, eA cy f1), (hb1, eA cy g1), (h2, eR hw2 hc2 hb2 a2 r2), (hw2, eW false), (hc2, eA cy f2), (hb2, eA cy g2)] s.heap.size q → N ≤ q := xA_N hD0 hN
  have hD := hD0.self (sz := s.heap.size)
  generalize hAe : va_A [(h0, eE h1 h2 kn), (h1, eR hw1 hc1 hb1 a1 r1), (hw1, eW true), (hc1, eA cy f1), (hb1, eA cy g1), (h2, eR hw2 hc2 hb2 a2 r2), (hw2, eW false), (hc2, eA cy f2), (hb2, eA cy g2)] s.heap.size = A at hD hAN ⊢
  have hA : ∀ q : Nat, s.heap.size ≤ q → A q := fun q h => by rw [← hAe]; exact Or.inr h
  have hS : va_S A s.heap s.heap [] := va_S.rf
  have hP : va_P (dC, dI) xCl [(h0, eE h1 h2 kn), (h1, eR hw1 hc1 hb1 a1 r1), (hw1, eW true), (hc1, eA cy f1), (hb1, eA cy g1), (h2, eR hw2 hc2 hb2 a2 r2), (hw2, eW false), (hc2, eA cy f2), (hb2, eA cy g2)] s.heap := hP
  have hl := lv_entry ([.ref h0, .int p0, .int p1]) (n := 3) (Nat.le_of_ble_eq_true rfl)
  rw [lg_entry_eq]
  generalize (lg_sl ([.ref h0, .int p0, .int p1]) ++ List.replicate (3 - (lg_sl ([.ref h0, .int p0, .int p1])).length) Slot.unset).toArray = ls at hl ⊢
  have hl : lv_has ls 3 [(0, .ref h0), (1, .int p0), (2, .int p1)] := hl
  refine lv_aload_n hx hb dX2_wideQuarters_0 rfl (lv_at hl 0 rfl) ?_
  refine va_get (D := (dC, dI)) (ci := 4) (v := .ref h1) (C := RX2) (T := TX2) (N := 3) hx hb hts (by decide +kernel) hown hK hP 0 rfl rfl 0 (by decide +kernel) (hts (.fieldLink RX2 20 "Edgefloats" "wide" "LEdgefloats$Row;") (by decide +kernel)) (fun _ h9 => h9) rfl dX2_wideQuarters_1 ?_
  refine lv_iload_n hx hb dX2_wideQuarters_4 rfl (lv_at hl 1 rfl) ?_
  refine lv_iload_n hx hb dX2_wideQuarters_5 rfl (lv_at hl 2 rfl) ?_
  have hPc := hP.sub (ws' := [(h1, eR hw1 hc1 hb1 a1 r1), (hw1, eW true), (hc1, eA cy f1), (hb1, eA cy g1)]) [1, 2, 3, 4] rfl
  have hDc := hD.sub (ws' := [(h1, eR hw1 hc1 hb1 a1 r1), (hw1, eW true), (hc1, eA cy f1), (hb1, eA cy g1)]) [1, 2, 3, 4] (by decide +kernel) rfl
  have hKc := hK.sub (tys' := [(cy, .long)]) [0] rfl
  have hFc := va_free (wc := [(h1, eR hw1 hc1 hb1 a1 r1), (hw1, eW true), (hc1, eA cy f1), (hb1, eA cy g1)]) hD hS hA [1, 2, 3, 4] rfl
  refine vx_calli (vx_runV (As := [.int p0, .int p1]) (rest := []) ⟨hx, hb, hml, hown, hts⟩ (k_X0_putQuarters l hfl dC dI cy h1 hw1 hc1 hb1 true a1 r1 f1 g1 s.heap.size N p0 p1) (cwV 2 hts gX2_wideQuarters_X0_putQuarters rfl rfl rfl (by decide +kernel) ⟨Nat.le_of_ble_eq_true rfl, Nat.le_of_ble_eq_true rfl⟩) (xM.preV hKc hPc hDc hAN (Nat.le_trans hN hS.1) (hG.kept hS hAN) (ci := 2) (q0 := 0) rfl rfl) rfl rfl hl.1 rfl (lv_room (Nat.le_of_ble_eq_true rfl)) dX2_wideQuarters_6 ⟨Nat.le_of_ble_eq_true rfl, Nat.le_of_ble_eq_true rfl⟩) hS (fun q _ h => hFc q h) hFc (fun q _ h => hFc q h) (fun E ce q9 u9 t H locs ht hvm hpx hbx hz hk hS hce hcv hcl => ?_) (fun r_1 u t H locs ht hvm hw hB hz hk hS => ?_)
  · have c_2 : ¬ (o_X0_putQuarters true a1 f1 p0 p1).1 = 0 := hpx
    obtain ⟨hbe, hP1, hD1⟩ := hbx
    rw [ht] at hP1
    obtain ⟨hP, hD⟩ := va_join (wr := [(h0, eE h1 h2 kn), (h2, eR hw2 hc2 hb2 a2 r2), (hw2, eW false), (hc2, eA cy f2), (hb2, eA cy g2)]) (w1 := [(h1, eR hw1 hc1 hb1 a1 r1), (hw1, eW true), (hc1, eA cy f1), (hb1, eA cy g1)]) hP hD [1, 2, 3, 4] [0, 5, 6, 7, 8] rfl rfl (by decide +kernel) (by decide +kernel) hk hFc hP1 hD1
    have hP := hP.sub (ws' := [(h0, eE h1 h2 kn), (h1, eR hw1 hc1 hb1 a1 r1), (hw1, eW true), (hc1, eA cy f1), (hb1, eA cy g1), (h2, eR hw2 hc2 hb2 a2 r2), (hw2, eW false), (hc2, eA cy f2), (hb2, eA cy g2)]) [0, 5, 6, 7, 8, 1, 2, 3, 4] rfl
    have hD := hD.sub (ws' := [(h0, eE h1 h2 kn), (h1, eR hw1 hc1 hb1 a1 r1), (hw1, eW true), (hc1, eA cy f1), (hb1, eA cy g1), (h2, eR hw2 hc2 hb2 a2 r2), (hw2, eW false), (hc2, eA cy f2), (hb2, eA cy g2)]) [0, 5, 6, 7, 8, 1, 2, 3, 4] (by decide +kernel) rfl
    have he : o_X2_wideQuarters a1 f1 p0 p1 = ((o_X0_putQuarters true a1 f1 p0 p1).1, 0, a1, f1) := by (rw [o_X2_wideQuarters, if_neg c_2]) <;> rfl
    exact vx_out (fun x hx => (hno x hx).elim) hlocks hce hcv hcl (fun t ht hvm => ⟨(), by rw [he]; exact c_2, ⟨by rw [he]; exact hbe, by rw [ht]; exact hP, hD⟩, hS.F ht⟩) hS.2.2 (by omega) (by omega)
  · skip
    obtain ⟨c_3, hw⟩ := hw
    have c_3 : (o_X0_putQuarters true a1 f1 p0 p1).1 = 0 := c_3
    replace hw : r_1 = (o_X0_putQuarters true a1 f1 p0 p1).2.1 := hw
    subst r_1
    obtain ⟨hP1, hD1⟩ := hB
    rw [ht] at hP1
    obtain ⟨hP, hD⟩ := va_join (wr := [(h0, eE h1 h2 kn), (h2, eR hw2 hc2 hb2 a2 r2), (hw2, eW false), (hc2, eA cy f2), (hb2, eA cy g2)]) (w1 := [(h1, eR hw1 hc1 hb1 (o_X0_putQuarters true a1 f1 p0 p1).2.2.1 r1), (hw1, eW true), (hc1, eA cy (o_X0_putQuarters true a1 f1 p0 p1).2.2.2), (hb1, eA cy g1)]) hP hD [1, 2, 3, 4] [0, 5, 6, 7, 8] rfl rfl (by decide +kernel) (by decide +kernel) hk hFc hP1 hD1
    have hP := hP.sub (ws' := [(h0, eE h1 h2 kn), (h1, eR hw1 hc1 hb1 (o_X0_putQuarters true a1 f1 p0 p1).2.2.1 r1), (hw1, eW true), (hc1, eA cy (o_X0_putQuarters true a1 f1 p0 p1).2.2.2), (hb1, eA cy g1), (h2, eR hw2 hc2 hb2 a2 r2), (hw2, eW false), (hc2, eA cy f2), (hb2, eA cy g2)]) [0, 5, 6, 7, 8, 1, 2, 3, 4] rfl
    have hD := hD.sub (ws' := [(h0, eE h1 h2 kn), (h1, eR hw1 hc1 hb1 (o_X0_putQuarters true a1 f1 p0 p1).2.2.1 r1), (hw1, eW true), (hc1, eA cy (o_X0_putQuarters true a1 f1 p0 p1).2.2.2), (hb1, eA cy g1), (h2, eR hw2 hc2 hb2 a2 r2), (hw2, eW false), (hc2, eA cy f2), (hb2, eA cy g2)]) [0, 5, 6, 7, 8, 1, 2, 3, 4] (by decide +kernel) rfl
    have he : o_X2_wideQuarters a1 f1 p0 p1 = (0, (o_X0_putQuarters true a1 f1 p0 p1).2.1, (o_X0_putQuarters true a1 f1 p0 p1).2.2.1, (o_X0_putQuarters true a1 f1 p0 p1).2.2.2) := by (rw [o_X2_wideQuarters, if_pos c_3]) <;> rfl
    refine W.widen (k := 2) (n := 12) (by omega) (by omega) ?_
    refine vx_ret ?_
    exact W.iret (v := ((o_X0_putQuarters true a1 f1 p0 p1).2.1)) hx hb hr (fun t ht hW => ⟨⟨_, (), rfl, ⟨(by (rw [he]) <;> rfl), (by (rw [he]) <;> rfl)⟩, (by rw [he]; exact ⟨by rw [ht]; exact hP, hD⟩)⟩, hS.F ht⟩) hS.2.2 dX2_wideQuarters_9
theorem cl_X2_wideKnown_1 : ∀ w ∈ wsX2_wideKnown_r1, w ∈ wsX2_wideKnown := fun _ h => (List.mem_cons_of_mem _ (List.mem_append_left _ (List.mem_append_left _ (List.mem_append_left _ (List.mem_append_left _ (List.mem_append_left _ (List.mem_append_left _ h)))))))
theorem cl_X2_wideKnown_2 : ∀ w ∈ wsX2_wideKnown_r2, w ∈ wsX2_wideKnown := fun _ h => (List.mem_cons_of_mem _ (List.mem_append_left _ (List.mem_append_left _ (List.mem_append_left _ (List.mem_append_left _ (List.mem_append_left _ (List.mem_append_right _ h)))))))
theorem cl_X2_wideKnown_3 : ∀ w ∈ wsX20, w ∈ wsX2_wideKnown := fun _ h => (List.mem_cons_of_mem _ (List.mem_append_left _ (List.mem_append_left _ (List.mem_append_left _ (List.mem_append_left _ (List.mem_append_right _ h))))))
theorem cl_X2_wideKnown_4 : ∀ w ∈ wsX00, w ∈ wsX2_wideKnown := fun _ h => (List.mem_cons_of_mem _ (List.mem_append_left _ (List.mem_append_left _ (List.mem_append_left _ (List.mem_append_right _ h)))))
theorem cl_X2_wideKnown_5 : ∀ w ∈ wsX10, w ∈ wsX2_wideKnown := fun _ h => (List.mem_cons_of_mem _ (List.mem_append_left _ (List.mem_append_left _ (List.mem_append_right _ h))))
theorem cl_X2_wideKnown_6 : ∀ w ∈ (vx_atS RX2 152 "java/lang/IndexOutOfBoundsException" ["java/lang/RuntimeException", "java/lang/Exception"]).filter goodWord, w ∈ wsX2_wideKnown := fun _ h => (List.mem_cons_of_mem _ (List.mem_append_left _ (List.mem_append_right _ h)))
theorem cl_X2_wideKnown_7 : ∀ w ∈ (vx_atS RX2 159 "java/lang/IllegalArgumentException" ["java/lang/RuntimeException", "java/lang/Exception"]).filter goodWord, w ∈ wsX2_wideKnown := fun _ h => (List.mem_cons_of_mem _ (List.mem_append_right _ h))
set_option maxRecDepth 20000 in
theorem ggX2_wideKnown_X0_putKnown : GoodIn wsX2_wideKnown wsX0_putKnown := goodIn_sub (List.forall_mem_cons.mpr ⟨(cl_X2_wideKnown_1 _ (List.mem_of_getElem? (i := 5) rfl)), fun w h => (List.mem_append.mp h).elim ((fun w h => (List.mem_append.mp h).elim ((fun w h => (List.mem_append.mp h).elim ((fun w h => (List.mem_append.mp h).elim ((fun w h => (List.mem_append.mp h).elim ((List.forall_mem_cons.mpr ⟨(cl_X2_wideKnown_1 _ (List.mem_of_getElem? (i := 6) rfl)), List.forall_mem_cons.mpr ⟨(cl_X2_wideKnown_1 _ (List.mem_of_getElem? (i := 7) rfl)), List.forall_mem_cons.mpr ⟨(cl_X2_wideKnown_1 _ (List.mem_of_getElem? (i := 8) rfl)), List.forall_mem_cons.mpr ⟨(cl_X2_wideKnown_1 _ (List.mem_of_getElem? (i := 9) rfl)), List.forall_mem_cons.mpr ⟨(cl_X2_wideKnown_1 _ (List.mem_of_getElem? (i := 10) rfl)), List.forall_mem_cons.mpr ⟨(cl_X2_wideKnown_1 _ (List.mem_of_getElem? (i := 11) rfl)), List.forall_mem_cons.mpr ⟨(cl_X2_wideKnown_1 _ (List.mem_of_getElem? (i := 12) rfl)), List.forall_mem_cons.mpr ⟨(cl_X2_wideKnown_1 _ (List.mem_of_getElem? (i := 13) rfl)), List.forall_mem_cons.mpr ⟨(cl_X2_wideKnown_1 _ (List.mem_of_getElem? (i := 14) rfl)), List.forall_mem_cons.mpr ⟨(cl_X2_wideKnown_1 _ (List.mem_of_getElem? (i := 15) rfl)), List.forall_mem_cons.mpr ⟨(cl_X2_wideKnown_1 _ (List.mem_of_getElem? (i := 16) rfl)), List.forall_mem_cons.mpr ⟨(cl_X2_wideKnown_1 _ (List.mem_of_getElem? (i := 17) rfl)), List.forall_mem_cons.mpr ⟨(cl_X2_wideKnown_1 _ (List.mem_of_getElem? (i := 18) rfl)), List.forall_mem_cons.mpr ⟨(cl_X2_wideKnown_1 _ (List.mem_of_getElem? (i := 19) rfl)), List.forall_mem_cons.mpr ⟨(cl_X2_wideKnown_1 _ (List.mem_of_getElem? (i := 20) rfl)), List.forall_mem_cons.mpr ⟨(cl_X2_wideKnown_1 _ (List.mem_of_getElem? (i := 21) rfl)), List.forall_mem_cons.mpr ⟨(cl_X2_wideKnown_1 _ (List.mem_of_getElem? (i := 22) rfl)), List.forall_mem_cons.mpr ⟨(cl_X2_wideKnown_1 _ (List.mem_of_getElem? (i := 23) rfl)), List.forall_mem_cons.mpr ⟨(cl_X2_wideKnown_2 _ (List.mem_of_getElem? (i := 0) rfl)), List.forall_mem_cons.mpr ⟨(cl_X2_wideKnown_2 _ (List.mem_of_getElem? (i := 1) rfl)), List.forall_mem_cons.mpr ⟨(cl_X2_wideKnown_2 _ (List.mem_of_getElem? (i := 2) rfl)), List.forall_mem_cons.mpr ⟨(cl_X2_wideKnown_1 _ (List.mem_of_getElem? (i := 4) rfl)), List.forall_mem_cons.mpr ⟨(cl_X2_wideKnown_2 _ (List.mem_of_getElem? (i := 3) rfl)), List.forall_mem_cons.mpr ⟨(cl_X2_wideKnown_2 _ (List.mem_of_getElem? (i := 4) rfl)), fun _ h => absurd h List.not_mem_nil⟩⟩⟩⟩⟩⟩⟩⟩⟩⟩⟩⟩⟩⟩⟩⟩⟩⟩⟩⟩⟩⟩⟩⟩) w) ((List.forall_mem_cons.mpr ⟨(cl_X2_wideKnown_2 _ (List.mem_of_getElem? (i := 5) rfl)), fun _ h => absurd h List.not_mem_nil⟩) w)) w) ((cl_X2_wideKnown_4) w)) w) ((cl_X2_wideKnown_5) w)) w) ((cl_X2_wideKnown_6) w)) w) ((cl_X2_wideKnown_7) w)⟩) (by decide +kernel)
set_option maxRecDepth 20000 in
theorem gX2_wideKnown_X0_putKnown : GoodIn wsX2_wideKnown (wsV RX2 38 RX0 yX0_putKnown wsX0_putKnown) := goodIn_app (goodIn_sub (List.forall_mem_cons.mpr ⟨(cl_X2_wideKnown_1 _ (List.mem_of_getElem? (i := 1) rfl)), List.forall_mem_cons.mpr ⟨(cl_X2_wideKnown_1 _ (List.mem_of_getElem? (i := 2) rfl)), List.forall_mem_cons.mpr ⟨(cl_X2_wideKnown_1 _ (List.mem_of_getElem? (i := 3) rfl)), List.forall_mem_cons.mpr ⟨(cl_X2_wideKnown_1 _ (List.mem_of_getElem? (i := 4) rfl)), fun _ h => absurd h List.not_mem_nil⟩⟩⟩⟩) (by decide +kernel)) ggX2_wideKnown_X0_putKnown
noncomputable def dz_p13_3 : List (Nat × Instr × Nat) := [(0, (.aload_n 0, 1)), (1, (.getfield 20, 3)), (4, (.iload_n 1, 1)), (5, (.iload_n 2, 1)), (6, (.invokevirtual 38, 3)), (9, (.ireturn, 1))]
theorem dy_p13_3 : dz_ok cX2_wideKnown dz_p13_3 = true := by decide +kernel
theorem dX2_wideKnown_0 : decode cX2_wideKnown 0 = .ok (.aload_n 0, 1) := dz_at (i := 0) dy_p13_3 rfl
theorem dX2_wideKnown_1 : decode cX2_wideKnown 1 = .ok (.getfield 20, 3) := dz_at (i := 1) dy_p13_3 rfl
theorem dX2_wideKnown_4 : decode cX2_wideKnown 4 = .ok (.iload_n 1, 1) := dz_at (i := 2) dy_p13_3 rfl
theorem dX2_wideKnown_5 : decode cX2_wideKnown 5 = .ok (.iload_n 2, 1) := dz_at (i := 3) dy_p13_3 rfl
theorem dX2_wideKnown_6 : decode cX2_wideKnown 6 = .ok (.invokevirtual 38, 3) := dz_at (i := 4) dy_p13_3 rfl
theorem dX2_wideKnown_9 : decode cX2_wideKnown 9 = .ok (.ireturn, 1) := dz_at (i := 5) dy_p13_3 rfl
noncomputable def o_X2_wideKnown (a1 : Int32) (f1 : Nat → Int64) (p0 : Int32) (p1 : Int32) : Int32 × Int32 × Int32 × (Nat → Int64) :=
  if (o_X0_putKnown true a1 f1 p0 p1).1 = 0 then (0, (o_X0_putKnown true a1 f1 p0 p1).2.1, (o_X0_putKnown true a1 f1 p0 p1).2.2.1, (o_X0_putKnown true a1 f1 p0 p1).2.2.2)
  else ((o_X0_putKnown true a1 f1 p0 p1).1, 0, a1, f1)
set_option maxHeartbeats 4000000 in
set_option maxRecDepth 100000 in
theorem k_X2_wideKnown (l : Launch) (hfl : l.flags = flags0) (dC : Nat → ClassId) (dI : Nat → Nat → Nat) (cy : ClassId) (h0 : Nat) (h1 : Nat) (hw1 : Nat) (hc1 : Nat) (hb1 : Nat) (h2 : Nat) (hw2 : Nat) (hc2 : Nat) (hb2 : Nat) (a1 : Int32) (r1 : Int32) (f1 : Nat → Int64) (g1 : Nat → Int64) (a2 : Int32) (r2 : Int32) (f2 : Nat → Int64) (g2 : Nat → Int64) (kn : Int32) (sz : Nat) (N : Nat) (p0 : Int32) (p1 : Int32) : vx_Met l yX2_wideKnown wsX2_wideKnown ({ frames := 8, cells := 2, slots := 12, locals := 143 }) (va_Pc [.ref h0, .int p0, .int p1] (xM (dC, dI) xCl [(h0, eE h1 h2 kn), (h1, eR hw1 hc1 hb1 a1 r1), (hw1, eW true), (hc1, eA cy f1), (hb1, eA cy g1), (h2, eR hw2 hc2 hb2 a2 r2), (hw2, eW false), (hc2, eA cy f2), (hb2, eA cy g2)] [(cy, .long)] sz N)) (va_Qi (fun (r : Int32) (_ : Unit) => (o_X2_wideKnown a1 f1 p0 p1).1 = 0 ∧ r = (o_X2_wideKnown a1 f1 p0 p1).2.1) (fun _ t => xW (dC, dI) xCl [(h0, eE h1 h2 kn), (h1, eR hw1 hc1 hb1 (o_X2_wideKnown a1 f1 p0 p1).2.2.1 r1), (hw1, eW true), (hc1, eA cy (o_X2_wideKnown a1 f1 p0 p1).2.2.2), (hb1, eA cy g1), (h2, eR hw2 hc2 hb2 a2 r2), (hw2, eW false), (hc2, eA cy f2), (hb2, eA cy g2)] (va_A [(h0, eE h1 h2 kn), (h1, eR hw1 hc1 hb1 a1 r1), (hw1, eW true), (hc1, eA cy f1), (hb1, eA cy g1), (h2, eR hw2 hc2 hb2 a2 r2), (hw2, eW false), (hc2, eA cy f2), (hb2, eA cy g2)] sz) t) (va_A [(h0, eE h1 h2 kn), (h1, eR hw1 hc1 hb1 a1 r1), (hw1, eW true), (hc1, eA cy f1), (hb1, eA cy g1), (h2, eR hw2 hc2 hb2 a2 r2), (hw2, eW false), (hc2, eA cy f2), (hb2, eA cy g2)] sz)) (vx_X (fun _ : Unit => ¬ (o_X2_wideKnown a1 f1 p0 p1).1 = 0) (fun E _ t => E = xE (o_X2_wideKnown a1 f1 p0 p1).1 ∧ xW (dC, dI) xCl [(h0, eE h1 h2 kn), (h1, eR hw1 hc1 hb1 a1 r1), (hw1, eW true), (hc1, eA cy f1), (hb1, eA cy g1), (h2, eR hw2 hc2 hb2 a2 r2), (hw2, eW false), (hc2, eA cy f2), (hb2, eA cy g2)] (va_A [(h0, eE h1 h2 kn), (h1, eR hw1 hc1 hb1 a1 r1), (hw1, eW true), (hc1, eA cy f1), (hb1, eA cy g1), (h2, eR hw2 hc2 hb2 a2 r2), (hw2, eW false), (hc2, eA cy f2), (hb2, eA cy g2)] sz) t) (va_A [(h0, eE h1 h2 kn), (h1, eR hw1 hc1 hb1 a1 r1), (hw1, eW true), (hc1, eA cy f1), (hb1, eA cy g1), (h2, eR hw2 hc2 hb2 a2 r2), (hw2, eW false), (hc2, eA cy f2), (hb2, eA cy g2)] sz)) 2 12 (va_A [(h0, eE h1 h2 kn), (h1, eR hw1 hc1 hb1 a1 r1), (hw1, eW true), (hc1, eA cy f1), (hb1, eA cy g1), (h2, eR hw2 hc2 hb2 a2 r2), (hw2, eW false), (hc2, eA cy f2), (hb2, eA cy g2)] sz) := by
  refine vx_ofW (cc := cX2_wideKnown) (maxL := 3) (ret := (some .int)) (by decide +kernel) rfl ?_
  intro p e s m args below meth c s₁ B hml hno hv
  obtain ⟨rfl, hsz, hP, hK, hD0, hN, hG⟩ := hv
  have hx := B.exec
  have hb := B.bytes
  have hr := B.returns
  have hts := atoms_spec (ws := wsX2_wideKnown) B.pre
  have hown : s.vm.findClass RX2 = some m.cls := findClass_of_methodNamed B.named
  have hlocks := B.notSynchronized
  subst hsz
  have hAN : ∀ q, va_A [(h0, eE h1 h2 kn), (h1, eR hw1 hc1 hb1 a1 r1), (hw1, eW true), (hc1, eA cy f1), (hb1, eA cy g1), (h2, eR hw2 hc2 hb2 a2 r2), (hw2, eW false), (hc2, eA cy f2), (hb2, eA cy g2)] s.heap.size q → N ≤ q := xA_N hD0 hN
  have hD := hD0.self (sz := s.heap.size)
  generalize hAe : va_A [(h0, eE h1 h2 kn), (h1, eR hw1 hc1 hb1 a1 r1), (hw1, eW true), (hc1, eA cy f1), (hb1, eA cy g1), (h2, eR hw2 hc2 hb2 a2 r2), (hw2, eW false), (hc2, eA cy f2), (hb2, eA cy g2)] s.heap.size = A at hD hAN ⊢
  have hA : ∀ q : Nat, s.heap.size ≤ q → A q := fun q h => by rw [← hAe]; exact Or.inr h
  have hS : va_S A s.heap s.heap [] := va_S.rf
  have hP : va_P (dC, dI) xCl [(h0, eE h1 h2 kn), (h1, eR hw1 hc1 hb1 a1 r1), (hw1, eW true), (hc1, eA cy f1), (hb1, eA cy g1), (h2, eR hw2 hc2 hb2 a2 r2), (hw2, eW false), (hc2, eA cy f2), (hb2, eA cy g2)] s.heap := hP
  have hl := lv_entry ([.ref h0, .int p0, .int p1]) (n := 3) (Nat.le_of_ble_eq_true rfl)
  rw [lg_entry_eq]
  generalize (lg_sl ([.ref h0, .int p0, .int p1]) ++ List.replicate (3 - (lg_sl ([.ref h0, .int p0, .int p1])).length) Slot.unset).toArray = ls at hl ⊢
  have hl : lv_has ls 3 [(0, .ref h0), (1, .int p0), (2, .int p1)] := hl
  refine lv_aload_n hx hb dX2_wideKnown_0 rfl (lv_at hl 0 rfl) ?_
  refine va_get (D := (dC, dI)) (ci := 4) (v := .ref h1) (C := RX2) (T := TX2) (N := 3) hx hb hts (by decide +kernel) hown hK hP 0 rfl rfl 0 (by decide +kernel) (hts (.fieldLink RX2 20 "Edgefloats" "wide" "LEdgefloats$Row;") (by decide +kernel)) (fun _ h9 => h9) rfl dX2_wideKnown_1 ?_
  refine lv_iload_n hx hb dX2_wideKnown_4 rfl (lv_at hl 1 rfl) ?_
  refine lv_iload_n hx hb dX2_wideKnown_5 rfl (lv_at hl 2 rfl) ?_
  have hPc := hP.sub (ws' := [(h1, eR hw1 hc1 hb1 a1 r1), (hw1, eW true), (hc1, eA cy f1), (hb1, eA cy g1)]) [1, 2, 3, 4] rfl
  have hDc := hD.sub (ws' := [(h1, eR hw1 hc1 hb1 a1 r1), (hw1, eW true), (hc1, eA cy f1), (hb1, eA cy g1)]) [1, 2, 3, 4] (by decide +kernel) rfl
  have hKc := hK.sub (tys' := [(cy, .long)]) [0] rfl
  have hFc := va_free (wc := [(h1, eR hw1 hc1 hb1 a1 r1), (hw1, eW true), (hc1, eA cy f1), (hb1, eA cy g1)]) hD hS hA [1, 2, 3, 4] rfl
  refine vx_calli (vx_runV (As := [.int p0, .int p1]) (rest := []) ⟨hx, hb, hml, hown, hts⟩ (k_X0_putKnown l hfl dC dI cy h1 hw1 hc1 hb1 true a1 r1 f1 g1 s.heap.size N p0 p1) (cwV 2 hts gX2_wideKnown_X0_putKnown rfl rfl rfl (by decide +kernel) ⟨Nat.le_of_ble_eq_true rfl, Nat.le_of_ble_eq_true rfl⟩) (xM.preV hKc hPc hDc hAN (Nat.le_trans hN hS.1) (hG.kept hS hAN) (ci := 2) (q0 := 0) rfl rfl) rfl rfl hl.1 rfl (lv_room (Nat.le_of_ble_eq_true rfl)) dX2_wideKnown_6 ⟨Nat.le_of_ble_eq_true rfl, Nat.le_of_ble_eq_true rfl⟩) hS (fun q _ h => hFc q h) hFc (fun q _ h => hFc q h) (fun E ce q9 u9 t H locs ht hvm hpx hbx hz hk hS hce hcv hcl => ?_) (fun r_1 u t H locs ht hvm hw hB hz hk hS => ?_)
  · have c_2 : ¬ (o_X0_putKnown true a1 f1 p0 p1).1 = 0 := hpx
    obtain ⟨hbe, hP1, hD1⟩ := hbx
    rw [ht] at hP1
    obtain ⟨hP, hD⟩ := va_join (wr := [(h0, eE h1 h2 kn), (h2, eR hw2 hc2 hb2 a2 r2), (hw2, eW false), (hc2, eA cy f2), (hb2, eA cy g2)]) (w1 := [(h1, eR hw1 hc1 hb1 a1 r1), (hw1, eW true), (hc1, eA cy f1), (hb1, eA cy g1)]) hP hD [1, 2, 3, 4] [0, 5, 6, 7, 8] rfl rfl (by decide +kernel) (by decide +kernel) hk hFc hP1 hD1
    have hP := hP.sub (ws' := [(h0, eE h1 h2 kn), (h1, eR hw1 hc1 hb1 a1 r1), (hw1, eW true), (hc1, eA cy f1), (hb1, eA cy g1), (h2, eR hw2 hc2 hb2 a2 r2), (hw2, eW false), (hc2, eA cy f2), (hb2, eA cy g2)]) [0, 5, 6, 7, 8, 1, 2, 3, 4] rfl
    have hD := hD.sub (ws' := [(h0, eE h1 h2 kn), (h1, eR hw1 hc1 hb1 a1 r1), (hw1, eW true), (hc1, eA cy f1), (hb1, eA cy g1), (h2, eR hw2 hc2 hb2 a2 r2), (hw2, eW false), (hc2, eA cy f2), (hb2, eA cy g2)]) [0, 5, 6, 7, 8, 1, 2, 3, 4] (by decide +kernel) rfl
    have he : o_X2_wideKnown a1 f1 p0 p1 = ((o_X0_putKnown true a1 f1 p0 p1).1, 0, a1, f1) := by (rw [o_X2_wideKnown, if_neg c_2]) <;> rfl
    exact vx_out (fun x hx => (hno x hx).elim) hlocks hce hcv hcl (fun t ht hvm => ⟨(), by rw [he]; exact c_2, ⟨by rw [he]; exact hbe, by rw [ht]; exact hP, hD⟩, hS.F ht⟩) hS.2.2 (by omega) (by omega)
  · skip
    obtain ⟨c_3, hw⟩ := hw
    have c_3 : (o_X0_putKnown true a1 f1 p0 p1).1 = 0 := c_3
    replace hw : r_1 = (o_X0_putKnown true a1 f1 p0 p1).2.1 := hw
    subst r_1
    obtain ⟨hP1, hD1⟩ := hB
    rw [ht] at hP1
    obtain ⟨hP, hD⟩ := va_join (wr := [(h0, eE h1 h2 kn), (h2, eR hw2 hc2 hb2 a2 r2), (hw2, eW false), (hc2, eA cy f2), (hb2, eA cy g2)]) (w1 := [(h1, eR hw1 hc1 hb1 (o_X0_putKnown true a1 f1 p0 p1).2.2.1 r1), (hw1, eW true), (hc1, eA cy (o_X0_putKnown true a1 f1 p0 p1).2.2.2), (hb1, eA cy g1)]) hP hD [1, 2, 3, 4] [0, 5, 6, 7, 8] rfl rfl (by decide +kernel) (by decide +kernel) hk hFc hP1 hD1
    have hP := hP.sub (ws' := [(h0, eE h1 h2 kn), (h1, eR hw1 hc1 hb1 (o_X0_putKnown true a1 f1 p0 p1).2.2.1 r1), (hw1, eW true), (hc1, eA cy (o_X0_putKnown true a1 f1 p0 p1).2.2.2), (hb1, eA cy g1), (h2, eR hw2 hc2 hb2 a2 r2), (hw2, eW false), (hc2, eA cy f2), (hb2, eA cy g2)]) [0, 5, 6, 7, 8, 1, 2, 3, 4] rfl
    have hD := hD.sub (ws' := [(h0, eE h1 h2 kn), (h1, eR hw1 hc1 hb1 (o_X0_putKnown true a1 f1 p0 p1).2.2.1 r1), (hw1, eW true), (hc1, eA cy (o_X0_putKnown true a1 f1 p0 p1).2.2.2), (hb1, eA cy g1), (h2, eR hw2 hc2 hb2 a2 r2), (hw2, eW false), (hc2, eA cy f2), (hb2, eA cy g2)]) [0, 5, 6, 7, 8, 1, 2, 3, 4] (by decide +kernel) rfl
    have he : o_X2_wideKnown a1 f1 p0 p1 = (0, (o_X0_putKnown true a1 f1 p0 p1).2.1, (o_X0_putKnown true a1 f1 p0 p1).2.2.1, (o_X0_putKnown true a1 f1 p0 p1).2.2.2) := by (rw [o_X2_wideKnown, if_pos c_3]) <;> rfl
    refine W.widen (k := 2) (n := 12) (by omega) (by omega) ?_
    refine vx_ret ?_
    exact W.iret (v := ((o_X0_putKnown true a1 f1 p0 p1).2.1)) hx hb hr (fun t ht hW => ⟨⟨_, (), rfl, ⟨(by (rw [he]) <;> rfl), (by (rw [he]) <;> rfl)⟩, (by rw [he]; exact ⟨by rw [ht]; exact hP, hD⟩)⟩, hS.F ht⟩) hS.2.2 dX2_wideKnown_9
theorem cl_X2_wideCopy_1 : ∀ w ∈ [.fieldLink RX2 20 "Edgefloats" "wide" "LEdgefloats$Row;", .methodLink RX2 41 yX0_copy, .instanceMethod yX0_copy, .selects RX0 yX0_copy yX0_copy, .initialized RX0, .code yX0_copy cX0_copy 3 (some .int), .fieldLink RX0 15 "Edgefloats$Row" "cells" "[J", .static yX2_checkCell, .initialized RX2, .code yX2_checkCell cX2_checkCell 1 none, .classLink RX2 148 "java/lang/IndexOutOfBoundsException", .initialized "java/lang/IndexOutOfBoundsException", .methodLink RX0 36 yX0_place, .instanceMethod yX0_place, .selects RX0 yX0_place yX0_place, .code yX0_place cX0_place 5 (some .int), .fieldLink RX0 80 "Edgefloats$Row" "acts" "I"], w ∈ wsX2_wideCopy := fun _ h => (List.mem_cons_of_mem _ (List.mem_append_left _ (List.mem_append_left _ (List.mem_append_left _ h))))
theorem cl_X2_wideCopy_2 : ∀ w ∈ wsX20, w ∈ wsX2_wideCopy := fun _ h => (List.mem_cons_of_mem _ (List.mem_append_left _ (List.mem_append_left _ (List.mem_append_right _ h))))
theorem cl_X2_wideCopy_3 : ∀ w ∈ wsX00, w ∈ wsX2_wideCopy := fun _ h => (List.mem_cons_of_mem _ (List.mem_append_left _ (List.mem_append_right _ h)))
theorem cl_X2_wideCopy_4 : ∀ w ∈ (vx_atS RX2 152 "java/lang/IndexOutOfBoundsException" ["java/lang/RuntimeException", "java/lang/Exception"]).filter goodWord, w ∈ wsX2_wideCopy := fun _ h => (List.mem_cons_of_mem _ (List.mem_append_right _ h))
set_option maxRecDepth 20000 in
theorem ggX2_wideCopy_X0_copy : GoodIn wsX2_wideCopy wsX0_copy := goodIn_sub (List.forall_mem_cons.mpr ⟨(cl_X2_wideCopy_1 _ (List.mem_of_getElem? (i := 5) rfl)), fun w h => (List.mem_append.mp h).elim ((fun w h => (List.mem_append.mp h).elim ((List.forall_mem_cons.mpr ⟨(cl_X2_wideCopy_1 _ (List.mem_of_getElem? (i := 6) rfl)), List.forall_mem_cons.mpr ⟨(cl_X2_wideCopy_1 _ (List.mem_of_getElem? (i := 7) rfl)), List.forall_mem_cons.mpr ⟨(cl_X2_wideCopy_1 _ (List.mem_of_getElem? (i := 8) rfl)), List.forall_mem_cons.mpr ⟨(cl_X2_wideCopy_1 _ (List.mem_of_getElem? (i := 9) rfl)), List.forall_mem_cons.mpr ⟨(cl_X2_wideCopy_1 _ (List.mem_of_getElem? (i := 10) rfl)), List.forall_mem_cons.mpr ⟨(cl_X2_wideCopy_1 _ (List.mem_of_getElem? (i := 11) rfl)), List.forall_mem_cons.mpr ⟨(cl_X2_wideCopy_1 _ (List.mem_of_getElem? (i := 12) rfl)), List.forall_mem_cons.mpr ⟨(cl_X2_wideCopy_1 _ (List.mem_of_getElem? (i := 13) rfl)), List.forall_mem_cons.mpr ⟨(cl_X2_wideCopy_1 _ (List.mem_of_getElem? (i := 14) rfl)), List.forall_mem_cons.mpr ⟨(cl_X2_wideCopy_1 _ (List.mem_of_getElem? (i := 4) rfl)), List.forall_mem_cons.mpr ⟨(cl_X2_wideCopy_1 _ (List.mem_of_getElem? (i := 15) rfl)), List.forall_mem_cons.mpr ⟨(cl_X2_wideCopy_1 _ (List.mem_of_getElem? (i := 16) rfl)), fun _ h => absurd h List.not_mem_nil⟩⟩⟩⟩⟩⟩⟩⟩⟩⟩⟩⟩) w) ((cl_X2_wideCopy_3) w)) w) ((cl_X2_wideCopy_4) w)⟩) (by decide +kernel)
set_option maxRecDepth 20000 in
theorem gX2_wideCopy_X0_copy : GoodIn wsX2_wideCopy (wsV RX2 41 RX0 yX0_copy wsX0_copy) := goodIn_app (goodIn_sub (List.forall_mem_cons.mpr ⟨(cl_X2_wideCopy_1 _ (List.mem_of_getElem? (i := 1) rfl)), List.forall_mem_cons.mpr ⟨(cl_X2_wideCopy_1 _ (List.mem_of_getElem? (i := 2) rfl)), List.forall_mem_cons.mpr ⟨(cl_X2_wideCopy_1 _ (List.mem_of_getElem? (i := 3) rfl)), List.forall_mem_cons.mpr ⟨(cl_X2_wideCopy_1 _ (List.mem_of_getElem? (i := 4) rfl)), fun _ h => absurd h List.not_mem_nil⟩⟩⟩⟩) (by decide +kernel)) ggX2_wideCopy_X0_copy
noncomputable def dz_p13_4 : List (Nat × Instr × Nat) := [(0, (.aload_n 0, 1)), (1, (.getfield 20, 3)), (4, (.iload_n 1, 1)), (5, (.iload_n 2, 1)), (6, (.invokevirtual 41, 3)), (9, (.ireturn, 1))]
theorem dy_p13_4 : dz_ok cX2_wideCopy dz_p13_4 = true := by decide +kernel
theorem dX2_wideCopy_0 : decode cX2_wideCopy 0 = .ok (.aload_n 0, 1) := dz_at (i := 0) dy_p13_4 rfl
theorem dX2_wideCopy_1 : decode cX2_wideCopy 1 = .ok (.getfield 20, 3) := dz_at (i := 1) dy_p13_4 rfl
theorem dX2_wideCopy_4 : decode cX2_wideCopy 4 = .ok (.iload_n 1, 1) := dz_at (i := 2) dy_p13_4 rfl
theorem dX2_wideCopy_5 : decode cX2_wideCopy 5 = .ok (.iload_n 2, 1) := dz_at (i := 3) dy_p13_4 rfl
theorem dX2_wideCopy_6 : decode cX2_wideCopy 6 = .ok (.invokevirtual 41, 3) := dz_at (i := 4) dy_p13_4 rfl
theorem dX2_wideCopy_9 : decode cX2_wideCopy 9 = .ok (.ireturn, 1) := dz_at (i := 5) dy_p13_4 rfl
noncomputable def o_X2_wideCopy (a1 : Int32) (f1 : Nat → Int64) (p0 : Int32) (p1 : Int32) : Int32 × Int32 × Int32 × (Nat → Int64) :=
  if (o_X0_copy a1 f1 p0 p1).1 = 0 then (0, (o_X0_copy a1 f1 p0 p1).2.1, (o_X0_copy a1 f1 p0 p1).2.2.1, (o_X0_copy a1 f1 p0 p1).2.2.2)
  else ((o_X0_copy a1 f1 p0 p1).1, 0, a1, f1)
set_option maxHeartbeats 4000000 in
set_option maxRecDepth 100000 in
theorem k_X2_wideCopy (l : Launch) (hfl : l.flags = flags0) (dC : Nat → ClassId) (dI : Nat → Nat → Nat) (cy : ClassId) (h0 : Nat) (h1 : Nat) (hw1 : Nat) (hc1 : Nat) (hb1 : Nat) (h2 : Nat) (hw2 : Nat) (hc2 : Nat) (hb2 : Nat) (a1 : Int32) (r1 : Int32) (f1 : Nat → Int64) (g1 : Nat → Int64) (a2 : Int32) (r2 : Int32) (f2 : Nat → Int64) (g2 : Nat → Int64) (kn : Int32) (sz : Nat) (N : Nat) (p0 : Int32) (p1 : Int32) : vx_Met l yX2_wideCopy wsX2_wideCopy ({ frames := 8, cells := 2, slots := 12, locals := 142 }) (va_Pc [.ref h0, .int p0, .int p1] (xM (dC, dI) xCl [(h0, eE h1 h2 kn), (h1, eR hw1 hc1 hb1 a1 r1), (hw1, eW true), (hc1, eA cy f1), (hb1, eA cy g1), (h2, eR hw2 hc2 hb2 a2 r2), (hw2, eW false), (hc2, eA cy f2), (hb2, eA cy g2)] [(cy, .long)] sz N)) (va_Qi (fun (r : Int32) (_ : Unit) => (o_X2_wideCopy a1 f1 p0 p1).1 = 0 ∧ r = (o_X2_wideCopy a1 f1 p0 p1).2.1) (fun _ t => xW (dC, dI) xCl [(h0, eE h1 h2 kn), (h1, eR hw1 hc1 hb1 (o_X2_wideCopy a1 f1 p0 p1).2.2.1 r1), (hw1, eW true), (hc1, eA cy (o_X2_wideCopy a1 f1 p0 p1).2.2.2), (hb1, eA cy g1), (h2, eR hw2 hc2 hb2 a2 r2), (hw2, eW false), (hc2, eA cy f2), (hb2, eA cy g2)] (va_A [(h0, eE h1 h2 kn), (h1, eR hw1 hc1 hb1 a1 r1), (hw1, eW true), (hc1, eA cy f1), (hb1, eA cy g1), (h2, eR hw2 hc2 hb2 a2 r2), (hw2, eW false), (hc2, eA cy f2), (hb2, eA cy g2)] sz) t) (va_A [(h0, eE h1 h2 kn), (h1, eR hw1 hc1 hb1 a1 r1), (hw1, eW true), (hc1, eA cy f1), (hb1, eA cy g1), (h2, eR hw2 hc2 hb2 a2 r2), (hw2, eW false), (hc2, eA cy f2), (hb2, eA cy g2)] sz)) (vx_X (fun _ : Unit => ¬ (o_X2_wideCopy a1 f1 p0 p1).1 = 0) (fun E _ t => E = xE (o_X2_wideCopy a1 f1 p0 p1).1 ∧ xW (dC, dI) xCl [(h0, eE h1 h2 kn), (h1, eR hw1 hc1 hb1 a1 r1), (hw1, eW true), (hc1, eA cy f1), (hb1, eA cy g1), (h2, eR hw2 hc2 hb2 a2 r2), (hw2, eW false), (hc2, eA cy f2), (hb2, eA cy g2)] (va_A [(h0, eE h1 h2 kn), (h1, eR hw1 hc1 hb1 a1 r1), (hw1, eW true), (hc1, eA cy f1), (hb1, eA cy g1), (h2, eR hw2 hc2 hb2 a2 r2), (hw2, eW false), (hc2, eA cy f2), (hb2, eA cy g2)] sz) t) (va_A [(h0, eE h1 h2 kn), (h1, eR hw1 hc1 hb1 a1 r1), (hw1, eW true), (hc1, eA cy f1), (hb1, eA cy g1), (h2, eR hw2 hc2 hb2 a2 r2), (hw2, eW false), (hc2, eA cy f2), (hb2, eA cy g2)] sz)) 2 12 (va_A [(h0, eE h1 h2 kn), (h1, eR hw1 hc1 hb1 a1 r1), (hw1, eW true), (hc1, eA cy f1), (hb1, eA cy g1), (h2, eR hw2 hc2 hb2 a2 r2), (hw2, eW false), (hc2, eA cy f2), (hb2, eA cy g2)] sz) := by
  refine vx_ofW (cc := cX2_wideCopy) (maxL := 3) (ret := (some .int)) (by decide +kernel) rfl ?_
  intro p e s m args below meth c s₁ B hml hno hv
  obtain ⟨rfl, hsz, hP, hK, hD0, hN, hG⟩ := hv
  have hx := B.exec
  have hb := B.bytes
  have hr := B.returns
  have hts := atoms_spec (ws := wsX2_wideCopy) B.pre
  have hown : s.vm.findClass RX2 = some m.cls := findClass_of_methodNamed B.named
  have hlocks := B.notSynchronized
  subst hsz
  have hAN : ∀ q, va_A [(h0, eE h1 h2 kn), (h1, eR hw1 hc1 hb1 a1 r1), (hw1, eW true), (hc1, eA cy f1), (hb1, eA cy g1), (h2, eR hw2 hc2 hb2 a2 r2), (hw2, eW false), (hc2, eA cy f2), (hb2, eA cy g2)] s.heap.size q → N ≤ q := xA_N hD0 hN
  have hD := hD0.self (sz := s.heap.size)
  generalize hAe : va_A [(h0, eE h1 h2 kn), (h1, eR hw1 hc1 hb1 a1 r1), (hw1, eW true), (hc1, eA cy f1), (hb1, eA cy g1), (h2, eR hw2 hc2 hb2 a2 r2), (hw2, eW false), (hc2, eA cy f2), (hb2, eA cy g2)] s.heap.size = A at hD hAN ⊢
  have hA : ∀ q : Nat, s.heap.size ≤ q → A q := fun q h => by rw [← hAe]; exact Or.inr h
  have hS : va_S A s.heap s.heap [] := va_S.rf
  have hP : va_P (dC, dI) xCl [(h0, eE h1 h2 kn), (h1, eR hw1 hc1 hb1 a1 r1), (hw1, eW true), (hc1, eA cy f1), (hb1, eA cy g1), (h2, eR hw2 hc2 hb2 a2 r2), (hw2, eW false), (hc2, eA cy f2), (hb2, eA cy g2)] s.heap := hP
  have hl := lv_entry ([.ref h0, .int p0, .int p1]) (n := 3) (Nat.le_of_ble_eq_true rfl)
  rw [lg_entry_eq]
  generalize (lg_sl ([.ref h0, .int p0, .int p1]) ++ List.replicate (3 - (lg_sl ([.ref h0, .int p0, .int p1])).length) Slot.unset).toArray = ls at hl ⊢
  have hl : lv_has ls 3 [(0, .ref h0), (1, .int p0), (2, .int p1)] := hl
  refine lv_aload_n hx hb dX2_wideCopy_0 rfl (lv_at hl 0 rfl) ?_
  refine va_get (D := (dC, dI)) (ci := 4) (v := .ref h1) (C := RX2) (T := TX2) (N := 3) hx hb hts (by decide +kernel) hown hK hP 0 rfl rfl 0 (by decide +kernel) (hts (.fieldLink RX2 20 "Edgefloats" "wide" "LEdgefloats$Row;") (by decide +kernel)) (fun _ h9 => h9) rfl dX2_wideCopy_1 ?_
  refine lv_iload_n hx hb dX2_wideCopy_4 rfl (lv_at hl 1 rfl) ?_
  refine lv_iload_n hx hb dX2_wideCopy_5 rfl (lv_at hl 2 rfl) ?_
  have hPc := hP.sub (ws' := [(h1, eR hw1 hc1 hb1 a1 r1), (hw1, eW true), (hc1, eA cy f1), (hb1, eA cy g1)]) [1, 2, 3, 4] rfl
  have hDc := hD.sub (ws' := [(h1, eR hw1 hc1 hb1 a1 r1), (hw1, eW true), (hc1, eA cy f1), (hb1, eA cy g1)]) [1, 2, 3, 4] (by decide +kernel) rfl
  have hKc := hK.sub (tys' := [(cy, .long)]) [0] rfl
  have hFc := va_free (wc := [(h1, eR hw1 hc1 hb1 a1 r1), (hw1, eW true), (hc1, eA cy f1), (hb1, eA cy g1)]) hD hS hA [1, 2, 3, 4] rfl
  refine vx_calli (vx_runV (As := [.int p0, .int p1]) (rest := []) ⟨hx, hb, hml, hown, hts⟩ (k_X0_copy l hfl dC dI cy h1 hw1 hc1 hb1 true a1 r1 f1 g1 s.heap.size N p0 p1) (cwV 2 hts gX2_wideCopy_X0_copy rfl rfl rfl (by decide +kernel) ⟨Nat.le_of_ble_eq_true rfl, Nat.le_of_ble_eq_true rfl⟩) (xM.preV hKc hPc hDc hAN (Nat.le_trans hN hS.1) (hG.kept hS hAN) (ci := 2) (q0 := 0) rfl rfl) rfl rfl hl.1 rfl (lv_room (Nat.le_of_ble_eq_true rfl)) dX2_wideCopy_6 ⟨Nat.le_of_ble_eq_true rfl, Nat.le_of_ble_eq_true rfl⟩) hS (fun q _ h => hFc q h) hFc (fun q _ h => hFc q h) (fun E ce q9 u9 t H locs ht hvm hpx hbx hz hk hS hce hcv hcl => ?_) (fun r_1 u t H locs ht hvm hw hB hz hk hS => ?_)
  · have c_2 : ¬ (o_X0_copy a1 f1 p0 p1).1 = 0 := hpx
    obtain ⟨hbe, hP1, hD1⟩ := hbx
    rw [ht] at hP1
    obtain ⟨hP, hD⟩ := va_join (wr := [(h0, eE h1 h2 kn), (h2, eR hw2 hc2 hb2 a2 r2), (hw2, eW false), (hc2, eA cy f2), (hb2, eA cy g2)]) (w1 := [(h1, eR hw1 hc1 hb1 a1 r1), (hw1, eW true), (hc1, eA cy f1), (hb1, eA cy g1)]) hP hD [1, 2, 3, 4] [0, 5, 6, 7, 8] rfl rfl (by decide +kernel) (by decide +kernel) hk hFc hP1 hD1
    have hP := hP.sub (ws' := [(h0, eE h1 h2 kn), (h1, eR hw1 hc1 hb1 a1 r1), (hw1, eW true), (hc1, eA cy f1), (hb1, eA cy g1), (h2, eR hw2 hc2 hb2 a2 r2), (hw2, eW false), (hc2, eA cy f2), (hb2, eA cy g2)]) [0, 5, 6, 7, 8, 1, 2, 3, 4] rfl
    have hD := hD.sub (ws' := [(h0, eE h1 h2 kn), (h1, eR hw1 hc1 hb1 a1 r1), (hw1, eW true), (hc1, eA cy f1), (hb1, eA cy g1), (h2, eR hw2 hc2 hb2 a2 r2), (hw2, eW false), (hc2, eA cy f2), (hb2, eA cy g2)]) [0, 5, 6, 7, 8, 1, 2, 3, 4] (by decide +kernel) rfl
    have he : o_X2_wideCopy a1 f1 p0 p1 = ((o_X0_copy a1 f1 p0 p1).1, 0, a1, f1) := by (rw [o_X2_wideCopy, if_neg c_2]) <;> rfl
    exact vx_out (fun x hx => (hno x hx).elim) hlocks hce hcv hcl (fun t ht hvm => ⟨(), by rw [he]; exact c_2, ⟨by rw [he]; exact hbe, by rw [ht]; exact hP, hD⟩, hS.F ht⟩) hS.2.2 (by omega) (by omega)
  · skip
    obtain ⟨c_3, hw⟩ := hw
    have c_3 : (o_X0_copy a1 f1 p0 p1).1 = 0 := c_3
    replace hw : r_1 = (o_X0_copy a1 f1 p0 p1).2.1 := hw
    subst r_1
    obtain ⟨hP1, hD1⟩ := hB
    rw [ht] at hP1
    obtain ⟨hP, hD⟩ := va_join (wr := [(h0, eE h1 h2 kn), (h2, eR hw2 hc2 hb2 a2 r2), (hw2, eW false), (hc2, eA cy f2), (hb2, eA cy g2)]) (w1 := [(h1, eR hw1 hc1 hb1 (o_X0_copy a1 f1 p0 p1).2.2.1 r1), (hw1, eW true), (hc1, eA cy (o_X0_copy a1 f1 p0 p1).2.2.2), (hb1, eA cy g1)]) hP hD [1, 2, 3, 4] [0, 5, 6, 7, 8] rfl rfl (by decide +kernel) (by decide +kernel) hk hFc hP1 hD1
    have hP := hP.sub (ws' := [(h0, eE h1 h2 kn), (h1, eR hw1 hc1 hb1 (o_X0_copy a1 f1 p0 p1).2.2.1 r1), (hw1, eW true), (hc1, eA cy (o_X0_copy a1 f1 p0 p1).2.2.2), (hb1, eA cy g1), (h2, eR hw2 hc2 hb2 a2 r2), (hw2, eW false), (hc2, eA cy f2), (hb2, eA cy g2)]) [0, 5, 6, 7, 8, 1, 2, 3, 4] rfl
    have hD := hD.sub (ws' := [(h0, eE h1 h2 kn), (h1, eR hw1 hc1 hb1 (o_X0_copy a1 f1 p0 p1).2.2.1 r1), (hw1, eW true), (hc1, eA cy (o_X0_copy a1 f1 p0 p1).2.2.2), (hb1, eA cy g1), (h2, eR hw2 hc2 hb2 a2 r2), (hw2, eW false), (hc2, eA cy f2), (hb2, eA cy g2)]) [0, 5, 6, 7, 8, 1, 2, 3, 4] (by decide +kernel) rfl
    have he : o_X2_wideCopy a1 f1 p0 p1 = (0, (o_X0_copy a1 f1 p0 p1).2.1, (o_X0_copy a1 f1 p0 p1).2.2.1, (o_X0_copy a1 f1 p0 p1).2.2.2) := by (rw [o_X2_wideCopy, if_pos c_3]) <;> rfl
    refine W.widen (k := 2) (n := 12) (by omega) (by omega) ?_
    refine vx_ret ?_
    exact W.iret (v := ((o_X0_copy a1 f1 p0 p1).2.1)) hx hb hr (fun t ht hW => ⟨⟨_, (), rfl, ⟨(by (rw [he]) <;> rfl), (by (rw [he]) <;> rfl)⟩, (by rw [he]; exact ⟨by rw [ht]; exact hP, hD⟩)⟩, hS.F ht⟩) hS.2.2 dX2_wideCopy_9
theorem cl_X2_wideSwap_1 : ∀ w ∈ [.fieldLink RX2 20 "Edgefloats" "wide" "LEdgefloats$Row;", .methodLink RX2 44 yX0_swap, .instanceMethod yX0_swap, .selects RX0 yX0_swap yX0_swap, .initialized RX0, .code yX0_swap cX0_swap 5 (some .int), .fieldLink RX0 15 "Edgefloats$Row" "cells" "[J", .static yX2_checkCell, .initialized RX2, .code yX2_checkCell cX2_checkCell 1 none, .classLink RX2 148 "java/lang/IndexOutOfBoundsException", .initialized "java/lang/IndexOutOfBoundsException", .methodLink RX0 36 yX0_place, .instanceMethod yX0_place, .selects RX0 yX0_place yX0_place, .code yX0_place cX0_place 5 (some .int), .fieldLink RX0 80 "Edgefloats$Row" "acts" "I"], w ∈ wsX2_wideSwap := fun _ h => (List.mem_cons_of_mem _ (List.mem_append_left _ (List.mem_append_left _ (List.mem_append_left _ h))))
theorem cl_X2_wideSwap_2 : ∀ w ∈ wsX20, w ∈ wsX2_wideSwap := fun _ h => (List.mem_cons_of_mem _ (List.mem_append_left _ (List.mem_append_left _ (List.mem_append_right _ h))))
theorem cl_X2_wideSwap_3 : ∀ w ∈ wsX00, w ∈ wsX2_wideSwap := fun _ h => (List.mem_cons_of_mem _ (List.mem_append_left _ (List.mem_append_right _ h)))
theorem cl_X2_wideSwap_4 : ∀ w ∈ (vx_atS RX2 152 "java/lang/IndexOutOfBoundsException" ["java/lang/RuntimeException", "java/lang/Exception"]).filter goodWord, w ∈ wsX2_wideSwap := fun _ h => (List.mem_cons_of_mem _ (List.mem_append_right _ h))
set_option maxRecDepth 20000 in
theorem ggX2_wideSwap_X0_swap : GoodIn wsX2_wideSwap wsX0_swap := goodIn_sub (List.forall_mem_cons.mpr ⟨(cl_X2_wideSwap_1 _ (List.mem_of_getElem? (i := 5) rfl)), fun w h => (List.mem_append.mp h).elim ((fun w h => (List.mem_append.mp h).elim ((List.forall_mem_cons.mpr ⟨(cl_X2_wideSwap_1 _ (List.mem_of_getElem? (i := 6) rfl)), List.forall_mem_cons.mpr ⟨(cl_X2_wideSwap_1 _ (List.mem_of_getElem? (i := 7) rfl)), List.forall_mem_cons.mpr ⟨(cl_X2_wideSwap_1 _ (List.mem_of_getElem? (i := 8) rfl)), List.forall_mem_cons.mpr ⟨(cl_X2_wideSwap_1 _ (List.mem_of_getElem? (i := 9) rfl)), List.forall_mem_cons.mpr ⟨(cl_X2_wideSwap_1 _ (List.mem_of_getElem? (i := 10) rfl)), List.forall_mem_cons.mpr ⟨(cl_X2_wideSwap_1 _ (List.mem_of_getElem? (i := 11) rfl)), List.forall_mem_cons.mpr ⟨(cl_X2_wideSwap_1 _ (List.mem_of_getElem? (i := 12) rfl)), List.forall_mem_cons.mpr ⟨(cl_X2_wideSwap_1 _ (List.mem_of_getElem? (i := 13) rfl)), List.forall_mem_cons.mpr ⟨(cl_X2_wideSwap_1 _ (List.mem_of_getElem? (i := 14) rfl)), List.forall_mem_cons.mpr ⟨(cl_X2_wideSwap_1 _ (List.mem_of_getElem? (i := 4) rfl)), List.forall_mem_cons.mpr ⟨(cl_X2_wideSwap_1 _ (List.mem_of_getElem? (i := 15) rfl)), List.forall_mem_cons.mpr ⟨(cl_X2_wideSwap_1 _ (List.mem_of_getElem? (i := 16) rfl)), fun _ h => absurd h List.not_mem_nil⟩⟩⟩⟩⟩⟩⟩⟩⟩⟩⟩⟩) w) ((cl_X2_wideSwap_3) w)) w) ((cl_X2_wideSwap_4) w)⟩) (by decide +kernel)
set_option maxRecDepth 20000 in
theorem gX2_wideSwap_X0_swap : GoodIn wsX2_wideSwap (wsV RX2 44 RX0 yX0_swap wsX0_swap) := goodIn_app (goodIn_sub (List.forall_mem_cons.mpr ⟨(cl_X2_wideSwap_1 _ (List.mem_of_getElem? (i := 1) rfl)), List.forall_mem_cons.mpr ⟨(cl_X2_wideSwap_1 _ (List.mem_of_getElem? (i := 2) rfl)), List.forall_mem_cons.mpr ⟨(cl_X2_wideSwap_1 _ (List.mem_of_getElem? (i := 3) rfl)), List.forall_mem_cons.mpr ⟨(cl_X2_wideSwap_1 _ (List.mem_of_getElem? (i := 4) rfl)), fun _ h => absurd h List.not_mem_nil⟩⟩⟩⟩) (by decide +kernel)) ggX2_wideSwap_X0_swap
noncomputable def dz_p13_5 : List (Nat × Instr × Nat) := [(0, (.aload_n 0, 1)), (1, (.getfield 20, 3)), (4, (.iload_n 1, 1)), (5, (.iload_n 2, 1)), (6, (.invokevirtual 44, 3)), (9, (.ireturn, 1))]
theorem dy_p13_5 : dz_ok cX2_wideSwap dz_p13_5 = true := by decide +kernel
theorem dX2_wideSwap_0 : decode cX2_wideSwap 0 = .ok (.aload_n 0, 1) := dz_at (i := 0) dy_p13_5 rfl
theorem dX2_wideSwap_1 : decode cX2_wideSwap 1 = .ok (.getfield 20, 3) := dz_at (i := 1) dy_p13_5 rfl
theorem dX2_wideSwap_4 : decode cX2_wideSwap 4 = .ok (.iload_n 1, 1) := dz_at (i := 2) dy_p13_5 rfl
theorem dX2_wideSwap_5 : decode cX2_wideSwap 5 = .ok (.iload_n 2, 1) := dz_at (i := 3) dy_p13_5 rfl
theorem dX2_wideSwap_6 : decode cX2_wideSwap 6 = .ok (.invokevirtual 44, 3) := dz_at (i := 4) dy_p13_5 rfl
theorem dX2_wideSwap_9 : decode cX2_wideSwap 9 = .ok (.ireturn, 1) := dz_at (i := 5) dy_p13_5 rfl
noncomputable def o_X2_wideSwap (a1 : Int32) (f1 : Nat → Int64) (p0 : Int32) (p1 : Int32) : Int32 × Int32 × Int32 × (Nat → Int64) :=
  if (o_X0_swap a1 f1 p0 p1).1 = 0 then (0, (o_X0_swap a1 f1 p0 p1).2.1, (o_X0_swap a1 f1 p0 p1).2.2.1, (o_X0_swap a1 f1 p0 p1).2.2.2)
  else ((o_X0_swap a1 f1 p0 p1).1, 0, a1, f1)
set_option maxHeartbeats 4000000 in
set_option maxRecDepth 100000 in
theorem k_X2_wideSwap (l : Launch) (hfl : l.flags = flags0) (dC : Nat → ClassId) (dI : Nat → Nat → Nat) (cy : ClassId) (h0 : Nat) (h1 : Nat) (hw1 : Nat) (hc1 : Nat) (hb1 : Nat) (h2 : Nat) (hw2 : Nat) (hc2 : Nat) (hb2 : Nat) (a1 : Int32) (r1 : Int32) (f1 : Nat → Int64) (g1 : Nat → Int64) (a2 : Int32) (r2 : Int32) (f2 : Nat → Int64) (g2 : Nat → Int64) (kn : Int32) (sz : Nat) (N : Nat) (p0 : Int32) (p1 : Int32) : vx_Met l yX2_wideSwap wsX2_wideSwap ({ frames := 8, cells := 2, slots := 12, locals := 144 }) (va_Pc [.ref h0, .int p0, .int p1] (xM (dC, dI) xCl [(h0, eE h1 h2 kn), (h1, eR hw1 hc1 hb1 a1 r1), (hw1, eW true), (hc1, eA cy f1), (hb1, eA cy g1), (h2, eR hw2 hc2 hb2 a2 r2), (hw2, eW false), (hc2, eA cy f2), (hb2, eA cy g2)] [(cy, .long)] sz N)) (va_Qi (fun (r : Int32) (_ : Unit) => (o_X2_wideSwap a1 f1 p0 p1).1 = 0 ∧ r = (o_X2_wideSwap a1 f1 p0 p1).2.1) (fun _ t => xW (dC, dI) xCl [(h0, eE h1 h2 kn), (h1, eR hw1 hc1 hb1 (o_X2_wideSwap a1 f1 p0 p1).2.2.1 r1), (hw1, eW true), (hc1, eA cy (o_X2_wideSwap a1 f1 p0 p1).2.2.2), (hb1, eA cy g1), (h2, eR hw2 hc2 hb2 a2 r2), (hw2, eW false), (hc2, eA cy f2), (hb2, eA cy g2)] (va_A [(h0, eE h1 h2 kn), (h1, eR hw1 hc1 hb1 a1 r1), (hw1, eW true), (hc1, eA cy f1), (hb1, eA cy g1), (h2, eR hw2 hc2 hb2 a2 r2), (hw2, eW false), (hc2, eA cy f2), (hb2, eA cy g2)] sz) t) (va_A [(h0, eE h1 h2 kn), (h1, eR hw1 hc1 hb1 a1 r1), (hw1, eW true), (hc1, eA cy f1), (hb1, eA cy g1), (h2, eR hw2 hc2 hb2 a2 r2), (hw2, eW false), (hc2, eA cy f2), (hb2, eA cy g2)] sz)) (vx_X (fun _ : Unit => ¬ (o_X2_wideSwap a1 f1 p0 p1).1 = 0) (fun E _ t => E = xE (o_X2_wideSwap a1 f1 p0 p1).1 ∧ xW (dC, dI) xCl [(h0, eE h1 h2 kn), (h1, eR hw1 hc1 hb1 a1 r1), (hw1, eW true), (hc1, eA cy f1), (hb1, eA cy g1), (h2, eR hw2 hc2 hb2 a2 r2), (hw2, eW false), (hc2, eA cy f2), (hb2, eA cy g2)] (va_A [(h0, eE h1 h2 kn), (h1, eR hw1 hc1 hb1 a1 r1), (hw1, eW true), (hc1, eA cy f1), (hb1, eA cy g1), (h2, eR hw2 hc2 hb2 a2 r2), (hw2, eW false), (hc2, eA cy f2), (hb2, eA cy g2)] sz) t) (va_A [(h0, eE h1 h2 kn), (h1, eR hw1 hc1 hb1 a1 r1), (hw1, eW true), (hc1, eA cy f1), (hb1, eA cy g1), (h2, eR hw2 hc2 hb2 a2 r2), (hw2, eW false), (hc2, eA cy f2), (hb2, eA cy g2)] sz)) 2 12 (va_A [(h0, eE h1 h2 kn), (h1, eR hw1 hc1 hb1 a1 r1), (hw1, eW true), (hc1, eA cy f1), (hb1, eA cy g1), (h2, eR hw2 hc2 hb2 a2 r2), (hw2, eW false), (hc2, eA cy f2), (hb2, eA cy g2)] sz) := by
  refine vx_ofW (cc := cX2_wideSwap) (maxL := 3) (ret := (some .int)) (by decide +kernel) rfl ?_
  intro p e s m args below meth c s₁ B hml hno hv
  obtain ⟨rfl, hsz, hP, hK, hD0, hN, hG⟩ := hv
  have hx := B.exec
  have hb := B.bytes
  have hr := B.returns
  have hts := atoms_spec (ws := wsX2_wideSwap) B.pre
  have hown : s.vm.findClass RX2 = some m.cls := findClass_of_methodNamed B.named
  have hlocks := B.notSynchronized
  subst hsz
  have hAN : ∀ q, va_A [(h0, eE h1 h2 kn), (h1, eR hw1 hc1 hb1 a1 r1), (hw1, eW true), (hc1, eA cy f1), (hb1, eA cy g1), (h2, eR hw2 hc2 hb2 a2 r2), (hw2, eW false), (hc2, eA cy f2), (hb2, eA cy g2)] s.heap.size q → N ≤ q := xA_N hD0 hN
  have hD := hD0.self (sz := s.heap.size)
  generalize hAe : va_A [(h0, eE h1 h2 kn), (h1, eR hw1 hc1 hb1 a1 r1), (hw1, eW true), (hc1, eA cy f1), (hb1, eA cy g1), (h2, eR hw2 hc2 hb2 a2 r2), (hw2, eW false), (hc2, eA cy f2), (hb2, eA cy g2)] s.heap.size = A at hD hAN ⊢
  have hA : ∀ q : Nat, s.heap.size ≤ q → A q := fun q h => by rw [← hAe]; exact Or.inr h
  have hS : va_S A s.heap s.heap [] := va_S.rf
  have hP : va_P (dC, dI) xCl [(h0, eE h1 h2 kn), (h1, eR hw1 hc1 hb1 a1 r1), (hw1, eW true), (hc1, eA cy f1), (hb1, eA cy g1), (h2, eR hw2 hc2 hb2 a2 r2), (hw2, eW false), (hc2, eA cy f2), (hb2, eA cy g2)] s.heap := hP
  have hl := lv_entry ([.ref h0, .int p0, .int p1]) (n := 3) (Nat.le_of_ble_eq_true rfl)
  rw [lg_entry_eq]
  generalize (lg_sl ([.ref h0, .int p0, .int p1]) ++ List.replicate (3 - (lg_sl ([.ref h0, .int p0, .int p1])).length) Slot.unset).toArray = ls at hl ⊢
  have hl : lv_has ls 3 [(0, .ref h0), (1, .int p0), (2, .int p1)] := hl
  refine lv_aload_n hx hb dX2_wideSwap_0 rfl (lv_at hl 0 rfl) ?_
  refine va_get (D := (dC, dI)) (ci := 4) (v := .ref h1) (C := RX2) (T := TX2) (N := 3) hx hb hts (by decide +kernel) hown hK hP 0 rfl rfl 0 (by decide +kernel) (hts (.fieldLink RX2 20 "Edgefloats" "wide" "LEdgefloats$Row;") (by decide +kernel)) (fun _ h9 => h9) rfl dX2_wideSwap_1 ?_
  refine lv_iload_n hx hb dX2_wideSwap_4 rfl (lv_at hl 1 rfl) ?_
  refine lv_iload_n hx hb dX2_wideSwap_5 rfl (lv_at hl 2 rfl) ?_
  have hPc := hP.sub (ws' := [(h1, eR hw1 hc1 hb1 a1 r1), (hw1, eW true), (hc1, eA cy f1), (hb1, eA cy g1)]) [1, 2, 3, 4] rfl
  have hDc := hD.sub (ws' := [(h1, eR hw1 hc1 hb1 a1 r1), (hw1, eW true), (hc1, eA cy f1), (hb1, eA cy g1)]) [1, 2, 3, 4] (by decide +kernel) rfl
  have hKc := hK.sub (tys' := [(cy, .long)]) [0] rfl
  have hFc := va_free (wc := [(h1, eR hw1 hc1 hb1 a1 r1), (hw1, eW true), (hc1, eA cy f1), (hb1, eA cy g1)]) hD hS hA [1, 2, 3, 4] rfl
  refine vx_calli (vx_runV (As := [.int p0, .int p1]) (rest := []) ⟨hx, hb, hml, hown, hts⟩ (k_X0_swap l hfl dC dI cy h1 hw1 hc1 hb1 true a1 r1 f1 g1 s.heap.size N p0 p1) (cwV 2 hts gX2_wideSwap_X0_swap rfl rfl rfl (by decide +kernel) ⟨Nat.le_of_ble_eq_true rfl, Nat.le_of_ble_eq_true rfl⟩) (xM.preV hKc hPc hDc hAN (Nat.le_trans hN hS.1) (hG.kept hS hAN) (ci := 2) (q0 := 0) rfl rfl) rfl rfl hl.1 rfl (lv_room (Nat.le_of_ble_eq_true rfl)) dX2_wideSwap_6 ⟨Nat.le_of_ble_eq_true rfl, Nat.le_of_ble_eq_true rfl⟩) hS (fun q _ h => hFc q h) hFc (fun q _ h => hFc q h) (fun E ce q9 u9 t H locs ht hvm hpx hbx hz hk hS hce hcv hcl => ?_) (fun r_1 u t H locs ht hvm hw hB hz hk hS => ?_)
  · have c_2 : ¬ (o_X0_swap a1 f1 p0 p1).1 = 0 := hpx
    obtain ⟨hbe, hP1, hD1⟩ := hbx
    rw [ht] at hP1
    obtain ⟨hP, hD⟩ := va_join (wr := [(h0, eE h1 h2 kn), (h2, eR hw2 hc2 hb2 a2 r2), (hw2, eW false), (hc2, eA cy f2), (hb2, eA cy g2)]) (w1 := [(h1, eR hw1 hc1 hb1 a1 r1), (hw1, eW true), (hc1, eA cy f1), (hb1, eA cy g1)]) hP hD [1, 2, 3, 4] [0, 5, 6, 7, 8] rfl rfl (by decide +kernel) (by decide +kernel) hk hFc hP1 hD1
    have hP := hP.sub (ws' := [(h0, eE h1 h2 kn), (h1, eR hw1 hc1 hb1 a1 r1), (hw1, eW true), (hc1, eA cy f1), (hb1, eA cy g1), (h2, eR hw2 hc2 hb2 a2 r2), (hw2, eW false), (hc2, eA cy f2), (hb2, eA cy g2)]) [0, 5, 6, 7, 8, 1, 2, 3, 4] rfl
    have hD := hD.sub (ws' := [(h0, eE h1 h2 kn), (h1, eR hw1 hc1 hb1 a1 r1), (hw1, eW true), (hc1, eA cy f1), (hb1, eA cy g1), (h2, eR hw2 hc2 hb2 a2 r2), (hw2, eW false), (hc2, eA cy f2), (hb2, eA cy g2)]) [0, 5, 6, 7, 8, 1, 2, 3, 4] (by decide +kernel) rfl
    have he : o_X2_wideSwap a1 f1 p0 p1 = ((o_X0_swap a1 f1 p0 p1).1, 0, a1, f1) := by (rw [o_X2_wideSwap, if_neg c_2]) <;> rfl
    exact vx_out (fun x hx => (hno x hx).elim) hlocks hce hcv hcl (fun t ht hvm => ⟨(), by rw [he]; exact c_2, ⟨by rw [he]; exact hbe, by rw [ht]; exact hP, hD⟩, hS.F ht⟩) hS.2.2 (by omega) (by omega)
  · skip
    obtain ⟨c_3, hw⟩ := hw
    have c_3 : (o_X0_swap a1 f1 p0 p1).1 = 0 := c_3
    replace hw : r_1 = (o_X0_swap a1 f1 p0 p1).2.1 := hw
    subst r_1
    obtain ⟨hP1, hD1⟩ := hB
    rw [ht] at hP1
    obtain ⟨hP, hD⟩ := va_join (wr := [(h0, eE h1 h2 kn), (h2, eR hw2 hc2 hb2 a2 r2), (hw2, eW false), (hc2, eA cy f2), (hb2, eA cy g2)]) (w1 := [(h1, eR hw1 hc1 hb1 (o_X0_swap a1 f1 p0 p1).2.2.1 r1), (hw1, eW true), (hc1, eA cy (o_X0_swap a1 f1 p0 p1).2.2.2), (hb1, eA cy g1)]) hP hD [1, 2, 3, 4] [0, 5, 6, 7, 8] rfl rfl (by decide +kernel) (by decide +kernel) hk hFc hP1 hD1
    have hP := hP.sub (ws' := [(h0, eE h1 h2 kn), (h1, eR hw1 hc1 hb1 (o_X0_swap a1 f1 p0 p1).2.2.1 r1), (hw1, eW true), (hc1, eA cy (o_X0_swap a1 f1 p0 p1).2.2.2), (hb1, eA cy g1), (h2, eR hw2 hc2 hb2 a2 r2), (hw2, eW false), (hc2, eA cy f2), (hb2, eA cy g2)]) [0, 5, 6, 7, 8, 1, 2, 3, 4] rfl
    have hD := hD.sub (ws' := [(h0, eE h1 h2 kn), (h1, eR hw1 hc1 hb1 (o_X0_swap a1 f1 p0 p1).2.2.1 r1), (hw1, eW true), (hc1, eA cy (o_X0_swap a1 f1 p0 p1).2.2.2), (hb1, eA cy g1), (h2, eR hw2 hc2 hb2 a2 r2), (hw2, eW false), (hc2, eA cy f2), (hb2, eA cy g2)]) [0, 5, 6, 7, 8, 1, 2, 3, 4] (by decide +kernel) rfl
    have he : o_X2_wideSwap a1 f1 p0 p1 = (0, (o_X0_swap a1 f1 p0 p1).2.1, (o_X0_swap a1 f1 p0 p1).2.2.1, (o_X0_swap a1 f1 p0 p1).2.2.2) := by (rw [o_X2_wideSwap, if_pos c_3]) <;> rfl
    refine W.widen (k := 2) (n := 12) (by omega) (by omega) ?_
    refine vx_ret ?_
    exact W.iret (v := ((o_X0_swap a1 f1 p0 p1).2.1)) hx hb hr (fun t ht hW => ⟨⟨_, (), rfl, ⟨(by (rw [he]) <;> rfl), (by (rw [he]) <;> rfl)⟩, (by rw [he]; exact ⟨by rw [ht]; exact hP, hD⟩)⟩, hS.F ht⟩) hS.2.2 dX2_wideSwap_9
theorem cl_X2_wideMax_1 : ∀ w ∈ wsX2_wideMax_r1, w ∈ wsX2_wideMax := fun _ h => (List.mem_cons_of_mem _ (List.mem_append_left _ (List.mem_append_left _ (List.mem_append_left _ (List.mem_append_left _ (List.mem_append_left _ h))))))
theorem cl_X2_wideMax_2 : ∀ w ∈ wsX2_wideMax_r2, w ∈ wsX2_wideMax := fun _ h => (List.mem_cons_of_mem _ (List.mem_append_left _ (List.mem_append_left _ (List.mem_append_left _ (List.mem_append_left _ (List.mem_append_right _ h))))))
theorem cl_X2_wideMax_3 : ∀ w ∈ wsX20, w ∈ wsX2_wideMax := fun _ h => (List.mem_cons_of_mem _ (List.mem_append_left _ (List.mem_append_left _ (List.mem_append_left _ (List.mem_append_right _ h)))))
theorem cl_X2_wideMax_4 : ∀ w ∈ wsX00, w ∈ wsX2_wideMax := fun _ h => (List.mem_cons_of_mem _ (List.mem_append_left _ (List.mem_append_left _ (List.mem_append_right _ h))))
theorem cl_X2_wideMax_5 : ∀ w ∈ wsX10, w ∈ wsX2_wideMax := fun _ h => (List.mem_cons_of_mem _ (List.mem_append_left _ (List.mem_append_right _ h)))
theorem cl_X2_wideMax_6 : ∀ w ∈ (vx_atS RX2 152 "java/lang/IndexOutOfBoundsException" ["java/lang/RuntimeException", "java/lang/Exception"]).filter goodWord, w ∈ wsX2_wideMax := fun _ h => (List.mem_cons_of_mem _ (List.mem_append_right _ h))
set_option maxRecDepth 20000 in
theorem ggX2_wideMax_X0_putGreater : GoodIn wsX2_wideMax wsX0_putGreater := goodIn_sub (List.forall_mem_cons.mpr ⟨(cl_X2_wideMax_1 _ (List.mem_of_getElem? (i := 5) rfl)), fun w h => (List.mem_append.mp h).elim ((fun w h => (List.mem_append.mp h).elim ((fun w h => (List.mem_append.mp h).elim ((fun w h => (List.mem_append.mp h).elim ((List.forall_mem_cons.mpr ⟨(cl_X2_wideMax_1 _ (List.mem_of_getElem? (i := 6) rfl)), List.forall_mem_cons.mpr ⟨(cl_X2_wideMax_1 _ (List.mem_of_getElem? (i := 7) rfl)), List.forall_mem_cons.mpr ⟨(cl_X2_wideMax_1 _ (List.mem_of_getElem? (i := 8) rfl)), List.forall_mem_cons.mpr ⟨(cl_X2_wideMax_1 _ (List.mem_of_getElem? (i := 9) rfl)), List.forall_mem_cons.mpr ⟨(cl_X2_wideMax_1 _ (List.mem_of_getElem? (i := 4) rfl)), List.forall_mem_cons.mpr ⟨(cl_X2_wideMax_1 _ (List.mem_of_getElem? (i := 10) rfl)), List.forall_mem_cons.mpr ⟨(cl_X2_wideMax_1 _ (List.mem_of_getElem? (i := 11) rfl)), List.forall_mem_cons.mpr ⟨(cl_X2_wideMax_1 _ (List.mem_of_getElem? (i := 12) rfl)), List.forall_mem_cons.mpr ⟨(cl_X2_wideMax_1 _ (List.mem_of_getElem? (i := 13) rfl)), List.forall_mem_cons.mpr ⟨(cl_X2_wideMax_1 _ (List.mem_of_getElem? (i := 14) rfl)), List.forall_mem_cons.mpr ⟨(cl_X2_wideMax_1 _ (List.mem_of_getElem? (i := 15) rfl)), List.forall_mem_cons.mpr ⟨(cl_X2_wideMax_1 _ (List.mem_of_getElem? (i := 16) rfl)), List.forall_mem_cons.mpr ⟨(cl_X2_wideMax_1 _ (List.mem_of_getElem? (i := 17) rfl)), List.forall_mem_cons.mpr ⟨(cl_X2_wideMax_1 _ (List.mem_of_getElem? (i := 18) rfl)), List.forall_mem_cons.mpr ⟨(cl_X2_wideMax_1 _ (List.mem_of_getElem? (i := 19) rfl)), List.forall_mem_cons.mpr ⟨(cl_X2_wideMax_1 _ (List.mem_of_getElem? (i := 20) rfl)), List.forall_mem_cons.mpr ⟨(cl_X2_wideMax_1 _ (List.mem_of_getElem? (i := 21) rfl)), List.forall_mem_cons.mpr ⟨(cl_X2_wideMax_1 _ (List.mem_of_getElem? (i := 22) rfl)), List.forall_mem_cons.mpr ⟨(cl_X2_wideMax_1 _ (List.mem_of_getElem? (i := 23) rfl)), List.forall_mem_cons.mpr ⟨(cl_X2_wideMax_2 _ (List.mem_of_getElem? (i := 0) rfl)), List.forall_mem_cons.mpr ⟨(cl_X2_wideMax_2 _ (List.mem_of_getElem? (i := 1) rfl)), List.forall_mem_cons.mpr ⟨(cl_X2_wideMax_2 _ (List.mem_of_getElem? (i := 2) rfl)), List.forall_mem_cons.mpr ⟨(cl_X2_wideMax_2 _ (List.mem_of_getElem? (i := 3) rfl)), List.forall_mem_cons.mpr ⟨(cl_X2_wideMax_2 _ (List.mem_of_getElem? (i := 4) rfl)), fun _ h => absurd h List.not_mem_nil⟩⟩⟩⟩⟩⟩⟩⟩⟩⟩⟩⟩⟩⟩⟩⟩⟩⟩⟩⟩⟩⟩⟩⟩) w) ((List.forall_mem_cons.mpr ⟨(cl_X2_wideMax_2 _ (List.mem_of_getElem? (i := 5) rfl)), List.forall_mem_cons.mpr ⟨(cl_X2_wideMax_2 _ (List.mem_of_getElem? (i := 6) rfl)), List.forall_mem_cons.mpr ⟨(cl_X2_wideMax_2 _ (List.mem_of_getElem? (i := 7) rfl)), List.forall_mem_cons.mpr ⟨(cl_X2_wideMax_2 _ (List.mem_of_getElem? (i := 8) rfl)), List.forall_mem_cons.mpr ⟨(cl_X2_wideMax_2 _ (List.mem_of_getElem? (i := 9) rfl)), List.forall_mem_cons.mpr ⟨(cl_X2_wideMax_2 _ (List.mem_of_getElem? (i := 10) rfl)), List.forall_mem_cons.mpr ⟨(cl_X2_wideMax_2 _ (List.mem_of_getElem? (i := 11) rfl)), fun _ h => absurd h List.not_mem_nil⟩⟩⟩⟩⟩⟩⟩) w)) w) ((cl_X2_wideMax_4) w)) w) ((cl_X2_wideMax_5) w)) w) ((cl_X2_wideMax_6) w)⟩) (by decide +kernel)
set_option maxRecDepth 20000 in
theorem gX2_wideMax_X0_putGreater : GoodIn wsX2_wideMax (wsV RX2 47 RX0 yX0_putGreater wsX0_putGreater) := goodIn_app (goodIn_sub (List.forall_mem_cons.mpr ⟨(cl_X2_wideMax_1 _ (List.mem_of_getElem? (i := 1) rfl)), List.forall_mem_cons.mpr ⟨(cl_X2_wideMax_1 _ (List.mem_of_getElem? (i := 2) rfl)), List.forall_mem_cons.mpr ⟨(cl_X2_wideMax_1 _ (List.mem_of_getElem? (i := 3) rfl)), List.forall_mem_cons.mpr ⟨(cl_X2_wideMax_1 _ (List.mem_of_getElem? (i := 4) rfl)), fun _ h => absurd h List.not_mem_nil⟩⟩⟩⟩) (by decide +kernel)) ggX2_wideMax_X0_putGreater
noncomputable def dz_p13_6 : List (Nat × Instr × Nat) := [(0, (.aload_n 0, 1)), (1, (.getfield 20, 3)), (4, (.iload_n 1, 1)), (5, (.iload_n 2, 1)), (6, (.iload_n 3, 1)), (7, (.invokevirtual 47, 3)), (10, (.ireturn, 1))]
theorem dy_p13_6 : dz_ok cX2_wideMax dz_p13_6 = true := by decide +kernel
theorem dX2_wideMax_0 : decode cX2_wideMax 0 = .ok (.aload_n 0, 1) := dz_at (i := 0) dy_p13_6 rfl
theorem dX2_wideMax_1 : decode cX2_wideMax 1 = .ok (.getfield 20, 3) := dz_at (i := 1) dy_p13_6 rfl
theorem dX2_wideMax_4 : decode cX2_wideMax 4 = .ok (.iload_n 1, 1) := dz_at (i := 2) dy_p13_6 rfl
theorem dX2_wideMax_5 : decode cX2_wideMax 5 = .ok (.iload_n 2, 1) := dz_at (i := 3) dy_p13_6 rfl
theorem dX2_wideMax_6 : decode cX2_wideMax 6 = .ok (.iload_n 3, 1) := dz_at (i := 4) dy_p13_6 rfl
theorem dX2_wideMax_7 : decode cX2_wideMax 7 = .ok (.invokevirtual 47, 3) := dz_at (i := 5) dy_p13_6 rfl
theorem dX2_wideMax_10 : decode cX2_wideMax 10 = .ok (.ireturn, 1) := dz_at (i := 6) dy_p13_6 rfl
noncomputable def o_X2_wideMax (a1 : Int32) (f1 : Nat → Int64) (p0 : Int32) (p1 : Int32) (p2 : Int32) : Int32 × Int32 × Int32 × (Nat → Int64) :=
  if (o_X0_putGreater true a1 f1 p0 p1 p2).1 = 0 then (0, (o_X0_putGreater true a1 f1 p0 p1 p2).2.1, (o_X0_putGreater true a1 f1 p0 p1 p2).2.2.1, (o_X0_putGreater true a1 f1 p0 p1 p2).2.2.2)
  else ((o_X0_putGreater true a1 f1 p0 p1 p2).1, 0, a1, f1)
set_option maxHeartbeats 4000000 in
set_option maxRecDepth 100000 in
theorem k_X2_wideMax (l : Launch) (hfl : l.flags = flags0) (dC : Nat → ClassId) (dI : Nat → Nat → Nat) (cy : ClassId) (h0 : Nat) (h1 : Nat) (hw1 : Nat) (hc1 : Nat) (hb1 : Nat) (h2 : Nat) (hw2 : Nat) (hc2 : Nat) (hb2 : Nat) (a1 : Int32) (r1 : Int32) (f1 : Nat → Int64) (g1 : Nat → Int64) (a2 : Int32) (r2 : Int32) (f2 : Nat → Int64) (g2 : Nat → Int64) (kn : Int32) (sz : Nat) (N : Nat) (p0 : Int32) (p1 : Int32) (p2 : Int32) : vx_Met l yX2_wideMax wsX2_wideMax ({ frames := 9, cells := 3, slots := 18, locals := 165 }) (va_Pc [.ref h0, .int p0, .int p1, .int p2] (xM (dC, dI) xCl [(h0, eE h1 h2 kn), (h1, eR hw1 hc1 hb1 a1 r1), (hw1, eW true), (hc1, eA cy f1), (hb1, eA cy g1), (h2, eR hw2 hc2 hb2 a2 r2), (hw2, eW false), (hc2, eA cy f2), (hb2, eA cy g2)] [(cy, .long)] sz N)) (va_Qi (fun (r : Int32) (_ : Unit) => (o_X2_wideMax a1 f1 p0 p1 p2).1 = 0 ∧ r = (o_X2_wideMax a1 f1 p0 p1 p2).2.1) (fun _ t => xW (dC, dI) xCl [(h0, eE h1 h2 kn), (h1, eR hw1 hc1 hb1 (o_X2_wideMax a1 f1 p0 p1 p2).2.2.1 r1), (hw1, eW true), (hc1, eA cy (o_X2_wideMax a1 f1 p0 p1 p2).2.2.2), (hb1, eA cy g1), (h2, eR hw2 hc2 hb2 a2 r2), (hw2, eW false), (hc2, eA cy f2), (hb2, eA cy g2)] (va_A [(h0, eE h1 h2 kn), (h1, eR hw1 hc1 hb1 a1 r1), (hw1, eW true), (hc1, eA cy f1), (hb1, eA cy g1), (h2, eR hw2 hc2 hb2 a2 r2), (hw2, eW false), (hc2, eA cy f2), (hb2, eA cy g2)] sz) t) (va_A [(h0, eE h1 h2 kn), (h1, eR hw1 hc1 hb1 a1 r1), (hw1, eW true), (hc1, eA cy f1), (hb1, eA cy g1), (h2, eR hw2 hc2 hb2 a2 r2), (hw2, eW false), (hc2, eA cy f2), (hb2, eA cy g2)] sz)) (vx_X (fun _ : Unit => ¬ (o_X2_wideMax a1 f1 p0 p1 p2).1 = 0) (fun E _ t => E = xE (o_X2_wideMax a1 f1 p0 p1 p2).1 ∧ xW (dC, dI) xCl [(h0, eE h1 h2 kn), (h1, eR hw1 hc1 hb1 a1 r1), (hw1, eW true), (hc1, eA cy f1), (hb1, eA cy g1), (h2, eR hw2 hc2 hb2 a2 r2), (hw2, eW false), (hc2, eA cy f2), (hb2, eA cy g2)] (va_A [(h0, eE h1 h2 kn), (h1, eR hw1 hc1 hb1 a1 r1), (hw1, eW true), (hc1, eA cy f1), (hb1, eA cy g1), (h2, eR hw2 hc2 hb2 a2 r2), (hw2, eW false), (hc2, eA cy f2), (hb2, eA cy g2)] sz) t) (va_A [(h0, eE h1 h2 kn), (h1, eR hw1 hc1 hb1 a1 r1), (hw1, eW true), (hc1, eA cy f1), (hb1, eA cy g1), (h2, eR hw2 hc2 hb2 a2 r2), (hw2, eW false), (hc2, eA cy f2), (hb2, eA cy g2)] sz)) 3 18 (va_A [(h0, eE h1 h2 kn), (h1, eR hw1 hc1 hb1 a1 r1), (hw1, eW true), (hc1, eA cy f1), (hb1, eA cy g1), (h2, eR hw2 hc2 hb2 a2 r2), (hw2, eW false), (hc2, eA cy f2), (hb2, eA cy g2)] sz) := by
  refine vx_ofW (cc := cX2_wideMax) (maxL := 4) (ret := (some .int)) (by decide +kernel) rfl ?_
  intro p e s m args below meth c s₁ B hml hno hv
  obtain ⟨rfl, hsz, hP, hK, hD0, hN, hG⟩ := hv
  have hx := B.exec
  have hb := B.bytes
  have hr := B.returns
  have hts := atoms_spec (ws := wsX2_wideMax) B.pre
  have hown : s.vm.findClass RX2 = some m.cls := findClass_of_methodNamed B.named
  have hlocks := B.notSynchronized
  subst hsz
  have hAN : ∀ q, va_A [(h0, eE h1 h2 kn), (h1, eR hw1 hc1 hb1 a1 r1), (hw1, eW true), (hc1, eA cy f1), (hb1, eA cy g1), (h2, eR hw2 hc2 hb2 a2 r2), (hw2, eW false), (hc2, eA cy f2), (hb2, eA cy g2)] s.heap.size q → N ≤ q := xA_N hD0 hN
  have hD := hD0.self (sz := s.heap.size)
  generalize hAe : va_A [(h0, eE h1 h2 kn), (h1, eR hw1 hc1 hb1 a1 r1), (hw1, eW true), (hc1, eA cy f1), (hb1, eA cy g1), (h2, eR hw2 hc2 hb2 a2 r2), (hw2, eW false), (hc2, eA cy f2), (hb2, eA cy g2)] s.heap.size = A at hD hAN ⊢
  have hA : ∀ q : Nat, s.heap.size ≤ q → A q := fun q h => by rw [← hAe]; exact Or.inr h
  have hS : va_S A s.heap s.heap [] := va_S.rf
  have hP : va_P (dC, dI) xCl [(h0, eE h1 h2 kn), (h1, eR hw1 hc1 hb1 a1 r1), (hw1, eW true), (hc1, eA cy f1), (hb1, eA cy g1), (h2, eR hw2 hc2 hb2 a2 r2), (hw2, eW false), (hc2, eA cy f2), (hb2, eA cy g2)] s.heap := hP
  have hl := lv_entry ([.ref h0, .int p0, .int p1, .int p2]) (n := 4) (Nat.le_of_ble_eq_true rfl)
  rw [lg_entry_eq]
  generalize (lg_sl ([.ref h0, .int p0, .int p1, .int p2]) ++ List.replicate (4 - (lg_sl ([.ref h0, .int p0, .int p1, .int p2])).length) Slot.unset).toArray = ls at hl ⊢
  have hl : lv_has ls 4 [(0, .ref h0), (1, .int p0), (2, .int p1), (3, .int p2)] := hl
  refine lv_aload_n hx hb dX2_wideMax_0 rfl (lv_at hl 0 rfl) ?_
  refine va_get (D := (dC, dI)) (ci := 4) (v := .ref h1) (C := RX2) (T := TX2) (N := 3) hx hb hts (by decide +kernel) hown hK hP 0 rfl rfl 0 (by decide +kernel) (hts (.fieldLink RX2 20 "Edgefloats" "wide" "LEdgefloats$Row;") (by decide +kernel)) (fun _ h9 => h9) rfl dX2_wideMax_1 ?_
  refine lv_iload_n hx hb dX2_wideMax_4 rfl (lv_at hl 1 rfl) ?_
  refine lv_iload_n hx hb dX2_wideMax_5 rfl (lv_at hl 2 rfl) ?_
  refine lv_iload_n hx hb dX2_wideMax_6 rfl (lv_at hl 3 rfl) ?_
  have hPc := hP.sub (ws' := [(h1, eR hw1 hc1 hb1 a1 r1), (hw1, eW true), (hc1, eA cy f1), (hb1, eA cy g1)]) [1, 2, 3, 4] rfl
  have hDc := hD.sub (ws' := [(h1, eR hw1 hc1 hb1 a1 r1), (hw1, eW true), (hc1, eA cy f1), (hb1, eA cy g1)]) [1, 2, 3, 4] (by decide +kernel) rfl
  have hKc := hK.sub (tys' := [(cy, .long)]) [0] rfl
  have hFc := va_free (wc := [(h1, eR hw1 hc1 hb1 a1 r1), (hw1, eW true), (hc1, eA cy f1), (hb1, eA cy g1)]) hD hS hA [1, 2, 3, 4] rfl
  refine vx_calli (vx_runV (As := [.int p0, .int p1, .int p2]) (rest := []) ⟨hx, hb, hml, hown, hts⟩ (k_X0_putGreater l hfl dC dI cy h1 hw1 hc1 hb1 true a1 r1 f1 g1 s.heap.size N p0 p1 p2) (cwV 3 hts gX2_wideMax_X0_putGreater rfl rfl rfl (by decide +kernel) ⟨Nat.le_of_ble_eq_true rfl, Nat.le_of_ble_eq_true rfl⟩) (xM.preV hKc hPc hDc hAN (Nat.le_trans hN hS.1) (hG.kept hS hAN) (ci := 2) (q0 := 0) rfl rfl) rfl rfl hl.1 rfl (lv_room (Nat.le_of_ble_eq_true rfl)) dX2_wideMax_7 ⟨Nat.le_of_ble_eq_true rfl, Nat.le_of_ble_eq_true rfl⟩) hS (fun q _ h => hFc q h) hFc (fun q _ h => hFc q h) (fun E ce q9 u9 t H locs ht hvm hpx hbx hz hk hS hce hcv hcl => ?_) (fun r_1 u t H locs ht hvm hw hB hz hk hS => ?_)
  · have c_2 : ¬ (o_X0_putGreater true a1 f1 p0 p1 p2).1 = 0 := hpx
    obtain ⟨hbe, hP1, hD1⟩ := hbx
    rw [ht] at hP1
    obtain ⟨hP, hD⟩ := va_join (wr := [(h0, eE h1 h2 kn), (h2, eR hw2 hc2 hb2 a2 r2), (hw2, eW false), (hc2, eA cy f2), (hb2, eA cy g2)]) (w1 := [(h1, eR hw1 hc1 hb1 a1 r1), (hw1, eW true), (hc1, eA cy f1), (hb1, eA cy g1)]) hP hD [1, 2, 3, 4] [0, 5, 6, 7, 8] rfl rfl (by decide +kernel) (by decide +kernel) hk hFc hP1 hD1
    have hP := hP.sub (ws' := [(h0, eE h1 h2 kn), (h1, eR hw1 hc1 hb1 a1 r1), (hw1, eW true), (hc1, eA cy f1), (hb1, eA cy g1), (h2, eR hw2 hc2 hb2 a2 r2), (hw2, eW false), (hc2, eA cy f2), (hb2, eA cy g2)]) [0, 5, 6, 7, 8, 1, 2, 3, 4] rfl
    have hD := hD.sub (ws' := [(h0, eE h1 h2 kn), (h1, eR hw1 hc1 hb1 a1 r1), (hw1, eW true), (hc1, eA cy f1), (hb1, eA cy g1), (h2, eR hw2 hc2 hb2 a2 r2), (hw2, eW false), (hc2, eA cy f2), (hb2, eA cy g2)]) [0, 5, 6, 7, 8, 1, 2, 3, 4] (by decide +kernel) rfl
    have he : o_X2_wideMax a1 f1 p0 p1 p2 = ((o_X0_putGreater true a1 f1 p0 p1 p2).1, 0, a1, f1) := by (rw [o_X2_wideMax, if_neg c_2]) <;> rfl
    exact vx_out (fun x hx => (hno x hx).elim) hlocks hce hcv hcl (fun t ht hvm => ⟨(), by rw [he]; exact c_2, ⟨by rw [he]; exact hbe, by rw [ht]; exact hP, hD⟩, hS.F ht⟩) hS.2.2 (by omega) (by omega)
  · skip
    obtain ⟨c_3, hw⟩ := hw
    have c_3 : (o_X0_putGreater true a1 f1 p0 p1 p2).1 = 0 := c_3
    replace hw : r_1 = (o_X0_putGreater true a1 f1 p0 p1 p2).2.1 := hw
    subst r_1
    obtain ⟨hP1, hD1⟩ := hB
    rw [ht] at hP1
    obtain ⟨hP, hD⟩ := va_join (wr := [(h0, eE h1 h2 kn), (h2, eR hw2 hc2 hb2 a2 r2), (hw2, eW false), (hc2, eA cy f2), (hb2, eA cy g2)]) (w1 := [(h1, eR hw1 hc1 hb1 (o_X0_putGreater true a1 f1 p0 p1 p2).2.2.1 r1), (hw1, eW true), (hc1, eA cy (o_X0_putGreater true a1 f1 p0 p1 p2).2.2.2), (hb1, eA cy g1)]) hP hD [1, 2, 3, 4] [0, 5, 6, 7, 8] rfl rfl (by decide +kernel) (by decide +kernel) hk hFc hP1 hD1
    have hP := hP.sub (ws' := [(h0, eE h1 h2 kn), (h1, eR hw1 hc1 hb1 (o_X0_putGreater true a1 f1 p0 p1 p2).2.2.1 r1), (hw1, eW true), (hc1, eA cy (o_X0_putGreater true a1 f1 p0 p1 p2).2.2.2), (hb1, eA cy g1), (h2, eR hw2 hc2 hb2 a2 r2), (hw2, eW false), (hc2, eA cy f2), (hb2, eA cy g2)]) [0, 5, 6, 7, 8, 1, 2, 3, 4] rfl
    have hD := hD.sub (ws' := [(h0, eE h1 h2 kn), (h1, eR hw1 hc1 hb1 (o_X0_putGreater true a1 f1 p0 p1 p2).2.2.1 r1), (hw1, eW true), (hc1, eA cy (o_X0_putGreater true a1 f1 p0 p1 p2).2.2.2), (hb1, eA cy g1), (h2, eR hw2 hc2 hb2 a2 r2), (hw2, eW false), (hc2, eA cy f2), (hb2, eA cy g2)]) [0, 5, 6, 7, 8, 1, 2, 3, 4] (by decide +kernel) rfl
    have he : o_X2_wideMax a1 f1 p0 p1 p2 = (0, (o_X0_putGreater true a1 f1 p0 p1 p2).2.1, (o_X0_putGreater true a1 f1 p0 p1 p2).2.2.1, (o_X0_putGreater true a1 f1 p0 p1 p2).2.2.2) := by (rw [o_X2_wideMax, if_pos c_3]) <;> rfl
    refine W.widen (k := 3) (n := 18) (by omega) (by omega) ?_
    refine vx_ret ?_
    exact W.iret (v := ((o_X0_putGreater true a1 f1 p0 p1 p2).2.1)) hx hb hr (fun t ht hW => ⟨⟨_, (), rfl, ⟨(by (rw [he]) <;> rfl), (by (rw [he]) <;> rfl)⟩, (by rw [he]; exact ⟨by rw [ht]; exact hP, hD⟩)⟩, hS.F ht⟩) hS.2.2 dX2_wideMax_10
theorem cl_X2_wideMin_1 : ∀ w ∈ wsX2_wideMin_r1, w ∈ wsX2_wideMin := fun _ h => (List.mem_cons_of_mem _ (List.mem_append_left _ (List.mem_append_left _ (List.mem_append_left _ (List.mem_append_left _ (List.mem_append_left _ h))))))
theorem cl_X2_wideMin_2 : ∀ w ∈ wsX2_wideMin_r2, w ∈ wsX2_wideMin := fun _ h => (List.mem_cons_of_mem _ (List.mem_append_left _ (List.mem_append_left _ (List.mem_append_left _ (List.mem_append_left _ (List.mem_append_right _ h))))))
theorem cl_X2_wideMin_3 : ∀ w ∈ wsX20, w ∈ wsX2_wideMin := fun _ h => (List.mem_cons_of_mem _ (List.mem_append_left _ (List.mem_append_left _ (List.mem_append_left _ (List.mem_append_right _ h)))))
theorem cl_X2_wideMin_4 : ∀ w ∈ wsX00, w ∈ wsX2_wideMin := fun _ h => (List.mem_cons_of_mem _ (List.mem_append_left _ (List.mem_append_left _ (List.mem_append_right _ h))))
theorem cl_X2_wideMin_5 : ∀ w ∈ wsX10, w ∈ wsX2_wideMin := fun _ h => (List.mem_cons_of_mem _ (List.mem_append_left _ (List.mem_append_right _ h)))
theorem cl_X2_wideMin_6 : ∀ w ∈ (vx_atS RX2 152 "java/lang/IndexOutOfBoundsException" ["java/lang/RuntimeException", "java/lang/Exception"]).filter goodWord, w ∈ wsX2_wideMin := fun _ h => (List.mem_cons_of_mem _ (List.mem_append_right _ h))
set_option maxRecDepth 20000 in
theorem ggX2_wideMin_X0_putLesser : GoodIn wsX2_wideMin wsX0_putLesser := goodIn_sub (List.forall_mem_cons.mpr ⟨(cl_X2_wideMin_1 _ (List.mem_of_getElem? (i := 5) rfl)), fun w h => (List.mem_append.mp h).elim ((fun w h => (List.mem_append.mp h).elim ((fun w h => (List.mem_append.mp h).elim ((fun w h => (List.mem_append.mp h).elim ((List.forall_mem_cons.mpr ⟨(cl_X2_wideMin_1 _ (List.mem_of_getElem? (i := 6) rfl)), List.forall_mem_cons.mpr ⟨(cl_X2_wideMin_1 _ (List.mem_of_getElem? (i := 7) rfl)), List.forall_mem_cons.mpr ⟨(cl_X2_wideMin_1 _ (List.mem_of_getElem? (i := 8) rfl)), List.forall_mem_cons.mpr ⟨(cl_X2_wideMin_1 _ (List.mem_of_getElem? (i := 9) rfl)), List.forall_mem_cons.mpr ⟨(cl_X2_wideMin_1 _ (List.mem_of_getElem? (i := 4) rfl)), List.forall_mem_cons.mpr ⟨(cl_X2_wideMin_1 _ (List.mem_of_getElem? (i := 10) rfl)), List.forall_mem_cons.mpr ⟨(cl_X2_wideMin_1 _ (List.mem_of_getElem? (i := 11) rfl)), List.forall_mem_cons.mpr ⟨(cl_X2_wideMin_1 _ (List.mem_of_getElem? (i := 12) rfl)), List.forall_mem_cons.mpr ⟨(cl_X2_wideMin_1 _ (List.mem_of_getElem? (i := 13) rfl)), List.forall_mem_cons.mpr ⟨(cl_X2_wideMin_1 _ (List.mem_of_getElem? (i := 14) rfl)), List.forall_mem_cons.mpr ⟨(cl_X2_wideMin_1 _ (List.mem_of_getElem? (i := 15) rfl)), List.forall_mem_cons.mpr ⟨(cl_X2_wideMin_1 _ (List.mem_of_getElem? (i := 16) rfl)), List.forall_mem_cons.mpr ⟨(cl_X2_wideMin_1 _ (List.mem_of_getElem? (i := 17) rfl)), List.forall_mem_cons.mpr ⟨(cl_X2_wideMin_1 _ (List.mem_of_getElem? (i := 18) rfl)), List.forall_mem_cons.mpr ⟨(cl_X2_wideMin_1 _ (List.mem_of_getElem? (i := 19) rfl)), List.forall_mem_cons.mpr ⟨(cl_X2_wideMin_1 _ (List.mem_of_getElem? (i := 20) rfl)), List.forall_mem_cons.mpr ⟨(cl_X2_wideMin_1 _ (List.mem_of_getElem? (i := 21) rfl)), List.forall_mem_cons.mpr ⟨(cl_X2_wideMin_1 _ (List.mem_of_getElem? (i := 22) rfl)), List.forall_mem_cons.mpr ⟨(cl_X2_wideMin_1 _ (List.mem_of_getElem? (i := 23) rfl)), List.forall_mem_cons.mpr ⟨(cl_X2_wideMin_2 _ (List.mem_of_getElem? (i := 0) rfl)), List.forall_mem_cons.mpr ⟨(cl_X2_wideMin_2 _ (List.mem_of_getElem? (i := 1) rfl)), List.forall_mem_cons.mpr ⟨(cl_X2_wideMin_2 _ (List.mem_of_getElem? (i := 2) rfl)), List.forall_mem_cons.mpr ⟨(cl_X2_wideMin_2 _ (List.mem_of_getElem? (i := 3) rfl)), List.forall_mem_cons.mpr ⟨(cl_X2_wideMin_2 _ (List.mem_of_getElem? (i := 4) rfl)), fun _ h => absurd h List.not_mem_nil⟩⟩⟩⟩⟩⟩⟩⟩⟩⟩⟩⟩⟩⟩⟩⟩⟩⟩⟩⟩⟩⟩⟩⟩) w) ((List.forall_mem_cons.mpr ⟨(cl_X2_wideMin_2 _ (List.mem_of_getElem? (i := 5) rfl)), List.forall_mem_cons.mpr ⟨(cl_X2_wideMin_2 _ (List.mem_of_getElem? (i := 6) rfl)), List.forall_mem_cons.mpr ⟨(cl_X2_wideMin_2 _ (List.mem_of_getElem? (i := 7) rfl)), List.forall_mem_cons.mpr ⟨(cl_X2_wideMin_2 _ (List.mem_of_getElem? (i := 8) rfl)), List.forall_mem_cons.mpr ⟨(cl_X2_wideMin_2 _ (List.mem_of_getElem? (i := 9) rfl)), List.forall_mem_cons.mpr ⟨(cl_X2_wideMin_2 _ (List.mem_of_getElem? (i := 10) rfl)), List.forall_mem_cons.mpr ⟨(cl_X2_wideMin_2 _ (List.mem_of_getElem? (i := 11) rfl)), fun _ h => absurd h List.not_mem_nil⟩⟩⟩⟩⟩⟩⟩) w)) w) ((cl_X2_wideMin_4) w)) w) ((cl_X2_wideMin_5) w)) w) ((cl_X2_wideMin_6) w)⟩) (by decide +kernel)
set_option maxRecDepth 20000 in
theorem gX2_wideMin_X0_putLesser : GoodIn wsX2_wideMin (wsV RX2 51 RX0 yX0_putLesser wsX0_putLesser) := goodIn_app (goodIn_sub (List.forall_mem_cons.mpr ⟨(cl_X2_wideMin_1 _ (List.mem_of_getElem? (i := 1) rfl)), List.forall_mem_cons.mpr ⟨(cl_X2_wideMin_1 _ (List.mem_of_getElem? (i := 2) rfl)), List.forall_mem_cons.mpr ⟨(cl_X2_wideMin_1 _ (List.mem_of_getElem? (i := 3) rfl)), List.forall_mem_cons.mpr ⟨(cl_X2_wideMin_1 _ (List.mem_of_getElem? (i := 4) rfl)), fun _ h => absurd h List.not_mem_nil⟩⟩⟩⟩) (by decide +kernel)) ggX2_wideMin_X0_putLesser
noncomputable def dz_p13_7 : List (Nat × Instr × Nat) := [(0, (.aload_n 0, 1)), (1, (.getfield 20, 3)), (4, (.iload_n 1, 1)), (5, (.iload_n 2, 1)), (6, (.iload_n 3, 1)), (7, (.invokevirtual 51, 3)), (10, (.ireturn, 1))]
theorem dy_p13_7 : dz_ok cX2_wideMin dz_p13_7 = true := by decide +kernel
theorem dX2_wideMin_0 : decode cX2_wideMin 0 = .ok (.aload_n 0, 1) := dz_at (i := 0) dy_p13_7 rfl
theorem dX2_wideMin_1 : decode cX2_wideMin 1 = .ok (.getfield 20, 3) := dz_at (i := 1) dy_p13_7 rfl
theorem dX2_wideMin_4 : decode cX2_wideMin 4 = .ok (.iload_n 1, 1) := dz_at (i := 2) dy_p13_7 rfl
theorem dX2_wideMin_5 : decode cX2_wideMin 5 = .ok (.iload_n 2, 1) := dz_at (i := 3) dy_p13_7 rfl
theorem dX2_wideMin_6 : decode cX2_wideMin 6 = .ok (.iload_n 3, 1) := dz_at (i := 4) dy_p13_7 rfl
theorem dX2_wideMin_7 : decode cX2_wideMin 7 = .ok (.invokevirtual 51, 3) := dz_at (i := 5) dy_p13_7 rfl
theorem dX2_wideMin_10 : decode cX2_wideMin 10 = .ok (.ireturn, 1) := dz_at (i := 6) dy_p13_7 rfl
noncomputable def o_X2_wideMin (a1 : Int32) (f1 : Nat → Int64) (p0 : Int32) (p1 : Int32) (p2 : Int32) : Int32 × Int32 × Int32 × (Nat → Int64) :=
  if (o_X0_putLesser true a1 f1 p0 p1 p2).1 = 0 then (0, (o_X0_putLesser true a1 f1 p0 p1 p2).2.1, (o_X0_putLesser true a1 f1 p0 p1 p2).2.2.1, (o_X0_putLesser true a1 f1 p0 p1 p2).2.2.2)
  else ((o_X0_putLesser true a1 f1 p0 p1 p2).1, 0, a1, f1)
set_option maxHeartbeats 4000000 in
set_option maxRecDepth 100000 in
theorem k_X2_wideMin (l : Launch) (hfl : l.flags = flags0) (dC : Nat → ClassId) (dI : Nat → Nat → Nat) (cy : ClassId) (h0 : Nat) (h1 : Nat) (hw1 : Nat) (hc1 : Nat) (hb1 : Nat) (h2 : Nat) (hw2 : Nat) (hc2 : Nat) (hb2 : Nat) (a1 : Int32) (r1 : Int32) (f1 : Nat → Int64) (g1 : Nat → Int64) (a2 : Int32) (r2 : Int32) (f2 : Nat → Int64) (g2 : Nat → Int64) (kn : Int32) (sz : Nat) (N : Nat) (p0 : Int32) (p1 : Int32) (p2 : Int32) : vx_Met l yX2_wideMin wsX2_wideMin ({ frames := 9, cells := 3, slots := 18, locals := 165 }) (va_Pc [.ref h0, .int p0, .int p1, .int p2] (xM (dC, dI) xCl [(h0, eE h1 h2 kn), (h1, eR hw1 hc1 hb1 a1 r1), (hw1, eW true), (hc1, eA cy f1), (hb1, eA cy g1), (h2, eR hw2 hc2 hb2 a2 r2), (hw2, eW false), (hc2, eA cy f2), (hb2, eA cy g2)] [(cy, .long)] sz N)) (va_Qi (fun (r : Int32) (_ : Unit) => (o_X2_wideMin a1 f1 p0 p1 p2).1 = 0 ∧ r = (o_X2_wideMin a1 f1 p0 p1 p2).2.1) (fun _ t => xW (dC, dI) xCl [(h0, eE h1 h2 kn), (h1, eR hw1 hc1 hb1 (o_X2_wideMin a1 f1 p0 p1 p2).2.2.1 r1), (hw1, eW true), (hc1, eA cy (o_X2_wideMin a1 f1 p0 p1 p2).2.2.2), (hb1, eA cy g1), (h2, eR hw2 hc2 hb2 a2 r2), (hw2, eW false), (hc2, eA cy f2), (hb2, eA cy g2)] (va_A [(h0, eE h1 h2 kn), (h1, eR hw1 hc1 hb1 a1 r1), (hw1, eW true), (hc1, eA cy f1), (hb1, eA cy g1), (h2, eR hw2 hc2 hb2 a2 r2), (hw2, eW false), (hc2, eA cy f2), (hb2, eA cy g2)] sz) t) (va_A [(h0, eE h1 h2 kn), (h1, eR hw1 hc1 hb1 a1 r1), (hw1, eW true), (hc1, eA cy f1), (hb1, eA cy g1), (h2, eR hw2 hc2 hb2 a2 r2), (hw2, eW false), (hc2, eA cy f2), (hb2, eA cy g2)] sz)) (vx_X (fun _ : Unit => ¬ (o_X2_wideMin a1 f1 p0 p1 p2).1 = 0) (fun E _ t => E = xE (o_X2_wideMin a1 f1 p0 p1 p2).1 ∧ xW (dC, dI) xCl [(h0, eE h1 h2 kn), (h1, eR hw1 hc1 hb1 a1 r1), (hw1, eW true), (hc1, eA cy f1), (hb1, eA cy g1), (h2, eR hw2 hc2 hb2 a2 r2), (hw2, eW false), (hc2, eA cy f2), (hb2, eA cy g2)] (va_A [(h0, eE h1 h2 kn), (h1, eR hw1 hc1 hb1 a1 r1), (hw1, eW true), (hc1, eA cy f1), (hb1, eA cy g1), (h2, eR hw2 hc2 hb2 a2 r2), (hw2, eW false), (hc2, eA cy f2), (hb2, eA cy g2)] sz) t) (va_A [(h0, eE h1 h2 kn), (h1, eR hw1 hc1 hb1 a1 r1), (hw1, eW true), (hc1, eA cy f1), (hb1, eA cy g1), (h2, eR hw2 hc2 hb2 a2 r2), (hw2, eW false), (hc2, eA cy f2), (hb2, eA cy g2)] sz)) 3 18 (va_A [(h0, eE h1 h2 kn), (h1, eR hw1 hc1 hb1 a1 r1), (hw1, eW true), (hc1, eA cy f1), (hb1, eA cy g1), (h2, eR hw2 hc2 hb2 a2 r2), (hw2, eW false), (hc2, eA cy f2), (hb2, eA cy g2)] sz) := by
  refine vx_ofW (cc := cX2_wideMin) (maxL := 4) (ret := (some .int)) (by decide +kernel) rfl ?_
  intro p e s m args below meth c s₁ B hml hno hv
  obtain ⟨rfl, hsz, hP, hK, hD0, hN, hG⟩ := hv
  have hx := B.exec
  have hb := B.bytes
  have hr := B.returns
  have hts := atoms_spec (ws := wsX2_wideMin) B.pre
  have hown : s.vm.findClass RX2 = some m.cls := findClass_of_methodNamed B.named
  have hlocks := B.notSynchronized
  subst hsz
  have hAN : ∀ q, va_A [(h0, eE h1 h2 kn), (h1, eR hw1 hc1 hb1 a1 r1), (hw1, eW true), (hc1, eA cy f1), (hb1, eA cy g1), (h2, eR hw2 hc2 hb2 a2 r2), (hw2, eW false), (hc2, eA cy f2), (hb2, eA cy g2)] s.heap.size q → N ≤ q := xA_N hD0 hN
  have hD := hD0.self (sz := s.heap.size)
  generalize hAe : va_A [(h0, eE h1 h2 kn), (h1, eR hw1 hc1 hb1 a1 r1), (hw1, eW true), (hc1, eA cy f1), (hb1, eA cy g1), (h2, eR hw2 hc2 hb2 a2 r2), (hw2, eW false), (hc2, eA cy f2), (hb2, eA cy g2)] s.heap.size = A at hD hAN ⊢
  have hA : ∀ q : Nat, s.heap.size ≤ q → A q := fun q h => by rw [← hAe]; exact Or.inr h
  have hS : va_S A s.heap s.heap [] := va_S.rf
  have hP : va_P (dC, dI) xCl [(h0, eE h1 h2 kn), (h1, eR hw1 hc1 hb1 a1 r1), (hw1, eW true), (hc1, eA cy f1), (hb1, eA cy g1), (h2, eR hw2 hc2 hb2 a2 r2), (hw2, eW false), (hc2, eA cy f2), (hb2, eA cy g2)] s.heap := hP
  have hl := lv_entry ([.ref h0, .int p0, .int p1, .int p2]) (n := 4) (Nat.le_of_ble_eq_true rfl)
  rw [lg_entry_eq]
  generalize (lg_sl ([.ref h0, .int p0, .int p1, .int p2]) ++ List.replicate (4 - (lg_sl ([.ref h0, .int p0, .int p1, .int p2])).length) Slot.unset).toArray = ls at hl ⊢
  have hl : lv_has ls 4 [(0, .ref h0), (1, .int p0), (2, .int p1), (3, .int p2)] := hl
  refine lv_aload_n hx hb dX2_wideMin_0 rfl (lv_at hl 0 rfl) ?_
  refine va_get (D := (dC, dI)) (ci := 4) (v := .ref h1) (C := RX2) (T := TX2) (N := 3) hx hb hts (by decide +kernel) hown hK hP 0 rfl rfl 0 (by decide +kernel) (hts (.fieldLink RX2 20 "Edgefloats" "wide" "LEdgefloats$Row;") (by decide +kernel)) (fun _ h9 => h9) rfl dX2_wideMin_1 ?_
  refine lv_iload_n hx hb dX2_wideMin_4 rfl (lv_at hl 1 rfl) ?_
  refine lv_iload_n hx hb dX2_wideMin_5 rfl (lv_at hl 2 rfl) ?_
  refine lv_iload_n hx hb dX2_wideMin_6 rfl (lv_at hl 3 rfl) ?_
  have hPc := hP.sub (ws' := [(h1, eR hw1 hc1 hb1 a1 r1), (hw1, eW true), (hc1, eA cy f1), (hb1, eA cy g1)]) [1, 2, 3, 4] rfl
  have hDc := hD.sub (ws' := [(h1, eR hw1 hc1 hb1 a1 r1), (hw1, eW true), (hc1, eA cy f1), (hb1, eA cy g1)]) [1, 2, 3, 4] (by decide +kernel) rfl
  have hKc := hK.sub (tys' := [(cy, .long)]) [0] rfl
  have hFc := va_free (wc := [(h1, eR hw1 hc1 hb1 a1 r1), (hw1, eW true), (hc1, eA cy f1), (hb1, eA cy g1)]) hD hS hA [1, 2, 3, 4] rfl
  refine vx_calli (vx_runV (As := [.int p0, .int p1, .int p2]) (rest := []) ⟨hx, hb, hml, hown, hts⟩ (k_X0_putLesser l hfl dC dI cy h1 hw1 hc1 hb1 true a1 r1 f1 g1 s.heap.size N p0 p1 p2) (cwV 3 hts gX2_wideMin_X0_putLesser rfl rfl rfl (by decide +kernel) ⟨Nat.le_of_ble_eq_true rfl, Nat.le_of_ble_eq_true rfl⟩) (xM.preV hKc hPc hDc hAN (Nat.le_trans hN hS.1) (hG.kept hS hAN) (ci := 2) (q0 := 0) rfl rfl) rfl rfl hl.1 rfl (lv_room (Nat.le_of_ble_eq_true rfl)) dX2_wideMin_7 ⟨Nat.le_of_ble_eq_true rfl, Nat.le_of_ble_eq_true rfl⟩) hS (fun q _ h => hFc q h) hFc (fun q _ h => hFc q h) (fun E ce q9 u9 t H locs ht hvm hpx hbx hz hk hS hce hcv hcl => ?_) (fun r_1 u t H locs ht hvm hw hB hz hk hS => ?_)
  · have c_2 : ¬ (o_X0_putLesser true a1 f1 p0 p1 p2).1 = 0 := hpx
    obtain ⟨hbe, hP1, hD1⟩ := hbx
    rw [ht] at hP1
    obtain ⟨hP, hD⟩ := va_join (wr := [(h0, eE h1 h2 kn), (h2, eR hw2 hc2 hb2 a2 r2), (hw2, eW false), (hc2, eA cy f2), (hb2, eA cy g2)]) (w1 := [(h1, eR hw1 hc1 hb1 a1 r1), (hw1, eW true), (hc1, eA cy f1), (hb1, eA cy g1)]) hP hD [1, 2, 3, 4] [0, 5, 6, 7, 8] rfl rfl (by decide +kernel) (by decide +kernel) hk hFc hP1 hD1
    have hP := hP.sub (ws' := [(h0, eE h1 h2 kn), (h1, eR hw1 hc1 hb1 a1 r1), (hw1, eW true), (hc1, eA cy f1), (hb1, eA cy g1), (h2, eR hw2 hc2 hb2 a2 r2), (hw2, eW false), (hc2, eA cy f2), (hb2, eA cy g2)]) [0, 5, 6, 7, 8, 1, 2, 3, 4] rfl
    have hD := hD.sub (ws' := [(h0, eE h1 h2 kn), (h1, eR hw1 hc1 hb1 a1 r1), (hw1, eW true), (hc1, eA cy f1), (hb1, eA cy g1), (h2, eR hw2 hc2 hb2 a2 r2), (hw2, eW false), (hc2, eA cy f2), (hb2, eA cy g2)]) [0, 5, 6, 7, 8, 1, 2, 3, 4] (by decide +kernel) rfl
    have he : o_X2_wideMin a1 f1 p0 p1 p2 = ((o_X0_putLesser true a1 f1 p0 p1 p2).1, 0, a1, f1) := by (rw [o_X2_wideMin, if_neg c_2]) <;> rfl
    exact vx_out (fun x hx => (hno x hx).elim) hlocks hce hcv hcl (fun t ht hvm => ⟨(), by rw [he]; exact c_2, ⟨by rw [he]; exact hbe, by rw [ht]; exact hP, hD⟩, hS.F ht⟩) hS.2.2 (by omega) (by omega)
  · skip
    obtain ⟨c_3, hw⟩ := hw
    have c_3 : (o_X0_putLesser true a1 f1 p0 p1 p2).1 = 0 := c_3
    replace hw : r_1 = (o_X0_putLesser true a1 f1 p0 p1 p2).2.1 := hw
    subst r_1
    obtain ⟨hP1, hD1⟩ := hB
    rw [ht] at hP1
    obtain ⟨hP, hD⟩ := va_join (wr := [(h0, eE h1 h2 kn), (h2, eR hw2 hc2 hb2 a2 r2), (hw2, eW false), (hc2, eA cy f2), (hb2, eA cy g2)]) (w1 := [(h1, eR hw1 hc1 hb1 (o_X0_putLesser true a1 f1 p0 p1 p2).2.2.1 r1), (hw1, eW true), (hc1, eA cy (o_X0_putLesser true a1 f1 p0 p1 p2).2.2.2), (hb1, eA cy g1)]) hP hD [1, 2, 3, 4] [0, 5, 6, 7, 8] rfl rfl (by decide +kernel) (by decide +kernel) hk hFc hP1 hD1
    have hP := hP.sub (ws' := [(h0, eE h1 h2 kn), (h1, eR hw1 hc1 hb1 (o_X0_putLesser true a1 f1 p0 p1 p2).2.2.1 r1), (hw1, eW true), (hc1, eA cy (o_X0_putLesser true a1 f1 p0 p1 p2).2.2.2), (hb1, eA cy g1), (h2, eR hw2 hc2 hb2 a2 r2), (hw2, eW false), (hc2, eA cy f2), (hb2, eA cy g2)]) [0, 5, 6, 7, 8, 1, 2, 3, 4] rfl
    have hD := hD.sub (ws' := [(h0, eE h1 h2 kn), (h1, eR hw1 hc1 hb1 (o_X0_putLesser true a1 f1 p0 p1 p2).2.2.1 r1), (hw1, eW true), (hc1, eA cy (o_X0_putLesser true a1 f1 p0 p1 p2).2.2.2), (hb1, eA cy g1), (h2, eR hw2 hc2 hb2 a2 r2), (hw2, eW false), (hc2, eA cy f2), (hb2, eA cy g2)]) [0, 5, 6, 7, 8, 1, 2, 3, 4] (by decide +kernel) rfl
    have he : o_X2_wideMin a1 f1 p0 p1 p2 = (0, (o_X0_putLesser true a1 f1 p0 p1 p2).2.1, (o_X0_putLesser true a1 f1 p0 p1 p2).2.2.1, (o_X0_putLesser true a1 f1 p0 p1 p2).2.2.2) := by (rw [o_X2_wideMin, if_pos c_3]) <;> rfl
    refine W.widen (k := 3) (n := 18) (by omega) (by omega) ?_
    refine vx_ret ?_
    exact W.iret (v := ((o_X0_putLesser true a1 f1 p0 p1 p2).2.1)) hx hb hr (fun t ht hW => ⟨⟨_, (), rfl, ⟨(by (rw [he]) <;> rfl), (by (rw [he]) <;> rfl)⟩, (by rw [he]; exact ⟨by rw [ht]; exact hP, hD⟩)⟩, hS.F ht⟩) hS.2.2 dX2_wideMin_10
theorem cl_X2_wideSum_1 : ∀ w ∈ wsX2_wideSum_r1, w ∈ wsX2_wideSum := fun _ h => (List.mem_cons_of_mem _ (List.mem_append_left _ (List.mem_append_left _ (List.mem_append_left _ (List.mem_append_left _ (List.mem_append_left _ h))))))
theorem cl_X2_wideSum_2 : ∀ w ∈ wsX2_wideSum_r2, w ∈ wsX2_wideSum := fun _ h => (List.mem_cons_of_mem _ (List.mem_append_left _ (List.mem_append_left _ (List.mem_append_left _ (List.mem_append_left _ (List.mem_append_right _ (List.mem_append_left _ h)))))))
theorem cl_X2_wideSum_3 : ∀ w ∈ wsX2_wideSum_r3, w ∈ wsX2_wideSum := fun _ h => (List.mem_cons_of_mem _ (List.mem_append_left _ (List.mem_append_left _ (List.mem_append_left _ (List.mem_append_left _ (List.mem_append_right _ (List.mem_append_right _ (List.mem_append_left _ h))))))))
theorem cl_X2_wideSum_4 : ∀ w ∈ wsX2_wideSum_r4, w ∈ wsX2_wideSum := fun _ h => (List.mem_cons_of_mem _ (List.mem_append_left _ (List.mem_append_left _ (List.mem_append_left _ (List.mem_append_left _ (List.mem_append_right _ (List.mem_append_right _ (List.mem_append_right _ h))))))))
theorem cl_X2_wideSum_5 : ∀ w ∈ wsX20, w ∈ wsX2_wideSum := fun _ h => (List.mem_cons_of_mem _ (List.mem_append_left _ (List.mem_append_left _ (List.mem_append_left _ (List.mem_append_right _ h)))))
theorem cl_X2_wideSum_6 : ∀ w ∈ wsX00, w ∈ wsX2_wideSum := fun _ h => (List.mem_cons_of_mem _ (List.mem_append_left _ (List.mem_append_left _ (List.mem_append_right _ h))))
theorem cl_X2_wideSum_7 : ∀ w ∈ wsX10, w ∈ wsX2_wideSum := fun _ h => (List.mem_cons_of_mem _ (List.mem_append_left _ (List.mem_append_right _ h)))
theorem cl_X2_wideSum_8 : ∀ w ∈ (vx_atS RX2 152 "java/lang/IndexOutOfBoundsException" ["java/lang/RuntimeException", "java/lang/Exception"]).filter goodWord, w ∈ wsX2_wideSum := fun _ h => (List.mem_cons_of_mem _ (List.mem_append_right _ h))
set_option maxRecDepth 20000 in
theorem ggX2_wideSum_X0_putSum : GoodIn wsX2_wideSum wsX0_putSum := goodIn_sub (List.forall_mem_cons.mpr ⟨(cl_X2_wideSum_1 _ (List.mem_of_getElem? (i := 5) rfl)), fun w h => (List.mem_append.mp h).elim ((fun w h => (List.mem_append.mp h).elim ((fun w h => (List.mem_append.mp h).elim ((fun w h => (List.mem_append.mp h).elim ((List.forall_mem_cons.mpr ⟨(cl_X2_wideSum_1 _ (List.mem_of_getElem? (i := 6) rfl)), List.forall_mem_cons.mpr ⟨(cl_X2_wideSum_1 _ (List.mem_of_getElem? (i := 7) rfl)), List.forall_mem_cons.mpr ⟨(cl_X2_wideSum_1 _ (List.mem_of_getElem? (i := 8) rfl)), List.forall_mem_cons.mpr ⟨(cl_X2_wideSum_1 _ (List.mem_of_getElem? (i := 9) rfl)), List.forall_mem_cons.mpr ⟨(cl_X2_wideSum_1 _ (List.mem_of_getElem? (i := 4) rfl)), List.forall_mem_cons.mpr ⟨(cl_X2_wideSum_1 _ (List.mem_of_getElem? (i := 10) rfl)), List.forall_mem_cons.mpr ⟨(cl_X2_wideSum_1 _ (List.mem_of_getElem? (i := 11) rfl)), List.forall_mem_cons.mpr ⟨(cl_X2_wideSum_1 _ (List.mem_of_getElem? (i := 12) rfl)), List.forall_mem_cons.mpr ⟨(cl_X2_wideSum_1 _ (List.mem_of_getElem? (i := 13) rfl)), List.forall_mem_cons.mpr ⟨(cl_X2_wideSum_1 _ (List.mem_of_getElem? (i := 14) rfl)), List.forall_mem_cons.mpr ⟨(cl_X2_wideSum_1 _ (List.mem_of_getElem? (i := 15) rfl)), List.forall_mem_cons.mpr ⟨(cl_X2_wideSum_1 _ (List.mem_of_getElem? (i := 16) rfl)), List.forall_mem_cons.mpr ⟨(cl_X2_wideSum_1 _ (List.mem_of_getElem? (i := 17) rfl)), List.forall_mem_cons.mpr ⟨(cl_X2_wideSum_1 _ (List.mem_of_getElem? (i := 18) rfl)), List.forall_mem_cons.mpr ⟨(cl_X2_wideSum_1 _ (List.mem_of_getElem? (i := 19) rfl)), List.forall_mem_cons.mpr ⟨(cl_X2_wideSum_1 _ (List.mem_of_getElem? (i := 20) rfl)), List.forall_mem_cons.mpr ⟨(cl_X2_wideSum_1 _ (List.mem_of_getElem? (i := 21) rfl)), List.forall_mem_cons.mpr ⟨(cl_X2_wideSum_1 _ (List.mem_of_getElem? (i := 22) rfl)), List.forall_mem_cons.mpr ⟨(cl_X2_wideSum_1 _ (List.mem_of_getElem? (i := 23) rfl)), List.forall_mem_cons.mpr ⟨(cl_X2_wideSum_2 _ (List.mem_of_getElem? (i := 0) rfl)), List.forall_mem_cons.mpr ⟨(cl_X2_wideSum_2 _ (List.mem_of_getElem? (i := 1) rfl)), List.forall_mem_cons.mpr ⟨(cl_X2_wideSum_2 _ (List.mem_of_getElem? (i := 2) rfl)), List.forall_mem_cons.mpr ⟨(cl_X2_wideSum_2 _ (List.mem_of_getElem? (i := 3) rfl)), List.forall_mem_cons.mpr ⟨(cl_X2_wideSum_2 _ (List.mem_of_getElem? (i := 4) rfl)), fun _ h => absurd h List.not_mem_nil⟩⟩⟩⟩⟩⟩⟩⟩⟩⟩⟩⟩⟩⟩⟩⟩⟩⟩⟩⟩⟩⟩⟩⟩) w) ((fun w h => (List.mem_append.mp h).elim ((List.forall_mem_cons.mpr ⟨(cl_X2_wideSum_2 _ (List.mem_of_getElem? (i := 5) rfl)), List.forall_mem_cons.mpr ⟨(cl_X2_wideSum_2 _ (List.mem_of_getElem? (i := 6) rfl)), List.forall_mem_cons.mpr ⟨(cl_X2_wideSum_2 _ (List.mem_of_getElem? (i := 7) rfl)), List.forall_mem_cons.mpr ⟨(cl_X2_wideSum_2 _ (List.mem_of_getElem? (i := 8) rfl)), List.forall_mem_cons.mpr ⟨(cl_X2_wideSum_2 _ (List.mem_of_getElem? (i := 9) rfl)), List.forall_mem_cons.mpr ⟨(cl_X2_wideSum_2 _ (List.mem_of_getElem? (i := 10) rfl)), List.forall_mem_cons.mpr ⟨(cl_X2_wideSum_2 _ (List.mem_of_getElem? (i := 11) rfl)), List.forall_mem_cons.mpr ⟨(cl_X2_wideSum_2 _ (List.mem_of_getElem? (i := 12) rfl)), List.forall_mem_cons.mpr ⟨(cl_X2_wideSum_2 _ (List.mem_of_getElem? (i := 13) rfl)), List.forall_mem_cons.mpr ⟨(cl_X2_wideSum_2 _ (List.mem_of_getElem? (i := 14) rfl)), List.forall_mem_cons.mpr ⟨(cl_X2_wideSum_2 _ (List.mem_of_getElem? (i := 15) rfl)), List.forall_mem_cons.mpr ⟨(cl_X2_wideSum_2 _ (List.mem_of_getElem? (i := 16) rfl)), List.forall_mem_cons.mpr ⟨(cl_X2_wideSum_2 _ (List.mem_of_getElem? (i := 17) rfl)), List.forall_mem_cons.mpr ⟨(cl_X2_wideSum_2 _ (List.mem_of_getElem? (i := 18) rfl)), List.forall_mem_cons.mpr ⟨(cl_X2_wideSum_2 _ (List.mem_of_getElem? (i := 19) rfl)), List.forall_mem_cons.mpr ⟨(cl_X2_wideSum_2 _ (List.mem_of_getElem? (i := 20) rfl)), List.forall_mem_cons.mpr ⟨(cl_X2_wideSum_2 _ (List.mem_of_getElem? (i := 21) rfl)), List.forall_mem_cons.mpr ⟨(cl_X2_wideSum_2 _ (List.mem_of_getElem? (i := 22) rfl)), List.forall_mem_cons.mpr ⟨(cl_X2_wideSum_2 _ (List.mem_of_getElem? (i := 23) rfl)), List.forall_mem_cons.mpr ⟨(cl_X2_wideSum_3 _ (List.mem_of_getElem? (i := 0) rfl)), List.forall_mem_cons.mpr ⟨(cl_X2_wideSum_3 _ (List.mem_of_getElem? (i := 1) rfl)), List.forall_mem_cons.mpr ⟨(cl_X2_wideSum_3 _ (List.mem_of_getElem? (i := 2) rfl)), List.forall_mem_cons.mpr ⟨(cl_X2_wideSum_3 _ (List.mem_of_getElem? (i := 3) rfl)), List.forall_mem_cons.mpr ⟨(cl_X2_wideSum_3 _ (List.mem_of_getElem? (i := 4) rfl)), fun _ h => absurd h List.not_mem_nil⟩⟩⟩⟩⟩⟩⟩⟩⟩⟩⟩⟩⟩⟩⟩⟩⟩⟩⟩⟩⟩⟩⟩⟩) w) ((fun w h => (List.mem_append.mp h).elim ((List.forall_mem_cons.mpr ⟨(cl_X2_wideSum_3 _ (List.mem_of_getElem? (i := 5) rfl)), List.forall_mem_cons.mpr ⟨(cl_X2_wideSum_3 _ (List.mem_of_getElem? (i := 6) rfl)), List.forall_mem_cons.mpr ⟨(cl_X2_wideSum_3 _ (List.mem_of_getElem? (i := 7) rfl)), List.forall_mem_cons.mpr ⟨(cl_X2_wideSum_3 _ (List.mem_of_getElem? (i := 8) rfl)), List.forall_mem_cons.mpr ⟨(cl_X2_wideSum_3 _ (List.mem_of_getElem? (i := 9) rfl)), List.forall_mem_cons.mpr ⟨(cl_X2_wideSum_3 _ (List.mem_of_getElem? (i := 10) rfl)), List.forall_mem_cons.mpr ⟨(cl_X2_wideSum_3 _ (List.mem_of_getElem? (i := 11) rfl)), List.forall_mem_cons.mpr ⟨(cl_X2_wideSum_3 _ (List.mem_of_getElem? (i := 12) rfl)), List.forall_mem_cons.mpr ⟨(cl_X2_wideSum_3 _ (List.mem_of_getElem? (i := 13) rfl)), List.forall_mem_cons.mpr ⟨(cl_X2_wideSum_3 _ (List.mem_of_getElem? (i := 14) rfl)), List.forall_mem_cons.mpr ⟨(cl_X2_wideSum_3 _ (List.mem_of_getElem? (i := 15) rfl)), List.forall_mem_cons.mpr ⟨(cl_X2_wideSum_3 _ (List.mem_of_getElem? (i := 16) rfl)), List.forall_mem_cons.mpr ⟨(cl_X2_wideSum_3 _ (List.mem_of_getElem? (i := 17) rfl)), List.forall_mem_cons.mpr ⟨(cl_X2_wideSum_3 _ (List.mem_of_getElem? (i := 18) rfl)), List.forall_mem_cons.mpr ⟨(cl_X2_wideSum_3 _ (List.mem_of_getElem? (i := 19) rfl)), List.forall_mem_cons.mpr ⟨(cl_X2_wideSum_3 _ (List.mem_of_getElem? (i := 20) rfl)), List.forall_mem_cons.mpr ⟨(cl_X2_wideSum_3 _ (List.mem_of_getElem? (i := 21) rfl)), List.forall_mem_cons.mpr ⟨(cl_X2_wideSum_3 _ (List.mem_of_getElem? (i := 22) rfl)), List.forall_mem_cons.mpr ⟨(cl_X2_wideSum_3 _ (List.mem_of_getElem? (i := 23) rfl)), List.forall_mem_cons.mpr ⟨(cl_X2_wideSum_4 _ (List.mem_of_getElem? (i := 0) rfl)), List.forall_mem_cons.mpr ⟨(cl_X2_wideSum_4 _ (List.mem_of_getElem? (i := 1) rfl)), List.forall_mem_cons.mpr ⟨(cl_X2_wideSum_4 _ (List.mem_of_getElem? (i := 2) rfl)), List.forall_mem_cons.mpr ⟨(cl_X2_wideSum_4 _ (List.mem_of_getElem? (i := 3) rfl)), List.forall_mem_cons.mpr ⟨(cl_X2_wideSum_4 _ (List.mem_of_getElem? (i := 4) rfl)), fun _ h => absurd h List.not_mem_nil⟩⟩⟩⟩⟩⟩⟩⟩⟩⟩⟩⟩⟩⟩⟩⟩⟩⟩⟩⟩⟩⟩⟩⟩) w) ((List.forall_mem_cons.mpr ⟨(cl_X2_wideSum_4 _ (List.mem_of_getElem? (i := 5) rfl)), List.forall_mem_cons.mpr ⟨(cl_X2_wideSum_4 _ (List.mem_of_getElem? (i := 6) rfl)), fun _ h => absurd h List.not_mem_nil⟩⟩) w)) w)) w)) w) ((cl_X2_wideSum_6) w)) w) ((cl_X2_wideSum_7) w)) w) ((cl_X2_wideSum_8) w)⟩) (by decide +kernel)
set_option maxRecDepth 20000 in
theorem gX2_wideSum_X0_putSum : GoodIn wsX2_wideSum (wsV RX2 54 RX0 yX0_putSum wsX0_putSum) := goodIn_app (goodIn_sub (List.forall_mem_cons.mpr ⟨(cl_X2_wideSum_1 _ (List.mem_of_getElem? (i := 1) rfl)), List.forall_mem_cons.mpr ⟨(cl_X2_wideSum_1 _ (List.mem_of_getElem? (i := 2) rfl)), List.forall_mem_cons.mpr ⟨(cl_X2_wideSum_1 _ (List.mem_of_getElem? (i := 3) rfl)), List.forall_mem_cons.mpr ⟨(cl_X2_wideSum_1 _ (List.mem_of_getElem? (i := 4) rfl)), fun _ h => absurd h List.not_mem_nil⟩⟩⟩⟩) (by decide +kernel)) ggX2_wideSum_X0_putSum
noncomputable def dz_p13_8 : List (Nat × Instr × Nat) := [(0, (.aload_n 0, 1)), (1, (.getfield 20, 3)), (4, (.iload_n 1, 1)), (5, (.iload_n 2, 1)), (6, (.iload_n 3, 1)), (7, (.invokevirtual 54, 3)), (10, (.ireturn, 1))]
theorem dy_p13_8 : dz_ok cX2_wideSum dz_p13_8 = true := by decide +kernel
theorem dX2_wideSum_0 : decode cX2_wideSum 0 = .ok (.aload_n 0, 1) := dz_at (i := 0) dy_p13_8 rfl
theorem dX2_wideSum_1 : decode cX2_wideSum 1 = .ok (.getfield 20, 3) := dz_at (i := 1) dy_p13_8 rfl
theorem dX2_wideSum_4 : decode cX2_wideSum 4 = .ok (.iload_n 1, 1) := dz_at (i := 2) dy_p13_8 rfl
theorem dX2_wideSum_5 : decode cX2_wideSum 5 = .ok (.iload_n 2, 1) := dz_at (i := 3) dy_p13_8 rfl
theorem dX2_wideSum_6 : decode cX2_wideSum 6 = .ok (.iload_n 3, 1) := dz_at (i := 4) dy_p13_8 rfl
theorem dX2_wideSum_7 : decode cX2_wideSum 7 = .ok (.invokevirtual 54, 3) := dz_at (i := 5) dy_p13_8 rfl
theorem dX2_wideSum_10 : decode cX2_wideSum 10 = .ok (.ireturn, 1) := dz_at (i := 6) dy_p13_8 rfl
noncomputable def o_X2_wideSum (a1 : Int32) (r1 : Int32) (f1 : Nat → Int64) (p0 : Int32) (p1 : Int32) (p2 : Int32) : Int32 × Int32 × Int32 × Int32 × (Nat → Int64) :=
  if (o_X0_putSum true a1 r1 f1 p0 p1 p2).1 = 0 then (0, (o_X0_putSum true a1 r1 f1 p0 p1 p2).2.1, (o_X0_putSum true a1 r1 f1 p0 p1 p2).2.2.1, (o_X0_putSum true a1 r1 f1 p0 p1 p2).2.2.2.1, (o_X0_putSum true a1 r1 f1 p0 p1 p2).2.2.2.2)
  else ((o_X0_putSum true a1 r1 f1 p0 p1 p2).1, 0, a1, r1, f1)
set_option maxHeartbeats 4000000 in
set_option maxRecDepth 100000 in
theorem k_X2_wideSum (l : Launch) (hfl : l.flags = flags0) (dC : Nat → ClassId) (dI : Nat → Nat → Nat) (cy : ClassId) (h0 : Nat) (h1 : Nat) (hw1 : Nat) (hc1 : Nat) (hb1 : Nat) (h2 : Nat) (hw2 : Nat) (hc2 : Nat) (hb2 : Nat) (a1 : Int32) (r1 : Int32) (f1 : Nat → Int64) (g1 : Nat → Int64) (a2 : Int32) (r2 : Int32) (f2 : Nat → Int64) (g2 : Nat → Int64) (kn : Int32) (sz : Nat) (N : Nat) (p0 : Int32) (p1 : Int32) (p2 : Int32) : vx_Met l yX2_wideSum wsX2_wideSum ({ frames := 9, cells := 3, slots := 18, locals := 165 }) (va_Pc [.ref h0, .int p0, .int p1, .int p2] (xM (dC, dI) xCl [(h0, eE h1 h2 kn), (h1, eR hw1 hc1 hb1 a1 r1), (hw1, eW true), (hc1, eA cy f1), (hb1, eA cy g1), (h2, eR hw2 hc2 hb2 a2 r2), (hw2, eW false), (hc2, eA cy f2), (hb2, eA cy g2)] [(cy, .long)] sz N)) (va_Qi (fun (r : Int32) (_ : Unit) => (o_X2_wideSum a1 r1 f1 p0 p1 p2).1 = 0 ∧ r = (o_X2_wideSum a1 r1 f1 p0 p1 p2).2.1) (fun _ t => xW (dC, dI) xCl [(h0, eE h1 h2 kn), (h1, eR hw1 hc1 hb1 (o_X2_wideSum a1 r1 f1 p0 p1 p2).2.2.1 (o_X2_wideSum a1 r1 f1 p0 p1 p2).2.2.2.1), (hw1, eW true), (hc1, eA cy (o_X2_wideSum a1 r1 f1 p0 p1 p2).2.2.2.2), (hb1, eA cy g1), (h2, eR hw2 hc2 hb2 a2 r2), (hw2, eW false), (hc2, eA cy f2), (hb2, eA cy g2)] (va_A [(h0, eE h1 h2 kn), (h1, eR hw1 hc1 hb1 a1 r1), (hw1, eW true), (hc1, eA cy f1), (hb1, eA cy g1), (h2, eR hw2 hc2 hb2 a2 r2), (hw2, eW false), (hc2, eA cy f2), (hb2, eA cy g2)] sz) t) (va_A [(h0, eE h1 h2 kn), (h1, eR hw1 hc1 hb1 a1 r1), (hw1, eW true), (hc1, eA cy f1), (hb1, eA cy g1), (h2, eR hw2 hc2 hb2 a2 r2), (hw2, eW false), (hc2, eA cy f2), (hb2, eA cy g2)] sz)) (vx_X (fun _ : Unit => ¬ (o_X2_wideSum a1 r1 f1 p0 p1 p2).1 = 0) (fun E _ t => E = xE (o_X2_wideSum a1 r1 f1 p0 p1 p2).1 ∧ xW (dC, dI) xCl [(h0, eE h1 h2 kn), (h1, eR hw1 hc1 hb1 a1 r1), (hw1, eW true), (hc1, eA cy f1), (hb1, eA cy g1), (h2, eR hw2 hc2 hb2 a2 r2), (hw2, eW false), (hc2, eA cy f2), (hb2, eA cy g2)] (va_A [(h0, eE h1 h2 kn), (h1, eR hw1 hc1 hb1 a1 r1), (hw1, eW true), (hc1, eA cy f1), (hb1, eA cy g1), (h2, eR hw2 hc2 hb2 a2 r2), (hw2, eW false), (hc2, eA cy f2), (hb2, eA cy g2)] sz) t) (va_A [(h0, eE h1 h2 kn), (h1, eR hw1 hc1 hb1 a1 r1), (hw1, eW true), (hc1, eA cy f1), (hb1, eA cy g1), (h2, eR hw2 hc2 hb2 a2 r2), (hw2, eW false), (hc2, eA cy f2), (hb2, eA cy g2)] sz)) 3 18 (va_A [(h0, eE h1 h2 kn), (h1, eR hw1 hc1 hb1 a1 r1), (hw1, eW true), (hc1, eA cy f1), (hb1, eA cy g1), (h2, eR hw2 hc2 hb2 a2 r2), (hw2, eW false), (hc2, eA cy f2), (hb2, eA cy g2)] sz) := by
  refine vx_ofW (cc := cX2_wideSum) (maxL := 4) (ret := (some .int)) (by decide +kernel) rfl ?_
  intro p e s m args below meth c s₁ B hml hno hv
  obtain ⟨rfl, hsz, hP, hK, hD0, hN, hG⟩ := hv
  have hx := B.exec
  have hb := B.bytes
  have hr := B.returns
  have hts := atoms_spec (ws := wsX2_wideSum) B.pre
  have hown : s.vm.findClass RX2 = some m.cls := findClass_of_methodNamed B.named
  have hlocks := B.notSynchronized
  subst hsz
  have hAN : ∀ q, va_A [(h0, eE h1 h2 kn), (h1, eR hw1 hc1 hb1 a1 r1), (hw1, eW true), (hc1, eA cy f1), (hb1, eA cy g1), (h2, eR hw2 hc2 hb2 a2 r2), (hw2, eW false), (hc2, eA cy f2), (hb2, eA cy g2)] s.heap.size q → N ≤ q := xA_N hD0 hN
  have hD := hD0.self (sz := s.heap.size)
  generalize hAe : va_A [(h0, eE h1 h2 kn), (h1, eR hw1 hc1 hb1 a1 r1), (hw1, eW true), (hc1, eA cy f1), (hb1, eA cy g1), (h2, eR hw2 hc2 hb2 a2 r2), (hw2, eW false), (hc2, eA cy f2), (hb2, eA cy g2)] s.heap.size = A at hD hAN ⊢
  have hA : ∀ q : Nat, s.heap.size ≤ q → A q := fun q h => by rw [← hAe]; exact Or.inr h
  have hS : va_S A s.heap s.heap [] := va_S.rf
  have hP : va_P (dC, dI) xCl [(h0, eE h1 h2 kn), (h1, eR hw1 hc1 hb1 a1 r1), (hw1, eW true), (hc1, eA cy f1), (hb1, eA cy g1), (h2, eR hw2 hc2 hb2 a2 r2), (hw2, eW false), (hc2, eA cy f2), (hb2, eA cy g2)] s.heap := hP
  have hl := lv_entry ([.ref h0, .int p0, .int p1, .int p2]) (n := 4) (Nat.le_of_ble_eq_true rfl)
  rw [lg_entry_eq]
  generalize (lg_sl ([.ref h0, .int p0, .int p1, .int p2]) ++ List.replicate (4 - (lg_sl ([.ref h0, .int p0, .int p1, .int p2])).length) Slot.unset).toArray = ls at hl ⊢
  have hl : lv_has ls 4 [(0, .ref h0), (1, .int p0), (2, .int p1), (3, .int p2)] := hl
  refine lv_aload_n hx hb dX2_wideSum_0 rfl (lv_at hl 0 rfl) ?_
  refine va_get (D := (dC, dI)) (ci := 4) (v := .ref h1) (C := RX2) (T := TX2) (N := 3) hx hb hts (by decide +kernel) hown hK hP 0 rfl rfl 0 (by decide +kernel) (hts (.fieldLink RX2 20 "Edgefloats" "wide" "LEdgefloats$Row;") (by decide +kernel)) (fun _ h9 => h9) rfl dX2_wideSum_1 ?_
  refine lv_iload_n hx hb dX2_wideSum_4 rfl (lv_at hl 1 rfl) ?_
  refine lv_iload_n hx hb dX2_wideSum_5 rfl (lv_at hl 2 rfl) ?_
  refine lv_iload_n hx hb dX2_wideSum_6 rfl (lv_at hl 3 rfl) ?_
  have hPc := hP.sub (ws' := [(h1, eR hw1 hc1 hb1 a1 r1), (hw1, eW true), (hc1, eA cy f1), (hb1, eA cy g1)]) [1, 2, 3, 4] rfl
  have hDc := hD.sub (ws' := [(h1, eR hw1 hc1 hb1 a1 r1), (hw1, eW true), (hc1, eA cy f1), (hb1, eA cy g1)]) [1, 2, 3, 4] (by decide +kernel) rfl
  have hKc := hK.sub (tys' := [(cy, .long)]) [0] rfl
  have hFc := va_free (wc := [(h1, eR hw1 hc1 hb1 a1 r1), (hw1, eW true), (hc1, eA cy f1), (hb1, eA cy g1)]) hD hS hA [1, 2, 3, 4] rfl
  refine vx_calli (vx_runV (As := [.int p0, .int p1, .int p2]) (rest := []) ⟨hx, hb, hml, hown, hts⟩ (k_X0_putSum l hfl dC dI cy h1 hw1 hc1 hb1 true a1 r1 f1 g1 s.heap.size N p0 p1 p2) (cwV 3 hts gX2_wideSum_X0_putSum rfl rfl rfl (by decide +kernel) ⟨Nat.le_of_ble_eq_true rfl, Nat.le_of_ble_eq_true rfl⟩) (xM.preV hKc hPc hDc hAN (Nat.le_trans hN hS.1) (hG.kept hS hAN) (ci := 2) (q0 := 0) rfl rfl) rfl rfl hl.1 rfl (lv_room (Nat.le_of_ble_eq_true rfl)) dX2_wideSum_7 ⟨Nat.le_of_ble_eq_true rfl, Nat.le_of_ble_eq_true rfl⟩) hS (fun q _ h => hFc q h) hFc (fun q _ h => hFc q h) (fun E ce q9 u9 t H locs ht hvm hpx hbx hz hk hS hce hcv hcl => ?_) (fun r_1 u t H locs ht hvm hw hB hz hk hS => ?_)
  · have c_2 : ¬ (o_X0_putSum true a1 r1 f1 p0 p1 p2).1 = 0 := hpx
    obtain ⟨hbe, hP1, hD1⟩ := hbx
    rw [ht] at hP1
    obtain ⟨hP, hD⟩ := va_join (wr := [(h0, eE h1 h2 kn), (h2, eR hw2 hc2 hb2 a2 r2), (hw2, eW false), (hc2, eA cy f2), (hb2, eA cy g2)]) (w1 := [(h1, eR hw1 hc1 hb1 a1 r1), (hw1, eW true), (hc1, eA cy f1), (hb1, eA cy g1)]) hP hD [1, 2, 3, 4] [0, 5, 6, 7, 8] rfl rfl (by decide +kernel) (by decide +kernel) hk hFc hP1 hD1
    have hP := hP.sub (ws' := [(h0, eE h1 h2 kn), (h1, eR hw1 hc1 hb1 a1 r1), (hw1, eW true), (hc1, eA cy f1), (hb1, eA cy g1), (h2, eR hw2 hc2 hb2 a2 r2), (hw2, eW false), (hc2, eA cy f2), (hb2, eA cy g2)]) [0, 5, 6, 7, 8, 1, 2, 3, 4] rfl
    have hD := hD.sub (ws' := [(h0, eE h1 h2 kn), (h1, eR hw1 hc1 hb1 a1 r1), (hw1, eW true), (hc1, eA cy f1), (hb1, eA cy g1), (h2, eR hw2 hc2 hb2 a2 r2), (hw2, eW false), (hc2, eA cy f2), (hb2, eA cy g2)]) [0, 5, 6, 7, 8, 1, 2, 3, 4] (by decide +kernel) rfl
    have he : o_X2_wideSum a1 r1 f1 p0 p1 p2 = ((o_X0_putSum true a1 r1 f1 p0 p1 p2).1, 0, a1, r1, f1) := by (rw [o_X2_wideSum, if_neg c_2]) <;> rfl
    exact vx_out (fun x hx => (hno x hx).elim) hlocks hce hcv hcl (fun t ht hvm => ⟨(), by rw [he]; exact c_2, ⟨by rw [he]; exact hbe, by rw [ht]; exact hP, hD⟩, hS.F ht⟩) hS.2.2 (by omega) (by omega)
  · skip
    obtain ⟨c_3, hw⟩ := hw
    have c_3 : (o_X0_putSum true a1 r1 f1 p0 p1 p2).1 = 0 := c_3
    replace hw : r_1 = (o_X0_putSum true a1 r1 f1 p0 p1 p2).2.1 := hw
    subst r_1
    obtain ⟨hP1, hD1⟩ := hB
    rw [ht] at hP1
    obtain ⟨hP, hD⟩ := va_join (wr := [(h0, eE h1 h2 kn), (h2, eR hw2 hc2 hb2 a2 r2), (hw2, eW false), (hc2, eA cy f2), (hb2, eA cy g2)]) (w1 := [(h1, eR hw1 hc1 hb1 (o_X0_putSum true a1 r1 f1 p0 p1 p2).2.2.1 (o_X0_putSum true a1 r1 f1 p0 p1 p2).2.2.2.1), (hw1, eW true), (hc1, eA cy (o_X0_putSum true a1 r1 f1 p0 p1 p2).2.2.2.2), (hb1, eA cy g1)]) hP hD [1, 2, 3, 4] [0, 5, 6, 7, 8] rfl rfl (by decide +kernel) (by decide +kernel) hk hFc hP1 hD1
    have hP := hP.sub (ws' := [(h0, eE h1 h2 kn), (h1, eR hw1 hc1 hb1 (o_X0_putSum true a1 r1 f1 p0 p1 p2).2.2.1 (o_X0_putSum true a1 r1 f1 p0 p1 p2).2.2.2.1), (hw1, eW true), (hc1, eA cy (o_X0_putSum true a1 r1 f1 p0 p1 p2).2.2.2.2), (hb1, eA cy g1), (h2, eR hw2 hc2 hb2 a2 r2), (hw2, eW false), (hc2, eA cy f2), (hb2, eA cy g2)]) [0, 5, 6, 7, 8, 1, 2, 3, 4] rfl
    have hD := hD.sub (ws' := [(h0, eE h1 h2 kn), (h1, eR hw1 hc1 hb1 (o_X0_putSum true a1 r1 f1 p0 p1 p2).2.2.1 (o_X0_putSum true a1 r1 f1 p0 p1 p2).2.2.2.1), (hw1, eW true), (hc1, eA cy (o_X0_putSum true a1 r1 f1 p0 p1 p2).2.2.2.2), (hb1, eA cy g1), (h2, eR hw2 hc2 hb2 a2 r2), (hw2, eW false), (hc2, eA cy f2), (hb2, eA cy g2)]) [0, 5, 6, 7, 8, 1, 2, 3, 4] (by decide +kernel) rfl
    have he : o_X2_wideSum a1 r1 f1 p0 p1 p2 = (0, (o_X0_putSum true a1 r1 f1 p0 p1 p2).2.1, (o_X0_putSum true a1 r1 f1 p0 p1 p2).2.2.1, (o_X0_putSum true a1 r1 f1 p0 p1 p2).2.2.2.1, (o_X0_putSum true a1 r1 f1 p0 p1 p2).2.2.2.2) := by (rw [o_X2_wideSum, if_pos c_3]) <;> rfl
    refine W.widen (k := 3) (n := 18) (by omega) (by omega) ?_
    refine vx_ret ?_
    exact W.iret (v := ((o_X0_putSum true a1 r1 f1 p0 p1 p2).2.1)) hx hb hr (fun t ht hW => ⟨⟨_, (), rfl, ⟨(by (rw [he]) <;> rfl), (by (rw [he]) <;> rfl)⟩, (by rw [he]; exact ⟨by rw [ht]; exact hP, hD⟩)⟩, hS.F ht⟩) hS.2.2 dX2_wideSum_10
theorem cl_X2_wideSort_1 : ∀ w ∈ wsX2_wideSort_r1, w ∈ wsX2_wideSort := fun _ h => (List.mem_cons_of_mem _ (List.mem_append_left _ (List.mem_append_left _ (List.mem_append_left _ (List.mem_append_left _ (List.mem_append_left _ h))))))
theorem cl_X2_wideSort_2 : ∀ w ∈ wsX2_wideSort_r2, w ∈ wsX2_wideSort := fun _ h => (List.mem_cons_of_mem _ (List.mem_append_left _ (List.mem_append_left _ (List.mem_append_left _ (List.mem_append_left _ (List.mem_append_right _ h))))))
theorem cl_X2_wideSort_3 : ∀ w ∈ wsX20, w ∈ wsX2_wideSort := fun _ h => (List.mem_cons_of_mem _ (List.mem_append_left _ (List.mem_append_left _ (List.mem_append_left _ (List.mem_append_right _ h)))))
theorem cl_X2_wideSort_4 : ∀ w ∈ wsX00, w ∈ wsX2_wideSort := fun _ h => (List.mem_cons_of_mem _ (List.mem_append_left _ (List.mem_append_left _ (List.mem_append_right _ h))))
theorem cl_X2_wideSort_5 : ∀ w ∈ wsX10, w ∈ wsX2_wideSort := fun _ h => (List.mem_cons_of_mem _ (List.mem_append_left _ (List.mem_append_right _ h)))
theorem cl_X2_wideSort_6 : ∀ w ∈ (vx_atS RX2 159 "java/lang/IllegalArgumentException" ["java/lang/RuntimeException", "java/lang/Exception"]).filter goodWord, w ∈ wsX2_wideSort := fun _ h => (List.mem_cons_of_mem _ (List.mem_append_right _ h))
set_option maxRecDepth 20000 in
theorem ggX2_wideSort_X0_sort : GoodIn wsX2_wideSort wsX0_sort := goodIn_sub (List.forall_mem_cons.mpr ⟨(cl_X2_wideSort_1 _ (List.mem_of_getElem? (i := 5) rfl)), fun w h => (List.mem_append.mp h).elim ((fun w h => (List.mem_append.mp h).elim ((fun w h => (List.mem_append.mp h).elim ((fun w h => (List.mem_append.mp h).elim ((List.forall_mem_cons.mpr ⟨(cl_X2_wideSort_1 _ (List.mem_of_getElem? (i := 6) rfl)), List.forall_mem_cons.mpr ⟨(cl_X2_wideSort_1 _ (List.mem_of_getElem? (i := 7) rfl)), List.forall_mem_cons.mpr ⟨(cl_X2_wideSort_1 _ (List.mem_of_getElem? (i := 8) rfl)), List.forall_mem_cons.mpr ⟨(cl_X2_wideSort_1 _ (List.mem_of_getElem? (i := 9) rfl)), List.forall_mem_cons.mpr ⟨(cl_X2_wideSort_1 _ (List.mem_of_getElem? (i := 10) rfl)), List.forall_mem_cons.mpr ⟨(cl_X2_wideSort_1 _ (List.mem_of_getElem? (i := 11) rfl)), List.forall_mem_cons.mpr ⟨(cl_X2_wideSort_1 _ (List.mem_of_getElem? (i := 12) rfl)), List.forall_mem_cons.mpr ⟨(cl_X2_wideSort_1 _ (List.mem_of_getElem? (i := 13) rfl)), List.forall_mem_cons.mpr ⟨(cl_X2_wideSort_1 _ (List.mem_of_getElem? (i := 14) rfl)), List.forall_mem_cons.mpr ⟨(cl_X2_wideSort_1 _ (List.mem_of_getElem? (i := 15) rfl)), List.forall_mem_cons.mpr ⟨(cl_X2_wideSort_1 _ (List.mem_of_getElem? (i := 16) rfl)), List.forall_mem_cons.mpr ⟨(cl_X2_wideSort_1 _ (List.mem_of_getElem? (i := 17) rfl)), List.forall_mem_cons.mpr ⟨(cl_X2_wideSort_1 _ (List.mem_of_getElem? (i := 18) rfl)), List.forall_mem_cons.mpr ⟨(cl_X2_wideSort_1 _ (List.mem_of_getElem? (i := 19) rfl)), List.forall_mem_cons.mpr ⟨(cl_X2_wideSort_1 _ (List.mem_of_getElem? (i := 20) rfl)), List.forall_mem_cons.mpr ⟨(cl_X2_wideSort_1 _ (List.mem_of_getElem? (i := 4) rfl)), List.forall_mem_cons.mpr ⟨(cl_X2_wideSort_1 _ (List.mem_of_getElem? (i := 21) rfl)), List.forall_mem_cons.mpr ⟨(cl_X2_wideSort_1 _ (List.mem_of_getElem? (i := 22) rfl)), List.forall_mem_cons.mpr ⟨(cl_X2_wideSort_1 _ (List.mem_of_getElem? (i := 23) rfl)), List.forall_mem_cons.mpr ⟨(cl_X2_wideSort_2 _ (List.mem_of_getElem? (i := 0) rfl)), List.forall_mem_cons.mpr ⟨(cl_X2_wideSort_2 _ (List.mem_of_getElem? (i := 1) rfl)), List.forall_mem_cons.mpr ⟨(cl_X2_wideSort_2 _ (List.mem_of_getElem? (i := 2) rfl)), List.forall_mem_cons.mpr ⟨(cl_X2_wideSort_2 _ (List.mem_of_getElem? (i := 3) rfl)), List.forall_mem_cons.mpr ⟨(cl_X2_wideSort_2 _ (List.mem_of_getElem? (i := 4) rfl)), fun _ h => absurd h List.not_mem_nil⟩⟩⟩⟩⟩⟩⟩⟩⟩⟩⟩⟩⟩⟩⟩⟩⟩⟩⟩⟩⟩⟩⟩⟩) w) ((List.forall_mem_cons.mpr ⟨(cl_X2_wideSort_2 _ (List.mem_of_getElem? (i := 5) rfl)), List.forall_mem_cons.mpr ⟨(cl_X2_wideSort_2 _ (List.mem_of_getElem? (i := 6) rfl)), List.forall_mem_cons.mpr ⟨(cl_X2_wideSort_2 _ (List.mem_of_getElem? (i := 7) rfl)), List.forall_mem_cons.mpr ⟨(cl_X2_wideSort_2 _ (List.mem_of_getElem? (i := 8) rfl)), List.forall_mem_cons.mpr ⟨(cl_X2_wideSort_2 _ (List.mem_of_getElem? (i := 9) rfl)), fun _ h => absurd h List.not_mem_nil⟩⟩⟩⟩⟩) w)) w) ((cl_X2_wideSort_4) w)) w) ((cl_X2_wideSort_5) w)) w) ((cl_X2_wideSort_6) w)⟩) (by decide +kernel)
set_option maxRecDepth 20000 in
theorem gX2_wideSort_X0_sort : GoodIn wsX2_wideSort (wsV RX2 57 RX0 yX0_sort wsX0_sort) := goodIn_app (goodIn_sub (List.forall_mem_cons.mpr ⟨(cl_X2_wideSort_1 _ (List.mem_of_getElem? (i := 1) rfl)), List.forall_mem_cons.mpr ⟨(cl_X2_wideSort_1 _ (List.mem_of_getElem? (i := 2) rfl)), List.forall_mem_cons.mpr ⟨(cl_X2_wideSort_1 _ (List.mem_of_getElem? (i := 3) rfl)), List.forall_mem_cons.mpr ⟨(cl_X2_wideSort_1 _ (List.mem_of_getElem? (i := 4) rfl)), fun _ h => absurd h List.not_mem_nil⟩⟩⟩⟩) (by decide +kernel)) ggX2_wideSort_X0_sort
noncomputable def dz_p13_9 : List (Nat × Instr × Nat) := [(0, (.aload_n 0, 1)), (1, (.getfield 20, 3)), (4, (.iload_n 1, 1)), (5, (.invokevirtual 57, 3)), (8, (.ireturn, 1))]
theorem dy_p13_9 : dz_ok cX2_wideSort dz_p13_9 = true := by decide +kernel
theorem dX2_wideSort_0 : decode cX2_wideSort 0 = .ok (.aload_n 0, 1) := dz_at (i := 0) dy_p13_9 rfl
theorem dX2_wideSort_1 : decode cX2_wideSort 1 = .ok (.getfield 20, 3) := dz_at (i := 1) dy_p13_9 rfl
theorem dX2_wideSort_4 : decode cX2_wideSort 4 = .ok (.iload_n 1, 1) := dz_at (i := 2) dy_p13_9 rfl
theorem dX2_wideSort_5 : decode cX2_wideSort 5 = .ok (.invokevirtual 57, 3) := dz_at (i := 3) dy_p13_9 rfl
theorem dX2_wideSort_8 : decode cX2_wideSort 8 = .ok (.ireturn, 1) := dz_at (i := 4) dy_p13_9 rfl
noncomputable def o_X2_wideSort (a1 : Int32) (f1 : Nat → Int64) (g1 : Nat → Int64) (p0 : Int32) : Int32 × Int32 × Int32 × (Nat → Int64) × (Nat → Int64) :=
  if (o_X0_sort true a1 f1 g1 p0).1 = 0 then (0, (o_X0_sort true a1 f1 g1 p0).2.1, (o_X0_sort true a1 f1 g1 p0).2.2.1, (o_X0_sort true a1 f1 g1 p0).2.2.2.1, (o_X0_sort true a1 f1 g1 p0).2.2.2.2)
  else ((o_X0_sort true a1 f1 g1 p0).1, 0, a1, f1, g1)
set_option maxHeartbeats 4000000 in
set_option maxRecDepth 100000 in
theorem k_X2_wideSort (l : Launch) (hfl : l.flags = flags0) (dC : Nat → ClassId) (dI : Nat → Nat → Nat) (cy : ClassId) (h0 : Nat) (h1 : Nat) (hw1 : Nat) (hc1 : Nat) (hb1 : Nat) (h2 : Nat) (hw2 : Nat) (hc2 : Nat) (hb2 : Nat) (a1 : Int32) (r1 : Int32) (f1 : Nat → Int64) (g1 : Nat → Int64) (a2 : Int32) (r2 : Int32) (f2 : Nat → Int64) (g2 : Nat → Int64) (kn : Int32) (sz : Nat) (N : Nat) (p0 : Int32) : vx_Met l yX2_wideSort wsX2_wideSort ({ frames := 8, cells := 1, slots := 6, locals := 144 }) (va_Pc [.ref h0, .int p0] (xM (dC, dI) xCl [(h0, eE h1 h2 kn), (h1, eR hw1 hc1 hb1 a1 r1), (hw1, eW true), (hc1, eA cy f1), (hb1, eA cy g1), (h2, eR hw2 hc2 hb2 a2 r2), (hw2, eW false), (hc2, eA cy f2), (hb2, eA cy g2)] [(cy, .long)] sz N)) (va_Qi (fun (r : Int32) (_ : Unit) => (o_X2_wideSort a1 f1 g1 p0).1 = 0 ∧ r = (o_X2_wideSort a1 f1 g1 p0).2.1) (fun _ t => xW (dC, dI) xCl [(h0, eE h1 h2 kn), (h1, eR hw1 hc1 hb1 (o_X2_wideSort a1 f1 g1 p0).2.2.1 r1), (hw1, eW true), (hc1, eA cy (o_X2_wideSort a1 f1 g1 p0).2.2.2.1), (hb1, eA cy (o_X2_wideSort a1 f1 g1 p0).2.2.2.2), (h2, eR hw2 hc2 hb2 a2 r2), (hw2, eW false), (hc2, eA cy f2), (hb2, eA cy g2)] (va_A [(h0, eE h1 h2 kn), (h1, eR hw1 hc1 hb1 a1 r1), (hw1, eW true), (hc1, eA cy f1), (hb1, eA cy g1), (h2, eR hw2 hc2 hb2 a2 r2), (hw2, eW false), (hc2, eA cy f2), (hb2, eA cy g2)] sz) t) (va_A [(h0, eE h1 h2 kn), (h1, eR hw1 hc1 hb1 a1 r1), (hw1, eW true), (hc1, eA cy f1), (hb1, eA cy g1), (h2, eR hw2 hc2 hb2 a2 r2), (hw2, eW false), (hc2, eA cy f2), (hb2, eA cy g2)] sz)) (vx_X (fun _ : Unit => ¬ (o_X2_wideSort a1 f1 g1 p0).1 = 0) (fun E _ t => E = xE (o_X2_wideSort a1 f1 g1 p0).1 ∧ xW (dC, dI) xCl [(h0, eE h1 h2 kn), (h1, eR hw1 hc1 hb1 a1 r1), (hw1, eW true), (hc1, eA cy f1), (hb1, eA cy g1), (h2, eR hw2 hc2 hb2 a2 r2), (hw2, eW false), (hc2, eA cy f2), (hb2, eA cy g2)] (va_A [(h0, eE h1 h2 kn), (h1, eR hw1 hc1 hb1 a1 r1), (hw1, eW true), (hc1, eA cy f1), (hb1, eA cy g1), (h2, eR hw2 hc2 hb2 a2 r2), (hw2, eW false), (hc2, eA cy f2), (hb2, eA cy g2)] sz) t) (va_A [(h0, eE h1 h2 kn), (h1, eR hw1 hc1 hb1 a1 r1), (hw1, eW true), (hc1, eA cy f1), (hb1, eA cy g1), (h2, eR hw2 hc2 hb2 a2 r2), (hw2, eW false), (hc2, eA cy f2), (hb2, eA cy g2)] sz)) 1 6 (va_A [(h0, eE h1 h2 kn), (h1, eR hw1 hc1 hb1 a1 r1), (hw1, eW true), (hc1, eA cy f1), (hb1, eA cy g1), (h2, eR hw2 hc2 hb2 a2 r2), (hw2, eW false), (hc2, eA cy f2), (hb2, eA cy g2)] sz) := by
  refine vx_ofW (cc := cX2_wideSort) (maxL := 2) (ret := (some .int)) (by decide +kernel) rfl ?_
  intro p e s m args below meth c s₁ B hml hno hv
  obtain ⟨rfl, hsz, hP, hK, hD0, hN, hG⟩ := hv
  have hx := B.exec
  have hb := B.bytes
  have hr := B.returns
  have hts := atoms_spec (ws := wsX2_wideSort) B.pre
  have hown : s.vm.findClass RX2 = some m.cls := findClass_of_methodNamed B.named
  have hlocks := B.notSynchronized
  subst hsz
  have hAN : ∀ q, va_A [(h0, eE h1 h2 kn), (h1, eR hw1 hc1 hb1 a1 r1), (hw1, eW true), (hc1, eA cy f1), (hb1, eA cy g1), (h2, eR hw2 hc2 hb2 a2 r2), (hw2, eW false), (hc2, eA cy f2), (hb2, eA cy g2)] s.heap.size q → N ≤ q := xA_N hD0 hN
  have hD := hD0.self (sz := s.heap.size)
  generalize hAe : va_A [(h0, eE h1 h2 kn), (h1, eR hw1 hc1 hb1 a1 r1), (hw1, eW true), (hc1, eA cy f1), (hb1, eA cy g1), (h2, eR hw2 hc2 hb2 a2 r2), (hw2, eW false), (hc2, eA cy f2), (hb2, eA cy g2)] s.heap.size = A at hD hAN ⊢
  have hA : ∀ q : Nat, s.heap.size ≤ q → A q := fun q h => by rw [← hAe]; exact Or.inr h
  have hS : va_S A s.heap s.heap [] := va_S.rf
  have hP : va_P (dC, dI) xCl [(h0, eE h1 h2 kn), (h1, eR hw1 hc1 hb1 a1 r1), (hw1, eW true), (hc1, eA cy f1), (hb1, eA cy g1), (h2, eR hw2 hc2 hb2 a2 r2), (hw2, eW false), (hc2, eA cy f2), (hb2, eA cy g2)] s.heap := hP
  have hl := lv_entry ([.ref h0, .int p0]) (n := 2) (Nat.le_of_ble_eq_true rfl)
  rw [lg_entry_eq]
  generalize (lg_sl ([.ref h0, .int p0]) ++ List.replicate (2 - (lg_sl ([.ref h0, .int p0])).length) Slot.unset).toArray = ls at hl ⊢
  have hl : lv_has ls 2 [(0, .ref h0), (1, .int p0)] := hl
  refine lv_aload_n hx hb dX2_wideSort_0 rfl (lv_at hl 0 rfl) ?_
  refine va_get (D := (dC, dI)) (ci := 4) (v := .ref h1) (C := RX2) (T := TX2) (N := 3) hx hb hts (by decide +kernel) hown hK hP 0 rfl rfl 0 (by decide +kernel) (hts (.fieldLink RX2 20 "Edgefloats" "wide" "LEdgefloats$Row;") (by decide +kernel)) (fun _ h9 => h9) rfl dX2_wideSort_1 ?_
  refine lv_iload_n hx hb dX2_wideSort_4 rfl (lv_at hl 1 rfl) ?_
  have hPc := hP.sub (ws' := [(h1, eR hw1 hc1 hb1 a1 r1), (hw1, eW true), (hc1, eA cy f1), (hb1, eA cy g1)]) [1, 2, 3, 4] rfl
  have hDc := hD.sub (ws' := [(h1, eR hw1 hc1 hb1 a1 r1), (hw1, eW true), (hc1, eA cy f1), (hb1, eA cy g1)]) [1, 2, 3, 4] (by decide +kernel) rfl
  have hKc := hK.sub (tys' := [(cy, .long)]) [0] rfl
  have hFc := va_free (wc := [(h1, eR hw1 hc1 hb1 a1 r1), (hw1, eW true), (hc1, eA cy f1), (hb1, eA cy g1)]) hD hS hA [1, 2, 3, 4] rfl
  refine vx_calli (vx_runV (As := [.int p0]) (rest := []) ⟨hx, hb, hml, hown, hts⟩ (k_X0_sort l hfl dC dI cy h1 hw1 hc1 hb1 true a1 r1 f1 g1 s.heap.size N p0) (cwV 1 hts gX2_wideSort_X0_sort rfl rfl rfl (by decide +kernel) ⟨Nat.le_of_ble_eq_true rfl, Nat.le_of_ble_eq_true rfl⟩) (xM.preV hKc hPc hDc hAN (Nat.le_trans hN hS.1) (hG.kept hS hAN) (ci := 2) (q0 := 0) rfl rfl) rfl rfl hl.1 rfl (lv_room (Nat.le_of_ble_eq_true rfl)) dX2_wideSort_5 ⟨Nat.le_of_ble_eq_true rfl, Nat.le_of_ble_eq_true rfl⟩) hS (fun q _ h => hFc q h) hFc (fun q _ h => hFc q h) (fun E ce q9 u9 t H locs ht hvm hpx hbx hz hk hS hce hcv hcl => ?_) (fun r_1 u t H locs ht hvm hw hB hz hk hS => ?_)
  · have c_2 : ¬ (o_X0_sort true a1 f1 g1 p0).1 = 0 := hpx
    obtain ⟨hbe, hP1, hD1⟩ := hbx
    rw [ht] at hP1
    obtain ⟨hP, hD⟩ := va_join (wr := [(h0, eE h1 h2 kn), (h2, eR hw2 hc2 hb2 a2 r2), (hw2, eW false), (hc2, eA cy f2), (hb2, eA cy g2)]) (w1 := [(h1, eR hw1 hc1 hb1 a1 r1), (hw1, eW true), (hc1, eA cy f1), (hb1, eA cy g1)]) hP hD [1, 2, 3, 4] [0, 5, 6, 7, 8] rfl rfl (by decide +kernel) (by decide +kernel) hk hFc hP1 hD1
    have hP := hP.sub (ws' := [(h0, eE h1 h2 kn), (h1, eR hw1 hc1 hb1 a1 r1), (hw1, eW true), (hc1, eA cy f1), (hb1, eA cy g1), (h2, eR hw2 hc2 hb2 a2 r2), (hw2, eW false), (hc2, eA cy f2), (hb2, eA cy g2)]) [0, 5, 6, 7, 8, 1, 2, 3, 4] rfl
    have hD := hD.sub (ws' := [(h0, eE h1 h2 kn), (h1, eR hw1 hc1 hb1 a1 r1), (hw1, eW true), (hc1, eA cy f1), (hb1, eA cy g1), (h2, eR hw2 hc2 hb2 a2 r2), (hw2, eW false), (hc2, eA cy f2), (hb2, eA cy g2)]) [0, 5, 6, 7, 8, 1, 2, 3, 4] (by decide +kernel) rfl
    have he : o_X2_wideSort a1 f1 g1 p0 = ((o_X0_sort true a1 f1 g1 p0).1, 0, a1, f1, g1) := by (rw [o_X2_wideSort, if_neg c_2]) <;> rfl
    exact vx_out (fun x hx => (hno x hx).elim) hlocks hce hcv hcl (fun t ht hvm => ⟨(), by rw [he]; exact c_2, ⟨by rw [he]; exact hbe, by rw [ht]; exact hP, hD⟩, hS.F ht⟩) hS.2.2 (by omega) (by omega)
  · skip
    obtain ⟨c_3, hw⟩ := hw
    have c_3 : (o_X0_sort true a1 f1 g1 p0).1 = 0 := c_3
    replace hw : r_1 = (o_X0_sort true a1 f1 g1 p0).2.1 := hw
    subst r_1
    obtain ⟨hP1, hD1⟩ := hB
    rw [ht] at hP1
    obtain ⟨hP, hD⟩ := va_join (wr := [(h0, eE h1 h2 kn), (h2, eR hw2 hc2 hb2 a2 r2), (hw2, eW false), (hc2, eA cy f2), (hb2, eA cy g2)]) (w1 := [(h1, eR hw1 hc1 hb1 (o_X0_sort true a1 f1 g1 p0).2.2.1 r1), (hw1, eW true), (hc1, eA cy (o_X0_sort true a1 f1 g1 p0).2.2.2.1), (hb1, eA cy (o_X0_sort true a1 f1 g1 p0).2.2.2.2)]) hP hD [1, 2, 3, 4] [0, 5, 6, 7, 8] rfl rfl (by decide +kernel) (by decide +kernel) hk hFc hP1 hD1
    have hP := hP.sub (ws' := [(h0, eE h1 h2 kn), (h1, eR hw1 hc1 hb1 (o_X0_sort true a1 f1 g1 p0).2.2.1 r1), (hw1, eW true), (hc1, eA cy (o_X0_sort true a1 f1 g1 p0).2.2.2.1), (hb1, eA cy (o_X0_sort true a1 f1 g1 p0).2.2.2.2), (h2, eR hw2 hc2 hb2 a2 r2), (hw2, eW false), (hc2, eA cy f2), (hb2, eA cy g2)]) [0, 5, 6, 7, 8, 1, 2, 3, 4] rfl
    have hD := hD.sub (ws' := [(h0, eE h1 h2 kn), (h1, eR hw1 hc1 hb1 (o_X0_sort true a1 f1 g1 p0).2.2.1 r1), (hw1, eW true), (hc1, eA cy (o_X0_sort true a1 f1 g1 p0).2.2.2.1), (hb1, eA cy (o_X0_sort true a1 f1 g1 p0).2.2.2.2), (h2, eR hw2 hc2 hb2 a2 r2), (hw2, eW false), (hc2, eA cy f2), (hb2, eA cy g2)]) [0, 5, 6, 7, 8, 1, 2, 3, 4] (by decide +kernel) rfl
    have he : o_X2_wideSort a1 f1 g1 p0 = (0, (o_X0_sort true a1 f1 g1 p0).2.1, (o_X0_sort true a1 f1 g1 p0).2.2.1, (o_X0_sort true a1 f1 g1 p0).2.2.2.1, (o_X0_sort true a1 f1 g1 p0).2.2.2.2) := by (rw [o_X2_wideSort, if_pos c_3]) <;> rfl
    refine W.widen (k := 1) (n := 6) (by omega) (by omega) ?_
    refine vx_ret ?_
    exact W.iret (v := ((o_X0_sort true a1 f1 g1 p0).2.1)) hx hb hr (fun t ht hW => ⟨⟨_, (), rfl, ⟨(by (rw [he]) <;> rfl), (by (rw [he]) <;> rfl)⟩, (by rw [he]; exact ⟨by rw [ht]; exact hP, hD⟩)⟩, hS.F ht⟩) hS.2.2 dX2_wideSort_8
theorem cl_X2_wideEnd_1 : ∀ w ∈ wsX2_wideEnd_r1, w ∈ wsX2_wideEnd := fun _ h => (List.mem_cons_of_mem _ (List.mem_append_left _ (List.mem_append_left _ (List.mem_append_left _ (List.mem_append_left _ (List.mem_append_left _ h))))))
theorem cl_X2_wideEnd_2 : ∀ w ∈ wsX2_wideEnd_r2, w ∈ wsX2_wideEnd := fun _ h => (List.mem_cons_of_mem _ (List.mem_append_left _ (List.mem_append_left _ (List.mem_append_left _ (List.mem_append_left _ (List.mem_append_right _ h))))))
theorem cl_X2_wideEnd_3 : ∀ w ∈ wsX20, w ∈ wsX2_wideEnd := fun _ h => (List.mem_cons_of_mem _ (List.mem_append_left _ (List.mem_append_left _ (List.mem_append_left _ (List.mem_append_right _ h)))))
theorem cl_X2_wideEnd_4 : ∀ w ∈ wsX00, w ∈ wsX2_wideEnd := fun _ h => (List.mem_cons_of_mem _ (List.mem_append_left _ (List.mem_append_left _ (List.mem_append_right _ h))))
theorem cl_X2_wideEnd_5 : ∀ w ∈ wsX10, w ∈ wsX2_wideEnd := fun _ h => (List.mem_cons_of_mem _ (List.mem_append_left _ (List.mem_append_right _ h)))
theorem cl_X2_wideEnd_6 : ∀ w ∈ (vx_atS RX2 152 "java/lang/IndexOutOfBoundsException" ["java/lang/RuntimeException", "java/lang/Exception"]).filter goodWord, w ∈ wsX2_wideEnd := fun _ h => (List.mem_cons_of_mem _ (List.mem_append_right _ h))
set_option maxRecDepth 20000 in
theorem ggX2_wideEnd_X0_putEnd : GoodIn wsX2_wideEnd wsX0_putEnd := goodIn_sub (List.forall_mem_cons.mpr ⟨(cl_X2_wideEnd_1 _ (List.mem_of_getElem? (i := 5) rfl)), fun w h => (List.mem_append.mp h).elim ((fun w h => (List.mem_append.mp h).elim ((fun w h => (List.mem_append.mp h).elim ((fun w h => (List.mem_append.mp h).elim ((List.forall_mem_cons.mpr ⟨(cl_X2_wideEnd_1 _ (List.mem_of_getElem? (i := 6) rfl)), List.forall_mem_cons.mpr ⟨(cl_X2_wideEnd_1 _ (List.mem_of_getElem? (i := 7) rfl)), List.forall_mem_cons.mpr ⟨(cl_X2_wideEnd_1 _ (List.mem_of_getElem? (i := 8) rfl)), List.forall_mem_cons.mpr ⟨(cl_X2_wideEnd_1 _ (List.mem_of_getElem? (i := 9) rfl)), List.forall_mem_cons.mpr ⟨(cl_X2_wideEnd_1 _ (List.mem_of_getElem? (i := 10) rfl)), List.forall_mem_cons.mpr ⟨(cl_X2_wideEnd_1 _ (List.mem_of_getElem? (i := 11) rfl)), List.forall_mem_cons.mpr ⟨(cl_X2_wideEnd_1 _ (List.mem_of_getElem? (i := 12) rfl)), List.forall_mem_cons.mpr ⟨(cl_X2_wideEnd_1 _ (List.mem_of_getElem? (i := 13) rfl)), List.forall_mem_cons.mpr ⟨(cl_X2_wideEnd_1 _ (List.mem_of_getElem? (i := 14) rfl)), List.forall_mem_cons.mpr ⟨(cl_X2_wideEnd_1 _ (List.mem_of_getElem? (i := 15) rfl)), List.forall_mem_cons.mpr ⟨(cl_X2_wideEnd_1 _ (List.mem_of_getElem? (i := 16) rfl)), List.forall_mem_cons.mpr ⟨(cl_X2_wideEnd_1 _ (List.mem_of_getElem? (i := 17) rfl)), List.forall_mem_cons.mpr ⟨(cl_X2_wideEnd_1 _ (List.mem_of_getElem? (i := 18) rfl)), List.forall_mem_cons.mpr ⟨(cl_X2_wideEnd_1 _ (List.mem_of_getElem? (i := 19) rfl)), List.forall_mem_cons.mpr ⟨(cl_X2_wideEnd_1 _ (List.mem_of_getElem? (i := 20) rfl)), List.forall_mem_cons.mpr ⟨(cl_X2_wideEnd_1 _ (List.mem_of_getElem? (i := 21) rfl)), List.forall_mem_cons.mpr ⟨(cl_X2_wideEnd_1 _ (List.mem_of_getElem? (i := 22) rfl)), List.forall_mem_cons.mpr ⟨(cl_X2_wideEnd_1 _ (List.mem_of_getElem? (i := 23) rfl)), List.forall_mem_cons.mpr ⟨(cl_X2_wideEnd_2 _ (List.mem_of_getElem? (i := 0) rfl)), List.forall_mem_cons.mpr ⟨(cl_X2_wideEnd_2 _ (List.mem_of_getElem? (i := 1) rfl)), List.forall_mem_cons.mpr ⟨(cl_X2_wideEnd_2 _ (List.mem_of_getElem? (i := 2) rfl)), List.forall_mem_cons.mpr ⟨(cl_X2_wideEnd_2 _ (List.mem_of_getElem? (i := 3) rfl)), List.forall_mem_cons.mpr ⟨(cl_X2_wideEnd_2 _ (List.mem_of_getElem? (i := 4) rfl)), List.forall_mem_cons.mpr ⟨(cl_X2_wideEnd_2 _ (List.mem_of_getElem? (i := 5) rfl)), fun _ h => absurd h List.not_mem_nil⟩⟩⟩⟩⟩⟩⟩⟩⟩⟩⟩⟩⟩⟩⟩⟩⟩⟩⟩⟩⟩⟩⟩⟩) w) ((List.forall_mem_cons.mpr ⟨(cl_X2_wideEnd_2 _ (List.mem_of_getElem? (i := 6) rfl)), List.forall_mem_cons.mpr ⟨(cl_X2_wideEnd_2 _ (List.mem_of_getElem? (i := 7) rfl)), List.forall_mem_cons.mpr ⟨(cl_X2_wideEnd_2 _ (List.mem_of_getElem? (i := 8) rfl)), List.forall_mem_cons.mpr ⟨(cl_X2_wideEnd_2 _ (List.mem_of_getElem? (i := 9) rfl)), List.forall_mem_cons.mpr ⟨(cl_X2_wideEnd_2 _ (List.mem_of_getElem? (i := 10) rfl)), List.forall_mem_cons.mpr ⟨(cl_X2_wideEnd_1 _ (List.mem_of_getElem? (i := 4) rfl)), List.forall_mem_cons.mpr ⟨(cl_X2_wideEnd_2 _ (List.mem_of_getElem? (i := 11) rfl)), List.forall_mem_cons.mpr ⟨(cl_X2_wideEnd_2 _ (List.mem_of_getElem? (i := 12) rfl)), fun _ h => absurd h List.not_mem_nil⟩⟩⟩⟩⟩⟩⟩⟩) w)) w) ((cl_X2_wideEnd_4) w)) w) ((cl_X2_wideEnd_5) w)) w) ((cl_X2_wideEnd_6) w)⟩) (by decide +kernel)
set_option maxRecDepth 20000 in
theorem gX2_wideEnd_X0_putEnd : GoodIn wsX2_wideEnd (wsV RX2 61 RX0 yX0_putEnd wsX0_putEnd) := goodIn_app (goodIn_sub (List.forall_mem_cons.mpr ⟨(cl_X2_wideEnd_1 _ (List.mem_of_getElem? (i := 1) rfl)), List.forall_mem_cons.mpr ⟨(cl_X2_wideEnd_1 _ (List.mem_of_getElem? (i := 2) rfl)), List.forall_mem_cons.mpr ⟨(cl_X2_wideEnd_1 _ (List.mem_of_getElem? (i := 3) rfl)), List.forall_mem_cons.mpr ⟨(cl_X2_wideEnd_1 _ (List.mem_of_getElem? (i := 4) rfl)), fun _ h => absurd h List.not_mem_nil⟩⟩⟩⟩) (by decide +kernel)) ggX2_wideEnd_X0_putEnd
noncomputable def dz_p13_10 : List (Nat × Instr × Nat) := [(0, (.aload_n 0, 1)), (1, (.getfield 20, 3)), (4, (.iload_n 1, 1)), (5, (.iload_n 2, 1)), (6, (.invokevirtual 61, 3)), (9, (.ireturn, 1))]
theorem dy_p13_10 : dz_ok cX2_wideEnd dz_p13_10 = true := by decide +kernel
theorem dX2_wideEnd_0 : decode cX2_wideEnd 0 = .ok (.aload_n 0, 1) := dz_at (i := 0) dy_p13_10 rfl
theorem dX2_wideEnd_1 : decode cX2_wideEnd 1 = .ok (.getfield 20, 3) := dz_at (i := 1) dy_p13_10 rfl
theorem dX2_wideEnd_4 : decode cX2_wideEnd 4 = .ok (.iload_n 1, 1) := dz_at (i := 2) dy_p13_10 rfl
theorem dX2_wideEnd_5 : decode cX2_wideEnd 5 = .ok (.iload_n 2, 1) := dz_at (i := 3) dy_p13_10 rfl
theorem dX2_wideEnd_6 : decode cX2_wideEnd 6 = .ok (.invokevirtual 61, 3) := dz_at (i := 4) dy_p13_10 rfl
theorem dX2_wideEnd_9 : decode cX2_wideEnd 9 = .ok (.ireturn, 1) := dz_at (i := 5) dy_p13_10 rfl
noncomputable def o_X2_wideEnd (a1 : Int32) (f1 : Nat → Int64) (p0 : Bool) (p1 : Int32) : Int32 × Int32 × Int32 × (Nat → Int64) :=
  if (o_X0_putEnd true a1 f1 p0 p1).1 = 0 then (0, (o_X0_putEnd true a1 f1 p0 p1).2.1, (o_X0_putEnd true a1 f1 p0 p1).2.2.1, (o_X0_putEnd true a1 f1 p0 p1).2.2.2)
  else ((o_X0_putEnd true a1 f1 p0 p1).1, 0, a1, f1)
set_option maxHeartbeats 4000000 in
set_option maxRecDepth 100000 in
theorem k_X2_wideEnd (l : Launch) (hfl : l.flags = flags0) (dC : Nat → ClassId) (dI : Nat → Nat → Nat) (cy : ClassId) (h0 : Nat) (h1 : Nat) (hw1 : Nat) (hc1 : Nat) (hb1 : Nat) (h2 : Nat) (hw2 : Nat) (hc2 : Nat) (hb2 : Nat) (a1 : Int32) (r1 : Int32) (f1 : Nat → Int64) (g1 : Nat → Int64) (a2 : Int32) (r2 : Int32) (f2 : Nat → Int64) (g2 : Nat → Int64) (kn : Int32) (sz : Nat) (N : Nat) (p0 : Bool) (p1 : Int32) : vx_Met l yX2_wideEnd wsX2_wideEnd ({ frames := 8, cells := 1, slots := 6, locals := 145 }) (va_Pc [.ref h0, .int (b2i p0), .int p1] (xM (dC, dI) xCl [(h0, eE h1 h2 kn), (h1, eR hw1 hc1 hb1 a1 r1), (hw1, eW true), (hc1, eA cy f1), (hb1, eA cy g1), (h2, eR hw2 hc2 hb2 a2 r2), (hw2, eW false), (hc2, eA cy f2), (hb2, eA cy g2)] [(cy, .long)] sz N)) (va_Qi (fun (r : Int32) (_ : Unit) => (o_X2_wideEnd a1 f1 p0 p1).1 = 0 ∧ r = (o_X2_wideEnd a1 f1 p0 p1).2.1) (fun _ t => xW (dC, dI) xCl [(h0, eE h1 h2 kn), (h1, eR hw1 hc1 hb1 (o_X2_wideEnd a1 f1 p0 p1).2.2.1 r1), (hw1, eW true), (hc1, eA cy (o_X2_wideEnd a1 f1 p0 p1).2.2.2), (hb1, eA cy g1), (h2, eR hw2 hc2 hb2 a2 r2), (hw2, eW false), (hc2, eA cy f2), (hb2, eA cy g2)] (va_A [(h0, eE h1 h2 kn), (h1, eR hw1 hc1 hb1 a1 r1), (hw1, eW true), (hc1, eA cy f1), (hb1, eA cy g1), (h2, eR hw2 hc2 hb2 a2 r2), (hw2, eW false), (hc2, eA cy f2), (hb2, eA cy g2)] sz) t) (va_A [(h0, eE h1 h2 kn), (h1, eR hw1 hc1 hb1 a1 r1), (hw1, eW true), (hc1, eA cy f1), (hb1, eA cy g1), (h2, eR hw2 hc2 hb2 a2 r2), (hw2, eW false), (hc2, eA cy f2), (hb2, eA cy g2)] sz)) (vx_X (fun _ : Unit => ¬ (o_X2_wideEnd a1 f1 p0 p1).1 = 0) (fun E _ t => E = xE (o_X2_wideEnd a1 f1 p0 p1).1 ∧ xW (dC, dI) xCl [(h0, eE h1 h2 kn), (h1, eR hw1 hc1 hb1 a1 r1), (hw1, eW true), (hc1, eA cy f1), (hb1, eA cy g1), (h2, eR hw2 hc2 hb2 a2 r2), (hw2, eW false), (hc2, eA cy f2), (hb2, eA cy g2)] (va_A [(h0, eE h1 h2 kn), (h1, eR hw1 hc1 hb1 a1 r1), (hw1, eW true), (hc1, eA cy f1), (hb1, eA cy g1), (h2, eR hw2 hc2 hb2 a2 r2), (hw2, eW false), (hc2, eA cy f2), (hb2, eA cy g2)] sz) t) (va_A [(h0, eE h1 h2 kn), (h1, eR hw1 hc1 hb1 a1 r1), (hw1, eW true), (hc1, eA cy f1), (hb1, eA cy g1), (h2, eR hw2 hc2 hb2 a2 r2), (hw2, eW false), (hc2, eA cy f2), (hb2, eA cy g2)] sz)) 1 6 (va_A [(h0, eE h1 h2 kn), (h1, eR hw1 hc1 hb1 a1 r1), (hw1, eW true), (hc1, eA cy f1), (hb1, eA cy g1), (h2, eR hw2 hc2 hb2 a2 r2), (hw2, eW false), (hc2, eA cy f2), (hb2, eA cy g2)] sz) := by
  refine vx_ofW (cc := cX2_wideEnd) (maxL := 3) (ret := (some .int)) (by decide +kernel) rfl ?_
  intro p e s m args below meth c s₁ B hml hno hv
  obtain ⟨rfl, hsz, hP, hK, hD0, hN, hG⟩ := hv
  have hx := B.exec
  have hb := B.bytes
  have hr := B.returns
  have hts := atoms_spec (ws := wsX2_wideEnd) B.pre
  have hown : s.vm.findClass RX2 = some m.cls := findClass_of_methodNamed B.named
  have hlocks := B.notSynchronized
  subst hsz
  have hAN : ∀ q, va_A [(h0, eE h1 h2 kn), (h1, eR hw1 hc1 hb1 a1 r1), (hw1, eW true), (hc1, eA cy f1), (hb1, eA cy g1), (h2, eR hw2 hc2 hb2 a2 r2), (hw2, eW false), (hc2, eA cy f2), (hb2, eA cy g2)] s.heap.size q → N ≤ q := xA_N hD0 hN
  have hD := hD0.self (sz := s.heap.size)
  generalize hAe : va_A [(h0, eE h1 h2 kn), (h1, eR hw1 hc1 hb1 a1 r1), (hw1, eW true), (hc1, eA cy f1), (hb1, eA cy g1), (h2, eR hw2 hc2 hb2 a2 r2), (hw2, eW false), (hc2, eA cy f2), (hb2, eA cy g2)] s.heap.size = A at hD hAN ⊢
  have hA : ∀ q : Nat, s.heap.size ≤ q → A q := fun q h => by rw [← hAe]; exact Or.inr h
  have hS : va_S A s.heap s.heap [] := va_S.rf
  have hP : va_P (dC, dI) xCl [(h0, eE h1 h2 kn), (h1, eR hw1 hc1 hb1 a1 r1), (hw1, eW true), (hc1, eA cy f1), (hb1, eA cy g1), (h2, eR hw2 hc2 hb2 a2 r2), (hw2, eW false), (hc2, eA cy f2), (hb2, eA cy g2)] s.heap := hP
  have hl := lv_entry ([.ref h0, .int (b2i p0), .int p1]) (n := 3) (Nat.le_of_ble_eq_true rfl)
  rw [lg_entry_eq]
  generalize (lg_sl ([.ref h0, .int (b2i p0), .int p1]) ++ List.replicate (3 - (lg_sl ([.ref h0, .int (b2i p0), .int p1])).length) Slot.unset).toArray = ls at hl ⊢
  have hl : lv_has ls 3 [(0, .ref h0), (1, .int (b2i p0)), (2, .int p1)] := hl
  refine lv_aload_n hx hb dX2_wideEnd_0 rfl (lv_at hl 0 rfl) ?_
  refine va_get (D := (dC, dI)) (ci := 4) (v := .ref h1) (C := RX2) (T := TX2) (N := 3) hx hb hts (by decide +kernel) hown hK hP 0 rfl rfl 0 (by decide +kernel) (hts (.fieldLink RX2 20 "Edgefloats" "wide" "LEdgefloats$Row;") (by decide +kernel)) (fun _ h9 => h9) rfl dX2_wideEnd_1 ?_
  refine lv_iload_n hx hb dX2_wideEnd_4 rfl (lv_at hl 1 rfl) ?_
  refine lv_iload_n hx hb dX2_wideEnd_5 rfl (lv_at hl 2 rfl) ?_
  have hPc := hP.sub (ws' := [(h1, eR hw1 hc1 hb1 a1 r1), (hw1, eW true), (hc1, eA cy f1), (hb1, eA cy g1)]) [1, 2, 3, 4] rfl
  have hDc := hD.sub (ws' := [(h1, eR hw1 hc1 hb1 a1 r1), (hw1, eW true), (hc1, eA cy f1), (hb1, eA cy g1)]) [1, 2, 3, 4] (by decide +kernel) rfl
  have hKc := hK.sub (tys' := [(cy, .long)]) [0] rfl
  have hFc := va_free (wc := [(h1, eR hw1 hc1 hb1 a1 r1), (hw1, eW true), (hc1, eA cy f1), (hb1, eA cy g1)]) hD hS hA [1, 2, 3, 4] rfl
  refine vx_calli (vx_runV (As := [.int (b2i p0), .int p1]) (rest := []) ⟨hx, hb, hml, hown, hts⟩ (k_X0_putEnd l hfl dC dI cy h1 hw1 hc1 hb1 true a1 r1 f1 g1 s.heap.size N p0 p1) (cwV 2 hts gX2_wideEnd_X0_putEnd rfl rfl rfl (by decide +kernel) ⟨Nat.le_of_ble_eq_true rfl, Nat.le_of_ble_eq_true rfl⟩) (xM.preV hKc hPc hDc hAN (Nat.le_trans hN hS.1) (hG.kept hS hAN) (ci := 2) (q0 := 0) rfl rfl) rfl rfl hl.1 rfl (lv_room (Nat.le_of_ble_eq_true rfl)) dX2_wideEnd_6 ⟨Nat.le_of_ble_eq_true rfl, Nat.le_of_ble_eq_true rfl⟩) hS (fun q _ h => hFc q h) hFc (fun q _ h => hFc q h) (fun E ce q9 u9 t H locs ht hvm hpx hbx hz hk hS hce hcv hcl => ?_) (fun r_1 u t H locs ht hvm hw hB hz hk hS => ?_)
  · have c_2 : ¬ (o_X0_putEnd true a1 f1 p0 p1).1 = 0 := hpx
    obtain ⟨hbe, hP1, hD1⟩ := hbx
    rw [ht] at hP1
    obtain ⟨hP, hD⟩ := va_join (wr := [(h0, eE h1 h2 kn), (h2, eR hw2 hc2 hb2 a2 r2), (hw2, eW false), (hc2, eA cy f2), (hb2, eA cy g2)]) (w1 := [(h1, eR hw1 hc1 hb1 a1 r1), (hw1, eW true), (hc1, eA cy f1), (hb1, eA cy g1)]) hP hD [1, 2, 3, 4] [0, 5, 6, 7, 8] rfl rfl (by decide +kernel) (by decide +kernel) hk hFc hP1 hD1
    have hP := hP.sub (ws' := [(h0, eE h1 h2 kn), (h1, eR hw1 hc1 hb1 a1 r1), (hw1, eW true), (hc1, eA cy f1), (hb1, eA cy g1), (h2, eR hw2 hc2 hb2 a2 r2), (hw2, eW false), (hc2, eA cy f2), (hb2, eA cy g2)]) [0, 5, 6, 7, 8, 1, 2, 3, 4] rfl
    have hD := hD.sub (ws' := [(h0, eE h1 h2 kn), (h1, eR hw1 hc1 hb1 a1 r1), (hw1, eW true), (hc1, eA cy f1), (hb1, eA cy g1), (h2, eR hw2 hc2 hb2 a2 r2), (hw2, eW false), (hc2, eA cy f2), (hb2, eA cy g2)]) [0, 5, 6, 7, 8, 1, 2, 3, 4] (by decide +kernel) rfl
    have he : o_X2_wideEnd a1 f1 p0 p1 = ((o_X0_putEnd true a1 f1 p0 p1).1, 0, a1, f1) := by (rw [o_X2_wideEnd, if_neg c_2]) <;> rfl
    exact vx_out (fun x hx => (hno x hx).elim) hlocks hce hcv hcl (fun t ht hvm => ⟨(), by rw [he]; exact c_2, ⟨by rw [he]; exact hbe, by rw [ht]; exact hP, hD⟩, hS.F ht⟩) hS.2.2 (by omega) (by omega)
  · skip
    obtain ⟨c_3, hw⟩ := hw
    have c_3 : (o_X0_putEnd true a1 f1 p0 p1).1 = 0 := c_3
    replace hw : r_1 = (o_X0_putEnd true a1 f1 p0 p1).2.1 := hw
    subst r_1
    obtain ⟨hP1, hD1⟩ := hB
    rw [ht] at hP1
    obtain ⟨hP, hD⟩ := va_join (wr := [(h0, eE h1 h2 kn), (h2, eR hw2 hc2 hb2 a2 r2), (hw2, eW false), (hc2, eA cy f2), (hb2, eA cy g2)]) (w1 := [(h1, eR hw1 hc1 hb1 (o_X0_putEnd true a1 f1 p0 p1).2.2.1 r1), (hw1, eW true), (hc1, eA cy (o_X0_putEnd true a1 f1 p0 p1).2.2.2), (hb1, eA cy g1)]) hP hD [1, 2, 3, 4] [0, 5, 6, 7, 8] rfl rfl (by decide +kernel) (by decide +kernel) hk hFc hP1 hD1
    have hP := hP.sub (ws' := [(h0, eE h1 h2 kn), (h1, eR hw1 hc1 hb1 (o_X0_putEnd true a1 f1 p0 p1).2.2.1 r1), (hw1, eW true), (hc1, eA cy (o_X0_putEnd true a1 f1 p0 p1).2.2.2), (hb1, eA cy g1), (h2, eR hw2 hc2 hb2 a2 r2), (hw2, eW false), (hc2, eA cy f2), (hb2, eA cy g2)]) [0, 5, 6, 7, 8, 1, 2, 3, 4] rfl
    have hD := hD.sub (ws' := [(h0, eE h1 h2 kn), (h1, eR hw1 hc1 hb1 (o_X0_putEnd true a1 f1 p0 p1).2.2.1 r1), (hw1, eW true), (hc1, eA cy (o_X0_putEnd true a1 f1 p0 p1).2.2.2), (hb1, eA cy g1), (h2, eR hw2 hc2 hb2 a2 r2), (hw2, eW false), (hc2, eA cy f2), (hb2, eA cy g2)]) [0, 5, 6, 7, 8, 1, 2, 3, 4] (by decide +kernel) rfl
    have he : o_X2_wideEnd a1 f1 p0 p1 = (0, (o_X0_putEnd true a1 f1 p0 p1).2.1, (o_X0_putEnd true a1 f1 p0 p1).2.2.1, (o_X0_putEnd true a1 f1 p0 p1).2.2.2) := by (rw [o_X2_wideEnd, if_pos c_3]) <;> rfl
    refine W.widen (k := 1) (n := 6) (by omega) (by omega) ?_
    refine vx_ret ?_
    exact W.iret (v := ((o_X0_putEnd true a1 f1 p0 p1).2.1)) hx hb hr (fun t ht hW => ⟨⟨_, (), rfl, ⟨(by (rw [he]) <;> rfl), (by (rw [he]) <;> rfl)⟩, (by rw [he]; exact ⟨by rw [ht]; exact hP, hD⟩)⟩, hS.F ht⟩) hS.2.2 dX2_wideEnd_9
theorem cl_X2_upper_1 : ∀ w ∈ [.fieldLink RX2 20 "Edgefloats" "wide" "LEdgefloats$Row;", .methodLink RX2 65 yX0_firstHalf, .instanceMethod yX0_firstHalf, .selects RX0 yX0_firstHalf yX0_firstHalf, .initialized RX0, .code yX0_firstHalf cX0_firstHalf 2 (some .int), .fieldLink RX0 15 "Edgefloats$Row" "cells" "[J", .static yX2_checkCell, .initialized RX2, .code yX2_checkCell cX2_checkCell 1 none, .classLink RX2 148 "java/lang/IndexOutOfBoundsException", .initialized "java/lang/IndexOutOfBoundsException"], w ∈ wsX2_upper := fun _ h => (List.mem_cons_of_mem _ (List.mem_append_left _ (List.mem_append_left _ (List.mem_append_left _ h))))
theorem cl_X2_upper_2 : ∀ w ∈ wsX20, w ∈ wsX2_upper := fun _ h => (List.mem_cons_of_mem _ (List.mem_append_left _ (List.mem_append_left _ (List.mem_append_right _ h))))
theorem cl_X2_upper_3 : ∀ w ∈ wsX00, w ∈ wsX2_upper := fun _ h => (List.mem_cons_of_mem _ (List.mem_append_left _ (List.mem_append_right _ h)))
theorem cl_X2_upper_4 : ∀ w ∈ (vx_atS RX2 152 "java/lang/IndexOutOfBoundsException" ["java/lang/RuntimeException", "java/lang/Exception"]).filter goodWord, w ∈ wsX2_upper := fun _ h => (List.mem_cons_of_mem _ (List.mem_append_right _ h))
set_option maxRecDepth 20000 in
theorem ggX2_upper_X0_firstHalf : GoodIn wsX2_upper wsX0_firstHalf := goodIn_sub (List.forall_mem_cons.mpr ⟨(cl_X2_upper_1 _ (List.mem_of_getElem? (i := 5) rfl)), fun w h => (List.mem_append.mp h).elim ((fun w h => (List.mem_append.mp h).elim ((List.forall_mem_cons.mpr ⟨(cl_X2_upper_1 _ (List.mem_of_getElem? (i := 6) rfl)), List.forall_mem_cons.mpr ⟨(cl_X2_upper_1 _ (List.mem_of_getElem? (i := 7) rfl)), List.forall_mem_cons.mpr ⟨(cl_X2_upper_1 _ (List.mem_of_getElem? (i := 8) rfl)), List.forall_mem_cons.mpr ⟨(cl_X2_upper_1 _ (List.mem_of_getElem? (i := 9) rfl)), List.forall_mem_cons.mpr ⟨(cl_X2_upper_1 _ (List.mem_of_getElem? (i := 10) rfl)), List.forall_mem_cons.mpr ⟨(cl_X2_upper_1 _ (List.mem_of_getElem? (i := 11) rfl)), fun _ h => absurd h List.not_mem_nil⟩⟩⟩⟩⟩⟩) w) ((cl_X2_upper_3) w)) w) ((cl_X2_upper_4) w)⟩) (by decide +kernel)
set_option maxRecDepth 20000 in
theorem gX2_upper_X0_firstHalf : GoodIn wsX2_upper (wsV RX2 65 RX0 yX0_firstHalf wsX0_firstHalf) := goodIn_app (goodIn_sub (List.forall_mem_cons.mpr ⟨(cl_X2_upper_1 _ (List.mem_of_getElem? (i := 1) rfl)), List.forall_mem_cons.mpr ⟨(cl_X2_upper_1 _ (List.mem_of_getElem? (i := 2) rfl)), List.forall_mem_cons.mpr ⟨(cl_X2_upper_1 _ (List.mem_of_getElem? (i := 3) rfl)), List.forall_mem_cons.mpr ⟨(cl_X2_upper_1 _ (List.mem_of_getElem? (i := 4) rfl)), fun _ h => absurd h List.not_mem_nil⟩⟩⟩⟩) (by decide +kernel)) ggX2_upper_X0_firstHalf
noncomputable def dz_p13_11 : List (Nat × Instr × Nat) := [(0, (.aload_n 0, 1)), (1, (.getfield 20, 3)), (4, (.iload_n 1, 1)), (5, (.invokevirtual 65, 3)), (8, (.ireturn, 1))]
theorem dy_p13_11 : dz_ok cX2_upper dz_p13_11 = true := by decide +kernel
theorem dX2_upper_0 : decode cX2_upper 0 = .ok (.aload_n 0, 1) := dz_at (i := 0) dy_p13_11 rfl
theorem dX2_upper_1 : decode cX2_upper 1 = .ok (.getfield 20, 3) := dz_at (i := 1) dy_p13_11 rfl
theorem dX2_upper_4 : decode cX2_upper 4 = .ok (.iload_n 1, 1) := dz_at (i := 2) dy_p13_11 rfl
theorem dX2_upper_5 : decode cX2_upper 5 = .ok (.invokevirtual 65, 3) := dz_at (i := 3) dy_p13_11 rfl
theorem dX2_upper_8 : decode cX2_upper 8 = .ok (.ireturn, 1) := dz_at (i := 4) dy_p13_11 rfl
noncomputable def o_X2_upper (f1 : Nat → Int64) (p0 : Int32) : Int32 × Int32 :=
  if (o_X0_firstHalf f1 p0).1 = 0 then (0, (o_X0_firstHalf f1 p0).2)
  else ((o_X0_firstHalf f1 p0).1, 0)
set_option maxHeartbeats 4000000 in
set_option maxRecDepth 100000 in
theorem k_X2_upper (l : Launch) (hfl : l.flags = flags0) (dC : Nat → ClassId) (dI : Nat → Nat → Nat) (cy : ClassId) (h0 : Nat) (h1 : Nat) (hw1 : Nat) (hc1 : Nat) (hb1 : Nat) (h2 : Nat) (hw2 : Nat) (hc2 : Nat) (hb2 : Nat) (a1 : Int32) (r1 : Int32) (f1 : Nat → Int64) (g1 : Nat → Int64) (a2 : Int32) (r2 : Int32) (f2 : Nat → Int64) (g2 : Nat → Int64) (kn : Int32) (sz : Nat) (N : Nat) (p0 : Int32) : vx_Met l yX2_upper wsX2_upper ({ frames := 8, cells := 1, slots := 6, locals := 141 }) (va_Pc [.ref h0, .int p0] (xM (dC, dI) xCl [(h0, eE h1 h2 kn), (h1, eR hw1 hc1 hb1 a1 r1), (hw1, eW true), (hc1, eA cy f1), (hb1, eA cy g1), (h2, eR hw2 hc2 hb2 a2 r2), (hw2, eW false), (hc2, eA cy f2), (hb2, eA cy g2)] [(cy, .long)] sz N)) (va_Qi (fun (r : Int32) (_ : Unit) => (o_X2_upper f1 p0).1 = 0 ∧ r = (o_X2_upper f1 p0).2) (fun _ _ => True) (aN sz)) (vx_X (fun _ : Unit => ¬ (o_X2_upper f1 p0).1 = 0) (fun E _ _ => E = xE (o_X2_upper f1 p0).1) (aN sz)) 1 6 (aN sz) := by
  refine vx_ofW (cc := cX2_upper) (maxL := 2) (ret := (some .int)) (by decide +kernel) rfl ?_
  intro p e s m args below meth c s₁ B hml hno hv
  obtain ⟨rfl, hsz, hP, hK, hD0, hN, hG⟩ := hv
  have hx := B.exec
  have hb := B.bytes
  have hr := B.returns
  have hts := atoms_spec (ws := wsX2_upper) B.pre
  have hown : s.vm.findClass RX2 = some m.cls := findClass_of_methodNamed B.named
  have hlocks := B.notSynchronized
  subst hsz
  have hA : ∀ q : Nat, s.heap.size ≤ q → aN s.heap.size q := fun _ h => h
  have hD := hD0
  have hAN : ∀ q, aN s.heap.size q → N ≤ q := fun q h => Nat.le_trans hN h
  have hS : va_S (aN s.heap.size) s.heap s.heap [] := va_S.rf
  have hP : va_P (dC, dI) xCl [(h0, eE h1 h2 kn), (h1, eR hw1 hc1 hb1 a1 r1), (hw1, eW true), (hc1, eA cy f1), (hb1, eA cy g1), (h2, eR hw2 hc2 hb2 a2 r2), (hw2, eW false), (hc2, eA cy f2), (hb2, eA cy g2)] s.heap := hP
  have hl := lv_entry ([.ref h0, .int p0]) (n := 2) (Nat.le_of_ble_eq_true rfl)
  rw [lg_entry_eq]
  generalize (lg_sl ([.ref h0, .int p0]) ++ List.replicate (2 - (lg_sl ([.ref h0, .int p0])).length) Slot.unset).toArray = ls at hl ⊢
  have hl : lv_has ls 2 [(0, .ref h0), (1, .int p0)] := hl
  refine lv_aload_n hx hb dX2_upper_0 rfl (lv_at hl 0 rfl) ?_
  refine va_get (D := (dC, dI)) (ci := 4) (v := .ref h1) (C := RX2) (T := TX2) (N := 3) hx hb hts (by decide +kernel) hown hK hP 0 rfl rfl 0 (by decide +kernel) (hts (.fieldLink RX2 20 "Edgefloats" "wide" "LEdgefloats$Row;") (by decide +kernel)) (fun _ h9 => h9) rfl dX2_upper_1 ?_
  refine lv_iload_n hx hb dX2_upper_4 rfl (lv_at hl 1 rfl) ?_
  have hPc := hP.sub (ws' := [(h1, eR hw1 hc1 hb1 a1 r1), (hw1, eW true), (hc1, eA cy f1), (hb1, eA cy g1)]) [1, 2, 3, 4] rfl
  have hDc := hD.sub (ws' := [(h1, eR hw1 hc1 hb1 a1 r1), (hw1, eW true), (hc1, eA cy f1), (hb1, eA cy g1)]) [1, 2, 3, 4] (by decide +kernel) rfl
  have hKc := hK.sub (tys' := [(cy, .long)]) [0] rfl
  refine vx_calli (vx_runV (As := [.int p0]) (rest := []) ⟨hx, hb, hml, hown, hts⟩ (k_X0_firstHalf l hfl dC dI cy h1 hw1 hc1 hb1 true a1 r1 f1 g1 s.heap.size N p0) (cwV 1 hts gX2_upper_X0_firstHalf rfl rfl rfl (by decide +kernel) ⟨Nat.le_of_ble_eq_true rfl, Nat.le_of_ble_eq_true rfl⟩) (xM.preV hKc hPc hDc (fun _ h => h) (Nat.le_trans hN hS.1) (hG.kept hS hAN) (ci := 2) (q0 := 0) rfl rfl) rfl rfl hl.1 rfl (lv_room (Nat.le_of_ble_eq_true rfl)) dX2_upper_5 ⟨Nat.le_of_ble_eq_true rfl, Nat.le_of_ble_eq_true rfl⟩) hS xA_old (fun q h => hA q (Nat.le_trans hS.1 h)) xA_old (fun E ce q9 u9 t H locs ht hvm hpx hbx hz hk hS hce hcv hcl => ?_) (fun r_1 u t H locs ht hvm hw hB hz hk hS => ?_)
  · have c_2 : ¬ (o_X0_firstHalf f1 p0).1 = 0 := hpx
    have hbe := hbx
    have hP := xP_keep hP hk
    have he : o_X2_upper f1 p0 = ((o_X0_firstHalf f1 p0).1, 0) := by (rw [o_X2_upper, if_neg c_2]) <;> rfl
    exact vx_out (fun x hx => (hno x hx).elim) hlocks hce hcv hcl (fun t ht hvm => ⟨(), by rw [he]; exact c_2, by rw [he]; exact hbe, hS.F ht⟩) hS.2.2 (by omega) (by omega)
  · skip
    obtain ⟨c_3, hw⟩ := hw
    have c_3 : (o_X0_firstHalf f1 p0).1 = 0 := c_3
    replace hw : r_1 = (o_X0_firstHalf f1 p0).2 := hw
    subst r_1
    have hP := xP_keep hP hk
    have he : o_X2_upper f1 p0 = (0, (o_X0_firstHalf f1 p0).2) := by (rw [o_X2_upper, if_pos c_3]) <;> rfl
    refine W.widen (k := 1) (n := 6) (by omega) (by omega) ?_
    refine vx_ret ?_
    exact W.iret (v := ((o_X0_firstHalf f1 p0).2)) hx hb hr (fun t ht hW => ⟨⟨_, (), rfl, ⟨(by (rw [he]) <;> rfl), (by (rw [he]) <;> rfl)⟩, trivial⟩, hS.F ht⟩) hS.2.2 dX2_upper_8
theorem cl_X2_lower_1 : ∀ w ∈ [.fieldLink RX2 20 "Edgefloats" "wide" "LEdgefloats$Row;", .methodLink RX2 68 yX0_lastHalf, .instanceMethod yX0_lastHalf, .selects RX0 yX0_lastHalf yX0_lastHalf, .initialized RX0, .code yX0_lastHalf cX0_lastHalf 2 (some .int), .fieldLink RX0 15 "Edgefloats$Row" "cells" "[J", .static yX2_checkCell, .initialized RX2, .code yX2_checkCell cX2_checkCell 1 none, .classLink RX2 148 "java/lang/IndexOutOfBoundsException", .initialized "java/lang/IndexOutOfBoundsException"], w ∈ wsX2_lower := fun _ h => (List.mem_cons_of_mem _ (List.mem_append_left _ (List.mem_append_left _ (List.mem_append_left _ h))))
theorem cl_X2_lower_2 : ∀ w ∈ wsX20, w ∈ wsX2_lower := fun _ h => (List.mem_cons_of_mem _ (List.mem_append_left _ (List.mem_append_left _ (List.mem_append_right _ h))))
theorem cl_X2_lower_3 : ∀ w ∈ wsX00, w ∈ wsX2_lower := fun _ h => (List.mem_cons_of_mem _ (List.mem_append_left _ (List.mem_append_right _ h)))
theorem cl_X2_lower_4 : ∀ w ∈ (vx_atS RX2 152 "java/lang/IndexOutOfBoundsException" ["java/lang/RuntimeException", "java/lang/Exception"]).filter goodWord, w ∈ wsX2_lower := fun _ h => (List.mem_cons_of_mem _ (List.mem_append_right _ h))
set_option maxRecDepth 20000 in
theorem ggX2_lower_X0_lastHalf : GoodIn wsX2_lower wsX0_lastHalf := goodIn_sub (List.forall_mem_cons.mpr ⟨(cl_X2_lower_1 _ (List.mem_of_getElem? (i := 5) rfl)), fun w h => (List.mem_append.mp h).elim ((fun w h => (List.mem_append.mp h).elim ((List.forall_mem_cons.mpr ⟨(cl_X2_lower_1 _ (List.mem_of_getElem? (i := 6) rfl)), List.forall_mem_cons.mpr ⟨(cl_X2_lower_1 _ (List.mem_of_getElem? (i := 7) rfl)), List.forall_mem_cons.mpr ⟨(cl_X2_lower_1 _ (List.mem_of_getElem? (i := 8) rfl)), List.forall_mem_cons.mpr ⟨(cl_X2_lower_1 _ (List.mem_of_getElem? (i := 9) rfl)), List.forall_mem_cons.mpr ⟨(cl_X2_lower_1 _ (List.mem_of_getElem? (i := 10) rfl)), List.forall_mem_cons.mpr ⟨(cl_X2_lower_1 _ (List.mem_of_getElem? (i := 11) rfl)), fun _ h => absurd h List.not_mem_nil⟩⟩⟩⟩⟩⟩) w) ((cl_X2_lower_3) w)) w) ((cl_X2_lower_4) w)⟩) (by decide +kernel)
set_option maxRecDepth 20000 in
theorem gX2_lower_X0_lastHalf : GoodIn wsX2_lower (wsV RX2 68 RX0 yX0_lastHalf wsX0_lastHalf) := goodIn_app (goodIn_sub (List.forall_mem_cons.mpr ⟨(cl_X2_lower_1 _ (List.mem_of_getElem? (i := 1) rfl)), List.forall_mem_cons.mpr ⟨(cl_X2_lower_1 _ (List.mem_of_getElem? (i := 2) rfl)), List.forall_mem_cons.mpr ⟨(cl_X2_lower_1 _ (List.mem_of_getElem? (i := 3) rfl)), List.forall_mem_cons.mpr ⟨(cl_X2_lower_1 _ (List.mem_of_getElem? (i := 4) rfl)), fun _ h => absurd h List.not_mem_nil⟩⟩⟩⟩) (by decide +kernel)) ggX2_lower_X0_lastHalf
noncomputable def dz_p13_12 : List (Nat × Instr × Nat) := [(0, (.aload_n 0, 1)), (1, (.getfield 20, 3)), (4, (.iload_n 1, 1)), (5, (.invokevirtual 68, 3)), (8, (.ireturn, 1))]
theorem dy_p13_12 : dz_ok cX2_lower dz_p13_12 = true := by decide +kernel
theorem dX2_lower_0 : decode cX2_lower 0 = .ok (.aload_n 0, 1) := dz_at (i := 0) dy_p13_12 rfl
theorem dX2_lower_1 : decode cX2_lower 1 = .ok (.getfield 20, 3) := dz_at (i := 1) dy_p13_12 rfl
theorem dX2_lower_4 : decode cX2_lower 4 = .ok (.iload_n 1, 1) := dz_at (i := 2) dy_p13_12 rfl
theorem dX2_lower_5 : decode cX2_lower 5 = .ok (.invokevirtual 68, 3) := dz_at (i := 3) dy_p13_12 rfl
theorem dX2_lower_8 : decode cX2_lower 8 = .ok (.ireturn, 1) := dz_at (i := 4) dy_p13_12 rfl
noncomputable def o_X2_lower (f1 : Nat → Int64) (p0 : Int32) : Int32 × Int32 :=
  if (o_X0_lastHalf f1 p0).1 = 0 then (0, (o_X0_lastHalf f1 p0).2)
  else ((o_X0_lastHalf f1 p0).1, 0)
set_option maxHeartbeats 4000000 in
set_option maxRecDepth 100000 in
theorem k_X2_lower (l : Launch) (hfl : l.flags = flags0) (dC : Nat → ClassId) (dI : Nat → Nat → Nat) (cy : ClassId) (h0 : Nat) (h1 : Nat) (hw1 : Nat) (hc1 : Nat) (hb1 : Nat) (h2 : Nat) (hw2 : Nat) (hc2 : Nat) (hb2 : Nat) (a1 : Int32) (r1 : Int32) (f1 : Nat → Int64) (g1 : Nat → Int64) (a2 : Int32) (r2 : Int32) (f2 : Nat → Int64) (g2 : Nat → Int64) (kn : Int32) (sz : Nat) (N : Nat) (p0 : Int32) : vx_Met l yX2_lower wsX2_lower ({ frames := 8, cells := 1, slots := 6, locals := 141 }) (va_Pc [.ref h0, .int p0] (xM (dC, dI) xCl [(h0, eE h1 h2 kn), (h1, eR hw1 hc1 hb1 a1 r1), (hw1, eW true), (hc1, eA cy f1), (hb1, eA cy g1), (h2, eR hw2 hc2 hb2 a2 r2), (hw2, eW false), (hc2, eA cy f2), (hb2, eA cy g2)] [(cy, .long)] sz N)) (va_Qi (fun (r : Int32) (_ : Unit) => (o_X2_lower f1 p0).1 = 0 ∧ r = (o_X2_lower f1 p0).2) (fun _ _ => True) (aN sz)) (vx_X (fun _ : Unit => ¬ (o_X2_lower f1 p0).1 = 0) (fun E _ _ => E = xE (o_X2_lower f1 p0).1) (aN sz)) 1 6 (aN sz) := by
  refine vx_ofW (cc := cX2_lower) (maxL := 2) (ret := (some .int)) (by decide +kernel) rfl ?_
  intro p e s m args below meth c s₁ B hml hno hv
  obtain ⟨rfl, hsz, hP, hK, hD0, hN, hG⟩ := hv
  have hx := B.exec
  have hb := B.bytes
  have hr := B.returns
  have hts := atoms_spec (ws := wsX2_lower) B.pre
  have hown : s.vm.findClass RX2 = some m.cls := findClass_of_methodNamed B.named
  have hlocks := B.notSynchronized
  subst hsz
  have hA : ∀ q : Nat, s.heap.size ≤ q → aN s.heap.size q := fun _ h => h
  have hD := hD0
  have hAN : ∀ q, aN s.heap.size q → N ≤ q := fun q h => Nat.le_trans hN h
  have hS : va_S (aN s.heap.size) s.heap s.heap [] := va_S.rf
  have hP : va_P (dC, dI) xCl [(h0, eE h1 h2 kn), (h1, eR hw1 hc1 hb1 a1 r1), (hw1, eW true), (hc1, eA cy f1), (hb1, eA cy g1), (h2, eR hw2 hc2 hb2 a2 r2), (hw2, eW false), (hc2, eA cy f2), (hb2, eA cy g2)] s.heap := hP
  have hl := lv_entry ([.ref h0, .int p0]) (n := 2) (Nat.le_of_ble_eq_true rfl)
  rw [lg_entry_eq]
  generalize (lg_sl ([.ref h0, .int p0]) ++ List.replicate (2 - (lg_sl ([.ref h0, .int p0])).length) Slot.unset).toArray = ls at hl ⊢
  have hl : lv_has ls 2 [(0, .ref h0), (1, .int p0)] := hl
  refine lv_aload_n hx hb dX2_lower_0 rfl (lv_at hl 0 rfl) ?_
  refine va_get (D := (dC, dI)) (ci := 4) (v := .ref h1) (C := RX2) (T := TX2) (N := 3) hx hb hts (by decide +kernel) hown hK hP 0 rfl rfl 0 (by decide +kernel) (hts (.fieldLink RX2 20 "Edgefloats" "wide" "LEdgefloats$Row;") (by decide +kernel)) (fun _ h9 => h9) rfl dX2_lower_1 ?_
  refine lv_iload_n hx hb dX2_lower_4 rfl (lv_at hl 1 rfl) ?_
  have hPc := hP.sub (ws' := [(h1, eR hw1 hc1 hb1 a1 r1), (hw1, eW true), (hc1, eA cy f1), (hb1, eA cy g1)]) [1, 2, 3, 4] rfl
  have hDc := hD.sub (ws' := [(h1, eR hw1 hc1 hb1 a1 r1), (hw1, eW true), (hc1, eA cy f1), (hb1, eA cy g1)]) [1, 2, 3, 4] (by decide +kernel) rfl
  have hKc := hK.sub (tys' := [(cy, .long)]) [0] rfl
  refine vx_calli (vx_runV (As := [.int p0]) (rest := []) ⟨hx, hb, hml, hown, hts⟩ (k_X0_lastHalf l hfl dC dI cy h1 hw1 hc1 hb1 true a1 r1 f1 g1 s.heap.size N p0) (cwV 1 hts gX2_lower_X0_lastHalf rfl rfl rfl (by decide +kernel) ⟨Nat.le_of_ble_eq_true rfl, Nat.le_of_ble_eq_true rfl⟩) (xM.preV hKc hPc hDc (fun _ h => h) (Nat.le_trans hN hS.1) (hG.kept hS hAN) (ci := 2) (q0 := 0) rfl rfl) rfl rfl hl.1 rfl (lv_room (Nat.le_of_ble_eq_true rfl)) dX2_lower_5 ⟨Nat.le_of_ble_eq_true rfl, Nat.le_of_ble_eq_true rfl⟩) hS xA_old (fun q h => hA q (Nat.le_trans hS.1 h)) xA_old (fun E ce q9 u9 t H locs ht hvm hpx hbx hz hk hS hce hcv hcl => ?_) (fun r_1 u t H locs ht hvm hw hB hz hk hS => ?_)
  · have c_2 : ¬ (o_X0_lastHalf f1 p0).1 = 0 := hpx
    have hbe := hbx
    have hP := xP_keep hP hk
    have he : o_X2_lower f1 p0 = ((o_X0_lastHalf f1 p0).1, 0) := by (rw [o_X2_lower, if_neg c_2]) <;> rfl
    exact vx_out (fun x hx => (hno x hx).elim) hlocks hce hcv hcl (fun t ht hvm => ⟨(), by rw [he]; exact c_2, by rw [he]; exact hbe, hS.F ht⟩) hS.2.2 (by omega) (by omega)
  · skip
    obtain ⟨c_3, hw⟩ := hw
    have c_3 : (o_X0_lastHalf f1 p0).1 = 0 := c_3
    replace hw : r_1 = (o_X0_lastHalf f1 p0).2 := hw
    subst r_1
    have hP := xP_keep hP hk
    have he : o_X2_lower f1 p0 = (0, (o_X0_lastHalf f1 p0).2) := by (rw [o_X2_lower, if_pos c_3]) <;> rfl
    refine W.widen (k := 1) (n := 6) (by omega) (by omega) ?_
    refine vx_ret ?_
    exact W.iret (v := ((o_X0_lastHalf f1 p0).2)) hx hb hr (fun t ht hW => ⟨⟨_, (), rfl, ⟨(by (rw [he]) <;> rfl), (by (rw [he]) <;> rfl)⟩, trivial⟩, hS.F ht⟩) hS.2.2 dX2_lower_8
theorem cl_X2_wideOrder_1 : ∀ w ∈ wsX2_wideOrder_r1, w ∈ wsX2_wideOrder := fun _ h => (List.mem_cons_of_mem _ (List.mem_append_left _ (List.mem_append_left _ (List.mem_append_left _ (List.mem_append_left _ (List.mem_append_left _ (List.mem_append_left _ h)))))))
theorem cl_X2_wideOrder_2 : ∀ w ∈ wsX2_wideOrder_r2, w ∈ wsX2_wideOrder := fun _ h => (List.mem_cons_of_mem _ (List.mem_append_left _ (List.mem_append_left _ (List.mem_append_left _ (List.mem_append_left _ (List.mem_append_left _ (List.mem_append_right _ h)))))))
theorem cl_X2_wideOrder_3 : ∀ w ∈ wsX20, w ∈ wsX2_wideOrder := fun _ h => (List.mem_cons_of_mem _ (List.mem_append_left _ (List.mem_append_left _ (List.mem_append_left _ (List.mem_append_left _ (List.mem_append_right _ h))))))
theorem cl_X2_wideOrder_4 : ∀ w ∈ wsX00, w ∈ wsX2_wideOrder := fun _ h => (List.mem_cons_of_mem _ (List.mem_append_left _ (List.mem_append_left _ (List.mem_append_left _ (List.mem_append_right _ h)))))
theorem cl_X2_wideOrder_5 : ∀ w ∈ wsX10, w ∈ wsX2_wideOrder := fun _ h => (List.mem_cons_of_mem _ (List.mem_append_left _ (List.mem_append_left _ (List.mem_append_right _ h))))
theorem cl_X2_wideOrder_6 : ∀ w ∈ (vx_atS RX2 152 "java/lang/IndexOutOfBoundsException" ["java/lang/RuntimeException", "java/lang/Exception"]).filter goodWord, w ∈ wsX2_wideOrder := fun _ h => (List.mem_cons_of_mem _ (List.mem_append_left _ (List.mem_append_right _ h)))
theorem cl_X2_wideOrder_7 : ∀ w ∈ (vx_atS RX2 159 "java/lang/IllegalArgumentException" ["java/lang/RuntimeException", "java/lang/Exception"]).filter goodWord, w ∈ wsX2_wideOrder := fun _ h => (List.mem_cons_of_mem _ (List.mem_append_right _ h))
set_option maxRecDepth 20000 in
theorem ggX2_wideOrder_X0_order : GoodIn wsX2_wideOrder wsX0_order := goodIn_sub (List.forall_mem_cons.mpr ⟨(cl_X2_wideOrder_1 _ (List.mem_of_getElem? (i := 5) rfl)), fun w h => (List.mem_append.mp h).elim ((fun w h => (List.mem_append.mp h).elim ((fun w h => (List.mem_append.mp h).elim ((fun w h => (List.mem_append.mp h).elim ((List.forall_mem_cons.mpr ⟨(cl_X2_wideOrder_1 _ (List.mem_of_getElem? (i := 6) rfl)), List.forall_mem_cons.mpr ⟨(cl_X2_wideOrder_1 _ (List.mem_of_getElem? (i := 7) rfl)), List.forall_mem_cons.mpr ⟨(cl_X2_wideOrder_1 _ (List.mem_of_getElem? (i := 8) rfl)), List.forall_mem_cons.mpr ⟨(cl_X2_wideOrder_1 _ (List.mem_of_getElem? (i := 9) rfl)), List.forall_mem_cons.mpr ⟨(cl_X2_wideOrder_1 _ (List.mem_of_getElem? (i := 10) rfl)), List.forall_mem_cons.mpr ⟨(cl_X2_wideOrder_1 _ (List.mem_of_getElem? (i := 11) rfl)), List.forall_mem_cons.mpr ⟨(cl_X2_wideOrder_1 _ (List.mem_of_getElem? (i := 12) rfl)), List.forall_mem_cons.mpr ⟨(cl_X2_wideOrder_1 _ (List.mem_of_getElem? (i := 13) rfl)), List.forall_mem_cons.mpr ⟨(cl_X2_wideOrder_1 _ (List.mem_of_getElem? (i := 14) rfl)), List.forall_mem_cons.mpr ⟨(cl_X2_wideOrder_1 _ (List.mem_of_getElem? (i := 15) rfl)), List.forall_mem_cons.mpr ⟨(cl_X2_wideOrder_1 _ (List.mem_of_getElem? (i := 16) rfl)), List.forall_mem_cons.mpr ⟨(cl_X2_wideOrder_1 _ (List.mem_of_getElem? (i := 17) rfl)), List.forall_mem_cons.mpr ⟨(cl_X2_wideOrder_1 _ (List.mem_of_getElem? (i := 18) rfl)), List.forall_mem_cons.mpr ⟨(cl_X2_wideOrder_1 _ (List.mem_of_getElem? (i := 19) rfl)), List.forall_mem_cons.mpr ⟨(cl_X2_wideOrder_1 _ (List.mem_of_getElem? (i := 20) rfl)), List.forall_mem_cons.mpr ⟨(cl_X2_wideOrder_1 _ (List.mem_of_getElem? (i := 21) rfl)), List.forall_mem_cons.mpr ⟨(cl_X2_wideOrder_1 _ (List.mem_of_getElem? (i := 22) rfl)), List.forall_mem_cons.mpr ⟨(cl_X2_wideOrder_1 _ (List.mem_of_getElem? (i := 23) rfl)), List.forall_mem_cons.mpr ⟨(cl_X2_wideOrder_2 _ (List.mem_of_getElem? (i := 0) rfl)), List.forall_mem_cons.mpr ⟨(cl_X2_wideOrder_2 _ (List.mem_of_getElem? (i := 1) rfl)), List.forall_mem_cons.mpr ⟨(cl_X2_wideOrder_2 _ (List.mem_of_getElem? (i := 2) rfl)), List.forall_mem_cons.mpr ⟨(cl_X2_wideOrder_2 _ (List.mem_of_getElem? (i := 3) rfl)), fun _ h => absurd h List.not_mem_nil⟩⟩⟩⟩⟩⟩⟩⟩⟩⟩⟩⟩⟩⟩⟩⟩⟩⟩⟩⟩⟩⟩) w) ((cl_X2_wideOrder_4) w)) w) ((cl_X2_wideOrder_5) w)) w) ((cl_X2_wideOrder_6) w)) w) ((cl_X2_wideOrder_7) w)⟩) (by decide +kernel)
set_option maxRecDepth 20000 in
theorem gX2_wideOrder_X0_order : GoodIn wsX2_wideOrder (wsV RX2 75 RX0 yX0_order wsX0_order) := goodIn_app (goodIn_sub (List.forall_mem_cons.mpr ⟨(cl_X2_wideOrder_1 _ (List.mem_of_getElem? (i := 1) rfl)), List.forall_mem_cons.mpr ⟨(cl_X2_wideOrder_1 _ (List.mem_of_getElem? (i := 2) rfl)), List.forall_mem_cons.mpr ⟨(cl_X2_wideOrder_1 _ (List.mem_of_getElem? (i := 3) rfl)), List.forall_mem_cons.mpr ⟨(cl_X2_wideOrder_1 _ (List.mem_of_getElem? (i := 4) rfl)), fun _ h => absurd h List.not_mem_nil⟩⟩⟩⟩) (by decide +kernel)) ggX2_wideOrder_X0_order
noncomputable def dz_p13_13 : List (Nat × Instr × Nat) := [(0, (.aload_n 0, 1)), (1, (.getfield 20, 3)), (4, (.iload_n 1, 1)), (5, (.iload_n 2, 1)), (6, (.iload_n 3, 1)), (7, (.invokevirtual 75, 3)), (10, (.ireturn, 1))]
theorem dy_p13_13 : dz_ok cX2_wideOrder dz_p13_13 = true := by decide +kernel
theorem dX2_wideOrder_0 : decode cX2_wideOrder 0 = .ok (.aload_n 0, 1) := dz_at (i := 0) dy_p13_13 rfl
theorem dX2_wideOrder_1 : decode cX2_wideOrder 1 = .ok (.getfield 20, 3) := dz_at (i := 1) dy_p13_13 rfl
theorem dX2_wideOrder_4 : decode cX2_wideOrder 4 = .ok (.iload_n 1, 1) := dz_at (i := 2) dy_p13_13 rfl
theorem dX2_wideOrder_5 : decode cX2_wideOrder 5 = .ok (.iload_n 2, 1) := dz_at (i := 3) dy_p13_13 rfl
theorem dX2_wideOrder_6 : decode cX2_wideOrder 6 = .ok (.iload_n 3, 1) := dz_at (i := 4) dy_p13_13 rfl
theorem dX2_wideOrder_7 : decode cX2_wideOrder 7 = .ok (.invokevirtual 75, 3) := dz_at (i := 5) dy_p13_13 rfl
theorem dX2_wideOrder_10 : decode cX2_wideOrder 10 = .ok (.ireturn, 1) := dz_at (i := 6) dy_p13_13 rfl
noncomputable def o_X2_wideOrder (f1 : Nat → Int64) (p0 : Int32) (p1 : Int32) (p2 : Int32) : Int32 × Int32 :=
  if (o_X0_order true f1 p0 p1 p2).1 = 0 then (0, (o_X0_order true f1 p0 p1 p2).2)
  else ((o_X0_order true f1 p0 p1 p2).1, 0)
set_option maxHeartbeats 4000000 in
set_option maxRecDepth 100000 in
theorem k_X2_wideOrder (l : Launch) (hfl : l.flags = flags0) (dC : Nat → ClassId) (dI : Nat → Nat → Nat) (cy : ClassId) (h0 : Nat) (h1 : Nat) (hw1 : Nat) (hc1 : Nat) (hb1 : Nat) (h2 : Nat) (hw2 : Nat) (hc2 : Nat) (hb2 : Nat) (a1 : Int32) (r1 : Int32) (f1 : Nat → Int64) (g1 : Nat → Int64) (a2 : Int32) (r2 : Int32) (f2 : Nat → Int64) (g2 : Nat → Int64) (kn : Int32) (sz : Nat) (N : Nat) (p0 : Int32) (p1 : Int32) (p2 : Int32) : vx_Met l yX2_wideOrder wsX2_wideOrder ({ frames := 8, cells := 3, slots := 18, locals := 144 }) (va_Pc [.ref h0, .int p0, .int p1, .int p2] (xM (dC, dI) xCl [(h0, eE h1 h2 kn), (h1, eR hw1 hc1 hb1 a1 r1), (hw1, eW true), (hc1, eA cy f1), (hb1, eA cy g1), (h2, eR hw2 hc2 hb2 a2 r2), (hw2, eW false), (hc2, eA cy f2), (hb2, eA cy g2)] [(cy, .long)] sz N)) (va_Qi (fun (r : Int32) (_ : Unit) => (o_X2_wideOrder f1 p0 p1 p2).1 = 0 ∧ r = (o_X2_wideOrder f1 p0 p1 p2).2) (fun _ _ => True) (aN sz)) (vx_X (fun _ : Unit => ¬ (o_X2_wideOrder f1 p0 p1 p2).1 = 0) (fun E _ _ => E = xE (o_X2_wideOrder f1 p0 p1 p2).1) (aN sz)) 3 18 (aN sz) := by
  refine vx_ofW (cc := cX2_wideOrder) (maxL := 4) (ret := (some .int)) (by decide +kernel) rfl ?_
  intro p e s m args below meth c s₁ B hml hno hv
  obtain ⟨rfl, hsz, hP, hK, hD0, hN, hG⟩ := hv
  have hx := B.exec
  have hb := B.bytes
  have hr := B.returns
  have hts := atoms_spec (ws := wsX2_wideOrder) B.pre
  have hown : s.vm.findClass RX2 = some m.cls := findClass_of_methodNamed B.named
  have hlocks := B.notSynchronized
  subst hsz
  have hA : ∀ q : Nat, s.heap.size ≤ q → aN s.heap.size q := fun _ h => h
  have hD := hD0
  have hAN : ∀ q, aN s.heap.size q → N ≤ q := fun q h => Nat.le_trans hN h
  have hS : va_S (aN s.heap.size) s.heap s.heap [] := va_S.rf
  have hP : va_P (dC, dI) xCl [(h0, eE h1 h2 kn), (h1, eR hw1 hc1 hb1 a1 r1), (hw1, eW true), (hc1, eA cy f1), (hb1, eA cy g1), (h2, eR hw2 hc2 hb2 a2 r2), (hw2, eW false), (hc2, eA cy f2), (hb2, eA cy g2)] s.heap := hP
  have hl := lv_entry ([.ref h0, .int p0, .int p1, .int p2]) (n := 4) (Nat.le_of_ble_eq_true rfl)
  rw [lg_entry_eq]
  generalize (lg_sl ([.ref h0, .int p0, .int p1, .int p2]) ++ List.replicate (4 - (lg_sl ([.ref h0, .int p0, .int p1, .int p2])).length) Slot.unset).toArray = ls at hl ⊢
  have hl : lv_has ls 4 [(0, .ref h0), (1, .int p0), (2, .int p1), (3, .int p2)] := hl
  refine lv_aload_n hx hb dX2_wideOrder_0 rfl (lv_at hl 0 rfl) ?_
  refine va_get (D := (dC, dI)) (ci := 4) (v := .ref h1) (C := RX2) (T := TX2) (N := 3) hx hb hts (by decide +kernel) hown hK hP 0 rfl rfl 0 (by decide +kernel) (hts (.fieldLink RX2 20 "Edgefloats" "wide" "LEdgefloats$Row;") (by decide +kernel)) (fun _ h9 => h9) rfl dX2_wideOrder_1 ?_
  refine lv_iload_n hx hb dX2_wideOrder_4 rfl (lv_at hl 1 rfl) ?_
  refine lv_iload_n hx hb dX2_wideOrder_5 rfl (lv_at hl 2 rfl) ?_
  refine lv_iload_n hx hb dX2_wideOrder_6 rfl (lv_at hl 3 rfl) ?_
  have hPc := hP.sub (ws' := [(h1, eR hw1 hc1 hb1 a1 r1), (hw1, eW true), (hc1, eA cy f1), (hb1, eA cy g1)]) [1, 2, 3, 4] rfl
  have hDc := hD.sub (ws' := [(h1, eR hw1 hc1 hb1 a1 r1), (hw1, eW true), (hc1, eA cy f1), (hb1, eA cy g1)]) [1, 2, 3, 4] (by decide +kernel) rfl
  have hKc := hK.sub (tys' := [(cy, .long)]) [0] rfl
  refine vx_calli (vx_runV (As := [.int p0, .int p1, .int p2]) (rest := []) ⟨hx, hb, hml, hown, hts⟩ (k_X0_order l hfl dC dI cy h1 hw1 hc1 hb1 true a1 r1 f1 g1 s.heap.size N p0 p1 p2) (cwV 3 hts gX2_wideOrder_X0_order rfl rfl rfl (by decide +kernel) ⟨Nat.le_of_ble_eq_true rfl, Nat.le_of_ble_eq_true rfl⟩) (xM.preV hKc hPc hDc (fun _ h => h) (Nat.le_trans hN hS.1) (hG.kept hS hAN) (ci := 2) (q0 := 0) rfl rfl) rfl rfl hl.1 rfl (lv_room (Nat.le_of_ble_eq_true rfl)) dX2_wideOrder_7 ⟨Nat.le_of_ble_eq_true rfl, Nat.le_of_ble_eq_true rfl⟩) hS xA_old (fun q h => hA q (Nat.le_trans hS.1 h)) xA_old (fun E ce q9 u9 t H locs ht hvm hpx hbx hz hk hS hce hcv hcl => ?_) (fun r_1 u t H locs ht hvm hw hB hz hk hS => ?_)
  · have c_2 : ¬ (o_X0_order true f1 p0 p1 p2).1 = 0 := hpx
    have hbe := hbx
    have hP := xP_keep hP hk
    have he : o_X2_wideOrder f1 p0 p1 p2 = ((o_X0_order true f1 p0 p1 p2).1, 0) := by (rw [o_X2_wideOrder, if_neg c_2]) <;> rfl
    exact vx_out (fun x hx => (hno x hx).elim) hlocks hce hcv hcl (fun t ht hvm => ⟨(), by rw [he]; exact c_2, by rw [he]; exact hbe, hS.F ht⟩) hS.2.2 (by omega) (by omega)
  · skip
    obtain ⟨c_3, hw⟩ := hw
    have c_3 : (o_X0_order true f1 p0 p1 p2).1 = 0 := c_3
    replace hw : r_1 = (o_X0_order true f1 p0 p1 p2).2 := hw
    subst r_1
    have hP := xP_keep hP hk
    have he : o_X2_wideOrder f1 p0 p1 p2 = (0, (o_X0_order true f1 p0 p1 p2).2) := by (rw [o_X2_wideOrder, if_pos c_3]) <;> rfl
    refine W.widen (k := 3) (n := 18) (by omega) (by omega) ?_
    refine vx_ret ?_
    exact W.iret (v := ((o_X0_order true f1 p0 p1 p2).2)) hx hb hr (fun t ht hW => ⟨⟨_, (), rfl, ⟨(by (rw [he]) <;> rfl), (by (rw [he]) <;> rfl)⟩, trivial⟩, hS.F ht⟩) hS.2.2 dX2_wideOrder_10
theorem cl_X2_wideSame_1 : ∀ w ∈ wsX2_wideSame_r1, w ∈ wsX2_wideSame := fun _ h => (List.mem_cons_of_mem _ (List.mem_append_left _ (List.mem_append_left _ (List.mem_append_left _ (List.mem_append_left _ (List.mem_append_left _ (List.mem_append_left _ h)))))))
theorem cl_X2_wideSame_2 : ∀ w ∈ wsX2_wideSame_r2, w ∈ wsX2_wideSame := fun _ h => (List.mem_cons_of_mem _ (List.mem_append_left _ (List.mem_append_left _ (List.mem_append_left _ (List.mem_append_left _ (List.mem_append_left _ (List.mem_append_right _ h)))))))
theorem cl_X2_wideSame_3 : ∀ w ∈ wsX20, w ∈ wsX2_wideSame := fun _ h => (List.mem_cons_of_mem _ (List.mem_append_left _ (List.mem_append_left _ (List.mem_append_left _ (List.mem_append_left _ (List.mem_append_right _ h))))))
theorem cl_X2_wideSame_4 : ∀ w ∈ wsX00, w ∈ wsX2_wideSame := fun _ h => (List.mem_cons_of_mem _ (List.mem_append_left _ (List.mem_append_left _ (List.mem_append_left _ (List.mem_append_right _ h)))))
theorem cl_X2_wideSame_5 : ∀ w ∈ wsX10, w ∈ wsX2_wideSame := fun _ h => (List.mem_cons_of_mem _ (List.mem_append_left _ (List.mem_append_left _ (List.mem_append_right _ h))))
theorem cl_X2_wideSame_6 : ∀ w ∈ (vx_atS RX2 152 "java/lang/IndexOutOfBoundsException" ["java/lang/RuntimeException", "java/lang/Exception"]).filter goodWord, w ∈ wsX2_wideSame := fun _ h => (List.mem_cons_of_mem _ (List.mem_append_left _ (List.mem_append_right _ h)))
theorem cl_X2_wideSame_7 : ∀ w ∈ (vx_atS RX2 159 "java/lang/IllegalArgumentException" ["java/lang/RuntimeException", "java/lang/Exception"]).filter goodWord, w ∈ wsX2_wideSame := fun _ h => (List.mem_cons_of_mem _ (List.mem_append_right _ h))
set_option maxRecDepth 20000 in
theorem ggX2_wideSame_X0_areSame : GoodIn wsX2_wideSame wsX0_areSame := goodIn_sub (List.forall_mem_cons.mpr ⟨(cl_X2_wideSame_1 _ (List.mem_of_getElem? (i := 5) rfl)), fun w h => (List.mem_append.mp h).elim ((fun w h => (List.mem_append.mp h).elim ((fun w h => (List.mem_append.mp h).elim ((fun w h => (List.mem_append.mp h).elim ((fun w h => (List.mem_append.mp h).elim ((List.forall_mem_cons.mpr ⟨(cl_X2_wideSame_1 _ (List.mem_of_getElem? (i := 6) rfl)), List.forall_mem_cons.mpr ⟨(cl_X2_wideSame_1 _ (List.mem_of_getElem? (i := 7) rfl)), List.forall_mem_cons.mpr ⟨(cl_X2_wideSame_1 _ (List.mem_of_getElem? (i := 8) rfl)), List.forall_mem_cons.mpr ⟨(cl_X2_wideSame_1 _ (List.mem_of_getElem? (i := 4) rfl)), List.forall_mem_cons.mpr ⟨(cl_X2_wideSame_1 _ (List.mem_of_getElem? (i := 9) rfl)), List.forall_mem_cons.mpr ⟨(cl_X2_wideSame_1 _ (List.mem_of_getElem? (i := 10) rfl)), List.forall_mem_cons.mpr ⟨(cl_X2_wideSame_1 _ (List.mem_of_getElem? (i := 11) rfl)), List.forall_mem_cons.mpr ⟨(cl_X2_wideSame_1 _ (List.mem_of_getElem? (i := 12) rfl)), List.forall_mem_cons.mpr ⟨(cl_X2_wideSame_1 _ (List.mem_of_getElem? (i := 13) rfl)), List.forall_mem_cons.mpr ⟨(cl_X2_wideSame_1 _ (List.mem_of_getElem? (i := 14) rfl)), List.forall_mem_cons.mpr ⟨(cl_X2_wideSame_1 _ (List.mem_of_getElem? (i := 15) rfl)), List.forall_mem_cons.mpr ⟨(cl_X2_wideSame_1 _ (List.mem_of_getElem? (i := 16) rfl)), List.forall_mem_cons.mpr ⟨(cl_X2_wideSame_1 _ (List.mem_of_getElem? (i := 17) rfl)), List.forall_mem_cons.mpr ⟨(cl_X2_wideSame_1 _ (List.mem_of_getElem? (i := 18) rfl)), List.forall_mem_cons.mpr ⟨(cl_X2_wideSame_1 _ (List.mem_of_getElem? (i := 19) rfl)), List.forall_mem_cons.mpr ⟨(cl_X2_wideSame_1 _ (List.mem_of_getElem? (i := 20) rfl)), List.forall_mem_cons.mpr ⟨(cl_X2_wideSame_1 _ (List.mem_of_getElem? (i := 21) rfl)), List.forall_mem_cons.mpr ⟨(cl_X2_wideSame_1 _ (List.mem_of_getElem? (i := 22) rfl)), List.forall_mem_cons.mpr ⟨(cl_X2_wideSame_1 _ (List.mem_of_getElem? (i := 23) rfl)), List.forall_mem_cons.mpr ⟨(cl_X2_wideSame_2 _ (List.mem_of_getElem? (i := 0) rfl)), List.forall_mem_cons.mpr ⟨(cl_X2_wideSame_2 _ (List.mem_of_getElem? (i := 1) rfl)), List.forall_mem_cons.mpr ⟨(cl_X2_wideSame_2 _ (List.mem_of_getElem? (i := 2) rfl)), List.forall_mem_cons.mpr ⟨(cl_X2_wideSame_2 _ (List.mem_of_getElem? (i := 3) rfl)), List.forall_mem_cons.mpr ⟨(cl_X2_wideSame_2 _ (List.mem_of_getElem? (i := 4) rfl)), fun _ h => absurd h List.not_mem_nil⟩⟩⟩⟩⟩⟩⟩⟩⟩⟩⟩⟩⟩⟩⟩⟩⟩⟩⟩⟩⟩⟩⟩⟩) w) ((List.forall_mem_cons.mpr ⟨(cl_X2_wideSame_2 _ (List.mem_of_getElem? (i := 5) rfl)), List.forall_mem_cons.mpr ⟨(cl_X2_wideSame_2 _ (List.mem_of_getElem? (i := 6) rfl)), List.forall_mem_cons.mpr ⟨(cl_X2_wideSame_2 _ (List.mem_of_getElem? (i := 7) rfl)), fun _ h => absurd h List.not_mem_nil⟩⟩⟩) w)) w) ((cl_X2_wideSame_4) w)) w) ((cl_X2_wideSame_5) w)) w) ((cl_X2_wideSame_6) w)) w) ((cl_X2_wideSame_7) w)⟩) (by decide +kernel)
set_option maxRecDepth 20000 in
theorem gX2_wideSame_X0_areSame : GoodIn wsX2_wideSame (wsV RX2 78 RX0 yX0_areSame wsX0_areSame) := goodIn_app (goodIn_sub (List.forall_mem_cons.mpr ⟨(cl_X2_wideSame_1 _ (List.mem_of_getElem? (i := 1) rfl)), List.forall_mem_cons.mpr ⟨(cl_X2_wideSame_1 _ (List.mem_of_getElem? (i := 2) rfl)), List.forall_mem_cons.mpr ⟨(cl_X2_wideSame_1 _ (List.mem_of_getElem? (i := 3) rfl)), List.forall_mem_cons.mpr ⟨(cl_X2_wideSame_1 _ (List.mem_of_getElem? (i := 4) rfl)), fun _ h => absurd h List.not_mem_nil⟩⟩⟩⟩) (by decide +kernel)) ggX2_wideSame_X0_areSame
noncomputable def dz_p13_14 : List (Nat × Instr × Nat) := [(0, (.aload_n 0, 1)), (1, (.getfield 20, 3)), (4, (.iload_n 1, 1)), (5, (.iload_n 2, 1)), (6, (.iload_n 3, 1)), (7, (.invokevirtual 78, 3)), (10, (.ireturn, 1))]
theorem dy_p13_14 : dz_ok cX2_wideSame dz_p13_14 = true := by decide +kernel
theorem dX2_wideSame_0 : decode cX2_wideSame 0 = .ok (.aload_n 0, 1) := dz_at (i := 0) dy_p13_14 rfl
theorem dX2_wideSame_1 : decode cX2_wideSame 1 = .ok (.getfield 20, 3) := dz_at (i := 1) dy_p13_14 rfl
theorem dX2_wideSame_4 : decode cX2_wideSame 4 = .ok (.iload_n 1, 1) := dz_at (i := 2) dy_p13_14 rfl
theorem dX2_wideSame_5 : decode cX2_wideSame 5 = .ok (.iload_n 2, 1) := dz_at (i := 3) dy_p13_14 rfl
theorem dX2_wideSame_6 : decode cX2_wideSame 6 = .ok (.iload_n 3, 1) := dz_at (i := 4) dy_p13_14 rfl
theorem dX2_wideSame_7 : decode cX2_wideSame 7 = .ok (.invokevirtual 78, 3) := dz_at (i := 5) dy_p13_14 rfl
theorem dX2_wideSame_10 : decode cX2_wideSame 10 = .ok (.ireturn, 1) := dz_at (i := 6) dy_p13_14 rfl
noncomputable def o_X2_wideSame (f1 : Nat → Int64) (p0 : Int32) (p1 : Int32) (p2 : Int32) : Int32 × Bool :=
  if (o_X0_areSame true f1 p0 p1 p2).1 = 0 then (0, (o_X0_areSame true f1 p0 p1 p2).2)
  else ((o_X0_areSame true f1 p0 p1 p2).1, false)
set_option maxHeartbeats 4000000 in
set_option maxRecDepth 100000 in
theorem k_X2_wideSame (l : Launch) (hfl : l.flags = flags0) (dC : Nat → ClassId) (dI : Nat → Nat → Nat) (cy : ClassId) (h0 : Nat) (h1 : Nat) (hw1 : Nat) (hc1 : Nat) (hb1 : Nat) (h2 : Nat) (hw2 : Nat) (hc2 : Nat) (hb2 : Nat) (a1 : Int32) (r1 : Int32) (f1 : Nat → Int64) (g1 : Nat → Int64) (a2 : Int32) (r2 : Int32) (f2 : Nat → Int64) (g2 : Nat → Int64) (kn : Int32) (sz : Nat) (N : Nat) (p0 : Int32) (p1 : Int32) (p2 : Int32) : vx_Met l yX2_wideSame wsX2_wideSame ({ frames := 9, cells := 3, slots := 18, locals := 167 }) (va_Pc [.ref h0, .int p0, .int p1, .int p2] (xM (dC, dI) xCl [(h0, eE h1 h2 kn), (h1, eR hw1 hc1 hb1 a1 r1), (hw1, eW true), (hc1, eA cy f1), (hb1, eA cy g1), (h2, eR hw2 hc2 hb2 a2 r2), (hw2, eW false), (hc2, eA cy f2), (hb2, eA cy g2)] [(cy, .long)] sz N)) (va_Qi (fun (r : Int32) (_ : Unit) => (o_X2_wideSame f1 p0 p1 p2).1 = 0 ∧ r = b2i ((o_X2_wideSame f1 p0 p1 p2).2)) (fun _ _ => True) (aN sz)) (vx_X (fun _ : Unit => ¬ (o_X2_wideSame f1 p0 p1 p2).1 = 0) (fun E _ _ => E = xE (o_X2_wideSame f1 p0 p1 p2).1) (aN sz)) 3 18 (aN sz) := by
  refine vx_ofW (cc := cX2_wideSame) (maxL := 4) (ret := (some .boolean)) (by decide +kernel) rfl ?_
  intro p e s m args below meth c s₁ B hml hno hv
  obtain ⟨rfl, hsz, hP, hK, hD0, hN, hG⟩ := hv
  have hx := B.exec
  have hb := B.bytes
  have hr := B.returns
  have hts := atoms_spec (ws := wsX2_wideSame) B.pre
  have hown : s.vm.findClass RX2 = some m.cls := findClass_of_methodNamed B.named
  have hlocks := B.notSynchronized
  subst hsz
  have hA : ∀ q : Nat, s.heap.size ≤ q → aN s.heap.size q := fun _ h => h
  have hD := hD0
  have hAN : ∀ q, aN s.heap.size q → N ≤ q := fun q h => Nat.le_trans hN h
  have hS : va_S (aN s.heap.size) s.heap s.heap [] := va_S.rf
  have hP : va_P (dC, dI) xCl [(h0, eE h1 h2 kn), (h1, eR hw1 hc1 hb1 a1 r1), (hw1, eW true), (hc1, eA cy f1), (hb1, eA cy g1), (h2, eR hw2 hc2 hb2 a2 r2), (hw2, eW false), (hc2, eA cy f2), (hb2, eA cy g2)] s.heap := hP
  have hl := lv_entry ([.ref h0, .int p0, .int p1, .int p2]) (n := 4) (Nat.le_of_ble_eq_true rfl)
  rw [lg_entry_eq]
  generalize (lg_sl ([.ref h0, .int p0, .int p1, .int p2]) ++ List.replicate (4 - (lg_sl ([.ref h0, .int p0, .int p1, .int p2])).length) Slot.unset).toArray = ls at hl ⊢
  have hl : lv_has ls 4 [(0, .ref h0), (1, .int p0), (2, .int p1), (3, .int p2)] := hl
  refine lv_aload_n hx hb dX2_wideSame_0 rfl (lv_at hl 0 rfl) ?_
  refine va_get (D := (dC, dI)) (ci := 4) (v := .ref h1) (C := RX2) (T := TX2) (N := 3) hx hb hts (by decide +kernel) hown hK hP 0 rfl rfl 0 (by decide +kernel) (hts (.fieldLink RX2 20 "Edgefloats" "wide" "LEdgefloats$Row;") (by decide +kernel)) (fun _ h9 => h9) rfl dX2_wideSame_1 ?_
  refine lv_iload_n hx hb dX2_wideSame_4 rfl (lv_at hl 1 rfl) ?_
  refine lv_iload_n hx hb dX2_wideSame_5 rfl (lv_at hl 2 rfl) ?_
  refine lv_iload_n hx hb dX2_wideSame_6 rfl (lv_at hl 3 rfl) ?_
  have hPc := hP.sub (ws' := [(h1, eR hw1 hc1 hb1 a1 r1), (hw1, eW true), (hc1, eA cy f1), (hb1, eA cy g1)]) [1, 2, 3, 4] rfl
  have hDc := hD.sub (ws' := [(h1, eR hw1 hc1 hb1 a1 r1), (hw1, eW true), (hc1, eA cy f1), (hb1, eA cy g1)]) [1, 2, 3, 4] (by decide +kernel) rfl
  have hKc := hK.sub (tys' := [(cy, .long)]) [0] rfl
  refine vx_calli (vx_runV (As := [.int p0, .int p1, .int p2]) (rest := []) ⟨hx, hb, hml, hown, hts⟩ (k_X0_areSame l hfl dC dI cy h1 hw1 hc1 hb1 true a1 r1 f1 g1 s.heap.size N p0 p1 p2) (cwV 3 hts gX2_wideSame_X0_areSame rfl rfl rfl (by decide +kernel) ⟨Nat.le_of_ble_eq_true rfl, Nat.le_of_ble_eq_true rfl⟩) (xM.preV hKc hPc hDc (fun _ h => h) (Nat.le_trans hN hS.1) (hG.kept hS hAN) (ci := 2) (q0 := 0) rfl rfl) rfl rfl hl.1 rfl (lv_room (Nat.le_of_ble_eq_true rfl)) dX2_wideSame_7 ⟨Nat.le_of_ble_eq_true rfl, Nat.le_of_ble_eq_true rfl⟩) hS xA_old (fun q h => hA q (Nat.le_trans hS.1 h)) xA_old (fun E ce q9 u9 t H locs ht hvm hpx hbx hz hk hS hce hcv hcl => ?_) (fun r_1 u t H locs ht hvm hw hB hz hk hS => ?_)
  · have c_2 : ¬ (o_X0_areSame true f1 p0 p1 p2).1 = 0 := hpx
    have hbe := hbx
    have hP := xP_keep hP hk
    have he : o_X2_wideSame f1 p0 p1 p2 = ((o_X0_areSame true f1 p0 p1 p2).1, false) := by (rw [o_X2_wideSame, if_neg c_2]) <;> rfl
    exact vx_out (fun x hx => (hno x hx).elim) hlocks hce hcv hcl (fun t ht hvm => ⟨(), by rw [he]; exact c_2, by rw [he]; exact hbe, hS.F ht⟩) hS.2.2 (by omega) (by omega)
  · skip
    obtain ⟨c_3, hw⟩ := hw
    have c_3 : (o_X0_areSame true f1 p0 p1 p2).1 = 0 := c_3
    replace hw : r_1 = b2i ((o_X0_areSame true f1 p0 p1 p2).2) := hw
    subst r_1
    have hP := xP_keep hP hk
    have he : o_X2_wideSame f1 p0 p1 p2 = (0, (o_X0_areSame true f1 p0 p1 p2).2) := by (rw [o_X2_wideSame, if_pos c_3]) <;> rfl
    refine W.widen (k := 3) (n := 18) (by omega) (by omega) ?_
    refine vx_ret ?_
    exact W.zret (v := (b2i ((o_X0_areSame true f1 p0 p1 p2).2))) (ty := .boolean) hx hb hr (b2i_nar _) (fun t ht hW => ⟨⟨_, (), rfl, ⟨(by (rw [he]) <;> rfl), (by (rw [he]) <;> rfl)⟩, trivial⟩, hS.F ht⟩) hS.2.2 dX2_wideSame_10
theorem cl_X2_wideOther_1 : ∀ w ∈ [.fieldLink RX2 20 "Edgefloats" "wide" "LEdgefloats$Row;", .methodLink RX2 82 yX0_isEqualToOther, .instanceMethod yX0_isEqualToOther, .selects RX0 yX0_isEqualToOther yX0_isEqualToOther, .initialized RX0, .code yX0_isEqualToOther cX0_isEqualToOther 3 (some .boolean), .static yX2_checkCell, .initialized RX2, .code yX2_checkCell cX2_checkCell 1 none, .classLink RX2 148 "java/lang/IndexOutOfBoundsException", .initialized "java/lang/IndexOutOfBoundsException", .static yX2_checkChoice, .code yX2_checkChoice cX2_checkChoice 2 none, .classLink RX2 155 "java/lang/IllegalArgumentException", .initialized "java/lang/IllegalArgumentException"], w ∈ wsX2_wideOther := fun _ h => (List.mem_cons_of_mem _ (List.mem_append_left _ (List.mem_append_left _ (List.mem_append_left _ h))))
theorem cl_X2_wideOther_2 : ∀ w ∈ wsX20, w ∈ wsX2_wideOther := fun _ h => (List.mem_cons_of_mem _ (List.mem_append_left _ (List.mem_append_left _ (List.mem_append_right _ h))))
theorem cl_X2_wideOther_3 : ∀ w ∈ (vx_atS RX2 152 "java/lang/IndexOutOfBoundsException" ["java/lang/RuntimeException", "java/lang/Exception"]).filter goodWord, w ∈ wsX2_wideOther := fun _ h => (List.mem_cons_of_mem _ (List.mem_append_left _ (List.mem_append_right _ h)))
theorem cl_X2_wideOther_4 : ∀ w ∈ (vx_atS RX2 159 "java/lang/IllegalArgumentException" ["java/lang/RuntimeException", "java/lang/Exception"]).filter goodWord, w ∈ wsX2_wideOther := fun _ h => (List.mem_cons_of_mem _ (List.mem_append_right _ h))
set_option maxRecDepth 20000 in
theorem ggX2_wideOther_X0_isEqualToOther : GoodIn wsX2_wideOther wsX0_isEqualToOther := goodIn_sub (List.forall_mem_cons.mpr ⟨(cl_X2_wideOther_1 _ (List.mem_of_getElem? (i := 5) rfl)), fun w h => (List.mem_append.mp h).elim ((fun w h => (List.mem_append.mp h).elim ((List.forall_mem_cons.mpr ⟨(cl_X2_wideOther_1 _ (List.mem_of_getElem? (i := 6) rfl)), List.forall_mem_cons.mpr ⟨(cl_X2_wideOther_1 _ (List.mem_of_getElem? (i := 7) rfl)), List.forall_mem_cons.mpr ⟨(cl_X2_wideOther_1 _ (List.mem_of_getElem? (i := 8) rfl)), List.forall_mem_cons.mpr ⟨(cl_X2_wideOther_1 _ (List.mem_of_getElem? (i := 9) rfl)), List.forall_mem_cons.mpr ⟨(cl_X2_wideOther_1 _ (List.mem_of_getElem? (i := 10) rfl)), List.forall_mem_cons.mpr ⟨(cl_X2_wideOther_1 _ (List.mem_of_getElem? (i := 11) rfl)), List.forall_mem_cons.mpr ⟨(cl_X2_wideOther_1 _ (List.mem_of_getElem? (i := 12) rfl)), List.forall_mem_cons.mpr ⟨(cl_X2_wideOther_1 _ (List.mem_of_getElem? (i := 13) rfl)), List.forall_mem_cons.mpr ⟨(cl_X2_wideOther_1 _ (List.mem_of_getElem? (i := 14) rfl)), fun _ h => absurd h List.not_mem_nil⟩⟩⟩⟩⟩⟩⟩⟩⟩) w) ((cl_X2_wideOther_3) w)) w) ((cl_X2_wideOther_4) w)⟩) (by decide +kernel)
set_option maxRecDepth 20000 in
theorem gX2_wideOther_X0_isEqualToOther : GoodIn wsX2_wideOther (wsV RX2 82 RX0 yX0_isEqualToOther wsX0_isEqualToOther) := goodIn_app (goodIn_sub (List.forall_mem_cons.mpr ⟨(cl_X2_wideOther_1 _ (List.mem_of_getElem? (i := 1) rfl)), List.forall_mem_cons.mpr ⟨(cl_X2_wideOther_1 _ (List.mem_of_getElem? (i := 2) rfl)), List.forall_mem_cons.mpr ⟨(cl_X2_wideOther_1 _ (List.mem_of_getElem? (i := 3) rfl)), List.forall_mem_cons.mpr ⟨(cl_X2_wideOther_1 _ (List.mem_of_getElem? (i := 4) rfl)), fun _ h => absurd h List.not_mem_nil⟩⟩⟩⟩) (by decide +kernel)) ggX2_wideOther_X0_isEqualToOther
noncomputable def dz_p13_15 : List (Nat × Instr × Nat) := [(0, (.aload_n 0, 1)), (1, (.getfield 20, 3)), (4, (.iload_n 1, 1)), (5, (.iload_n 2, 1)), (6, (.invokevirtual 82, 3)), (9, (.ireturn, 1))]
theorem dy_p13_15 : dz_ok cX2_wideOther dz_p13_15 = true := by decide +kernel
theorem dX2_wideOther_0 : decode cX2_wideOther 0 = .ok (.aload_n 0, 1) := dz_at (i := 0) dy_p13_15 rfl
theorem dX2_wideOther_1 : decode cX2_wideOther 1 = .ok (.getfield 20, 3) := dz_at (i := 1) dy_p13_15 rfl
theorem dX2_wideOther_4 : decode cX2_wideOther 4 = .ok (.iload_n 1, 1) := dz_at (i := 2) dy_p13_15 rfl
theorem dX2_wideOther_5 : decode cX2_wideOther 5 = .ok (.iload_n 2, 1) := dz_at (i := 3) dy_p13_15 rfl
theorem dX2_wideOther_6 : decode cX2_wideOther 6 = .ok (.invokevirtual 82, 3) := dz_at (i := 4) dy_p13_15 rfl
theorem dX2_wideOther_9 : decode cX2_wideOther 9 = .ok (.ireturn, 1) := dz_at (i := 5) dy_p13_15 rfl
noncomputable def o_X2_wideOther  (p0 : Int32) (p1 : Int32) : Int32 × Bool :=
  if (o_X0_isEqualToOther p0 p1).1 = 0 then (0, (o_X0_isEqualToOther p0 p1).2)
  else ((o_X0_isEqualToOther p0 p1).1, false)
set_option maxHeartbeats 4000000 in
set_option maxRecDepth 100000 in
theorem k_X2_wideOther (l : Launch) (hfl : l.flags = flags0) (dC : Nat → ClassId) (dI : Nat → Nat → Nat) (cy : ClassId) (h0 : Nat) (h1 : Nat) (hw1 : Nat) (hc1 : Nat) (hb1 : Nat) (h2 : Nat) (hw2 : Nat) (hc2 : Nat) (hb2 : Nat) (a1 : Int32) (r1 : Int32) (f1 : Nat → Int64) (g1 : Nat → Int64) (a2 : Int32) (r2 : Int32) (f2 : Nat → Int64) (g2 : Nat → Int64) (kn : Int32) (sz : Nat) (N : Nat) (p0 : Int32) (p1 : Int32) : vx_Met l yX2_wideOther wsX2_wideOther ({ frames := 8, cells := 2, slots := 12, locals := 143 }) (va_Pc [.ref h0, .int p0, .int p1] (xM (dC, dI) xCl [(h0, eE h1 h2 kn), (h1, eR hw1 hc1 hb1 a1 r1), (hw1, eW true), (hc1, eA cy f1), (hb1, eA cy g1), (h2, eR hw2 hc2 hb2 a2 r2), (hw2, eW false), (hc2, eA cy f2), (hb2, eA cy g2)] [(cy, .long)] sz N)) (va_Qi (fun (r : Int32) (_ : Unit) => (o_X2_wideOther p0 p1).1 = 0 ∧ r = b2i ((o_X2_wideOther p0 p1).2)) (fun _ _ => True) (aN sz)) (vx_X (fun _ : Unit => ¬ (o_X2_wideOther p0 p1).1 = 0) (fun E _ _ => E = xE (o_X2_wideOther p0 p1).1) (aN sz)) 2 12 (aN sz) := by
  refine vx_ofW (cc := cX2_wideOther) (maxL := 3) (ret := (some .boolean)) (by decide +kernel) rfl ?_
  intro p e s m args below meth c s₁ B hml hno hv
  obtain ⟨rfl, hsz, hP, hK, hD0, hN, hG⟩ := hv
  have hx := B.exec
  have hb := B.bytes
  have hr := B.returns
  have hts := atoms_spec (ws := wsX2_wideOther) B.pre
  have hown : s.vm.findClass RX2 = some m.cls := findClass_of_methodNamed B.named
  have hlocks := B.notSynchronized
  subst hsz
  have hA : ∀ q : Nat, s.heap.size ≤ q → aN s.heap.size q := fun _ h => h
  have hD := hD0
  have hAN : ∀ q, aN s.heap.size q → N ≤ q := fun q h => Nat.le_trans hN h
  have hS : va_S (aN s.heap.size) s.heap s.heap [] := va_S.rf
  have hP : va_P (dC, dI) xCl [(h0, eE h1 h2 kn), (h1, eR hw1 hc1 hb1 a1 r1), (hw1, eW true), (hc1, eA cy f1), (hb1, eA cy g1), (h2, eR hw2 hc2 hb2 a2 r2), (hw2, eW false), (hc2, eA cy f2), (hb2, eA cy g2)] s.heap := hP
  have hl := lv_entry ([.ref h0, .int p0, .int p1]) (n := 3) (Nat.le_of_ble_eq_true rfl)
  rw [lg_entry_eq]
  generalize (lg_sl ([.ref h0, .int p0, .int p1]) ++ List.replicate (3 - (lg_sl ([.ref h0, .int p0, .int p1])).length) Slot.unset).toArray = ls at hl ⊢
  have hl : lv_has ls 3 [(0, .ref h0), (1, .int p0), (2, .int p1)] := hl
  refine lv_aload_n hx hb dX2_wideOther_0 rfl (lv_at hl 0 rfl) ?_
  refine va_get (D := (dC, dI)) (ci := 4) (v := .ref h1) (C := RX2) (T := TX2) (N := 3) hx hb hts (by decide +kernel) hown hK hP 0 rfl rfl 0 (by decide +kernel) (hts (.fieldLink RX2 20 "Edgefloats" "wide" "LEdgefloats$Row;") (by decide +kernel)) (fun _ h9 => h9) rfl dX2_wideOther_1 ?_
  refine lv_iload_n hx hb dX2_wideOther_4 rfl (lv_at hl 1 rfl) ?_
  refine lv_iload_n hx hb dX2_wideOther_5 rfl (lv_at hl 2 rfl) ?_
  have hPc := hP.sub (ws' := [(h1, eR hw1 hc1 hb1 a1 r1), (hw1, eW true), (hc1, eA cy f1), (hb1, eA cy g1)]) [1, 2, 3, 4] rfl
  have hDc := hD.sub (ws' := [(h1, eR hw1 hc1 hb1 a1 r1), (hw1, eW true), (hc1, eA cy f1), (hb1, eA cy g1)]) [1, 2, 3, 4] (by decide +kernel) rfl
  have hKc := hK.sub (tys' := [(cy, .long)]) [0] rfl
  refine vx_calli (vx_runV (As := [.int p0, .int p1]) (rest := []) ⟨hx, hb, hml, hown, hts⟩ (k_X0_isEqualToOther l hfl dC dI cy h1 hw1 hc1 hb1 true a1 r1 f1 g1 s.heap.size N p0 p1) (cwV 2 hts gX2_wideOther_X0_isEqualToOther rfl rfl rfl (by decide +kernel) ⟨Nat.le_of_ble_eq_true rfl, Nat.le_of_ble_eq_true rfl⟩) (xM.preV hKc hPc hDc (fun _ h => h) (Nat.le_trans hN hS.1) (hG.kept hS hAN) (ci := 2) (q0 := 0) rfl rfl) rfl rfl hl.1 rfl (lv_room (Nat.le_of_ble_eq_true rfl)) dX2_wideOther_6 ⟨Nat.le_of_ble_eq_true rfl, Nat.le_of_ble_eq_true rfl⟩) hS xA_old (fun q h => hA q (Nat.le_trans hS.1 h)) xA_old (fun E ce q9 u9 t H locs ht hvm hpx hbx hz hk hS hce hcv hcl => ?_) (fun r_1 u t H locs ht hvm hw hB hz hk hS => ?_)
  · have c_2 : ¬ (o_X0_isEqualToOther p0 p1).1 = 0 := hpx
    have hbe := hbx
    have hP := xP_keep hP hk
    have he : o_X2_wideOther p0 p1 = ((o_X0_isEqualToOther p0 p1).1, false) := by (rw [o_X2_wideOther, if_neg c_2]) <;> rfl
    exact vx_out (fun x hx => (hno x hx).elim) hlocks hce hcv hcl (fun t ht hvm => ⟨(), by rw [he]; exact c_2, by rw [he]; exact hbe, hS.F ht⟩) hS.2.2 (by omega) (by omega)
  · skip
    obtain ⟨c_3, hw⟩ := hw
    have c_3 : (o_X0_isEqualToOther p0 p1).1 = 0 := c_3
    replace hw : r_1 = b2i ((o_X0_isEqualToOther p0 p1).2) := hw
    subst r_1
    have hP := xP_keep hP hk
    have he : o_X2_wideOther p0 p1 = (0, (o_X0_isEqualToOther p0 p1).2) := by (rw [o_X2_wideOther, if_pos c_3]) <;> rfl
    refine W.widen (k := 2) (n := 12) (by omega) (by omega) ?_
    refine vx_ret ?_
    exact W.zret (v := (b2i ((o_X0_isEqualToOther p0 p1).2))) (ty := .boolean) hx hb hr (b2i_nar _) (fun t ht hW => ⟨⟨_, (), rfl, ⟨(by (rw [he]) <;> rfl), (by (rw [he]) <;> rfl)⟩, trivial⟩, hS.F ht⟩) hS.2.2 dX2_wideOther_9
theorem cl_X2_wideLike_1 : ∀ w ∈ [.fieldLink RX2 20 "Edgefloats" "wide" "LEdgefloats$Row;", .methodLink RX2 86 yX0_areLike, .instanceMethod yX0_areLike, .selects RX0 yX0_areLike yX0_areLike, .initialized RX0, .code yX0_areLike cX0_areLike 3 (some .boolean), .fieldLink RX0 9 "Edgefloats$Row" "width" "LEdgefloats$Width;", .fieldLink RX0 15 "Edgefloats$Row" "cells" "[J", .static yX2_checkCell, .initialized RX2, .code yX2_checkCell cX2_checkCell 1 none, .classLink RX2 148 "java/lang/IndexOutOfBoundsException", .initialized "java/lang/IndexOutOfBoundsException", .methodLink RX0 103 yX1_areLike, .instanceMethod yX1_areLike, .selects RX1 yX1_areLike yX1_areLike, .initialized RX1, .code yX1_areLike cX1_areLike 5 (some .boolean), .methodLink RX1 45 yX1_rank, .instanceMethod yX1_rank, .selects RX1 yX1_rank yX1_rank, .code yX1_rank cX1_rank 5 (some .long), .fieldLink RX1 28 "Edgefloats$Width" "sizeOnes" "J", .fieldLink RX1 25 "Edgefloats$Width" "signOne" "J"], w ∈ wsX2_wideLike := fun _ h => (List.mem_cons_of_mem _ (List.mem_append_left _ (List.mem_append_left _ (List.mem_append_left _ (List.mem_append_left _ h)))))
theorem cl_X2_wideLike_2 : ∀ w ∈ wsX20, w ∈ wsX2_wideLike := fun _ h => (List.mem_cons_of_mem _ (List.mem_append_left _ (List.mem_append_left _ (List.mem_append_left _ (List.mem_append_right _ h)))))
theorem cl_X2_wideLike_3 : ∀ w ∈ wsX00, w ∈ wsX2_wideLike := fun _ h => (List.mem_cons_of_mem _ (List.mem_append_left _ (List.mem_append_left _ (List.mem_append_right _ h))))
theorem cl_X2_wideLike_4 : ∀ w ∈ wsX10, w ∈ wsX2_wideLike := fun _ h => (List.mem_cons_of_mem _ (List.mem_append_left _ (List.mem_append_right _ h)))
theorem cl_X2_wideLike_5 : ∀ w ∈ (vx_atS RX2 152 "java/lang/IndexOutOfBoundsException" ["java/lang/RuntimeException", "java/lang/Exception"]).filter goodWord, w ∈ wsX2_wideLike := fun _ h => (List.mem_cons_of_mem _ (List.mem_append_right _ h))
set_option maxRecDepth 20000 in
theorem ggX2_wideLike_X0_areLike : GoodIn wsX2_wideLike wsX0_areLike := goodIn_sub (List.forall_mem_cons.mpr ⟨(cl_X2_wideLike_1 _ (List.mem_of_getElem? (i := 5) rfl)), fun w h => (List.mem_append.mp h).elim ((fun w h => (List.mem_append.mp h).elim ((fun w h => (List.mem_append.mp h).elim ((List.forall_mem_cons.mpr ⟨(cl_X2_wideLike_1 _ (List.mem_of_getElem? (i := 6) rfl)), List.forall_mem_cons.mpr ⟨(cl_X2_wideLike_1 _ (List.mem_of_getElem? (i := 7) rfl)), List.forall_mem_cons.mpr ⟨(cl_X2_wideLike_1 _ (List.mem_of_getElem? (i := 8) rfl)), List.forall_mem_cons.mpr ⟨(cl_X2_wideLike_1 _ (List.mem_of_getElem? (i := 9) rfl)), List.forall_mem_cons.mpr ⟨(cl_X2_wideLike_1 _ (List.mem_of_getElem? (i := 10) rfl)), List.forall_mem_cons.mpr ⟨(cl_X2_wideLike_1 _ (List.mem_of_getElem? (i := 11) rfl)), List.forall_mem_cons.mpr ⟨(cl_X2_wideLike_1 _ (List.mem_of_getElem? (i := 12) rfl)), List.forall_mem_cons.mpr ⟨(cl_X2_wideLike_1 _ (List.mem_of_getElem? (i := 13) rfl)), List.forall_mem_cons.mpr ⟨(cl_X2_wideLike_1 _ (List.mem_of_getElem? (i := 14) rfl)), List.forall_mem_cons.mpr ⟨(cl_X2_wideLike_1 _ (List.mem_of_getElem? (i := 15) rfl)), List.forall_mem_cons.mpr ⟨(cl_X2_wideLike_1 _ (List.mem_of_getElem? (i := 16) rfl)), List.forall_mem_cons.mpr ⟨(cl_X2_wideLike_1 _ (List.mem_of_getElem? (i := 17) rfl)), List.forall_mem_cons.mpr ⟨(cl_X2_wideLike_1 _ (List.mem_of_getElem? (i := 18) rfl)), List.forall_mem_cons.mpr ⟨(cl_X2_wideLike_1 _ (List.mem_of_getElem? (i := 19) rfl)), List.forall_mem_cons.mpr ⟨(cl_X2_wideLike_1 _ (List.mem_of_getElem? (i := 20) rfl)), List.forall_mem_cons.mpr ⟨(cl_X2_wideLike_1 _ (List.mem_of_getElem? (i := 21) rfl)), List.forall_mem_cons.mpr ⟨(cl_X2_wideLike_1 _ (List.mem_of_getElem? (i := 22) rfl)), List.forall_mem_cons.mpr ⟨(cl_X2_wideLike_1 _ (List.mem_of_getElem? (i := 23) rfl)), fun _ h => absurd h List.not_mem_nil⟩⟩⟩⟩⟩⟩⟩⟩⟩⟩⟩⟩⟩⟩⟩⟩⟩⟩) w) ((cl_X2_wideLike_3) w)) w) ((cl_X2_wideLike_4) w)) w) ((cl_X2_wideLike_5) w)⟩) (by decide +kernel)
set_option maxRecDepth 20000 in
theorem gX2_wideLike_X0_areLike : GoodIn wsX2_wideLike (wsV RX2 86 RX0 yX0_areLike wsX0_areLike) := goodIn_app (goodIn_sub (List.forall_mem_cons.mpr ⟨(cl_X2_wideLike_1 _ (List.mem_of_getElem? (i := 1) rfl)), List.forall_mem_cons.mpr ⟨(cl_X2_wideLike_1 _ (List.mem_of_getElem? (i := 2) rfl)), List.forall_mem_cons.mpr ⟨(cl_X2_wideLike_1 _ (List.mem_of_getElem? (i := 3) rfl)), List.forall_mem_cons.mpr ⟨(cl_X2_wideLike_1 _ (List.mem_of_getElem? (i := 4) rfl)), fun _ h => absurd h List.not_mem_nil⟩⟩⟩⟩) (by decide +kernel)) ggX2_wideLike_X0_areLike
noncomputable def dz_p13_16 : List (Nat × Instr × Nat) := [(0, (.aload_n 0, 1)), (1, (.getfield 20, 3)), (4, (.iload_n 1, 1)), (5, (.iload_n 2, 1)), (6, (.invokevirtual 86, 3)), (9, (.ireturn, 1))]
theorem dy_p13_16 : dz_ok cX2_wideLike dz_p13_16 = true := by decide +kernel
theorem dX2_wideLike_0 : decode cX2_wideLike 0 = .ok (.aload_n 0, 1) := dz_at (i := 0) dy_p13_16 rfl
theorem dX2_wideLike_1 : decode cX2_wideLike 1 = .ok (.getfield 20, 3) := dz_at (i := 1) dy_p13_16 rfl
theorem dX2_wideLike_4 : decode cX2_wideLike 4 = .ok (.iload_n 1, 1) := dz_at (i := 2) dy_p13_16 rfl
theorem dX2_wideLike_5 : decode cX2_wideLike 5 = .ok (.iload_n 2, 1) := dz_at (i := 3) dy_p13_16 rfl
theorem dX2_wideLike_6 : decode cX2_wideLike 6 = .ok (.invokevirtual 86, 3) := dz_at (i := 4) dy_p13_16 rfl
theorem dX2_wideLike_9 : decode cX2_wideLike 9 = .ok (.ireturn, 1) := dz_at (i := 5) dy_p13_16 rfl
noncomputable def o_X2_wideLike (f1 : Nat → Int64) (p0 : Int32) (p1 : Int32) : Int32 × Bool :=
  if (o_X0_areLike true f1 p0 p1).1 = 0 then (0, (o_X0_areLike true f1 p0 p1).2)
  else ((o_X0_areLike true f1 p0 p1).1, false)
set_option maxHeartbeats 4000000 in
set_option maxRecDepth 100000 in
theorem k_X2_wideLike (l : Launch) (hfl : l.flags = flags0) (dC : Nat → ClassId) (dI : Nat → Nat → Nat) (cy : ClassId) (h0 : Nat) (h1 : Nat) (hw1 : Nat) (hc1 : Nat) (hb1 : Nat) (h2 : Nat) (hw2 : Nat) (hc2 : Nat) (hb2 : Nat) (a1 : Int32) (r1 : Int32) (f1 : Nat → Int64) (g1 : Nat → Int64) (a2 : Int32) (r2 : Int32) (f2 : Nat → Int64) (g2 : Nat → Int64) (kn : Int32) (sz : Nat) (N : Nat) (p0 : Int32) (p1 : Int32) : vx_Met l yX2_wideLike wsX2_wideLike ({ frames := 8, cells := 2, slots := 12, locals := 142 }) (va_Pc [.ref h0, .int p0, .int p1] (xM (dC, dI) xCl [(h0, eE h1 h2 kn), (h1, eR hw1 hc1 hb1 a1 r1), (hw1, eW true), (hc1, eA cy f1), (hb1, eA cy g1), (h2, eR hw2 hc2 hb2 a2 r2), (hw2, eW false), (hc2, eA cy f2), (hb2, eA cy g2)] [(cy, .long)] sz N)) (va_Qi (fun (r : Int32) (_ : Unit) => (o_X2_wideLike f1 p0 p1).1 = 0 ∧ r = b2i ((o_X2_wideLike f1 p0 p1).2)) (fun _ _ => True) (aN sz)) (vx_X (fun _ : Unit => ¬ (o_X2_wideLike f1 p0 p1).1 = 0) (fun E _ _ => E = xE (o_X2_wideLike f1 p0 p1).1) (aN sz)) 2 12 (aN sz) := by
  refine vx_ofW (cc := cX2_wideLike) (maxL := 3) (ret := (some .boolean)) (by decide +kernel) rfl ?_
  intro p e s m args below meth c s₁ B hml hno hv
  obtain ⟨rfl, hsz, hP, hK, hD0, hN, hG⟩ := hv
  have hx := B.exec
  have hb := B.bytes
  have hr := B.returns
  have hts := atoms_spec (ws := wsX2_wideLike) B.pre
  have hown : s.vm.findClass RX2 = some m.cls := findClass_of_methodNamed B.named
  have hlocks := B.notSynchronized
  subst hsz
  have hA : ∀ q : Nat, s.heap.size ≤ q → aN s.heap.size q := fun _ h => h
  have hD := hD0
  have hAN : ∀ q, aN s.heap.size q → N ≤ q := fun q h => Nat.le_trans hN h
  have hS : va_S (aN s.heap.size) s.heap s.heap [] := va_S.rf
  have hP : va_P (dC, dI) xCl [(h0, eE h1 h2 kn), (h1, eR hw1 hc1 hb1 a1 r1), (hw1, eW true), (hc1, eA cy f1), (hb1, eA cy g1), (h2, eR hw2 hc2 hb2 a2 r2), (hw2, eW false), (hc2, eA cy f2), (hb2, eA cy g2)] s.heap := hP
  have hl := lv_entry ([.ref h0, .int p0, .int p1]) (n := 3) (Nat.le_of_ble_eq_true rfl)
  rw [lg_entry_eq]
  generalize (lg_sl ([.ref h0, .int p0, .int p1]) ++ List.replicate (3 - (lg_sl ([.ref h0, .int p0, .int p1])).length) Slot.unset).toArray = ls at hl ⊢
  have hl : lv_has ls 3 [(0, .ref h0), (1, .int p0), (2, .int p1)] := hl
  refine lv_aload_n hx hb dX2_wideLike_0 rfl (lv_at hl 0 rfl) ?_
  refine va_get (D := (dC, dI)) (ci := 4) (v := .ref h1) (C := RX2) (T := TX2) (N := 3) hx hb hts (by decide +kernel) hown hK hP 0 rfl rfl 0 (by decide +kernel) (hts (.fieldLink RX2 20 "Edgefloats" "wide" "LEdgefloats$Row;") (by decide +kernel)) (fun _ h9 => h9) rfl dX2_wideLike_1 ?_
  refine lv_iload_n hx hb dX2_wideLike_4 rfl (lv_at hl 1 rfl) ?_
  refine lv_iload_n hx hb dX2_wideLike_5 rfl (lv_at hl 2 rfl) ?_
  have hPc := hP.sub (ws' := [(h1, eR hw1 hc1 hb1 a1 r1), (hw1, eW true), (hc1, eA cy f1), (hb1, eA cy g1)]) [1, 2, 3, 4] rfl
  have hDc := hD.sub (ws' := [(h1, eR hw1 hc1 hb1 a1 r1), (hw1, eW true), (hc1, eA cy f1), (hb1, eA cy g1)]) [1, 2, 3, 4] (by decide +kernel) rfl
  have hKc := hK.sub (tys' := [(cy, .long)]) [0] rfl
  refine vx_calli (vx_runV (As := [.int p0, .int p1]) (rest := []) ⟨hx, hb, hml, hown, hts⟩ (k_X0_areLike l hfl dC dI cy h1 hw1 hc1 hb1 true a1 r1 f1 g1 s.heap.size N p0 p1) (cwV 2 hts gX2_wideLike_X0_areLike rfl rfl rfl (by decide +kernel) ⟨Nat.le_of_ble_eq_true rfl, Nat.le_of_ble_eq_true rfl⟩) (xM.preV hKc hPc hDc (fun _ h => h) (Nat.le_trans hN hS.1) (hG.kept hS hAN) (ci := 2) (q0 := 0) rfl rfl) rfl rfl hl.1 rfl (lv_room (Nat.le_of_ble_eq_true rfl)) dX2_wideLike_6 ⟨Nat.le_of_ble_eq_true rfl, Nat.le_of_ble_eq_true rfl⟩) hS xA_old (fun q h => hA q (Nat.le_trans hS.1 h)) xA_old (fun E ce q9 u9 t H locs ht hvm hpx hbx hz hk hS hce hcv hcl => ?_) (fun r_1 u t H locs ht hvm hw hB hz hk hS => ?_)
  · have c_2 : ¬ (o_X0_areLike true f1 p0 p1).1 = 0 := hpx
    have hbe := hbx
    have hP := xP_keep hP hk
    have he : o_X2_wideLike f1 p0 p1 = ((o_X0_areLike true f1 p0 p1).1, false) := by (rw [o_X2_wideLike, if_neg c_2]) <;> rfl
    exact vx_out (fun x hx => (hno x hx).elim) hlocks hce hcv hcl (fun t ht hvm => ⟨(), by rw [he]; exact c_2, by rw [he]; exact hbe, hS.F ht⟩) hS.2.2 (by omega) (by omega)
  · skip
    obtain ⟨c_3, hw⟩ := hw
    have c_3 : (o_X0_areLike true f1 p0 p1).1 = 0 := c_3
    replace hw : r_1 = b2i ((o_X0_areLike true f1 p0 p1).2) := hw
    subst r_1
    have hP := xP_keep hP hk
    have he : o_X2_wideLike f1 p0 p1 = (0, (o_X0_areLike true f1 p0 p1).2) := by (rw [o_X2_wideLike, if_pos c_3]) <;> rfl
    refine W.widen (k := 2) (n := 12) (by omega) (by omega) ?_
    refine vx_ret ?_
    exact W.zret (v := (b2i ((o_X0_areLike true f1 p0 p1).2))) (ty := .boolean) hx hb hr (b2i_nar _) (fun t ht hW => ⟨⟨_, (), rfl, ⟨(by (rw [he]) <;> rfl), (by (rw [he]) <;> rfl)⟩, trivial⟩, hS.F ht⟩) hS.2.2 dX2_wideLike_9
theorem cl_X2_wideBelow_1 : ∀ w ∈ wsX2_wideBelow_r1, w ∈ wsX2_wideBelow := fun _ h => (List.mem_cons_of_mem _ (List.mem_append_left _ (List.mem_append_left _ (List.mem_append_left _ (List.mem_append_left _ (List.mem_append_left _ h))))))
theorem cl_X2_wideBelow_2 : ∀ w ∈ wsX2_wideBelow_r2, w ∈ wsX2_wideBelow := fun _ h => (List.mem_cons_of_mem _ (List.mem_append_left _ (List.mem_append_left _ (List.mem_append_left _ (List.mem_append_left _ (List.mem_append_right _ h))))))
theorem cl_X2_wideBelow_3 : ∀ w ∈ wsX20, w ∈ wsX2_wideBelow := fun _ h => (List.mem_cons_of_mem _ (List.mem_append_left _ (List.mem_append_left _ (List.mem_append_left _ (List.mem_append_right _ h)))))
theorem cl_X2_wideBelow_4 : ∀ w ∈ wsX00, w ∈ wsX2_wideBelow := fun _ h => (List.mem_cons_of_mem _ (List.mem_append_left _ (List.mem_append_left _ (List.mem_append_right _ h))))
theorem cl_X2_wideBelow_5 : ∀ w ∈ wsX10, w ∈ wsX2_wideBelow := fun _ h => (List.mem_cons_of_mem _ (List.mem_append_left _ (List.mem_append_right _ h)))
theorem cl_X2_wideBelow_6 : ∀ w ∈ (vx_atS RX2 152 "java/lang/IndexOutOfBoundsException" ["java/lang/RuntimeException", "java/lang/Exception"]).filter goodWord, w ∈ wsX2_wideBelow := fun _ h => (List.mem_cons_of_mem _ (List.mem_append_right _ h))
set_option maxRecDepth 20000 in
theorem ggX2_wideBelow_X0_isBelow : GoodIn wsX2_wideBelow wsX0_isBelow := goodIn_sub (List.forall_mem_cons.mpr ⟨(cl_X2_wideBelow_1 _ (List.mem_of_getElem? (i := 5) rfl)), fun w h => (List.mem_append.mp h).elim ((fun w h => (List.mem_append.mp h).elim ((fun w h => (List.mem_append.mp h).elim ((List.forall_mem_cons.mpr ⟨(cl_X2_wideBelow_1 _ (List.mem_of_getElem? (i := 6) rfl)), List.forall_mem_cons.mpr ⟨(cl_X2_wideBelow_1 _ (List.mem_of_getElem? (i := 7) rfl)), List.forall_mem_cons.mpr ⟨(cl_X2_wideBelow_1 _ (List.mem_of_getElem? (i := 8) rfl)), List.forall_mem_cons.mpr ⟨(cl_X2_wideBelow_1 _ (List.mem_of_getElem? (i := 9) rfl)), List.forall_mem_cons.mpr ⟨(cl_X2_wideBelow_1 _ (List.mem_of_getElem? (i := 10) rfl)), List.forall_mem_cons.mpr ⟨(cl_X2_wideBelow_1 _ (List.mem_of_getElem? (i := 11) rfl)), List.forall_mem_cons.mpr ⟨(cl_X2_wideBelow_1 _ (List.mem_of_getElem? (i := 12) rfl)), List.forall_mem_cons.mpr ⟨(cl_X2_wideBelow_1 _ (List.mem_of_getElem? (i := 13) rfl)), List.forall_mem_cons.mpr ⟨(cl_X2_wideBelow_1 _ (List.mem_of_getElem? (i := 14) rfl)), List.forall_mem_cons.mpr ⟨(cl_X2_wideBelow_1 _ (List.mem_of_getElem? (i := 15) rfl)), List.forall_mem_cons.mpr ⟨(cl_X2_wideBelow_1 _ (List.mem_of_getElem? (i := 16) rfl)), List.forall_mem_cons.mpr ⟨(cl_X2_wideBelow_1 _ (List.mem_of_getElem? (i := 17) rfl)), List.forall_mem_cons.mpr ⟨(cl_X2_wideBelow_1 _ (List.mem_of_getElem? (i := 18) rfl)), List.forall_mem_cons.mpr ⟨(cl_X2_wideBelow_1 _ (List.mem_of_getElem? (i := 19) rfl)), List.forall_mem_cons.mpr ⟨(cl_X2_wideBelow_1 _ (List.mem_of_getElem? (i := 20) rfl)), List.forall_mem_cons.mpr ⟨(cl_X2_wideBelow_1 _ (List.mem_of_getElem? (i := 21) rfl)), List.forall_mem_cons.mpr ⟨(cl_X2_wideBelow_1 _ (List.mem_of_getElem? (i := 22) rfl)), List.forall_mem_cons.mpr ⟨(cl_X2_wideBelow_1 _ (List.mem_of_getElem? (i := 23) rfl)), List.forall_mem_cons.mpr ⟨(cl_X2_wideBelow_2 _ (List.mem_of_getElem? (i := 0) rfl)), List.forall_mem_cons.mpr ⟨(cl_X2_wideBelow_2 _ (List.mem_of_getElem? (i := 1) rfl)), List.forall_mem_cons.mpr ⟨(cl_X2_wideBelow_2 _ (List.mem_of_getElem? (i := 2) rfl)), List.forall_mem_cons.mpr ⟨(cl_X2_wideBelow_2 _ (List.mem_of_getElem? (i := 3) rfl)), fun _ h => absurd h List.not_mem_nil⟩⟩⟩⟩⟩⟩⟩⟩⟩⟩⟩⟩⟩⟩⟩⟩⟩⟩⟩⟩⟩⟩) w) ((cl_X2_wideBelow_4) w)) w) ((cl_X2_wideBelow_5) w)) w) ((cl_X2_wideBelow_6) w)⟩) (by decide +kernel)
set_option maxRecDepth 20000 in
theorem gX2_wideBelow_X0_isBelow : GoodIn wsX2_wideBelow (wsV RX2 89 RX0 yX0_isBelow wsX0_isBelow) := goodIn_app (goodIn_sub (List.forall_mem_cons.mpr ⟨(cl_X2_wideBelow_1 _ (List.mem_of_getElem? (i := 1) rfl)), List.forall_mem_cons.mpr ⟨(cl_X2_wideBelow_1 _ (List.mem_of_getElem? (i := 2) rfl)), List.forall_mem_cons.mpr ⟨(cl_X2_wideBelow_1 _ (List.mem_of_getElem? (i := 3) rfl)), List.forall_mem_cons.mpr ⟨(cl_X2_wideBelow_1 _ (List.mem_of_getElem? (i := 4) rfl)), fun _ h => absurd h List.not_mem_nil⟩⟩⟩⟩) (by decide +kernel)) ggX2_wideBelow_X0_isBelow
noncomputable def dz_p13_17 : List (Nat × Instr × Nat) := [(0, (.aload_n 0, 1)), (1, (.getfield 20, 3)), (4, (.iload_n 1, 1)), (5, (.iload_n 2, 1)), (6, (.iload_n 3, 1)), (7, (.invokevirtual 89, 3)), (10, (.ireturn, 1))]
theorem dy_p13_17 : dz_ok cX2_wideBelow dz_p13_17 = true := by decide +kernel
theorem dX2_wideBelow_0 : decode cX2_wideBelow 0 = .ok (.aload_n 0, 1) := dz_at (i := 0) dy_p13_17 rfl
theorem dX2_wideBelow_1 : decode cX2_wideBelow 1 = .ok (.getfield 20, 3) := dz_at (i := 1) dy_p13_17 rfl
theorem dX2_wideBelow_4 : decode cX2_wideBelow 4 = .ok (.iload_n 1, 1) := dz_at (i := 2) dy_p13_17 rfl
theorem dX2_wideBelow_5 : decode cX2_wideBelow 5 = .ok (.iload_n 2, 1) := dz_at (i := 3) dy_p13_17 rfl
theorem dX2_wideBelow_6 : decode cX2_wideBelow 6 = .ok (.iload_n 3, 1) := dz_at (i := 4) dy_p13_17 rfl
theorem dX2_wideBelow_7 : decode cX2_wideBelow 7 = .ok (.invokevirtual 89, 3) := dz_at (i := 5) dy_p13_17 rfl
theorem dX2_wideBelow_10 : decode cX2_wideBelow 10 = .ok (.ireturn, 1) := dz_at (i := 6) dy_p13_17 rfl
noncomputable def o_X2_wideBelow (f1 : Nat → Int64) (p0 : Int32) (p1 : Int32) (p2 : Bool) : Int32 × Bool :=
  if (o_X0_isBelow true f1 p0 p1 p2).1 = 0 then (0, (o_X0_isBelow true f1 p0 p1 p2).2)
  else ((o_X0_isBelow true f1 p0 p1 p2).1, false)
set_option maxHeartbeats 4000000 in
set_option maxRecDepth 100000 in
theorem k_X2_wideBelow (l : Launch) (hfl : l.flags = flags0) (dC : Nat → ClassId) (dI : Nat → Nat → Nat) (cy : ClassId) (h0 : Nat) (h1 : Nat) (hw1 : Nat) (hc1 : Nat) (hb1 : Nat) (h2 : Nat) (hw2 : Nat) (hc2 : Nat) (hb2 : Nat) (a1 : Int32) (r1 : Int32) (f1 : Nat → Int64) (g1 : Nat → Int64) (a2 : Int32) (r2 : Int32) (f2 : Nat → Int64) (g2 : Nat → Int64) (kn : Int32) (sz : Nat) (N : Nat) (p0 : Int32) (p1 : Int32) (p2 : Bool) : vx_Met l yX2_wideBelow wsX2_wideBelow ({ frames := 8, cells := 2, slots := 12, locals := 143 }) (va_Pc [.ref h0, .int p0, .int p1, .int (b2i p2)] (xM (dC, dI) xCl [(h0, eE h1 h2 kn), (h1, eR hw1 hc1 hb1 a1 r1), (hw1, eW true), (hc1, eA cy f1), (hb1, eA cy g1), (h2, eR hw2 hc2 hb2 a2 r2), (hw2, eW false), (hc2, eA cy f2), (hb2, eA cy g2)] [(cy, .long)] sz N)) (va_Qi (fun (r : Int32) (_ : Unit) => (o_X2_wideBelow f1 p0 p1 p2).1 = 0 ∧ r = b2i ((o_X2_wideBelow f1 p0 p1 p2).2)) (fun _ _ => True) (aN sz)) (vx_X (fun _ : Unit => ¬ (o_X2_wideBelow f1 p0 p1 p2).1 = 0) (fun E _ _ => E = xE (o_X2_wideBelow f1 p0 p1 p2).1) (aN sz)) 2 12 (aN sz) := by
  refine vx_ofW (cc := cX2_wideBelow) (maxL := 4) (ret := (some .boolean)) (by decide +kernel) rfl ?_
  intro p e s m args below meth c s₁ B hml hno hv
  obtain ⟨rfl, hsz, hP, hK, hD0, hN, hG⟩ := hv
  have hx := B.exec
  have hb := B.bytes
  have hr := B.returns
  have hts := atoms_spec (ws := wsX2_wideBelow) B.pre
  have hown : s.vm.findClass RX2 = some m.cls := findClass_of_methodNamed B.named
  have hlocks := B.notSynchronized
  subst hsz
  have hA : ∀ q : Nat, s.heap.size ≤ q → aN s.heap.size q := fun _ h => h
  have hD := hD0
  have hAN : ∀ q, aN s.heap.size q → N ≤ q := fun q h => Nat.le_trans hN h
  have hS : va_S (aN s.heap.size) s.heap s.heap [] := va_S.rf
  have hP : va_P (dC, dI) xCl [(h0, eE h1 h2 kn), (h1, eR hw1 hc1 hb1 a1 r1), (hw1, eW true), (hc1, eA cy f1), (hb1, eA cy g1), (h2, eR hw2 hc2 hb2 a2 r2), (hw2, eW false), (hc2, eA cy f2), (hb2, eA cy g2)] s.heap := hP
  have hl := lv_entry ([.ref h0, .int p0, .int p1, .int (b2i p2)]) (n := 4) (Nat.le_of_ble_eq_true rfl)
  rw [lg_entry_eq]
  generalize (lg_sl ([.ref h0, .int p0, .int p1, .int (b2i p2)]) ++ List.replicate (4 - (lg_sl ([.ref h0, .int p0, .int p1, .int (b2i p2)])).length) Slot.unset).toArray = ls at hl ⊢
  have hl : lv_has ls 4 [(0, .ref h0), (1, .int p0), (2, .int p1), (3, .int (b2i p2))] := hl
  refine lv_aload_n hx hb dX2_wideBelow_0 rfl (lv_at hl 0 rfl) ?_
  refine va_get (D := (dC, dI)) (ci := 4) (v := .ref h1) (C := RX2) (T := TX2) (N := 3) hx hb hts (by decide +kernel) hown hK hP 0 rfl rfl 0 (by decide +kernel) (hts (.fieldLink RX2 20 "Edgefloats" "wide" "LEdgefloats$Row;") (by decide +kernel)) (fun _ h9 => h9) rfl dX2_wideBelow_1 ?_
  refine lv_iload_n hx hb dX2_wideBelow_4 rfl (lv_at hl 1 rfl) ?_
  refine lv_iload_n hx hb dX2_wideBelow_5 rfl (lv_at hl 2 rfl) ?_
  refine lv_iload_n hx hb dX2_wideBelow_6 rfl (lv_at hl 3 rfl) ?_
  have hPc := hP.sub (ws' := [(h1, eR hw1 hc1 hb1 a1 r1), (hw1, eW true), (hc1, eA cy f1), (hb1, eA cy g1)]) [1, 2, 3, 4] rfl
  have hDc := hD.sub (ws' := [(h1, eR hw1 hc1 hb1 a1 r1), (hw1, eW true), (hc1, eA cy f1), (hb1, eA cy g1)]) [1, 2, 3, 4] (by decide +kernel) rfl
  have hKc := hK.sub (tys' := [(cy, .long)]) [0] rfl
  refine vx_calli (vx_runV (As := [.int p0, .int p1, .int (b2i p2)]) (rest := []) ⟨hx, hb, hml, hown, hts⟩ (k_X0_isBelow l hfl dC dI cy h1 hw1 hc1 hb1 true a1 r1 f1 g1 s.heap.size N p0 p1 p2) (cwV 3 hts gX2_wideBelow_X0_isBelow rfl rfl rfl (by decide +kernel) ⟨Nat.le_of_ble_eq_true rfl, Nat.le_of_ble_eq_true rfl⟩) (xM.preV hKc hPc hDc (fun _ h => h) (Nat.le_trans hN hS.1) (hG.kept hS hAN) (ci := 2) (q0 := 0) rfl rfl) rfl rfl hl.1 rfl (lv_room (Nat.le_of_ble_eq_true rfl)) dX2_wideBelow_7 ⟨Nat.le_of_ble_eq_true rfl, Nat.le_of_ble_eq_true rfl⟩) hS xA_old (fun q h => hA q (Nat.le_trans hS.1 h)) xA_old (fun E ce q9 u9 t H locs ht hvm hpx hbx hz hk hS hce hcv hcl => ?_) (fun r_1 u t H locs ht hvm hw hB hz hk hS => ?_)
  · have c_2 : ¬ (o_X0_isBelow true f1 p0 p1 p2).1 = 0 := hpx
    have hbe := hbx
    have hP := xP_keep hP hk
    have he : o_X2_wideBelow f1 p0 p1 p2 = ((o_X0_isBelow true f1 p0 p1 p2).1, false) := by (rw [o_X2_wideBelow, if_neg c_2]) <;> rfl
    exact vx_out (fun x hx => (hno x hx).elim) hlocks hce hcv hcl (fun t ht hvm => ⟨(), by rw [he]; exact c_2, by rw [he]; exact hbe, hS.F ht⟩) hS.2.2 (by omega) (by omega)
  · skip
    obtain ⟨c_3, hw⟩ := hw
    have c_3 : (o_X0_isBelow true f1 p0 p1 p2).1 = 0 := c_3
    replace hw : r_1 = b2i ((o_X0_isBelow true f1 p0 p1 p2).2) := hw
    subst r_1
    have hP := xP_keep hP hk
    have he : o_X2_wideBelow f1 p0 p1 p2 = (0, (o_X0_isBelow true f1 p0 p1 p2).2) := by (rw [o_X2_wideBelow, if_pos c_3]) <;> rfl
    refine W.widen (k := 2) (n := 12) (by omega) (by omega) ?_
    refine vx_ret ?_
    exact W.zret (v := (b2i ((o_X0_isBelow true f1 p0 p1 p2).2))) (ty := .boolean) hx hb hr (b2i_nar _) (fun t ht hW => ⟨⟨_, (), rfl, ⟨(by (rw [he]) <;> rfl), (by (rw [he]) <;> rfl)⟩, trivial⟩, hS.F ht⟩) hS.2.2 dX2_wideBelow_10
theorem cl_X2_wideHash_1 : ∀ w ∈ [.fieldLink RX2 20 "Edgefloats" "wide" "LEdgefloats$Row;", .methodLink RX2 93 yX0_hash, .instanceMethod yX0_hash, .selects RX0 yX0_hash yX0_hash, .initialized RX0, .code yX0_hash cX0_hash 3 (some .int), .fieldLink RX0 9 "Edgefloats$Row" "width" "LEdgefloats$Width;", .fieldLink RX0 15 "Edgefloats$Row" "cells" "[J", .static yX2_checkCell, .initialized RX2, .code yX2_checkCell cX2_checkCell 1 none, .classLink RX2 148 "java/lang/IndexOutOfBoundsException", .initialized "java/lang/IndexOutOfBoundsException", .static yX2_checkChoice, .code yX2_checkChoice cX2_checkChoice 2 none, .classLink RX2 155 "java/lang/IllegalArgumentException", .initialized "java/lang/IllegalArgumentException", .methodLink RX0 109 yX1_hash, .instanceMethod yX1_hash, .selects RX1 yX1_hash yX1_hash, .initialized RX1, .code yX1_hash cX1_hash 3 (some .int)], w ∈ wsX2_wideHash := fun _ h => (List.mem_cons_of_mem _ (List.mem_append_left _ (List.mem_append_left _ (List.mem_append_left _ (List.mem_append_left _ h)))))
theorem cl_X2_wideHash_2 : ∀ w ∈ wsX20, w ∈ wsX2_wideHash := fun _ h => (List.mem_cons_of_mem _ (List.mem_append_left _ (List.mem_append_left _ (List.mem_append_left _ (List.mem_append_right _ h)))))
theorem cl_X2_wideHash_3 : ∀ w ∈ wsX00, w ∈ wsX2_wideHash := fun _ h => (List.mem_cons_of_mem _ (List.mem_append_left _ (List.mem_append_left _ (List.mem_append_right _ h))))
theorem cl_X2_wideHash_4 : ∀ w ∈ (vx_atS RX2 152 "java/lang/IndexOutOfBoundsException" ["java/lang/RuntimeException", "java/lang/Exception"]).filter goodWord, w ∈ wsX2_wideHash := fun _ h => (List.mem_cons_of_mem _ (List.mem_append_left _ (List.mem_append_right _ h)))
theorem cl_X2_wideHash_5 : ∀ w ∈ (vx_atS RX2 159 "java/lang/IllegalArgumentException" ["java/lang/RuntimeException", "java/lang/Exception"]).filter goodWord, w ∈ wsX2_wideHash := fun _ h => (List.mem_cons_of_mem _ (List.mem_append_right _ h))
set_option maxRecDepth 20000 in
theorem ggX2_wideHash_X0_hash : GoodIn wsX2_wideHash wsX0_hash := goodIn_sub (List.forall_mem_cons.mpr ⟨(cl_X2_wideHash_1 _ (List.mem_of_getElem? (i := 5) rfl)), fun w h => (List.mem_append.mp h).elim ((fun w h => (List.mem_append.mp h).elim ((fun w h => (List.mem_append.mp h).elim ((List.forall_mem_cons.mpr ⟨(cl_X2_wideHash_1 _ (List.mem_of_getElem? (i := 6) rfl)), List.forall_mem_cons.mpr ⟨(cl_X2_wideHash_1 _ (List.mem_of_getElem? (i := 7) rfl)), List.forall_mem_cons.mpr ⟨(cl_X2_wideHash_1 _ (List.mem_of_getElem? (i := 8) rfl)), List.forall_mem_cons.mpr ⟨(cl_X2_wideHash_1 _ (List.mem_of_getElem? (i := 9) rfl)), List.forall_mem_cons.mpr ⟨(cl_X2_wideHash_1 _ (List.mem_of_getElem? (i := 10) rfl)), List.forall_mem_cons.mpr ⟨(cl_X2_wideHash_1 _ (List.mem_of_getElem? (i := 11) rfl)), List.forall_mem_cons.mpr ⟨(cl_X2_wideHash_1 _ (List.mem_of_getElem? (i := 12) rfl)), List.forall_mem_cons.mpr ⟨(cl_X2_wideHash_1 _ (List.mem_of_getElem? (i := 13) rfl)), List.forall_mem_cons.mpr ⟨(cl_X2_wideHash_1 _ (List.mem_of_getElem? (i := 14) rfl)), List.forall_mem_cons.mpr ⟨(cl_X2_wideHash_1 _ (List.mem_of_getElem? (i := 15) rfl)), List.forall_mem_cons.mpr ⟨(cl_X2_wideHash_1 _ (List.mem_of_getElem? (i := 16) rfl)), List.forall_mem_cons.mpr ⟨(cl_X2_wideHash_1 _ (List.mem_of_getElem? (i := 17) rfl)), List.forall_mem_cons.mpr ⟨(cl_X2_wideHash_1 _ (List.mem_of_getElem? (i := 18) rfl)), List.forall_mem_cons.mpr ⟨(cl_X2_wideHash_1 _ (List.mem_of_getElem? (i := 19) rfl)), List.forall_mem_cons.mpr ⟨(cl_X2_wideHash_1 _ (List.mem_of_getElem? (i := 20) rfl)), List.forall_mem_cons.mpr ⟨(cl_X2_wideHash_1 _ (List.mem_of_getElem? (i := 21) rfl)), fun _ h => absurd h List.not_mem_nil⟩⟩⟩⟩⟩⟩⟩⟩⟩⟩⟩⟩⟩⟩⟩⟩) w) ((cl_X2_wideHash_3) w)) w) ((cl_X2_wideHash_4) w)) w) ((cl_X2_wideHash_5) w)⟩) (by decide +kernel)
set_option maxRecDepth 20000 in
theorem gX2_wideHash_X0_hash : GoodIn wsX2_wideHash (wsV RX2 93 RX0 yX0_hash wsX0_hash) := goodIn_app (goodIn_sub (List.forall_mem_cons.mpr ⟨(cl_X2_wideHash_1 _ (List.mem_of_getElem? (i := 1) rfl)), List.forall_mem_cons.mpr ⟨(cl_X2_wideHash_1 _ (List.mem_of_getElem? (i := 2) rfl)), List.forall_mem_cons.mpr ⟨(cl_X2_wideHash_1 _ (List.mem_of_getElem? (i := 3) rfl)), List.forall_mem_cons.mpr ⟨(cl_X2_wideHash_1 _ (List.mem_of_getElem? (i := 4) rfl)), fun _ h => absurd h List.not_mem_nil⟩⟩⟩⟩) (by decide +kernel)) ggX2_wideHash_X0_hash
noncomputable def dz_p13_18 : List (Nat × Instr × Nat) := [(0, (.aload_n 0, 1)), (1, (.getfield 20, 3)), (4, (.iload_n 1, 1)), (5, (.iload_n 2, 1)), (6, (.invokevirtual 93, 3)), (9, (.ireturn, 1))]
theorem dy_p13_18 : dz_ok cX2_wideHash dz_p13_18 = true := by decide +kernel
theorem dX2_wideHash_0 : decode cX2_wideHash 0 = .ok (.aload_n 0, 1) := dz_at (i := 0) dy_p13_18 rfl
theorem dX2_wideHash_1 : decode cX2_wideHash 1 = .ok (.getfield 20, 3) := dz_at (i := 1) dy_p13_18 rfl
theorem dX2_wideHash_4 : decode cX2_wideHash 4 = .ok (.iload_n 1, 1) := dz_at (i := 2) dy_p13_18 rfl
theorem dX2_wideHash_5 : decode cX2_wideHash 5 = .ok (.iload_n 2, 1) := dz_at (i := 3) dy_p13_18 rfl
theorem dX2_wideHash_6 : decode cX2_wideHash 6 = .ok (.invokevirtual 93, 3) := dz_at (i := 4) dy_p13_18 rfl
theorem dX2_wideHash_9 : decode cX2_wideHash 9 = .ok (.ireturn, 1) := dz_at (i := 5) dy_p13_18 rfl
noncomputable def o_X2_wideHash (f1 : Nat → Int64) (p0 : Int32) (p1 : Int32) : Int32 × Int32 :=
  if (o_X0_hash f1 p0 p1).1 = 0 then (0, (o_X0_hash f1 p0 p1).2)
  else ((o_X0_hash f1 p0 p1).1, 0)
set_option maxHeartbeats 4000000 in
set_option maxRecDepth 100000 in
theorem k_X2_wideHash (l : Launch) (hfl : l.flags = flags0) (dC : Nat → ClassId) (dI : Nat → Nat → Nat) (cy : ClassId) (h0 : Nat) (h1 : Nat) (hw1 : Nat) (hc1 : Nat) (hb1 : Nat) (h2 : Nat) (hw2 : Nat) (hc2 : Nat) (hb2 : Nat) (a1 : Int32) (r1 : Int32) (f1 : Nat → Int64) (g1 : Nat → Int64) (a2 : Int32) (r2 : Int32) (f2 : Nat → Int64) (g2 : Nat → Int64) (kn : Int32) (sz : Nat) (N : Nat) (p0 : Int32) (p1 : Int32) : vx_Met l yX2_wideHash wsX2_wideHash ({ frames := 8, cells := 2, slots := 12, locals := 143 }) (va_Pc [.ref h0, .int p0, .int p1] (xM (dC, dI) xCl [(h0, eE h1 h2 kn), (h1, eR hw1 hc1 hb1 a1 r1), (hw1, eW true), (hc1, eA cy f1), (hb1, eA cy g1), (h2, eR hw2 hc2 hb2 a2 r2), (hw2, eW false), (hc2, eA cy f2), (hb2, eA cy g2)] [(cy, .long)] sz N)) (va_Qi (fun (r : Int32) (_ : Unit) => (o_X2_wideHash f1 p0 p1).1 = 0 ∧ r = (o_X2_wideHash f1 p0 p1).2) (fun _ _ => True) (aN sz)) (vx_X (fun _ : Unit => ¬ (o_X2_wideHash f1 p0 p1).1 = 0) (fun E _ _ => E = xE (o_X2_wideHash f1 p0 p1).1) (aN sz)) 2 12 (aN sz) := by
  refine vx_ofW (cc := cX2_wideHash) (maxL := 3) (ret := (some .int)) (by decide +kernel) rfl ?_
  intro p e s m args below meth c s₁ B hml hno hv
  obtain ⟨rfl, hsz, hP, hK, hD0, hN, hG⟩ := hv
  have hx := B.exec
  have hb := B.bytes
  have hr := B.returns
  have hts := atoms_spec (ws := wsX2_wideHash) B.pre
  have hown : s.vm.findClass RX2 = some m.cls := findClass_of_methodNamed B.named
  have hlocks := B.notSynchronized
  subst hsz
  have hA : ∀ q : Nat, s.heap.size ≤ q → aN s.heap.size q := fun _ h => h
  have hD := hD0
  have hAN : ∀ q, aN s.heap.size q → N ≤ q := fun q h => Nat.le_trans hN h
  have hS : va_S (aN s.heap.size) s.heap s.heap [] := va_S.rf
  have hP : va_P (dC, dI) xCl [(h0, eE h1 h2 kn), (h1, eR hw1 hc1 hb1 a1 r1), (hw1, eW true), (hc1, eA cy f1), (hb1, eA cy g1), (h2, eR hw2 hc2 hb2 a2 r2), (hw2, eW false), (hc2, eA cy f2), (hb2, eA cy g2)] s.heap := hP
  have hl := lv_entry ([.ref h0, .int p0, .int p1]) (n := 3) (Nat.le_of_ble_eq_true rfl)
  rw [lg_entry_eq]
  generalize (lg_sl ([.ref h0, .int p0, .int p1]) ++ List.replicate (3 - (lg_sl ([.ref h0, .int p0, .int p1])).length) Slot.unset).toArray = ls at hl ⊢
  have hl : lv_has ls 3 [(0, .ref h0), (1, .int p0), (2, .int p1)] := hl
  refine lv_aload_n hx hb dX2_wideHash_0 rfl (lv_at hl 0 rfl) ?_
  refine va_get (D := (dC, dI)) (ci := 4) (v := .ref h1) (C := RX2) (T := TX2) (N := 3) hx hb hts (by decide +kernel) hown hK hP 0 rfl rfl 0 (by decide +kernel) (hts (.fieldLink RX2 20 "Edgefloats" "wide" "LEdgefloats$Row;") (by decide +kernel)) (fun _ h9 => h9) rfl dX2_wideHash_1 ?_
  refine lv_iload_n hx hb dX2_wideHash_4 rfl (lv_at hl 1 rfl) ?_
  refine lv_iload_n hx hb dX2_wideHash_5 rfl (lv_at hl 2 rfl) ?_
  have hPc := hP.sub (ws' := [(h1, eR hw1 hc1 hb1 a1 r1), (hw1, eW true), (hc1, eA cy f1), (hb1, eA cy g1)]) [1, 2, 3, 4] rfl
  have hDc := hD.sub (ws' := [(h1, eR hw1 hc1 hb1 a1 r1), (hw1, eW true), (hc1, eA cy f1), (hb1, eA cy g1)]) [1, 2, 3, 4] (by decide +kernel) rfl
  have hKc := hK.sub (tys' := [(cy, .long)]) [0] rfl
  refine vx_calli (vx_runV (As := [.int p0, .int p1]) (rest := []) ⟨hx, hb, hml, hown, hts⟩ (k_X0_hash l hfl dC dI cy h1 hw1 hc1 hb1 true a1 r1 f1 g1 s.heap.size N p0 p1) (cwV 2 hts gX2_wideHash_X0_hash rfl rfl rfl (by decide +kernel) ⟨Nat.le_of_ble_eq_true rfl, Nat.le_of_ble_eq_true rfl⟩) (xM.preV hKc hPc hDc (fun _ h => h) (Nat.le_trans hN hS.1) (hG.kept hS hAN) (ci := 2) (q0 := 0) rfl rfl) rfl rfl hl.1 rfl (lv_room (Nat.le_of_ble_eq_true rfl)) dX2_wideHash_6 ⟨Nat.le_of_ble_eq_true rfl, Nat.le_of_ble_eq_true rfl⟩) hS xA_old (fun q h => hA q (Nat.le_trans hS.1 h)) xA_old (fun E ce q9 u9 t H locs ht hvm hpx hbx hz hk hS hce hcv hcl => ?_) (fun r_1 u t H locs ht hvm hw hB hz hk hS => ?_)
  · have c_2 : ¬ (o_X0_hash f1 p0 p1).1 = 0 := hpx
    have hbe := hbx
    have hP := xP_keep hP hk
    have he : o_X2_wideHash f1 p0 p1 = ((o_X0_hash f1 p0 p1).1, 0) := by (rw [o_X2_wideHash, if_neg c_2]) <;> rfl
    exact vx_out (fun x hx => (hno x hx).elim) hlocks hce hcv hcl (fun t ht hvm => ⟨(), by rw [he]; exact c_2, by rw [he]; exact hbe, hS.F ht⟩) hS.2.2 (by omega) (by omega)
  · skip
    obtain ⟨c_3, hw⟩ := hw
    have c_3 : (o_X0_hash f1 p0 p1).1 = 0 := c_3
    replace hw : r_1 = (o_X0_hash f1 p0 p1).2 := hw
    subst r_1
    have hP := xP_keep hP hk
    have he : o_X2_wideHash f1 p0 p1 = (0, (o_X0_hash f1 p0 p1).2) := by (rw [o_X2_wideHash, if_pos c_3]) <;> rfl
    refine W.widen (k := 2) (n := 12) (by omega) (by omega) ?_
    refine vx_ret ?_
    exact W.iret (v := ((o_X0_hash f1 p0 p1).2)) hx hb hr (fun t ht hW => ⟨⟨_, (), rfl, ⟨(by (rw [he]) <;> rfl), (by (rw [he]) <;> rfl)⟩, trivial⟩, hS.F ht⟩) hS.2.2 dX2_wideHash_9
theorem cl_X2_wideEndless_1 : ∀ w ∈ wsX2_wideEndless_r1, w ∈ wsX2_wideEndless := fun _ h => (List.mem_cons_of_mem _ (List.mem_append_left _ (List.mem_append_left _ (List.mem_append_left _ (List.mem_append_left _ (List.mem_append_left _ (List.mem_append_left _ h)))))))
theorem cl_X2_wideEndless_2 : ∀ w ∈ wsX2_wideEndless_r2, w ∈ wsX2_wideEndless := fun _ h => (List.mem_cons_of_mem _ (List.mem_append_left _ (List.mem_append_left _ (List.mem_append_left _ (List.mem_append_left _ (List.mem_append_left _ (List.mem_append_right _ h)))))))
theorem cl_X2_wideEndless_3 : ∀ w ∈ wsX20, w ∈ wsX2_wideEndless := fun _ h => (List.mem_cons_of_mem _ (List.mem_append_left _ (List.mem_append_left _ (List.mem_append_left _ (List.mem_append_left _ (List.mem_append_right _ h))))))
theorem cl_X2_wideEndless_4 : ∀ w ∈ wsX00, w ∈ wsX2_wideEndless := fun _ h => (List.mem_cons_of_mem _ (List.mem_append_left _ (List.mem_append_left _ (List.mem_append_left _ (List.mem_append_right _ h)))))
theorem cl_X2_wideEndless_5 : ∀ w ∈ wsX10, w ∈ wsX2_wideEndless := fun _ h => (List.mem_cons_of_mem _ (List.mem_append_left _ (List.mem_append_left _ (List.mem_append_right _ h))))
theorem cl_X2_wideEndless_6 : ∀ w ∈ (vx_atS RX2 152 "java/lang/IndexOutOfBoundsException" ["java/lang/RuntimeException", "java/lang/Exception"]).filter goodWord, w ∈ wsX2_wideEndless := fun _ h => (List.mem_cons_of_mem _ (List.mem_append_left _ (List.mem_append_right _ h)))
theorem cl_X2_wideEndless_7 : ∀ w ∈ (vx_atS RX2 159 "java/lang/IllegalArgumentException" ["java/lang/RuntimeException", "java/lang/Exception"]).filter goodWord, w ∈ wsX2_wideEndless := fun _ h => (List.mem_cons_of_mem _ (List.mem_append_right _ h))
set_option maxRecDepth 20000 in
theorem ggX2_wideEndless_X0_isEndless : GoodIn wsX2_wideEndless wsX0_isEndless := goodIn_sub (List.forall_mem_cons.mpr ⟨(cl_X2_wideEndless_1 _ (List.mem_of_getElem? (i := 5) rfl)), fun w h => (List.mem_append.mp h).elim ((fun w h => (List.mem_append.mp h).elim ((fun w h => (List.mem_append.mp h).elim ((fun w h => (List.mem_append.mp h).elim ((fun w h => (List.mem_append.mp h).elim ((List.forall_mem_cons.mpr ⟨(cl_X2_wideEndless_1 _ (List.mem_of_getElem? (i := 6) rfl)), List.forall_mem_cons.mpr ⟨(cl_X2_wideEndless_1 _ (List.mem_of_getElem? (i := 7) rfl)), List.forall_mem_cons.mpr ⟨(cl_X2_wideEndless_1 _ (List.mem_of_getElem? (i := 8) rfl)), List.forall_mem_cons.mpr ⟨(cl_X2_wideEndless_1 _ (List.mem_of_getElem? (i := 9) rfl)), List.forall_mem_cons.mpr ⟨(cl_X2_wideEndless_1 _ (List.mem_of_getElem? (i := 10) rfl)), List.forall_mem_cons.mpr ⟨(cl_X2_wideEndless_1 _ (List.mem_of_getElem? (i := 11) rfl)), List.forall_mem_cons.mpr ⟨(cl_X2_wideEndless_1 _ (List.mem_of_getElem? (i := 12) rfl)), List.forall_mem_cons.mpr ⟨(cl_X2_wideEndless_1 _ (List.mem_of_getElem? (i := 13) rfl)), List.forall_mem_cons.mpr ⟨(cl_X2_wideEndless_1 _ (List.mem_of_getElem? (i := 14) rfl)), List.forall_mem_cons.mpr ⟨(cl_X2_wideEndless_1 _ (List.mem_of_getElem? (i := 15) rfl)), List.forall_mem_cons.mpr ⟨(cl_X2_wideEndless_1 _ (List.mem_of_getElem? (i := 16) rfl)), List.forall_mem_cons.mpr ⟨(cl_X2_wideEndless_1 _ (List.mem_of_getElem? (i := 17) rfl)), List.forall_mem_cons.mpr ⟨(cl_X2_wideEndless_1 _ (List.mem_of_getElem? (i := 18) rfl)), List.forall_mem_cons.mpr ⟨(cl_X2_wideEndless_1 _ (List.mem_of_getElem? (i := 19) rfl)), List.forall_mem_cons.mpr ⟨(cl_X2_wideEndless_1 _ (List.mem_of_getElem? (i := 20) rfl)), List.forall_mem_cons.mpr ⟨(cl_X2_wideEndless_1 _ (List.mem_of_getElem? (i := 21) rfl)), List.forall_mem_cons.mpr ⟨(cl_X2_wideEndless_1 _ (List.mem_of_getElem? (i := 22) rfl)), List.forall_mem_cons.mpr ⟨(cl_X2_wideEndless_1 _ (List.mem_of_getElem? (i := 23) rfl)), List.forall_mem_cons.mpr ⟨(cl_X2_wideEndless_2 _ (List.mem_of_getElem? (i := 0) rfl)), List.forall_mem_cons.mpr ⟨(cl_X2_wideEndless_2 _ (List.mem_of_getElem? (i := 1) rfl)), List.forall_mem_cons.mpr ⟨(cl_X2_wideEndless_2 _ (List.mem_of_getElem? (i := 2) rfl)), List.forall_mem_cons.mpr ⟨(cl_X2_wideEndless_2 _ (List.mem_of_getElem? (i := 3) rfl)), List.forall_mem_cons.mpr ⟨(cl_X2_wideEndless_2 _ (List.mem_of_getElem? (i := 4) rfl)), List.forall_mem_cons.mpr ⟨(cl_X2_wideEndless_2 _ (List.mem_of_getElem? (i := 5) rfl)), fun _ h => absurd h List.not_mem_nil⟩⟩⟩⟩⟩⟩⟩⟩⟩⟩⟩⟩⟩⟩⟩⟩⟩⟩⟩⟩⟩⟩⟩⟩) w) ((List.forall_mem_cons.mpr ⟨(cl_X2_wideEndless_2 _ (List.mem_of_getElem? (i := 6) rfl)), List.forall_mem_cons.mpr ⟨(cl_X2_wideEndless_2 _ (List.mem_of_getElem? (i := 7) rfl)), List.forall_mem_cons.mpr ⟨(cl_X2_wideEndless_2 _ (List.mem_of_getElem? (i := 8) rfl)), fun _ h => absurd h List.not_mem_nil⟩⟩⟩) w)) w) ((cl_X2_wideEndless_4) w)) w) ((cl_X2_wideEndless_5) w)) w) ((cl_X2_wideEndless_6) w)) w) ((cl_X2_wideEndless_7) w)⟩) (by decide +kernel)
set_option maxRecDepth 20000 in
theorem gX2_wideEndless_X0_isEndless : GoodIn wsX2_wideEndless (wsV RX2 96 RX0 yX0_isEndless wsX0_isEndless) := goodIn_app (goodIn_sub (List.forall_mem_cons.mpr ⟨(cl_X2_wideEndless_1 _ (List.mem_of_getElem? (i := 1) rfl)), List.forall_mem_cons.mpr ⟨(cl_X2_wideEndless_1 _ (List.mem_of_getElem? (i := 2) rfl)), List.forall_mem_cons.mpr ⟨(cl_X2_wideEndless_1 _ (List.mem_of_getElem? (i := 3) rfl)), List.forall_mem_cons.mpr ⟨(cl_X2_wideEndless_1 _ (List.mem_of_getElem? (i := 4) rfl)), fun _ h => absurd h List.not_mem_nil⟩⟩⟩⟩) (by decide +kernel)) ggX2_wideEndless_X0_isEndless
noncomputable def dz_p13_19 : List (Nat × Instr × Nat) := [(0, (.aload_n 0, 1)), (1, (.getfield 20, 3)), (4, (.iload_n 1, 1)), (5, (.iload_n 2, 1)), (6, (.invokevirtual 96, 3)), (9, (.ireturn, 1))]
theorem dy_p13_19 : dz_ok cX2_wideEndless dz_p13_19 = true := by decide +kernel
theorem dX2_wideEndless_0 : decode cX2_wideEndless 0 = .ok (.aload_n 0, 1) := dz_at (i := 0) dy_p13_19 rfl
theorem dX2_wideEndless_1 : decode cX2_wideEndless 1 = .ok (.getfield 20, 3) := dz_at (i := 1) dy_p13_19 rfl
theorem dX2_wideEndless_4 : decode cX2_wideEndless 4 = .ok (.iload_n 1, 1) := dz_at (i := 2) dy_p13_19 rfl
theorem dX2_wideEndless_5 : decode cX2_wideEndless 5 = .ok (.iload_n 2, 1) := dz_at (i := 3) dy_p13_19 rfl
theorem dX2_wideEndless_6 : decode cX2_wideEndless 6 = .ok (.invokevirtual 96, 3) := dz_at (i := 4) dy_p13_19 rfl
theorem dX2_wideEndless_9 : decode cX2_wideEndless 9 = .ok (.ireturn, 1) := dz_at (i := 5) dy_p13_19 rfl
noncomputable def o_X2_wideEndless (f1 : Nat → Int64) (p0 : Int32) (p1 : Int32) : Int32 × Bool :=
  if (o_X0_isEndless true f1 p0 p1).1 = 0 then (0, (o_X0_isEndless true f1 p0 p1).2)
  else ((o_X0_isEndless true f1 p0 p1).1, false)
set_option maxHeartbeats 4000000 in
set_option maxRecDepth 100000 in
theorem k_X2_wideEndless (l : Launch) (hfl : l.flags = flags0) (dC : Nat → ClassId) (dI : Nat → Nat → Nat) (cy : ClassId) (h0 : Nat) (h1 : Nat) (hw1 : Nat) (hc1 : Nat) (hb1 : Nat) (h2 : Nat) (hw2 : Nat) (hc2 : Nat) (hb2 : Nat) (a1 : Int32) (r1 : Int32) (f1 : Nat → Int64) (g1 : Nat → Int64) (a2 : Int32) (r2 : Int32) (f2 : Nat → Int64) (g2 : Nat → Int64) (kn : Int32) (sz : Nat) (N : Nat) (p0 : Int32) (p1 : Int32) : vx_Met l yX2_wideEndless wsX2_wideEndless ({ frames := 8, cells := 2, slots := 12, locals := 143 }) (va_Pc [.ref h0, .int p0, .int p1] (xM (dC, dI) xCl [(h0, eE h1 h2 kn), (h1, eR hw1 hc1 hb1 a1 r1), (hw1, eW true), (hc1, eA cy f1), (hb1, eA cy g1), (h2, eR hw2 hc2 hb2 a2 r2), (hw2, eW false), (hc2, eA cy f2), (hb2, eA cy g2)] [(cy, .long)] sz N)) (va_Qi (fun (r : Int32) (_ : Unit) => (o_X2_wideEndless f1 p0 p1).1 = 0 ∧ r = b2i ((o_X2_wideEndless f1 p0 p1).2)) (fun _ _ => True) (aN sz)) (vx_X (fun _ : Unit => ¬ (o_X2_wideEndless f1 p0 p1).1 = 0) (fun E _ _ => E = xE (o_X2_wideEndless f1 p0 p1).1) (aN sz)) 2 12 (aN sz) := by
  refine vx_ofW (cc := cX2_wideEndless) (maxL := 3) (ret := (some .boolean)) (by decide +kernel) rfl ?_
  intro p e s m args below meth c s₁ B hml hno hv
  obtain ⟨rfl, hsz, hP, hK, hD0, hN, hG⟩ := hv
  have hx := B.exec
  have hb := B.bytes
  have hr := B.returns
  have hts := atoms_spec (ws := wsX2_wideEndless) B.pre
  have hown : s.vm.findClass RX2 = some m.cls := findClass_of_methodNamed B.named
  have hlocks := B.notSynchronized
  subst hsz
  have hA : ∀ q : Nat, s.heap.size ≤ q → aN s.heap.size q := fun _ h => h
  have hD := hD0
  have hAN : ∀ q, aN s.heap.size q → N ≤ q := fun q h => Nat.le_trans hN h
  have hS : va_S (aN s.heap.size) s.heap s.heap [] := va_S.rf
  have hP : va_P (dC, dI) xCl [(h0, eE h1 h2 kn), (h1, eR hw1 hc1 hb1 a1 r1), (hw1, eW true), (hc1, eA cy f1), (hb1, eA cy g1), (h2, eR hw2 hc2 hb2 a2 r2), (hw2, eW false), (hc2, eA cy f2), (hb2, eA cy g2)] s.heap := hP
  have hl := lv_entry ([.ref h0, .int p0, .int p1]) (n := 3) (Nat.le_of_ble_eq_true rfl)
  rw [lg_entry_eq]
  generalize (lg_sl ([.ref h0, .int p0, .int p1]) ++ List.replicate (3 - (lg_sl ([.ref h0, .int p0, .int p1])).length) Slot.unset).toArray = ls at hl ⊢
  have hl : lv_has ls 3 [(0, .ref h0), (1, .int p0), (2, .int p1)] := hl
  refine lv_aload_n hx hb dX2_wideEndless_0 rfl (lv_at hl 0 rfl) ?_
  refine va_get (D := (dC, dI)) (ci := 4) (v := .ref h1) (C := RX2) (T := TX2) (N := 3) hx hb hts (by decide +kernel) hown hK hP 0 rfl rfl 0 (by decide +kernel) (hts (.fieldLink RX2 20 "Edgefloats" "wide" "LEdgefloats$Row;") (by decide +kernel)) (fun _ h9 => h9) rfl dX2_wideEndless_1 ?_
  refine lv_iload_n hx hb dX2_wideEndless_4 rfl (lv_at hl 1 rfl) ?_
  refine lv_iload_n hx hb dX2_wideEndless_5 rfl (lv_at hl 2 rfl) ?_
  have hPc := hP.sub (ws' := [(h1, eR hw1 hc1 hb1 a1 r1), (hw1, eW true), (hc1, eA cy f1), (hb1, eA cy g1)]) [1, 2, 3, 4] rfl
  have hDc := hD.sub (ws' := [(h1, eR hw1 hc1 hb1 a1 r1), (hw1, eW true), (hc1, eA cy f1), (hb1, eA cy g1)]) [1, 2, 3, 4] (by decide +kernel) rfl
  have hKc := hK.sub (tys' := [(cy, .long)]) [0] rfl
  refine vx_calli (vx_runV (As := [.int p0, .int p1]) (rest := []) ⟨hx, hb, hml, hown, hts⟩ (k_X0_isEndless l hfl dC dI cy h1 hw1 hc1 hb1 true a1 r1 f1 g1 s.heap.size N p0 p1) (cwV 2 hts gX2_wideEndless_X0_isEndless rfl rfl rfl (by decide +kernel) ⟨Nat.le_of_ble_eq_true rfl, Nat.le_of_ble_eq_true rfl⟩) (xM.preV hKc hPc hDc (fun _ h => h) (Nat.le_trans hN hS.1) (hG.kept hS hAN) (ci := 2) (q0 := 0) rfl rfl) rfl rfl hl.1 rfl (lv_room (Nat.le_of_ble_eq_true rfl)) dX2_wideEndless_6 ⟨Nat.le_of_ble_eq_true rfl, Nat.le_of_ble_eq_true rfl⟩) hS xA_old (fun q h => hA q (Nat.le_trans hS.1 h)) xA_old (fun E ce q9 u9 t H locs ht hvm hpx hbx hz hk hS hce hcv hcl => ?_) (fun r_1 u t H locs ht hvm hw hB hz hk hS => ?_)
  · have c_2 : ¬ (o_X0_isEndless true f1 p0 p1).1 = 0 := hpx
    have hbe := hbx
    have hP := xP_keep hP hk
    have he : o_X2_wideEndless f1 p0 p1 = ((o_X0_isEndless true f1 p0 p1).1, false) := by (rw [o_X2_wideEndless, if_neg c_2]) <;> rfl
    exact vx_out (fun x hx => (hno x hx).elim) hlocks hce hcv hcl (fun t ht hvm => ⟨(), by rw [he]; exact c_2, by rw [he]; exact hbe, hS.F ht⟩) hS.2.2 (by omega) (by omega)
  · skip
    obtain ⟨c_3, hw⟩ := hw
    have c_3 : (o_X0_isEndless true f1 p0 p1).1 = 0 := c_3
    replace hw : r_1 = b2i ((o_X0_isEndless true f1 p0 p1).2) := hw
    subst r_1
    have hP := xP_keep hP hk
    have he : o_X2_wideEndless f1 p0 p1 = (0, (o_X0_isEndless true f1 p0 p1).2) := by (rw [o_X2_wideEndless, if_pos c_3]) <;> rfl
    refine W.widen (k := 2) (n := 12) (by omega) (by omega) ?_
    refine vx_ret ?_
    exact W.zret (v := (b2i ((o_X0_isEndless true f1 p0 p1).2))) (ty := .boolean) hx hb hr (b2i_nar _) (fun t ht hW => ⟨⟨_, (), rfl, ⟨(by (rw [he]) <;> rfl), (by (rw [he]) <;> rfl)⟩, trivial⟩, hS.F ht⟩) hS.2.2 dX2_wideEndless_9
theorem cl_X2_wideCount_1 : ∀ w ∈ wsX2_wideCount_r1, w ∈ wsX2_wideCount := fun _ h => (List.mem_cons_of_mem _ (List.mem_append_left _ (List.mem_append_left _ (List.mem_append_left _ (List.mem_append_left _ (List.mem_append_left _ h))))))
theorem cl_X2_wideCount_2 : ∀ w ∈ wsX2_wideCount_r2, w ∈ wsX2_wideCount := fun _ h => (List.mem_cons_of_mem _ (List.mem_append_left _ (List.mem_append_left _ (List.mem_append_left _ (List.mem_append_left _ (List.mem_append_right _ h))))))
theorem cl_X2_wideCount_3 : ∀ w ∈ wsX20, w ∈ wsX2_wideCount := fun _ h => (List.mem_cons_of_mem _ (List.mem_append_left _ (List.mem_append_left _ (List.mem_append_left _ (List.mem_append_right _ h)))))
theorem cl_X2_wideCount_4 : ∀ w ∈ wsX00, w ∈ wsX2_wideCount := fun _ h => (List.mem_cons_of_mem _ (List.mem_append_left _ (List.mem_append_left _ (List.mem_append_right _ h))))
theorem cl_X2_wideCount_5 : ∀ w ∈ wsX10, w ∈ wsX2_wideCount := fun _ h => (List.mem_cons_of_mem _ (List.mem_append_left _ (List.mem_append_right _ h)))
theorem cl_X2_wideCount_6 : ∀ w ∈ (vx_atS RX2 152 "java/lang/IndexOutOfBoundsException" ["java/lang/RuntimeException", "java/lang/Exception"]).filter goodWord, w ∈ wsX2_wideCount := fun _ h => (List.mem_cons_of_mem _ (List.mem_append_right _ h))
set_option maxRecDepth 20000 in
theorem ggX2_wideCount_X0_quarters : GoodIn wsX2_wideCount wsX0_quarters := goodIn_sub (List.forall_mem_cons.mpr ⟨(cl_X2_wideCount_1 _ (List.mem_of_getElem? (i := 5) rfl)), fun w h => (List.mem_append.mp h).elim ((fun w h => (List.mem_append.mp h).elim ((fun w h => (List.mem_append.mp h).elim ((fun w h => (List.mem_append.mp h).elim ((List.forall_mem_cons.mpr ⟨(cl_X2_wideCount_1 _ (List.mem_of_getElem? (i := 6) rfl)), List.forall_mem_cons.mpr ⟨(cl_X2_wideCount_1 _ (List.mem_of_getElem? (i := 7) rfl)), List.forall_mem_cons.mpr ⟨(cl_X2_wideCount_1 _ (List.mem_of_getElem? (i := 8) rfl)), List.forall_mem_cons.mpr ⟨(cl_X2_wideCount_1 _ (List.mem_of_getElem? (i := 9) rfl)), List.forall_mem_cons.mpr ⟨(cl_X2_wideCount_1 _ (List.mem_of_getElem? (i := 10) rfl)), List.forall_mem_cons.mpr ⟨(cl_X2_wideCount_1 _ (List.mem_of_getElem? (i := 11) rfl)), List.forall_mem_cons.mpr ⟨(cl_X2_wideCount_1 _ (List.mem_of_getElem? (i := 12) rfl)), List.forall_mem_cons.mpr ⟨(cl_X2_wideCount_1 _ (List.mem_of_getElem? (i := 13) rfl)), List.forall_mem_cons.mpr ⟨(cl_X2_wideCount_1 _ (List.mem_of_getElem? (i := 14) rfl)), List.forall_mem_cons.mpr ⟨(cl_X2_wideCount_1 _ (List.mem_of_getElem? (i := 15) rfl)), List.forall_mem_cons.mpr ⟨(cl_X2_wideCount_1 _ (List.mem_of_getElem? (i := 16) rfl)), List.forall_mem_cons.mpr ⟨(cl_X2_wideCount_1 _ (List.mem_of_getElem? (i := 17) rfl)), List.forall_mem_cons.mpr ⟨(cl_X2_wideCount_1 _ (List.mem_of_getElem? (i := 18) rfl)), List.forall_mem_cons.mpr ⟨(cl_X2_wideCount_1 _ (List.mem_of_getElem? (i := 19) rfl)), List.forall_mem_cons.mpr ⟨(cl_X2_wideCount_1 _ (List.mem_of_getElem? (i := 20) rfl)), List.forall_mem_cons.mpr ⟨(cl_X2_wideCount_1 _ (List.mem_of_getElem? (i := 21) rfl)), List.forall_mem_cons.mpr ⟨(cl_X2_wideCount_1 _ (List.mem_of_getElem? (i := 22) rfl)), List.forall_mem_cons.mpr ⟨(cl_X2_wideCount_1 _ (List.mem_of_getElem? (i := 23) rfl)), List.forall_mem_cons.mpr ⟨(cl_X2_wideCount_2 _ (List.mem_of_getElem? (i := 0) rfl)), List.forall_mem_cons.mpr ⟨(cl_X2_wideCount_2 _ (List.mem_of_getElem? (i := 1) rfl)), List.forall_mem_cons.mpr ⟨(cl_X2_wideCount_2 _ (List.mem_of_getElem? (i := 2) rfl)), List.forall_mem_cons.mpr ⟨(cl_X2_wideCount_2 _ (List.mem_of_getElem? (i := 3) rfl)), List.forall_mem_cons.mpr ⟨(cl_X2_wideCount_2 _ (List.mem_of_getElem? (i := 4) rfl)), List.forall_mem_cons.mpr ⟨(cl_X2_wideCount_2 _ (List.mem_of_getElem? (i := 5) rfl)), fun _ h => absurd h List.not_mem_nil⟩⟩⟩⟩⟩⟩⟩⟩⟩⟩⟩⟩⟩⟩⟩⟩⟩⟩⟩⟩⟩⟩⟩⟩) w) ((List.forall_mem_cons.mpr ⟨(cl_X2_wideCount_2 _ (List.mem_of_getElem? (i := 6) rfl)), List.forall_mem_cons.mpr ⟨(cl_X2_wideCount_2 _ (List.mem_of_getElem? (i := 7) rfl)), List.forall_mem_cons.mpr ⟨(cl_X2_wideCount_2 _ (List.mem_of_getElem? (i := 8) rfl)), List.forall_mem_cons.mpr ⟨(cl_X2_wideCount_2 _ (List.mem_of_getElem? (i := 9) rfl)), List.forall_mem_cons.mpr ⟨(cl_X2_wideCount_2 _ (List.mem_of_getElem? (i := 10) rfl)), List.forall_mem_cons.mpr ⟨(cl_X2_wideCount_2 _ (List.mem_of_getElem? (i := 11) rfl)), List.forall_mem_cons.mpr ⟨(cl_X2_wideCount_2 _ (List.mem_of_getElem? (i := 12) rfl)), List.forall_mem_cons.mpr ⟨(cl_X2_wideCount_2 _ (List.mem_of_getElem? (i := 13) rfl)), List.forall_mem_cons.mpr ⟨(cl_X2_wideCount_2 _ (List.mem_of_getElem? (i := 14) rfl)), List.forall_mem_cons.mpr ⟨(cl_X2_wideCount_2 _ (List.mem_of_getElem? (i := 15) rfl)), List.forall_mem_cons.mpr ⟨(cl_X2_wideCount_2 _ (List.mem_of_getElem? (i := 16) rfl)), List.forall_mem_cons.mpr ⟨(cl_X2_wideCount_2 _ (List.mem_of_getElem? (i := 17) rfl)), List.forall_mem_cons.mpr ⟨(cl_X2_wideCount_2 _ (List.mem_of_getElem? (i := 18) rfl)), List.forall_mem_cons.mpr ⟨(cl_X2_wideCount_2 _ (List.mem_of_getElem? (i := 19) rfl)), List.forall_mem_cons.mpr ⟨(cl_X2_wideCount_2 _ (List.mem_of_getElem? (i := 20) rfl)), List.forall_mem_cons.mpr ⟨(cl_X2_wideCount_2 _ (List.mem_of_getElem? (i := 21) rfl)), fun _ h => absurd h List.not_mem_nil⟩⟩⟩⟩⟩⟩⟩⟩⟩⟩⟩⟩⟩⟩⟩⟩) w)) w) ((cl_X2_wideCount_4) w)) w) ((cl_X2_wideCount_5) w)) w) ((cl_X2_wideCount_6) w)⟩) (by decide +kernel)
set_option maxRecDepth 20000 in
theorem gX2_wideCount_X0_quarters : GoodIn wsX2_wideCount (wsV RX2 99 RX0 yX0_quarters wsX0_quarters) := goodIn_app (goodIn_sub (List.forall_mem_cons.mpr ⟨(cl_X2_wideCount_1 _ (List.mem_of_getElem? (i := 1) rfl)), List.forall_mem_cons.mpr ⟨(cl_X2_wideCount_1 _ (List.mem_of_getElem? (i := 2) rfl)), List.forall_mem_cons.mpr ⟨(cl_X2_wideCount_1 _ (List.mem_of_getElem? (i := 3) rfl)), List.forall_mem_cons.mpr ⟨(cl_X2_wideCount_1 _ (List.mem_of_getElem? (i := 4) rfl)), fun _ h => absurd h List.not_mem_nil⟩⟩⟩⟩) (by decide +kernel)) ggX2_wideCount_X0_quarters
noncomputable def dz_p13_20 : List (Nat × Instr × Nat) := [(0, (.aload_n 0, 1)), (1, (.getfield 20, 3)), (4, (.iload_n 1, 1)), (5, (.invokevirtual 99, 3)), (8, (.ireturn, 1))]
theorem dy_p13_20 : dz_ok cX2_wideCount dz_p13_20 = true := by decide +kernel
theorem dX2_wideCount_0 : decode cX2_wideCount 0 = .ok (.aload_n 0, 1) := dz_at (i := 0) dy_p13_20 rfl
theorem dX2_wideCount_1 : decode cX2_wideCount 1 = .ok (.getfield 20, 3) := dz_at (i := 1) dy_p13_20 rfl
theorem dX2_wideCount_4 : decode cX2_wideCount 4 = .ok (.iload_n 1, 1) := dz_at (i := 2) dy_p13_20 rfl
theorem dX2_wideCount_5 : decode cX2_wideCount 5 = .ok (.invokevirtual 99, 3) := dz_at (i := 3) dy_p13_20 rfl
theorem dX2_wideCount_8 : decode cX2_wideCount 8 = .ok (.ireturn, 1) := dz_at (i := 4) dy_p13_20 rfl
noncomputable def o_X2_wideCount (f1 : Nat → Int64) (p0 : Int32) : Int32 × Int32 :=
  if (o_X0_quarters true f1 p0).1 = 0 then (0, (o_X0_quarters true f1 p0).2)
  else ((o_X0_quarters true f1 p0).1, 0)
set_option maxHeartbeats 4000000 in
set_option maxRecDepth 100000 in
theorem k_X2_wideCount (l : Launch) (hfl : l.flags = flags0) (dC : Nat → ClassId) (dI : Nat → Nat → Nat) (cy : ClassId) (h0 : Nat) (h1 : Nat) (hw1 : Nat) (hc1 : Nat) (hb1 : Nat) (h2 : Nat) (hw2 : Nat) (hc2 : Nat) (hb2 : Nat) (a1 : Int32) (r1 : Int32) (f1 : Nat → Int64) (g1 : Nat → Int64) (a2 : Int32) (r2 : Int32) (f2 : Nat → Int64) (g2 : Nat → Int64) (kn : Int32) (sz : Nat) (N : Nat) (p0 : Int32) : vx_Met l yX2_wideCount wsX2_wideCount ({ frames := 8, cells := 1, slots := 6, locals := 141 }) (va_Pc [.ref h0, .int p0] (xM (dC, dI) xCl [(h0, eE h1 h2 kn), (h1, eR hw1 hc1 hb1 a1 r1), (hw1, eW true), (hc1, eA cy f1), (hb1, eA cy g1), (h2, eR hw2 hc2 hb2 a2 r2), (hw2, eW false), (hc2, eA cy f2), (hb2, eA cy g2)] [(cy, .long)] sz N)) (va_Qi (fun (r : Int32) (_ : Unit) => (o_X2_wideCount f1 p0).1 = 0 ∧ r = (o_X2_wideCount f1 p0).2) (fun _ _ => True) (aN sz)) (vx_X (fun _ : Unit => ¬ (o_X2_wideCount f1 p0).1 = 0) (fun E _ _ => E = xE (o_X2_wideCount f1 p0).1) (aN sz)) 1 6 (aN sz) := by
  refine vx_ofW (cc := cX2_wideCount) (maxL := 2) (ret := (some .int)) (by decide +kernel) rfl ?_
  intro p e s m args below meth c s₁ B hml hno hv
  obtain ⟨rfl, hsz, hP, hK, hD0, hN, hG⟩ := hv
  have hx := B.exec
  have hb := B.bytes
  have hr := B.returns
  have hts := atoms_spec (ws := wsX2_wideCount) B.pre
  have hown : s.vm.findClass RX2 = some m.cls := findClass_of_methodNamed B.named
  have hlocks := B.notSynchronized
  subst hsz
  have hA : ∀ q : Nat, s.heap.size ≤ q → aN s.heap.size q := fun _ h => h
  have hD := hD0
  have hAN : ∀ q, aN s.heap.size q → N ≤ q := fun q h => Nat.le_trans hN h
  have hS : va_S (aN s.heap.size) s.heap s.heap [] := va_S.rf
  have hP : va_P (dC, dI) xCl [(h0, eE h1 h2 kn), (h1, eR hw1 hc1 hb1 a1 r1), (hw1, eW true), (hc1, eA cy f1), (hb1, eA cy g1), (h2, eR hw2 hc2 hb2 a2 r2), (hw2, eW false), (hc2, eA cy f2), (hb2, eA cy g2)] s.heap := hP
  have hl := lv_entry ([.ref h0, .int p0]) (n := 2) (Nat.le_of_ble_eq_true rfl)
  rw [lg_entry_eq]
  generalize (lg_sl ([.ref h0, .int p0]) ++ List.replicate (2 - (lg_sl ([.ref h0, .int p0])).length) Slot.unset).toArray = ls at hl ⊢
  have hl : lv_has ls 2 [(0, .ref h0), (1, .int p0)] := hl
  refine lv_aload_n hx hb dX2_wideCount_0 rfl (lv_at hl 0 rfl) ?_
  refine va_get (D := (dC, dI)) (ci := 4) (v := .ref h1) (C := RX2) (T := TX2) (N := 3) hx hb hts (by decide +kernel) hown hK hP 0 rfl rfl 0 (by decide +kernel) (hts (.fieldLink RX2 20 "Edgefloats" "wide" "LEdgefloats$Row;") (by decide +kernel)) (fun _ h9 => h9) rfl dX2_wideCount_1 ?_
  refine lv_iload_n hx hb dX2_wideCount_4 rfl (lv_at hl 1 rfl) ?_
  have hPc := hP.sub (ws' := [(h1, eR hw1 hc1 hb1 a1 r1), (hw1, eW true), (hc1, eA cy f1), (hb1, eA cy g1)]) [1, 2, 3, 4] rfl
  have hDc := hD.sub (ws' := [(h1, eR hw1 hc1 hb1 a1 r1), (hw1, eW true), (hc1, eA cy f1), (hb1, eA cy g1)]) [1, 2, 3, 4] (by decide +kernel) rfl
  have hKc := hK.sub (tys' := [(cy, .long)]) [0] rfl
  refine vx_calli (vx_runV (As := [.int p0]) (rest := []) ⟨hx, hb, hml, hown, hts⟩ (k_X0_quarters l hfl dC dI cy h1 hw1 hc1 hb1 true a1 r1 f1 g1 s.heap.size N p0) (cwV 1 hts gX2_wideCount_X0_quarters rfl rfl rfl (by decide +kernel) ⟨Nat.le_of_ble_eq_true rfl, Nat.le_of_ble_eq_true rfl⟩) (xM.preV hKc hPc hDc (fun _ h => h) (Nat.le_trans hN hS.1) (hG.kept hS hAN) (ci := 2) (q0 := 0) rfl rfl) rfl rfl hl.1 rfl (lv_room (Nat.le_of_ble_eq_true rfl)) dX2_wideCount_5 ⟨Nat.le_of_ble_eq_true rfl, Nat.le_of_ble_eq_true rfl⟩) hS xA_old (fun q h => hA q (Nat.le_trans hS.1 h)) xA_old (fun E ce q9 u9 t H locs ht hvm hpx hbx hz hk hS hce hcv hcl => ?_) (fun r_1 u t H locs ht hvm hw hB hz hk hS => ?_)
  · have c_2 : ¬ (o_X0_quarters true f1 p0).1 = 0 := hpx
    have hbe := hbx
    have hP := xP_keep hP hk
    have he : o_X2_wideCount f1 p0 = ((o_X0_quarters true f1 p0).1, 0) := by (rw [o_X2_wideCount, if_neg c_2]) <;> rfl
    exact vx_out (fun x hx => (hno x hx).elim) hlocks hce hcv hcl (fun t ht hvm => ⟨(), by rw [he]; exact c_2, by rw [he]; exact hbe, hS.F ht⟩) hS.2.2 (by omega) (by omega)
  · skip
    obtain ⟨c_3, hw⟩ := hw
    have c_3 : (o_X0_quarters true f1 p0).1 = 0 := c_3
    replace hw : r_1 = (o_X0_quarters true f1 p0).2 := hw
    subst r_1
    have hP := xP_keep hP hk
    have he : o_X2_wideCount f1 p0 = (0, (o_X0_quarters true f1 p0).2) := by (rw [o_X2_wideCount, if_pos c_3]) <;> rfl
    refine W.widen (k := 1) (n := 6) (by omega) (by omega) ?_
    refine vx_ret ?_
    exact W.iret (v := ((o_X0_quarters true f1 p0).2)) hx hb hr (fun t ht hW => ⟨⟨_, (), rfl, ⟨(by (rw [he]) <;> rfl), (by (rw [he]) <;> rfl)⟩, trivial⟩, hS.F ht⟩) hS.2.2 dX2_wideCount_8
theorem cl_X2_wideFind_1 : ∀ w ∈ [.fieldLink RX2 20 "Edgefloats" "wide" "LEdgefloats$Row;", .methodLink RX2 102 yX0_find, .instanceMethod yX0_find, .selects RX0 yX0_find yX0_find, .initialized RX0, .code yX0_find cX0_find 6 (some .int), .fieldLink RX0 15 "Edgefloats$Row" "cells" "[J", .static yX2_checkCell, .initialized RX2, .code yX2_checkCell cX2_checkCell 1 none, .classLink RX2 148 "java/lang/IndexOutOfBoundsException", .initialized "java/lang/IndexOutOfBoundsException"], w ∈ wsX2_wideFind := fun _ h => (List.mem_cons_of_mem _ (List.mem_append_left _ (List.mem_append_left _ (List.mem_append_left _ h))))
theorem cl_X2_wideFind_2 : ∀ w ∈ wsX20, w ∈ wsX2_wideFind := fun _ h => (List.mem_cons_of_mem _ (List.mem_append_left _ (List.mem_append_left _ (List.mem_append_right _ h))))
theorem cl_X2_wideFind_3 : ∀ w ∈ wsX00, w ∈ wsX2_wideFind := fun _ h => (List.mem_cons_of_mem _ (List.mem_append_left _ (List.mem_append_right _ h)))
theorem cl_X2_wideFind_4 : ∀ w ∈ (vx_atS RX2 152 "java/lang/IndexOutOfBoundsException" ["java/lang/RuntimeException", "java/lang/Exception"]).filter goodWord, w ∈ wsX2_wideFind := fun _ h => (List.mem_cons_of_mem _ (List.mem_append_right _ h))
set_option maxRecDepth 20000 in
theorem ggX2_wideFind_X0_find : GoodIn wsX2_wideFind wsX0_find := goodIn_sub (List.forall_mem_cons.mpr ⟨(cl_X2_wideFind_1 _ (List.mem_of_getElem? (i := 5) rfl)), fun w h => (List.mem_append.mp h).elim ((fun w h => (List.mem_append.mp h).elim ((List.forall_mem_cons.mpr ⟨(cl_X2_wideFind_1 _ (List.mem_of_getElem? (i := 6) rfl)), List.forall_mem_cons.mpr ⟨(cl_X2_wideFind_1 _ (List.mem_of_getElem? (i := 7) rfl)), List.forall_mem_cons.mpr ⟨(cl_X2_wideFind_1 _ (List.mem_of_getElem? (i := 8) rfl)), List.forall_mem_cons.mpr ⟨(cl_X2_wideFind_1 _ (List.mem_of_getElem? (i := 9) rfl)), List.forall_mem_cons.mpr ⟨(cl_X2_wideFind_1 _ (List.mem_of_getElem? (i := 10) rfl)), List.forall_mem_cons.mpr ⟨(cl_X2_wideFind_1 _ (List.mem_of_getElem? (i := 11) rfl)), fun _ h => absurd h List.not_mem_nil⟩⟩⟩⟩⟩⟩) w) ((cl_X2_wideFind_3) w)) w) ((cl_X2_wideFind_4) w)⟩) (by decide +kernel)
set_option maxRecDepth 20000 in
theorem gX2_wideFind_X0_find : GoodIn wsX2_wideFind (wsV RX2 102 RX0 yX0_find wsX0_find) := goodIn_app (goodIn_sub (List.forall_mem_cons.mpr ⟨(cl_X2_wideFind_1 _ (List.mem_of_getElem? (i := 1) rfl)), List.forall_mem_cons.mpr ⟨(cl_X2_wideFind_1 _ (List.mem_of_getElem? (i := 2) rfl)), List.forall_mem_cons.mpr ⟨(cl_X2_wideFind_1 _ (List.mem_of_getElem? (i := 3) rfl)), List.forall_mem_cons.mpr ⟨(cl_X2_wideFind_1 _ (List.mem_of_getElem? (i := 4) rfl)), fun _ h => absurd h List.not_mem_nil⟩⟩⟩⟩) (by decide +kernel)) ggX2_wideFind_X0_find
noncomputable def dz_p13_21 : List (Nat × Instr × Nat) := [(0, (.aload_n 0, 1)), (1, (.getfield 20, 3)), (4, (.iload_n 1, 1)), (5, (.iload_n 2, 1)), (6, (.invokevirtual 102, 3)), (9, (.ireturn, 1))]
theorem dy_p13_21 : dz_ok cX2_wideFind dz_p13_21 = true := by decide +kernel
theorem dX2_wideFind_0 : decode cX2_wideFind 0 = .ok (.aload_n 0, 1) := dz_at (i := 0) dy_p13_21 rfl
theorem dX2_wideFind_1 : decode cX2_wideFind 1 = .ok (.getfield 20, 3) := dz_at (i := 1) dy_p13_21 rfl
theorem dX2_wideFind_4 : decode cX2_wideFind 4 = .ok (.iload_n 1, 1) := dz_at (i := 2) dy_p13_21 rfl
theorem dX2_wideFind_5 : decode cX2_wideFind 5 = .ok (.iload_n 2, 1) := dz_at (i := 3) dy_p13_21 rfl
theorem dX2_wideFind_6 : decode cX2_wideFind 6 = .ok (.invokevirtual 102, 3) := dz_at (i := 4) dy_p13_21 rfl
theorem dX2_wideFind_9 : decode cX2_wideFind 9 = .ok (.ireturn, 1) := dz_at (i := 5) dy_p13_21 rfl
noncomputable def o_X2_wideFind (f1 : Nat → Int64) (p0 : Int32) (p1 : Bool) : Int32 × Int32 :=
  if (o_X0_find f1 p0 p1).1 = 0 then (0, (o_X0_find f1 p0 p1).2)
  else ((o_X0_find f1 p0 p1).1, 0)
set_option maxHeartbeats 4000000 in
set_option maxRecDepth 100000 in
theorem k_X2_wideFind (l : Launch) (hfl : l.flags = flags0) (dC : Nat → ClassId) (dI : Nat → Nat → Nat) (cy : ClassId) (h0 : Nat) (h1 : Nat) (hw1 : Nat) (hc1 : Nat) (hb1 : Nat) (h2 : Nat) (hw2 : Nat) (hc2 : Nat) (hb2 : Nat) (a1 : Int32) (r1 : Int32) (f1 : Nat → Int64) (g1 : Nat → Int64) (a2 : Int32) (r2 : Int32) (f2 : Nat → Int64) (g2 : Nat → Int64) (kn : Int32) (sz : Nat) (N : Nat) (p0 : Int32) (p1 : Bool) : vx_Met l yX2_wideFind wsX2_wideFind ({ frames := 8, cells := 1, slots := 6, locals := 145 }) (va_Pc [.ref h0, .int p0, .int (b2i p1)] (xM (dC, dI) xCl [(h0, eE h1 h2 kn), (h1, eR hw1 hc1 hb1 a1 r1), (hw1, eW true), (hc1, eA cy f1), (hb1, eA cy g1), (h2, eR hw2 hc2 hb2 a2 r2), (hw2, eW false), (hc2, eA cy f2), (hb2, eA cy g2)] [(cy, .long)] sz N)) (va_Qi (fun (r : Int32) (_ : Unit) => (o_X2_wideFind f1 p0 p1).1 = 0 ∧ r = (o_X2_wideFind f1 p0 p1).2) (fun _ _ => True) (aN sz)) (vx_X (fun _ : Unit => ¬ (o_X2_wideFind f1 p0 p1).1 = 0) (fun E _ _ => E = xE (o_X2_wideFind f1 p0 p1).1) (aN sz)) 1 6 (aN sz) := by
  refine vx_ofW (cc := cX2_wideFind) (maxL := 3) (ret := (some .int)) (by decide +kernel) rfl ?_
  intro p e s m args below meth c s₁ B hml hno hv
  obtain ⟨rfl, hsz, hP, hK, hD0, hN, hG⟩ := hv
  have hx := B.exec
  have hb := B.bytes
  have hr := B.returns
  have hts := atoms_spec (ws := wsX2_wideFind) B.pre
  have hown : s.vm.findClass RX2 = some m.cls := findClass_of_methodNamed B.named
  have hlocks := B.notSynchronized
  subst hsz
  have hA : ∀ q : Nat, s.heap.size ≤ q → aN s.heap.size q := fun _ h => h
  have hD := hD0
  have hAN : ∀ q, aN s.heap.size q → N ≤ q := fun q h => Nat.le_trans hN h
  have hS : va_S (aN s.heap.size) s.heap s.heap [] := va_S.rf
  have hP : va_P (dC, dI) xCl [(h0, eE h1 h2 kn), (h1, eR hw1 hc1 hb1 a1 r1), (hw1, eW true), (hc1, eA cy f1), (hb1, eA cy g1), (h2, eR hw2 hc2 hb2 a2 r2), (hw2, eW false), (hc2, eA cy f2), (hb2, eA cy g2)] s.heap := hP
  have hl := lv_entry ([.ref h0, .int p0, .int (b2i p1)]) (n := 3) (Nat.le_of_ble_eq_true rfl)
  rw [lg_entry_eq]
  generalize (lg_sl ([.ref h0, .int p0, .int (b2i p1)]) ++ List.replicate (3 - (lg_sl ([.ref h0, .int p0, .int (b2i p1)])).length) Slot.unset).toArray = ls at hl ⊢
  have hl : lv_has ls 3 [(0, .ref h0), (1, .int p0), (2, .int (b2i p1))] := hl
  refine lv_aload_n hx hb dX2_wideFind_0 rfl (lv_at hl 0 rfl) ?_
  refine va_get (D := (dC, dI)) (ci := 4) (v := .ref h1) (C := RX2) (T := TX2) (N := 3) hx hb hts (by decide +kernel) hown hK hP 0 rfl rfl 0 (by decide +kernel) (hts (.fieldLink RX2 20 "Edgefloats" "wide" "LEdgefloats$Row;") (by decide +kernel)) (fun _ h9 => h9) rfl dX2_wideFind_1 ?_
  refine lv_iload_n hx hb dX2_wideFind_4 rfl (lv_at hl 1 rfl) ?_
  refine lv_iload_n hx hb dX2_wideFind_5 rfl (lv_at hl 2 rfl) ?_
  have hPc := hP.sub (ws' := [(h1, eR hw1 hc1 hb1 a1 r1), (hw1, eW true), (hc1, eA cy f1), (hb1, eA cy g1)]) [1, 2, 3, 4] rfl
  have hDc := hD.sub (ws' := [(h1, eR hw1 hc1 hb1 a1 r1), (hw1, eW true), (hc1, eA cy f1), (hb1, eA cy g1)]) [1, 2, 3, 4] (by decide +kernel) rfl
  have hKc := hK.sub (tys' := [(cy, .long)]) [0] rfl
  refine vx_calli (vx_runV (As := [.int p0, .int (b2i p1)]) (rest := []) ⟨hx, hb, hml, hown, hts⟩ (k_X0_find l hfl dC dI cy h1 hw1 hc1 hb1 true a1 r1 f1 g1 s.heap.size N p0 p1) (cwV 2 hts gX2_wideFind_X0_find rfl rfl rfl (by decide +kernel) ⟨Nat.le_of_ble_eq_true rfl, Nat.le_of_ble_eq_true rfl⟩) (xM.preV hKc hPc hDc (fun _ h => h) (Nat.le_trans hN hS.1) (hG.kept hS hAN) (ci := 2) (q0 := 0) rfl rfl) rfl rfl hl.1 rfl (lv_room (Nat.le_of_ble_eq_true rfl)) dX2_wideFind_6 ⟨Nat.le_of_ble_eq_true rfl, Nat.le_of_ble_eq_true rfl⟩) hS xA_old (fun q h => hA q (Nat.le_trans hS.1 h)) xA_old (fun E ce q9 u9 t H locs ht hvm hpx hbx hz hk hS hce hcv hcl => ?_) (fun r_1 u t H locs ht hvm hw hB hz hk hS => ?_)
  · have c_2 : ¬ (o_X0_find f1 p0 p1).1 = 0 := hpx
    have hbe := hbx
    have hP := xP_keep hP hk
    have he : o_X2_wideFind f1 p0 p1 = ((o_X0_find f1 p0 p1).1, 0) := by (rw [o_X2_wideFind, if_neg c_2]) <;> rfl
    exact vx_out (fun x hx => (hno x hx).elim) hlocks hce hcv hcl (fun t ht hvm => ⟨(), by rw [he]; exact c_2, by rw [he]; exact hbe, hS.F ht⟩) hS.2.2 (by omega) (by omega)
  · skip
    obtain ⟨c_3, hw⟩ := hw
    have c_3 : (o_X0_find f1 p0 p1).1 = 0 := c_3
    replace hw : r_1 = (o_X0_find f1 p0 p1).2 := hw
    subst r_1
    have hP := xP_keep hP hk
    have he : o_X2_wideFind f1 p0 p1 = (0, (o_X0_find f1 p0 p1).2) := by (rw [o_X2_wideFind, if_pos c_3]) <;> rfl
    refine W.widen (k := 1) (n := 6) (by omega) (by omega) ?_
    refine vx_ret ?_
    exact W.iret (v := ((o_X0_find f1 p0 p1).2)) hx hb hr (fun t ht hW => ⟨⟨_, (), rfl, ⟨(by (rw [he]) <;> rfl), (by (rw [he]) <;> rfl)⟩, trivial⟩, hS.F ht⟩) hS.2.2 dX2_wideFind_9
theorem cl_X2_wideHas_1 : ∀ w ∈ [.fieldLink RX2 20 "Edgefloats" "wide" "LEdgefloats$Row;", .methodLink RX2 106 yX0_has, .instanceMethod yX0_has, .selects RX0 yX0_has yX0_has, .initialized RX0, .code yX0_has cX0_has 5 (some .boolean), .fieldLink RX0 9 "Edgefloats$Row" "width" "LEdgefloats$Width;", .fieldLink RX0 15 "Edgefloats$Row" "cells" "[J", .static yX2_checkChoice, .initialized RX2, .code yX2_checkChoice cX2_checkChoice 2 none, .classLink RX2 155 "java/lang/IllegalArgumentException", .initialized "java/lang/IllegalArgumentException", .methodLink RX0 59 yX1_known, .instanceMethod yX1_known, .selects RX1 yX1_known yX1_known, .initialized RX1, .code yX1_known cX1_known 4 (some .long), .fieldLink RX1 18 "Edgefloats$Width" "exponentOnes" "I", .fieldLink RX1 9 "Edgefloats$Width" "fractionDigits" "I", .fieldLink RX1 25 "Edgefloats$Width" "signOne" "J"], w ∈ wsX2_wideHas := fun _ h => (List.mem_cons_of_mem _ (List.mem_append_left _ (List.mem_append_left _ (List.mem_append_left _ (List.mem_append_left _ h)))))
theorem cl_X2_wideHas_2 : ∀ w ∈ wsX20, w ∈ wsX2_wideHas := fun _ h => (List.mem_cons_of_mem _ (List.mem_append_left _ (List.mem_append_left _ (List.mem_append_left _ (List.mem_append_right _ h)))))
theorem cl_X2_wideHas_3 : ∀ w ∈ wsX00, w ∈ wsX2_wideHas := fun _ h => (List.mem_cons_of_mem _ (List.mem_append_left _ (List.mem_append_left _ (List.mem_append_right _ h))))
theorem cl_X2_wideHas_4 : ∀ w ∈ wsX10, w ∈ wsX2_wideHas := fun _ h => (List.mem_cons_of_mem _ (List.mem_append_left _ (List.mem_append_right _ h)))
theorem cl_X2_wideHas_5 : ∀ w ∈ (vx_atS RX2 159 "java/lang/IllegalArgumentException" ["java/lang/RuntimeException", "java/lang/Exception"]).filter goodWord, w ∈ wsX2_wideHas := fun _ h => (List.mem_cons_of_mem _ (List.mem_append_right _ h))
set_option maxRecDepth 20000 in
theorem ggX2_wideHas_X0_has : GoodIn wsX2_wideHas wsX0_has := goodIn_sub (List.forall_mem_cons.mpr ⟨(cl_X2_wideHas_1 _ (List.mem_of_getElem? (i := 5) rfl)), fun w h => (List.mem_append.mp h).elim ((fun w h => (List.mem_append.mp h).elim ((fun w h => (List.mem_append.mp h).elim ((List.forall_mem_cons.mpr ⟨(cl_X2_wideHas_1 _ (List.mem_of_getElem? (i := 6) rfl)), List.forall_mem_cons.mpr ⟨(cl_X2_wideHas_1 _ (List.mem_of_getElem? (i := 7) rfl)), List.forall_mem_cons.mpr ⟨(cl_X2_wideHas_1 _ (List.mem_of_getElem? (i := 8) rfl)), List.forall_mem_cons.mpr ⟨(cl_X2_wideHas_1 _ (List.mem_of_getElem? (i := 9) rfl)), List.forall_mem_cons.mpr ⟨(cl_X2_wideHas_1 _ (List.mem_of_getElem? (i := 10) rfl)), List.forall_mem_cons.mpr ⟨(cl_X2_wideHas_1 _ (List.mem_of_getElem? (i := 11) rfl)), List.forall_mem_cons.mpr ⟨(cl_X2_wideHas_1 _ (List.mem_of_getElem? (i := 12) rfl)), List.forall_mem_cons.mpr ⟨(cl_X2_wideHas_1 _ (List.mem_of_getElem? (i := 13) rfl)), List.forall_mem_cons.mpr ⟨(cl_X2_wideHas_1 _ (List.mem_of_getElem? (i := 14) rfl)), List.forall_mem_cons.mpr ⟨(cl_X2_wideHas_1 _ (List.mem_of_getElem? (i := 15) rfl)), List.forall_mem_cons.mpr ⟨(cl_X2_wideHas_1 _ (List.mem_of_getElem? (i := 16) rfl)), List.forall_mem_cons.mpr ⟨(cl_X2_wideHas_1 _ (List.mem_of_getElem? (i := 17) rfl)), List.forall_mem_cons.mpr ⟨(cl_X2_wideHas_1 _ (List.mem_of_getElem? (i := 18) rfl)), List.forall_mem_cons.mpr ⟨(cl_X2_wideHas_1 _ (List.mem_of_getElem? (i := 19) rfl)), List.forall_mem_cons.mpr ⟨(cl_X2_wideHas_1 _ (List.mem_of_getElem? (i := 20) rfl)), fun _ h => absurd h List.not_mem_nil⟩⟩⟩⟩⟩⟩⟩⟩⟩⟩⟩⟩⟩⟩⟩) w) ((cl_X2_wideHas_3) w)) w) ((cl_X2_wideHas_4) w)) w) ((cl_X2_wideHas_5) w)⟩) (by decide +kernel)
set_option maxRecDepth 20000 in
theorem gX2_wideHas_X0_has : GoodIn wsX2_wideHas (wsV RX2 106 RX0 yX0_has wsX0_has) := goodIn_app (goodIn_sub (List.forall_mem_cons.mpr ⟨(cl_X2_wideHas_1 _ (List.mem_of_getElem? (i := 1) rfl)), List.forall_mem_cons.mpr ⟨(cl_X2_wideHas_1 _ (List.mem_of_getElem? (i := 2) rfl)), List.forall_mem_cons.mpr ⟨(cl_X2_wideHas_1 _ (List.mem_of_getElem? (i := 3) rfl)), List.forall_mem_cons.mpr ⟨(cl_X2_wideHas_1 _ (List.mem_of_getElem? (i := 4) rfl)), fun _ h => absurd h List.not_mem_nil⟩⟩⟩⟩) (by decide +kernel)) ggX2_wideHas_X0_has
noncomputable def dz_p13_22 : List (Nat × Instr × Nat) := [(0, (.aload_n 0, 1)), (1, (.getfield 20, 3)), (4, (.iload_n 1, 1)), (5, (.invokevirtual 106, 3)), (8, (.ireturn, 1))]
theorem dy_p13_22 : dz_ok cX2_wideHas dz_p13_22 = true := by decide +kernel
theorem dX2_wideHas_0 : decode cX2_wideHas 0 = .ok (.aload_n 0, 1) := dz_at (i := 0) dy_p13_22 rfl
theorem dX2_wideHas_1 : decode cX2_wideHas 1 = .ok (.getfield 20, 3) := dz_at (i := 1) dy_p13_22 rfl
theorem dX2_wideHas_4 : decode cX2_wideHas 4 = .ok (.iload_n 1, 1) := dz_at (i := 2) dy_p13_22 rfl
theorem dX2_wideHas_5 : decode cX2_wideHas 5 = .ok (.invokevirtual 106, 3) := dz_at (i := 3) dy_p13_22 rfl
theorem dX2_wideHas_8 : decode cX2_wideHas 8 = .ok (.ireturn, 1) := dz_at (i := 4) dy_p13_22 rfl
noncomputable def o_X2_wideHas (f1 : Nat → Int64) (p0 : Int32) : Int32 × Bool :=
  if (o_X0_has true f1 p0).1 = 0 then (0, (o_X0_has true f1 p0).2)
  else ((o_X0_has true f1 p0).1, false)
set_option maxHeartbeats 4000000 in
set_option maxRecDepth 100000 in
theorem k_X2_wideHas (l : Launch) (hfl : l.flags = flags0) (dC : Nat → ClassId) (dI : Nat → Nat → Nat) (cy : ClassId) (h0 : Nat) (h1 : Nat) (hw1 : Nat) (hc1 : Nat) (hb1 : Nat) (h2 : Nat) (hw2 : Nat) (hc2 : Nat) (hb2 : Nat) (a1 : Int32) (r1 : Int32) (f1 : Nat → Int64) (g1 : Nat → Int64) (a2 : Int32) (r2 : Int32) (f2 : Nat → Int64) (g2 : Nat → Int64) (kn : Int32) (sz : Nat) (N : Nat) (p0 : Int32) : vx_Met l yX2_wideHas wsX2_wideHas ({ frames := 8, cells := 1, slots := 6, locals := 145 }) (va_Pc [.ref h0, .int p0] (xM (dC, dI) xCl [(h0, eE h1 h2 kn), (h1, eR hw1 hc1 hb1 a1 r1), (hw1, eW true), (hc1, eA cy f1), (hb1, eA cy g1), (h2, eR hw2 hc2 hb2 a2 r2), (hw2, eW false), (hc2, eA cy f2), (hb2, eA cy g2)] [(cy, .long)] sz N)) (va_Qi (fun (r : Int32) (_ : Unit) => (o_X2_wideHas f1 p0).1 = 0 ∧ r = b2i ((o_X2_wideHas f1 p0).2)) (fun _ _ => True) (aN sz)) (vx_X (fun _ : Unit => ¬ (o_X2_wideHas f1 p0).1 = 0) (fun E _ _ => E = xE (o_X2_wideHas f1 p0).1) (aN sz)) 1 6 (aN sz) := by
  refine vx_ofW (cc := cX2_wideHas) (maxL := 2) (ret := (some .boolean)) (by decide +kernel) rfl ?_
  intro p e s m args below meth c s₁ B hml hno hv
  obtain ⟨rfl, hsz, hP, hK, hD0, hN, hG⟩ := hv
  have hx := B.exec
  have hb := B.bytes
  have hr := B.returns
  have hts := atoms_spec (ws := wsX2_wideHas) B.pre
  have hown : s.vm.findClass RX2 = some m.cls := findClass_of_methodNamed B.named
  have hlocks := B.notSynchronized
  subst hsz
  have hA : ∀ q : Nat, s.heap.size ≤ q → aN s.heap.size q := fun _ h => h
  have hD := hD0
  have hAN : ∀ q, aN s.heap.size q → N ≤ q := fun q h => Nat.le_trans hN h
  have hS : va_S (aN s.heap.size) s.heap s.heap [] := va_S.rf
  have hP : va_P (dC, dI) xCl [(h0, eE h1 h2 kn), (h1, eR hw1 hc1 hb1 a1 r1), (hw1, eW true), (hc1, eA cy f1), (hb1, eA cy g1), (h2, eR hw2 hc2 hb2 a2 r2), (hw2, eW false), (hc2, eA cy f2), (hb2, eA cy g2)] s.heap := hP
  have hl := lv_entry ([.ref h0, .int p0]) (n := 2) (Nat.le_of_ble_eq_true rfl)
  rw [lg_entry_eq]
  generalize (lg_sl ([.ref h0, .int p0]) ++ List.replicate (2 - (lg_sl ([.ref h0, .int p0])).length) Slot.unset).toArray = ls at hl ⊢
  have hl : lv_has ls 2 [(0, .ref h0), (1, .int p0)] := hl
  refine lv_aload_n hx hb dX2_wideHas_0 rfl (lv_at hl 0 rfl) ?_
  refine va_get (D := (dC, dI)) (ci := 4) (v := .ref h1) (C := RX2) (T := TX2) (N := 3) hx hb hts (by decide +kernel) hown hK hP 0 rfl rfl 0 (by decide +kernel) (hts (.fieldLink RX2 20 "Edgefloats" "wide" "LEdgefloats$Row;") (by decide +kernel)) (fun _ h9 => h9) rfl dX2_wideHas_1 ?_
  refine lv_iload_n hx hb dX2_wideHas_4 rfl (lv_at hl 1 rfl) ?_
  have hPc := hP.sub (ws' := [(h1, eR hw1 hc1 hb1 a1 r1), (hw1, eW true), (hc1, eA cy f1), (hb1, eA cy g1)]) [1, 2, 3, 4] rfl
  have hDc := hD.sub (ws' := [(h1, eR hw1 hc1 hb1 a1 r1), (hw1, eW true), (hc1, eA cy f1), (hb1, eA cy g1)]) [1, 2, 3, 4] (by decide +kernel) rfl
  have hKc := hK.sub (tys' := [(cy, .long)]) [0] rfl
  refine vx_calli (vx_runV (As := [.int p0]) (rest := []) ⟨hx, hb, hml, hown, hts⟩ (k_X0_has l hfl dC dI cy h1 hw1 hc1 hb1 true a1 r1 f1 g1 s.heap.size N p0) (cwV 1 hts gX2_wideHas_X0_has rfl rfl rfl (by decide +kernel) ⟨Nat.le_of_ble_eq_true rfl, Nat.le_of_ble_eq_true rfl⟩) (xM.preV hKc hPc hDc (fun _ h => h) (Nat.le_trans hN hS.1) (hG.kept hS hAN) (ci := 2) (q0 := 0) rfl rfl) rfl rfl hl.1 rfl (lv_room (Nat.le_of_ble_eq_true rfl)) dX2_wideHas_5 ⟨Nat.le_of_ble_eq_true rfl, Nat.le_of_ble_eq_true rfl⟩) hS xA_old (fun q h => hA q (Nat.le_trans hS.1 h)) xA_old (fun E ce q9 u9 t H locs ht hvm hpx hbx hz hk hS hce hcv hcl => ?_) (fun r_1 u t H locs ht hvm hw hB hz hk hS => ?_)
  · have c_2 : ¬ (o_X0_has true f1 p0).1 = 0 := hpx
    have hbe := hbx
    have hP := xP_keep hP hk
    have he : o_X2_wideHas f1 p0 = ((o_X0_has true f1 p0).1, false) := by (rw [o_X2_wideHas, if_neg c_2]) <;> rfl
    exact vx_out (fun x hx => (hno x hx).elim) hlocks hce hcv hcl (fun t ht hvm => ⟨(), by rw [he]; exact c_2, by rw [he]; exact hbe, hS.F ht⟩) hS.2.2 (by omega) (by omega)
  · skip
    obtain ⟨c_3, hw⟩ := hw
    have c_3 : (o_X0_has true f1 p0).1 = 0 := c_3
    replace hw : r_1 = b2i ((o_X0_has true f1 p0).2) := hw
    subst r_1
    have hP := xP_keep hP hk
    have he : o_X2_wideHas f1 p0 = (0, (o_X0_has true f1 p0).2) := by (rw [o_X2_wideHas, if_pos c_3]) <;> rfl
    refine W.widen (k := 1) (n := 6) (by omega) (by omega) ?_
    refine vx_ret ?_
    exact W.zret (v := (b2i ((o_X0_has true f1 p0).2))) (ty := .boolean) hx hb hr (b2i_nar _) (fun t ht hW => ⟨⟨_, (), rfl, ⟨(by (rw [he]) <;> rfl), (by (rw [he]) <;> rfl)⟩, trivial⟩, hS.F ht⟩) hS.2.2 dX2_wideHas_8
theorem cl_X2_putNarrow_1 : ∀ w ∈ wsX2_putNarrow_r1, w ∈ wsX2_putNarrow := fun _ h => (List.mem_cons_of_mem _ (List.mem_append_left _ (List.mem_append_left _ (List.mem_append_left _ (List.mem_append_left _ (List.mem_append_left _ h))))))
theorem cl_X2_putNarrow_2 : ∀ w ∈ wsX2_putNarrow_r2, w ∈ wsX2_putNarrow := fun _ h => (List.mem_cons_of_mem _ (List.mem_append_left _ (List.mem_append_left _ (List.mem_append_left _ (List.mem_append_left _ (List.mem_append_right _ h))))))
theorem cl_X2_putNarrow_3 : ∀ w ∈ wsX20, w ∈ wsX2_putNarrow := fun _ h => (List.mem_cons_of_mem _ (List.mem_append_left _ (List.mem_append_left _ (List.mem_append_left _ (List.mem_append_right _ h)))))
theorem cl_X2_putNarrow_4 : ∀ w ∈ wsX00, w ∈ wsX2_putNarrow := fun _ h => (List.mem_cons_of_mem _ (List.mem_append_left _ (List.mem_append_left _ (List.mem_append_right _ h))))
theorem cl_X2_putNarrow_5 : ∀ w ∈ wsX10, w ∈ wsX2_putNarrow := fun _ h => (List.mem_cons_of_mem _ (List.mem_append_left _ (List.mem_append_right _ h)))
theorem cl_X2_putNarrow_6 : ∀ w ∈ (vx_atS RX2 152 "java/lang/IndexOutOfBoundsException" ["java/lang/RuntimeException", "java/lang/Exception"]).filter goodWord, w ∈ wsX2_putNarrow := fun _ h => (List.mem_cons_of_mem _ (List.mem_append_right _ h))
set_option maxRecDepth 20000 in
theorem ggX2_putNarrow_X0_put : GoodIn wsX2_putNarrow wsX0_put := goodIn_sub (List.forall_mem_cons.mpr ⟨(cl_X2_putNarrow_1 _ (List.mem_of_getElem? (i := 6) rfl)), fun w h => (List.mem_append.mp h).elim ((fun w h => (List.mem_append.mp h).elim ((fun w h => (List.mem_append.mp h).elim ((fun w h => (List.mem_append.mp h).elim ((List.forall_mem_cons.mpr ⟨(cl_X2_putNarrow_1 _ (List.mem_of_getElem? (i := 7) rfl)), List.forall_mem_cons.mpr ⟨(cl_X2_putNarrow_1 _ (List.mem_of_getElem? (i := 8) rfl)), List.forall_mem_cons.mpr ⟨(cl_X2_putNarrow_1 _ (List.mem_of_getElem? (i := 9) rfl)), List.forall_mem_cons.mpr ⟨(cl_X2_putNarrow_1 _ (List.mem_of_getElem? (i := 10) rfl)), List.forall_mem_cons.mpr ⟨(cl_X2_putNarrow_1 _ (List.mem_of_getElem? (i := 11) rfl)), List.forall_mem_cons.mpr ⟨(cl_X2_putNarrow_1 _ (List.mem_of_getElem? (i := 12) rfl)), List.forall_mem_cons.mpr ⟨(cl_X2_putNarrow_1 _ (List.mem_of_getElem? (i := 13) rfl)), List.forall_mem_cons.mpr ⟨(cl_X2_putNarrow_1 _ (List.mem_of_getElem? (i := 14) rfl)), List.forall_mem_cons.mpr ⟨(cl_X2_putNarrow_1 _ (List.mem_of_getElem? (i := 15) rfl)), List.forall_mem_cons.mpr ⟨(cl_X2_putNarrow_1 _ (List.mem_of_getElem? (i := 16) rfl)), List.forall_mem_cons.mpr ⟨(cl_X2_putNarrow_1 _ (List.mem_of_getElem? (i := 17) rfl)), List.forall_mem_cons.mpr ⟨(cl_X2_putNarrow_1 _ (List.mem_of_getElem? (i := 18) rfl)), List.forall_mem_cons.mpr ⟨(cl_X2_putNarrow_1 _ (List.mem_of_getElem? (i := 19) rfl)), List.forall_mem_cons.mpr ⟨(cl_X2_putNarrow_1 _ (List.mem_of_getElem? (i := 20) rfl)), List.forall_mem_cons.mpr ⟨(cl_X2_putNarrow_1 _ (List.mem_of_getElem? (i := 21) rfl)), List.forall_mem_cons.mpr ⟨(cl_X2_putNarrow_1 _ (List.mem_of_getElem? (i := 22) rfl)), List.forall_mem_cons.mpr ⟨(cl_X2_putNarrow_1 _ (List.mem_of_getElem? (i := 23) rfl)), List.forall_mem_cons.mpr ⟨(cl_X2_putNarrow_2 _ (List.mem_of_getElem? (i := 0) rfl)), List.forall_mem_cons.mpr ⟨(cl_X2_putNarrow_2 _ (List.mem_of_getElem? (i := 1) rfl)), List.forall_mem_cons.mpr ⟨(cl_X2_putNarrow_2 _ (List.mem_of_getElem? (i := 2) rfl)), List.forall_mem_cons.mpr ⟨(cl_X2_putNarrow_2 _ (List.mem_of_getElem? (i := 3) rfl)), List.forall_mem_cons.mpr ⟨(cl_X2_putNarrow_2 _ (List.mem_of_getElem? (i := 4) rfl)), List.forall_mem_cons.mpr ⟨(cl_X2_putNarrow_2 _ (List.mem_of_getElem? (i := 5) rfl)), List.forall_mem_cons.mpr ⟨(cl_X2_putNarrow_2 _ (List.mem_of_getElem? (i := 6) rfl)), fun _ h => absurd h List.not_mem_nil⟩⟩⟩⟩⟩⟩⟩⟩⟩⟩⟩⟩⟩⟩⟩⟩⟩⟩⟩⟩⟩⟩⟩⟩) w) ((List.forall_mem_cons.mpr ⟨(cl_X2_putNarrow_2 _ (List.mem_of_getElem? (i := 7) rfl)), List.forall_mem_cons.mpr ⟨(cl_X2_putNarrow_1 _ (List.mem_of_getElem? (i := 5) rfl)), List.forall_mem_cons.mpr ⟨(cl_X2_putNarrow_2 _ (List.mem_of_getElem? (i := 8) rfl)), List.forall_mem_cons.mpr ⟨(cl_X2_putNarrow_2 _ (List.mem_of_getElem? (i := 9) rfl)), List.forall_mem_cons.mpr ⟨(cl_X2_putNarrow_2 _ (List.mem_of_getElem? (i := 10) rfl)), List.forall_mem_cons.mpr ⟨(cl_X2_putNarrow_2 _ (List.mem_of_getElem? (i := 11) rfl)), List.forall_mem_cons.mpr ⟨(cl_X2_putNarrow_2 _ (List.mem_of_getElem? (i := 12) rfl)), List.forall_mem_cons.mpr ⟨(cl_X2_putNarrow_2 _ (List.mem_of_getElem? (i := 13) rfl)), List.forall_mem_cons.mpr ⟨(cl_X2_putNarrow_2 _ (List.mem_of_getElem? (i := 14) rfl)), List.forall_mem_cons.mpr ⟨(cl_X2_putNarrow_2 _ (List.mem_of_getElem? (i := 15) rfl)), fun _ h => absurd h List.not_mem_nil⟩⟩⟩⟩⟩⟩⟩⟩⟩⟩) w)) w) ((cl_X2_putNarrow_4) w)) w) ((cl_X2_putNarrow_5) w)) w) ((cl_X2_putNarrow_6) w)⟩) (by decide +kernel)
set_option maxRecDepth 20000 in
theorem gX2_putNarrow_X0_put : GoodIn wsX2_putNarrow (wsV RX2 30 RX0 yX0_put wsX0_put) := goodIn_app (goodIn_sub (List.forall_mem_cons.mpr ⟨(cl_X2_putNarrow_1 _ (List.mem_of_getElem? (i := 2) rfl)), List.forall_mem_cons.mpr ⟨(cl_X2_putNarrow_1 _ (List.mem_of_getElem? (i := 3) rfl)), List.forall_mem_cons.mpr ⟨(cl_X2_putNarrow_1 _ (List.mem_of_getElem? (i := 4) rfl)), List.forall_mem_cons.mpr ⟨(cl_X2_putNarrow_1 _ (List.mem_of_getElem? (i := 5) rfl)), fun _ h => absurd h List.not_mem_nil⟩⟩⟩⟩) (by decide +kernel)) ggX2_putNarrow_X0_put
noncomputable def dz_p13_23 : List (Nat × Instr × Nat) := [(0, (.aload_n 0, 1)), (1, (.getfield 25, 3)), (4, (.iload_n 1, 1)), (5, (.iload_n 2, 1)), (6, (.i2l, 1)), (7, (.ldc2_w 28, 3)), (10, (.land, 1)), (11, (.invokevirtual 30, 3)), (14, (.ireturn, 1))]
theorem dy_p13_23 : dz_ok cX2_putNarrow dz_p13_23 = true := by decide +kernel
theorem dX2_putNarrow_0 : decode cX2_putNarrow 0 = .ok (.aload_n 0, 1) := dz_at (i := 0) dy_p13_23 rfl
theorem dX2_putNarrow_1 : decode cX2_putNarrow 1 = .ok (.getfield 25, 3) := dz_at (i := 1) dy_p13_23 rfl
theorem dX2_putNarrow_4 : decode cX2_putNarrow 4 = .ok (.iload_n 1, 1) := dz_at (i := 2) dy_p13_23 rfl
theorem dX2_putNarrow_5 : decode cX2_putNarrow 5 = .ok (.iload_n 2, 1) := dz_at (i := 3) dy_p13_23 rfl
theorem dX2_putNarrow_6 : decode cX2_putNarrow 6 = .ok (.i2l, 1) := dz_at (i := 4) dy_p13_23 rfl
theorem dX2_putNarrow_7 : decode cX2_putNarrow 7 = .ok (.ldc2_w 28, 3) := dz_at (i := 5) dy_p13_23 rfl
theorem dX2_putNarrow_10 : decode cX2_putNarrow 10 = .ok (.land, 1) := dz_at (i := 6) dy_p13_23 rfl
theorem dX2_putNarrow_11 : decode cX2_putNarrow 11 = .ok (.invokevirtual 30, 3) := dz_at (i := 7) dy_p13_23 rfl
theorem dX2_putNarrow_14 : decode cX2_putNarrow 14 = .ok (.ireturn, 1) := dz_at (i := 8) dy_p13_23 rfl
noncomputable def o_X2_putNarrow (a2 : Int32) (r2 : Int32) (f2 : Nat → Int64) (p0 : Int32) (p1 : Int32) : Int32 × Int32 × Int32 × Int32 × (Nat → Int64) :=
  if (o_X0_put false a2 r2 f2 p0 (p1.toInt64 &&& 4294967295)).1 = 0 then (0, (o_X0_put false a2 r2 f2 p0 (p1.toInt64 &&& 4294967295)).2.1, (o_X0_put false a2 r2 f2 p0 (p1.toInt64 &&& 4294967295)).2.2.1, (o_X0_put false a2 r2 f2 p0 (p1.toInt64 &&& 4294967295)).2.2.2.1, (o_X0_put false a2 r2 f2 p0 (p1.toInt64 &&& 4294967295)).2.2.2.2)
  else ((o_X0_put false a2 r2 f2 p0 (p1.toInt64 &&& 4294967295)).1, 0, a2, r2, f2)
set_option maxHeartbeats 4000000 in
set_option maxRecDepth 100000 in
theorem k_X2_putNarrow (l : Launch) (hfl : l.flags = flags0) (dC : Nat → ClassId) (dI : Nat → Nat → Nat) (cy : ClassId) (h0 : Nat) (h1 : Nat) (hw1 : Nat) (hc1 : Nat) (hb1 : Nat) (h2 : Nat) (hw2 : Nat) (hc2 : Nat) (hb2 : Nat) (a1 : Int32) (r1 : Int32) (f1 : Nat → Int64) (g1 : Nat → Int64) (a2 : Int32) (r2 : Int32) (f2 : Nat → Int64) (g2 : Nat → Int64) (kn : Int32) (sz : Nat) (N : Nat) (p0 : Int32) (p1 : Int32) : vx_Met l yX2_putNarrow wsX2_putNarrow ({ frames := 8, cells := 1, slots := 6, locals := 143 }) (va_Pc [.ref h0, .int p0, .int p1] (xM (dC, dI) xCl [(h0, eE h1 h2 kn), (h1, eR hw1 hc1 hb1 a1 r1), (hw1, eW true), (hc1, eA cy f1), (hb1, eA cy g1), (h2, eR hw2 hc2 hb2 a2 r2), (hw2, eW false), (hc2, eA cy f2), (hb2, eA cy g2)] [(cy, .long)] sz N)) (va_Qi (fun (r : Int32) (_ : Unit) => (o_X2_putNarrow a2 r2 f2 p0 p1).1 = 0 ∧ r = (o_X2_putNarrow a2 r2 f2 p0 p1).2.1) (fun _ t => xW (dC, dI) xCl [(h0, eE h1 h2 kn), (h1, eR hw1 hc1 hb1 a1 r1), (hw1, eW true), (hc1, eA cy f1), (hb1, eA cy g1), (h2, eR hw2 hc2 hb2 (o_X2_putNarrow a2 r2 f2 p0 p1).2.2.1 (o_X2_putNarrow a2 r2 f2 p0 p1).2.2.2.1), (hw2, eW false), (hc2, eA cy (o_X2_putNarrow a2 r2 f2 p0 p1).2.2.2.2), (hb2, eA cy g2)] (va_A [(h0, eE h1 h2 kn), (h1, eR hw1 hc1 hb1 a1 r1), (hw1, eW true), (hc1, eA cy f1), (hb1, eA cy g1), (h2, eR hw2 hc2 hb2 a2 r2), (hw2, eW false), (hc2, eA cy f2), (hb2, eA cy g2)] sz) t) (va_A [(h0, eE h1 h2 kn), (h1, eR hw1 hc1 hb1 a1 r1), (hw1, eW true), (hc1, eA cy f1), (hb1, eA cy g1), (h2, eR hw2 hc2 hb2 a2 r2), (hw2, eW false), (hc2, eA cy f2), (hb2, eA cy g2)] sz)) (vx_X (fun _ : Unit => ¬ (o_X2_putNarrow a2 r2 f2 p0 p1).1 = 0) (fun E _ t => E = xE (o_X2_putNarrow a2 r2 f2 p0 p1).1 ∧ xW (dC, dI) xCl [(h0, eE h1 h2 kn), (h1, eR hw1 hc1 hb1 a1 r1), (hw1, eW true), (hc1, eA cy f1), (hb1, eA cy g1), (h2, eR hw2 hc2 hb2 a2 r2), (hw2, eW false), (hc2, eA cy f2), (hb2, eA cy g2)] (va_A [(h0, eE h1 h2 kn), (h1, eR hw1 hc1 hb1 a1 r1), (hw1, eW true), (hc1, eA cy f1), (hb1, eA cy g1), (h2, eR hw2 hc2 hb2 a2 r2), (hw2, eW false), (hc2, eA cy f2), (hb2, eA cy g2)] sz) t) (va_A [(h0, eE h1 h2 kn), (h1, eR hw1 hc1 hb1 a1 r1), (hw1, eW true), (hc1, eA cy f1), (hb1, eA cy g1), (h2, eR hw2 hc2 hb2 a2 r2), (hw2, eW false), (hc2, eA cy f2), (hb2, eA cy g2)] sz)) 1 6 (va_A [(h0, eE h1 h2 kn), (h1, eR hw1 hc1 hb1 a1 r1), (hw1, eW true), (hc1, eA cy f1), (hb1, eA cy g1), (h2, eR hw2 hc2 hb2 a2 r2), (hw2, eW false), (hc2, eA cy f2), (hb2, eA cy g2)] sz) := by
  refine vx_ofW (cc := cX2_putNarrow) (maxL := 3) (ret := (some .int)) (by decide +kernel) rfl ?_
  intro p e s m args below meth c s₁ B hml hno hv
  obtain ⟨rfl, hsz, hP, hK, hD0, hN, hG⟩ := hv
  have hx := B.exec
  have hb := B.bytes
  have hr := B.returns
  have hts := atoms_spec (ws := wsX2_putNarrow) B.pre
  have hown : s.vm.findClass RX2 = some m.cls := findClass_of_methodNamed B.named
  have hlocks := B.notSynchronized
  subst hsz
  have hAN : ∀ q, va_A [(h0, eE h1 h2 kn), (h1, eR hw1 hc1 hb1 a1 r1), (hw1, eW true), (hc1, eA cy f1), (hb1, eA cy g1), (h2, eR hw2 hc2 hb2 a2 r2), (hw2, eW false), (hc2, eA cy f2), (hb2, eA cy g2)] s.heap.size q → N ≤ q := xA_N hD0 hN
  have hD := hD0.self (sz := s.heap.size)
  generalize hAe : va_A [(h0, eE h1 h2 kn), (h1, eR hw1 hc1 hb1 a1 r1), (hw1, eW true), (hc1, eA cy f1), (hb1, eA cy g1), (h2, eR hw2 hc2 hb2 a2 r2), (hw2, eW false), (hc2, eA cy f2), (hb2, eA cy g2)] s.heap.size = A at hD hAN ⊢
  have hA : ∀ q : Nat, s.heap.size ≤ q → A q := fun q h => by rw [← hAe]; exact Or.inr h
  have hS : va_S A s.heap s.heap [] := va_S.rf
  have hP : va_P (dC, dI) xCl [(h0, eE h1 h2 kn), (h1, eR hw1 hc1 hb1 a1 r1), (hw1, eW true), (hc1, eA cy f1), (hb1, eA cy g1), (h2, eR hw2 hc2 hb2 a2 r2), (hw2, eW false), (hc2, eA cy f2), (hb2, eA cy g2)] s.heap := hP
  have hl := lv_entry ([.ref h0, .int p0, .int p1]) (n := 3) (Nat.le_of_ble_eq_true rfl)
  rw [lg_entry_eq]
  generalize (lg_sl ([.ref h0, .int p0, .int p1]) ++ List.replicate (3 - (lg_sl ([.ref h0, .int p0, .int p1])).length) Slot.unset).toArray = ls at hl ⊢
  have hl : lv_has ls 3 [(0, .ref h0), (1, .int p0), (2, .int p1)] := hl
  refine lv_aload_n hx hb dX2_putNarrow_0 rfl (lv_at hl 0 rfl) ?_
  refine va_get (D := (dC, dI)) (ci := 4) (v := .ref h2) (C := RX2) (T := TX2) (N := 3) hx hb hts (by decide +kernel) hown hK hP 0 rfl rfl 1 (by decide +kernel) (hts (.fieldLink RX2 25 "Edgefloats" "narrow" "LEdgefloats$Row;") (by decide +kernel)) (fun _ h9 => h9) rfl dX2_putNarrow_1 ?_
  refine lv_iload_n hx hb dX2_putNarrow_4 rfl (lv_at hl 1 rfl) ?_
  refine lv_iload_n hx hb dX2_putNarrow_5 rfl (lv_at hl 2 rfl) ?_
  refine lv_i2l (v := p1.toInt64) hx hb dX2_putNarrow_6 rfl ?_
  refine lv_ldc2 (own := RX2) (index := 28) (v := 4294967295) hx hb hown (hts (.constantLong RX2 28 (4294967295)) (by decide +kernel)) dX2_putNarrow_7 ?_
  refine lv_land hx hb dX2_putNarrow_10 ?_
  have hPc := hP.sub (ws' := [(h2, eR hw2 hc2 hb2 a2 r2), (hw2, eW false), (hc2, eA cy f2), (hb2, eA cy g2)]) [5, 6, 7, 8] rfl
  have hDc := hD.sub (ws' := [(h2, eR hw2 hc2 hb2 a2 r2), (hw2, eW false), (hc2, eA cy f2), (hb2, eA cy g2)]) [5, 6, 7, 8] (by decide +kernel) rfl
  have hKc := hK.sub (tys' := [(cy, .long)]) [0] rfl
  have hFc := va_free (wc := [(h2, eR hw2 hc2 hb2 a2 r2), (hw2, eW false), (hc2, eA cy f2), (hb2, eA cy g2)]) hD hS hA [5, 6, 7, 8] rfl
  refine vx_calli (vx_runV (As := [.int p0, .long (p1.toInt64 &&& 4294967295)]) (rest := []) ⟨hx, hb, hml, hown, hts⟩ (k_X0_put l hfl dC dI cy h2 hw2 hc2 hb2 false a2 r2 f2 g2 s.heap.size N p0 (p1.toInt64 &&& 4294967295)) (cwV 2 hts gX2_putNarrow_X0_put rfl rfl rfl (by decide +kernel) ⟨Nat.le_of_ble_eq_true rfl, Nat.le_of_ble_eq_true rfl⟩) (xM.preV hKc hPc hDc hAN (Nat.le_trans hN hS.1) (hG.kept hS hAN) (ci := 2) (q0 := 0) rfl rfl) rfl rfl hl.1 rfl (lv_room (Nat.le_of_ble_eq_true rfl)) dX2_putNarrow_11 ⟨Nat.le_of_ble_eq_true rfl, Nat.le_of_ble_eq_true rfl⟩) hS (fun q _ h => hFc q h) hFc (fun q _ h => hFc q h) (fun E ce q9 u9 t H locs ht hvm hpx hbx hz hk hS hce hcv hcl => ?_) (fun r_1 u t H locs ht hvm hw hB hz hk hS => ?_)
  · have c_2 : ¬ (o_X0_put false a2 r2 f2 p0 (p1.toInt64 &&& 4294967295)).1 = 0 := hpx
    obtain ⟨hbe, hP1, hD1⟩ := hbx
    rw [ht] at hP1
    obtain ⟨hP, hD⟩ := va_join (wr := [(h0, eE h1 h2 kn), (h1, eR hw1 hc1 hb1 a1 r1), (hw1, eW true), (hc1, eA cy f1), (hb1, eA cy g1)]) (w1 := [(h2, eR hw2 hc2 hb2 a2 r2), (hw2, eW false), (hc2, eA cy f2), (hb2, eA cy g2)]) hP hD [5, 6, 7, 8] [0, 1, 2, 3, 4] rfl rfl (by decide +kernel) (by decide +kernel) hk hFc hP1 hD1
    have hP := hP.sub (ws' := [(h0, eE h1 h2 kn), (h1, eR hw1 hc1 hb1 a1 r1), (hw1, eW true), (hc1, eA cy f1), (hb1, eA cy g1), (h2, eR hw2 hc2 hb2 a2 r2), (hw2, eW false), (hc2, eA cy f2), (hb2, eA cy g2)]) [0, 1, 2, 3, 4, 5, 6, 7, 8] rfl
    have hD := hD.sub (ws' := [(h0, eE h1 h2 kn), (h1, eR hw1 hc1 hb1 a1 r1), (hw1, eW true), (hc1, eA cy f1), (hb1, eA cy g1), (h2, eR hw2 hc2 hb2 a2 r2), (hw2, eW false), (hc2, eA cy f2), (hb2, eA cy g2)]) [0, 1, 2, 3, 4, 5, 6, 7, 8] (by decide +kernel) rfl
    have he : o_X2_putNarrow a2 r2 f2 p0 p1 = ((o_X0_put false a2 r2 f2 p0 (p1.toInt64 &&& 4294967295)).1, 0, a2, r2, f2) := by (rw [o_X2_putNarrow, if_neg c_2]) <;> rfl
    exact vx_out (fun x hx => (hno x hx).elim) hlocks hce hcv hcl (fun t ht hvm => ⟨(), by rw [he]; exact c_2, ⟨by rw [he]; exact hbe, by rw [ht]; exact hP, hD⟩, hS.F ht⟩) hS.2.2 (by omega) (by omega)
  · skip
    obtain ⟨c_3, hw⟩ := hw
    have c_3 : (o_X0_put false a2 r2 f2 p0 (p1.toInt64 &&& 4294967295)).1 = 0 := c_3
    replace hw : r_1 = (o_X0_put false a2 r2 f2 p0 (p1.toInt64 &&& 4294967295)).2.1 := hw
    subst r_1
    obtain ⟨hP1, hD1⟩ := hB
    rw [ht] at hP1
    obtain ⟨hP, hD⟩ := va_join (wr := [(h0, eE h1 h2 kn), (h1, eR hw1 hc1 hb1 a1 r1), (hw1, eW true), (hc1, eA cy f1), (hb1, eA cy g1)]) (w1 := [(h2, eR hw2 hc2 hb2 (o_X0_put false a2 r2 f2 p0 (p1.toInt64 &&& 4294967295)).2.2.1 (o_X0_put false a2 r2 f2 p0 (p1.toInt64 &&& 4294967295)).2.2.2.1), (hw2, eW false), (hc2, eA cy (o_X0_put false a2 r2 f2 p0 (p1.toInt64 &&& 4294967295)).2.2.2.2), (hb2, eA cy g2)]) hP hD [5, 6, 7, 8] [0, 1, 2, 3, 4] rfl rfl (by decide +kernel) (by decide +kernel) hk hFc hP1 hD1
    have hP := hP.sub (ws' := [(h0, eE h1 h2 kn), (h1, eR hw1 hc1 hb1 a1 r1), (hw1, eW true), (hc1, eA cy f1), (hb1, eA cy g1), (h2, eR hw2 hc2 hb2 (o_X0_put false a2 r2 f2 p0 (p1.toInt64 &&& 4294967295)).2.2.1 (o_X0_put false a2 r2 f2 p0 (p1.toInt64 &&& 4294967295)).2.2.2.1), (hw2, eW false), (hc2, eA cy (o_X0_put false a2 r2 f2 p0 (p1.toInt64 &&& 4294967295)).2.2.2.2), (hb2, eA cy g2)]) [0, 1, 2, 3, 4, 5, 6, 7, 8] rfl
    have hD := hD.sub (ws' := [(h0, eE h1 h2 kn), (h1, eR hw1 hc1 hb1 a1 r1), (hw1, eW true), (hc1, eA cy f1), (hb1, eA cy g1), (h2, eR hw2 hc2 hb2 (o_X0_put false a2 r2 f2 p0 (p1.toInt64 &&& 4294967295)).2.2.1 (o_X0_put false a2 r2 f2 p0 (p1.toInt64 &&& 4294967295)).2.2.2.1), (hw2, eW false), (hc2, eA cy (o_X0_put false a2 r2 f2 p0 (p1.toInt64 &&& 4294967295)).2.2.2.2), (hb2, eA cy g2)]) [0, 1, 2, 3, 4, 5, 6, 7, 8] (by decide +kernel) rfl
    have he : o_X2_putNarrow a2 r2 f2 p0 p1 = (0, (o_X0_put false a2 r2 f2 p0 (p1.toInt64 &&& 4294967295)).2.1, (o_X0_put false a2 r2 f2 p0 (p1.toInt64 &&& 4294967295)).2.2.1, (o_X0_put false a2 r2 f2 p0 (p1.toInt64 &&& 4294967295)).2.2.2.1, (o_X0_put false a2 r2 f2 p0 (p1.toInt64 &&& 4294967295)).2.2.2.2) := by (rw [o_X2_putNarrow, if_pos c_3]) <;> rfl
    refine W.widen (k := 1) (n := 6) (by omega) (by omega) ?_
    refine vx_ret ?_
    exact W.iret (v := ((o_X0_put false a2 r2 f2 p0 (p1.toInt64 &&& 4294967295)).2.1)) hx hb hr (fun t ht hW => ⟨⟨_, (), rfl, ⟨(by (rw [he]) <;> rfl), (by (rw [he]) <;> rfl)⟩, (by rw [he]; exact ⟨by rw [ht]; exact hP, hD⟩)⟩, hS.F ht⟩) hS.2.2 dX2_putNarrow_14
theorem cl_X2_narrowQuarters_1 : ∀ w ∈ wsX2_narrowQuarters_r1, w ∈ wsX2_narrowQuarters := fun _ h => (List.mem_cons_of_mem _ (List.mem_append_left _ (List.mem_append_left _ (List.mem_append_left _ (List.mem_append_left _ (List.mem_append_left _ (List.mem_append_left _ h)))))))
theorem cl_X2_narrowQuarters_2 : ∀ w ∈ wsX2_narrowQuarters_r2, w ∈ wsX2_narrowQuarters := fun _ h => (List.mem_cons_of_mem _ (List.mem_append_left _ (List.mem_append_left _ (List.mem_append_left _ (List.mem_append_left _ (List.mem_append_left _ (List.mem_append_right _ h)))))))
theorem cl_X2_narrowQuarters_3 : ∀ w ∈ wsX20, w ∈ wsX2_narrowQuarters := fun _ h => (List.mem_cons_of_mem _ (List.mem_append_left _ (List.mem_append_left _ (List.mem_append_left _ (List.mem_append_left _ (List.mem_append_right _ h))))))
theorem cl_X2_narrowQuarters_4 : ∀ w ∈ wsX00, w ∈ wsX2_narrowQuarters := fun _ h => (List.mem_cons_of_mem _ (List.mem_append_left _ (List.mem_append_left _ (List.mem_append_left _ (List.mem_append_right _ h)))))
theorem cl_X2_narrowQuarters_5 : ∀ w ∈ wsX10, w ∈ wsX2_narrowQuarters := fun _ h => (List.mem_cons_of_mem _ (List.mem_append_left _ (List.mem_append_left _ (List.mem_append_right _ h))))
theorem cl_X2_narrowQuarters_6 : ∀ w ∈ (vx_atS RX0 48 "java/lang/IllegalArgumentException" ["java/lang/RuntimeException", "java/lang/Exception"]).filter goodWord, w ∈ wsX2_narrowQuarters := fun _ h => (List.mem_cons_of_mem _ (List.mem_append_left _ (List.mem_append_right _ h)))
theorem cl_X2_narrowQuarters_7 : ∀ w ∈ (vx_atS RX2 152 "java/lang/IndexOutOfBoundsException" ["java/lang/RuntimeException", "java/lang/Exception"]).filter goodWord, w ∈ wsX2_narrowQuarters := fun _ h => (List.mem_cons_of_mem _ (List.mem_append_right _ h))
set_option maxRecDepth 20000 in
theorem ggX2_narrowQuarters_X0_putQuarters : GoodIn wsX2_narrowQuarters wsX0_putQuarters := goodIn_sub (List.forall_mem_cons.mpr ⟨(cl_X2_narrowQuarters_1 _ (List.mem_of_getElem? (i := 5) rfl)), fun w h => (List.mem_append.mp h).elim ((fun w h => (List.mem_append.mp h).elim ((fun w h => (List.mem_append.mp h).elim ((fun w h => (List.mem_append.mp h).elim ((fun w h => (List.mem_append.mp h).elim ((List.forall_mem_cons.mpr ⟨(cl_X2_narrowQuarters_1 _ (List.mem_of_getElem? (i := 6) rfl)), List.forall_mem_cons.mpr ⟨(cl_X2_narrowQuarters_1 _ (List.mem_of_getElem? (i := 7) rfl)), List.forall_mem_cons.mpr ⟨(cl_X2_narrowQuarters_1 _ (List.mem_of_getElem? (i := 8) rfl)), List.forall_mem_cons.mpr ⟨(cl_X2_narrowQuarters_1 _ (List.mem_of_getElem? (i := 9) rfl)), List.forall_mem_cons.mpr ⟨(cl_X2_narrowQuarters_1 _ (List.mem_of_getElem? (i := 10) rfl)), List.forall_mem_cons.mpr ⟨(cl_X2_narrowQuarters_1 _ (List.mem_of_getElem? (i := 11) rfl)), List.forall_mem_cons.mpr ⟨(cl_X2_narrowQuarters_1 _ (List.mem_of_getElem? (i := 12) rfl)), List.forall_mem_cons.mpr ⟨(cl_X2_narrowQuarters_1 _ (List.mem_of_getElem? (i := 13) rfl)), List.forall_mem_cons.mpr ⟨(cl_X2_narrowQuarters_1 _ (List.mem_of_getElem? (i := 14) rfl)), List.forall_mem_cons.mpr ⟨(cl_X2_narrowQuarters_1 _ (List.mem_of_getElem? (i := 15) rfl)), List.forall_mem_cons.mpr ⟨(cl_X2_narrowQuarters_1 _ (List.mem_of_getElem? (i := 16) rfl)), List.forall_mem_cons.mpr ⟨(cl_X2_narrowQuarters_1 _ (List.mem_of_getElem? (i := 17) rfl)), List.forall_mem_cons.mpr ⟨(cl_X2_narrowQuarters_1 _ (List.mem_of_getElem? (i := 18) rfl)), List.forall_mem_cons.mpr ⟨(cl_X2_narrowQuarters_1 _ (List.mem_of_getElem? (i := 19) rfl)), List.forall_mem_cons.mpr ⟨(cl_X2_narrowQuarters_1 _ (List.mem_of_getElem? (i := 20) rfl)), List.forall_mem_cons.mpr ⟨(cl_X2_narrowQuarters_1 _ (List.mem_of_getElem? (i := 21) rfl)), List.forall_mem_cons.mpr ⟨(cl_X2_narrowQuarters_1 _ (List.mem_of_getElem? (i := 22) rfl)), List.forall_mem_cons.mpr ⟨(cl_X2_narrowQuarters_1 _ (List.mem_of_getElem? (i := 23) rfl)), List.forall_mem_cons.mpr ⟨(cl_X2_narrowQuarters_2 _ (List.mem_of_getElem? (i := 0) rfl)), List.forall_mem_cons.mpr ⟨(cl_X2_narrowQuarters_2 _ (List.mem_of_getElem? (i := 1) rfl)), List.forall_mem_cons.mpr ⟨(cl_X2_narrowQuarters_2 _ (List.mem_of_getElem? (i := 2) rfl)), List.forall_mem_cons.mpr ⟨(cl_X2_narrowQuarters_2 _ (List.mem_of_getElem? (i := 3) rfl)), List.forall_mem_cons.mpr ⟨(cl_X2_narrowQuarters_2 _ (List.mem_of_getElem? (i := 4) rfl)), List.forall_mem_cons.mpr ⟨(cl_X2_narrowQuarters_2 _ (List.mem_of_getElem? (i := 5) rfl)), fun _ h => absurd h List.not_mem_nil⟩⟩⟩⟩⟩⟩⟩⟩⟩⟩⟩⟩⟩⟩⟩⟩⟩⟩⟩⟩⟩⟩⟩⟩) w) ((List.forall_mem_cons.mpr ⟨(cl_X2_narrowQuarters_1 _ (List.mem_of_getElem? (i := 4) rfl)), List.forall_mem_cons.mpr ⟨(cl_X2_narrowQuarters_2 _ (List.mem_of_getElem? (i := 6) rfl)), List.forall_mem_cons.mpr ⟨(cl_X2_narrowQuarters_2 _ (List.mem_of_getElem? (i := 7) rfl)), List.forall_mem_cons.mpr ⟨(cl_X2_narrowQuarters_2 _ (List.mem_of_getElem? (i := 8) rfl)), fun _ h => absurd h List.not_mem_nil⟩⟩⟩⟩) w)) w) ((cl_X2_narrowQuarters_4) w)) w) ((cl_X2_narrowQuarters_5) w)) w) ((cl_X2_narrowQuarters_6) w)) w) ((cl_X2_narrowQuarters_7) w)⟩) (by decide +kernel)
set_option maxRecDepth 20000 in
theorem gX2_narrowQuarters_X0_putQuarters : GoodIn wsX2_narrowQuarters (wsV RX2 34 RX0 yX0_putQuarters wsX0_putQuarters) := goodIn_app (goodIn_sub (List.forall_mem_cons.mpr ⟨(cl_X2_narrowQuarters_1 _ (List.mem_of_getElem? (i := 1) rfl)), List.forall_mem_cons.mpr ⟨(cl_X2_narrowQuarters_1 _ (List.mem_of_getElem? (i := 2) rfl)), List.forall_mem_cons.mpr ⟨(cl_X2_narrowQuarters_1 _ (List.mem_of_getElem? (i := 3) rfl)), List.forall_mem_cons.mpr ⟨(cl_X2_narrowQuarters_1 _ (List.mem_of_getElem? (i := 4) rfl)), fun _ h => absurd h List.not_mem_nil⟩⟩⟩⟩) (by decide +kernel)) ggX2_narrowQuarters_X0_putQuarters
noncomputable def dz_p13_24 : List (Nat × Instr × Nat) := [(0, (.aload_n 0, 1)), (1, (.getfield 25, 3)), (4, (.iload_n 1, 1)), (5, (.iload_n 2, 1)), (6, (.invokevirtual 34, 3)), (9, (.ireturn, 1))]
theorem dy_p13_24 : dz_ok cX2_narrowQuarters dz_p13_24 = true := by decide +kernel
theorem dX2_narrowQuarters_0 : decode cX2_narrowQuarters 0 = .ok (.aload_n 0, 1) := dz_at (i := 0) dy_p13_24 rfl
theorem dX2_narrowQuarters_1 : decode cX2_narrowQuarters 1 = .ok (.getfield 25, 3) := dz_at (i := 1) dy_p13_24 rfl
theorem dX2_narrowQuarters_4 : decode cX2_narrowQuarters 4 = .ok (.iload_n 1, 1) := dz_at (i := 2) dy_p13_24 rfl
theorem dX2_narrowQuarters_5 : decode cX2_narrowQuarters 5 = .ok (.iload_n 2, 1) := dz_at (i := 3) dy_p13_24 rfl
theorem dX2_narrowQuarters_6 : decode cX2_narrowQuarters 6 = .ok (.invokevirtual 34, 3) := dz_at (i := 4) dy_p13_24 rfl
theorem dX2_narrowQuarters_9 : decode cX2_narrowQuarters 9 = .ok (.ireturn, 1) := dz_at (i := 5) dy_p13_24 rfl
noncomputable def o_X2_narrowQuarters (a2 : Int32) (f2 : Nat → Int64) (p0 : Int32) (p1 : Int32) : Int32 × Int32 × Int32 × (Nat → Int64) :=
  if (o_X0_putQuarters false a2 f2 p0 p1).1 = 0 then (0, (o_X0_putQuarters false a2 f2 p0 p1).2.1, (o_X0_putQuarters false a2 f2 p0 p1).2.2.1, (o_X0_putQuarters false a2 f2 p0 p1).2.2.2)
  else ((o_X0_putQuarters false a2 f2 p0 p1).1, 0, a2, f2)
set_option maxHeartbeats 4000000 in
set_option maxRecDepth 100000 in
theorem k_X2_narrowQuarters (l : Launch) (hfl : l.flags = flags0) (dC : Nat → ClassId) (dI : Nat → Nat → Nat) (cy : ClassId) (h0 : Nat) (h1 : Nat) (hw1 : Nat) (hc1 : Nat) (hb1 : Nat) (h2 : Nat) (hw2 : Nat) (hc2 : Nat) (hb2 : Nat) (a1 : Int32) (r1 : Int32) (f1 : Nat → Int64) (g1 : Nat → Int64) (a2 : Int32) (r2 : Int32) (f2 : Nat → Int64) (g2 : Nat → Int64) (kn : Int32) (sz : Nat) (N : Nat) (p0 : Int32) (p1 : Int32) : vx_Met l yX2_narrowQuarters wsX2_narrowQuarters ({ frames := 8, cells := 2, slots := 12, locals := 142 }) (va_Pc [.ref h0, .int p0, .int p1] (xM (dC, dI) xCl [(h0, eE h1 h2 kn), (h1, eR hw1 hc1 hb1 a1 r1), (hw1, eW true), (hc1, eA cy f1), (hb1, eA cy g1), (h2, eR hw2 hc2 hb2 a2 r2), (hw2, eW false), (hc2, eA cy f2), (hb2, eA cy g2)] [(cy, .long)] sz N)) (va_Qi (fun (r : Int32) (_ : Unit) => (o_X2_narrowQuarters a2 f2 p0 p1).1 = 0 ∧ r = (o_X2_narrowQuarters a2 f2 p0 p1).2.1) (fun _ t => xW (dC, dI) xCl [(h0, eE h1 h2 kn), (h1, eR hw1 hc1 hb1 a1 r1), (hw1, eW true), (hc1, eA cy f1), (hb1, eA cy g1), (h2, eR hw2 hc2 hb2 (o_X2_narrowQuarters a2 f2 p0 p1).2.2.1 r2), (hw2, eW false), (hc2, eA cy (o_X2_narrowQuarters a2 f2 p0 p1).2.2.2), (hb2, eA cy g2)] (va_A [(h0, eE h1 h2 kn), (h1, eR hw1 hc1 hb1 a1 r1), (hw1, eW true), (hc1, eA cy f1), (hb1, eA cy g1), (h2, eR hw2 hc2 hb2 a2 r2), (hw2, eW false), (hc2, eA cy f2), (hb2, eA cy g2)] sz) t) (va_A [(h0, eE h1 h2 kn), (h1, eR hw1 hc1 hb1 a1 r1), (hw1, eW true), (hc1, eA cy f1), (hb1, eA cy g1), (h2, eR hw2 hc2 hb2 a2 r2), (hw2, eW false), (hc2, eA cy f2), (hb2, eA cy g2)] sz)) (vx_X (fun _ : Unit => ¬ (o_X2_narrowQuarters a2 f2 p0 p1).1 = 0) (fun E _ t => E = xE (o_X2_narrowQuarters a2 f2 p0 p1).1 ∧ xW (dC, dI) xCl [(h0, eE h1 h2 kn), (h1, eR hw1 hc1 hb1 a1 r1), (hw1, eW true), (hc1, eA cy f1), (hb1, eA cy g1), (h2, eR hw2 hc2 hb2 a2 r2), (hw2, eW false), (hc2, eA cy f2), (hb2, eA cy g2)] (va_A [(h0, eE h1 h2 kn), (h1, eR hw1 hc1 hb1 a1 r1), (hw1, eW true), (hc1, eA cy f1), (hb1, eA cy g1), (h2, eR hw2 hc2 hb2 a2 r2), (hw2, eW false), (hc2, eA cy f2), (hb2, eA cy g2)] sz) t) (va_A [(h0, eE h1 h2 kn), (h1, eR hw1 hc1 hb1 a1 r1), (hw1, eW true), (hc1, eA cy f1), (hb1, eA cy g1), (h2, eR hw2 hc2 hb2 a2 r2), (hw2, eW false), (hc2, eA cy f2), (hb2, eA cy g2)] sz)) 2 12 (va_A [(h0, eE h1 h2 kn), (h1, eR hw1 hc1 hb1 a1 r1), (hw1, eW true), (hc1, eA cy f1), (hb1, eA cy g1), (h2, eR hw2 hc2 hb2 a2 r2), (hw2, eW false), (hc2, eA cy f2), (hb2, eA cy g2)] sz) := by
  refine vx_ofW (cc := cX2_narrowQuarters) (maxL := 3) (ret := (some .int)) (by decide +kernel) rfl ?_
  intro p e s m args below meth c s₁ B hml hno hv
  obtain ⟨rfl, hsz, hP, hK, hD0, hN, hG⟩ := hv
  have hx := B.exec
  have hb := B.bytes
  have hr := B.returns
  have hts := atoms_spec (ws := wsX2_narrowQuarters) B.pre
  have hown : s.vm.findClass RX2 = some m.cls := findClass_of_methodNamed B.named
  have hlocks := B.notSynchronized
  subst hsz
  have hAN : ∀ q, va_A [(h0, eE h1 h2 kn), (h1, eR hw1 hc1 hb1 a1 r1), (hw1, eW true), (hc1, eA cy f1), (hb1, eA cy g1), (h2, eR hw2 hc2 hb2 a2 r2), (hw2, eW false), (hc2, eA cy f2), (hb2, eA cy g2)] s.heap.size q → N ≤ q := xA_N hD0 hN
  have hD := hD0.self (sz := s.heap.size)
  generalize hAe : va_A [(h0, eE h1 h2 kn), (h1, eR hw1 hc1 hb1 a1 r1), (hw1, eW true), (hc1, eA cy f1), (hb1, eA cy g1), (h2, eR hw2 hc2 hb2 a2 r2), (hw2, eW false), (hc2, eA cy f2), (hb2, eA cy g2)] s.heap.size = A at hD hAN ⊢
  have hA : ∀ q : Nat, s.heap.size ≤ q → A q := fun q h => by rw [← hAe]; exact Or.inr h
  have hS : va_S A s.heap s.heap [] := va_S.rf
  have hP : va_P (dC, dI) xCl [(h0, eE h1 h2 kn), (h1, eR hw1 hc1 hb1 a1 r1), (hw1, eW true), (hc1, eA cy f1), (hb1, eA cy g1), (h2, eR hw2 hc2 hb2 a2 r2), (hw2, eW false), (hc2, eA cy f2), (hb2, eA cy g2)] s.heap := hP
  have hl := lv_entry ([.ref h0, .int p0, .int p1]) (n := 3) (Nat.le_of_ble_eq_true rfl)
  rw [lg_entry_eq]
  generalize (lg_sl ([.ref h0, .int p0, .int p1]) ++ List.replicate (3 - (lg_sl ([.ref h0, .int p0, .int p1])).length) Slot.unset).toArray = ls at hl ⊢
  have hl : lv_has ls 3 [(0, .ref h0), (1, .int p0), (2, .int p1)] := hl
  refine lv_aload_n hx hb dX2_narrowQuarters_0 rfl (lv_at hl 0 rfl) ?_
  refine va_get (D := (dC, dI)) (ci := 4) (v := .ref h2) (C := RX2) (T := TX2) (N := 3) hx hb hts (by decide +kernel) hown hK hP 0 rfl rfl 1 (by decide +kernel) (hts (.fieldLink RX2 25 "Edgefloats" "narrow" "LEdgefloats$Row;") (by decide +kernel)) (fun _ h9 => h9) rfl dX2_narrowQuarters_1 ?_
  refine lv_iload_n hx hb dX2_narrowQuarters_4 rfl (lv_at hl 1 rfl) ?_
  refine lv_iload_n hx hb dX2_narrowQuarters_5 rfl (lv_at hl 2 rfl) ?_
  have hPc := hP.sub (ws' := [(h2, eR hw2 hc2 hb2 a2 r2), (hw2, eW false), (hc2, eA cy f2), (hb2, eA cy g2)]) [5, 6, 7, 8] rfl
  have hDc := hD.sub (ws' := [(h2, eR hw2 hc2 hb2 a2 r2), (hw2, eW false), (hc2, eA cy f2), (hb2, eA cy g2)]) [5, 6, 7, 8] (by decide +kernel) rfl
  have hKc := hK.sub (tys' := [(cy, .long)]) [0] rfl
  have hFc := va_free (wc := [(h2, eR hw2 hc2 hb2 a2 r2), (hw2, eW false), (hc2, eA cy f2), (hb2, eA cy g2)]) hD hS hA [5, 6, 7, 8] rfl
  refine vx_calli (vx_runV (As := [.int p0, .int p1]) (rest := []) ⟨hx, hb, hml, hown, hts⟩ (k_X0_putQuarters l hfl dC dI cy h2 hw2 hc2 hb2 false a2 r2 f2 g2 s.heap.size N p0 p1) (cwV 2 hts gX2_narrowQuarters_X0_putQuarters rfl rfl rfl (by decide +kernel) ⟨Nat.le_of_ble_eq_true rfl, Nat.le_of_ble_eq_true rfl⟩) (xM.preV hKc hPc hDc hAN (Nat.le_trans hN hS.1) (hG.kept hS hAN) (ci := 2) (q0 := 0) rfl rfl) rfl rfl hl.1 rfl (lv_room (Nat.le_of_ble_eq_true rfl)) dX2_narrowQuarters_6 ⟨Nat.le_of_ble_eq_true rfl, Nat.le_of_ble_eq_true rfl⟩) hS (fun q _ h => hFc q h) hFc (fun q _ h => hFc q h) (fun E ce q9 u9 t H locs ht hvm hpx hbx hz hk hS hce hcv hcl => ?_) (fun r_1 u t H locs ht hvm hw hB hz hk hS => ?_)
  · have c_2 : ¬ (o_X0_putQuarters false a2 f2 p0 p1).1 = 0 := hpx
    obtain ⟨hbe, hP1, hD1⟩ := hbx
    rw [ht] at hP1
    obtain ⟨hP, hD⟩ := va_join (wr := [(h0, eE h1 h2 kn), (h1, eR hw1 hc1 hb1 a1 r1), (hw1, eW true), (hc1, eA cy f1), (hb1, eA cy g1)]) (w1 := [(h2, eR hw2 hc2 hb2 a2 r2), (hw2, eW false), (hc2, eA cy f2), (hb2, eA cy g2)]) hP hD [5, 6, 7, 8] [0, 1, 2, 3, 4] rfl rfl (by decide +kernel) (by decide +kernel) hk hFc hP1 hD1
    have hP := hP.sub (ws' := [(h0, eE h1 h2 kn), (h1, eR hw1 hc1 hb1 a1 r1), (hw1, eW true), (hc1, eA cy f1), (hb1, eA cy g1), (h2, eR hw2 hc2 hb2 a2 r2), (hw2, eW false), (hc2, eA cy f2), (hb2, eA cy g2)]) [0, 1, 2, 3, 4, 5, 6, 7, 8] rfl
    have hD := hD.sub (ws' := [(h0, eE h1 h2 kn), (h1, eR hw1 hc1 hb1 a1 r1), (hw1, eW true), (hc1, eA cy f1), (hb1, eA cy g1), (h2, eR hw2 hc2 hb2 a2 r2), (hw2, eW false), (hc2, eA cy f2), (hb2, eA cy g2)]) [0, 1, 2, 3, 4, 5, 6, 7, 8] (by decide +kernel) rfl
    have he : o_X2_narrowQuarters a2 f2 p0 p1 = ((o_X0_putQuarters false a2 f2 p0 p1).1, 0, a2, f2) := by (rw [o_X2_narrowQuarters, if_neg c_2]) <;> rfl
    exact vx_out (fun x hx => (hno x hx).elim) hlocks hce hcv hcl (fun t ht hvm => ⟨(), by rw [he]; exact c_2, ⟨by rw [he]; exact hbe, by rw [ht]; exact hP, hD⟩, hS.F ht⟩) hS.2.2 (by omega) (by omega)
  · skip
    obtain ⟨c_3, hw⟩ := hw
    have c_3 : (o_X0_putQuarters false a2 f2 p0 p1).1 = 0 := c_3
    replace hw : r_1 = (o_X0_putQuarters false a2 f2 p0 p1).2.1 := hw
    subst r_1
    obtain ⟨hP1, hD1⟩ := hB
    rw [ht] at hP1
    obtain ⟨hP, hD⟩ := va_join (wr := [(h0, eE h1 h2 kn), (h1, eR hw1 hc1 hb1 a1 r1), (hw1, eW true), (hc1, eA cy f1), (hb1, eA cy g1)]) (w1 := [(h2, eR hw2 hc2 hb2 (o_X0_putQuarters false a2 f2 p0 p1).2.2.1 r2), (hw2, eW false), (hc2, eA cy (o_X0_putQuarters false a2 f2 p0 p1).2.2.2), (hb2, eA cy g2)]) hP hD [5, 6, 7, 8] [0, 1, 2, 3, 4] rfl rfl (by decide +kernel) (by decide +kernel) hk hFc hP1 hD1
    have hP := hP.sub (ws' := [(h0, eE h1 h2 kn), (h1, eR hw1 hc1 hb1 a1 r1), (hw1, eW true), (hc1, eA cy f1), (hb1, eA cy g1), (h2, eR hw2 hc2 hb2 (o_X0_putQuarters false a2 f2 p0 p1).2.2.1 r2), (hw2, eW false), (hc2, eA cy (o_X0_putQuarters false a2 f2 p0 p1).2.2.2), (hb2, eA cy g2)]) [0, 1, 2, 3, 4, 5, 6, 7, 8] rfl
    have hD := hD.sub (ws' := [(h0, eE h1 h2 kn), (h1, eR hw1 hc1 hb1 a1 r1), (hw1, eW true), (hc1, eA cy f1), (hb1, eA cy g1), (h2, eR hw2 hc2 hb2 (o_X0_putQuarters false a2 f2 p0 p1).2.2.1 r2), (hw2, eW false), (hc2, eA cy (o_X0_putQuarters false a2 f2 p0 p1).2.2.2), (hb2, eA cy g2)]) [0, 1, 2, 3, 4, 5, 6, 7, 8] (by decide +kernel) rfl
    have he : o_X2_narrowQuarters a2 f2 p0 p1 = (0, (o_X0_putQuarters false a2 f2 p0 p1).2.1, (o_X0_putQuarters false a2 f2 p0 p1).2.2.1, (o_X0_putQuarters false a2 f2 p0 p1).2.2.2) := by (rw [o_X2_narrowQuarters, if_pos c_3]) <;> rfl
    refine W.widen (k := 2) (n := 12) (by omega) (by omega) ?_
    refine vx_ret ?_
    exact W.iret (v := ((o_X0_putQuarters false a2 f2 p0 p1).2.1)) hx hb hr (fun t ht hW => ⟨⟨_, (), rfl, ⟨(by (rw [he]) <;> rfl), (by (rw [he]) <;> rfl)⟩, (by rw [he]; exact ⟨by rw [ht]; exact hP, hD⟩)⟩, hS.F ht⟩) hS.2.2 dX2_narrowQuarters_9
theorem cl_X2_narrowKnown_1 : ∀ w ∈ wsX2_narrowKnown_r1, w ∈ wsX2_narrowKnown := fun _ h => (List.mem_cons_of_mem _ (List.mem_append_left _ (List.mem_append_left _ (List.mem_append_left _ (List.mem_append_left _ (List.mem_append_left _ (List.mem_append_left _ h)))))))
theorem cl_X2_narrowKnown_2 : ∀ w ∈ wsX2_narrowKnown_r2, w ∈ wsX2_narrowKnown := fun _ h => (List.mem_cons_of_mem _ (List.mem_append_left _ (List.mem_append_left _ (List.mem_append_left _ (List.mem_append_left _ (List.mem_append_left _ (List.mem_append_right _ h)))))))
theorem cl_X2_narrowKnown_3 : ∀ w ∈ wsX20, w ∈ wsX2_narrowKnown := fun _ h => (List.mem_cons_of_mem _ (List.mem_append_left _ (List.mem_append_left _ (List.mem_append_left _ (List.mem_append_left _ (List.mem_append_right _ h))))))
theorem cl_X2_narrowKnown_4 : ∀ w ∈ wsX00, w ∈ wsX2_narrowKnown := fun _ h => (List.mem_cons_of_mem _ (List.mem_append_left _ (List.mem_append_left _ (List.mem_append_left _ (List.mem_append_right _ h)))))
theorem cl_X2_narrowKnown_5 : ∀ w ∈ wsX10, w ∈ wsX2_narrowKnown := fun _ h => (List.mem_cons_of_mem _ (List.mem_append_left _ (List.mem_append_left _ (List.mem_append_right _ h))))
theorem cl_X2_narrowKnown_6 : ∀ w ∈ (vx_atS RX2 152 "java/lang/IndexOutOfBoundsException" ["java/lang/RuntimeException", "java/lang/Exception"]).filter goodWord, w ∈ wsX2_narrowKnown := fun _ h => (List.mem_cons_of_mem _ (List.mem_append_left _ (List.mem_append_right _ h)))
theorem cl_X2_narrowKnown_7 : ∀ w ∈ (vx_atS RX2 159 "java/lang/IllegalArgumentException" ["java/lang/RuntimeException", "java/lang/Exception"]).filter goodWord, w ∈ wsX2_narrowKnown := fun _ h => (List.mem_cons_of_mem _ (List.mem_append_right _ h))
set_option maxRecDepth 20000 in
theorem ggX2_narrowKnown_X0_putKnown : GoodIn wsX2_narrowKnown wsX0_putKnown := goodIn_sub (List.forall_mem_cons.mpr ⟨(cl_X2_narrowKnown_1 _ (List.mem_of_getElem? (i := 5) rfl)), fun w h => (List.mem_append.mp h).elim ((fun w h => (List.mem_append.mp h).elim ((fun w h => (List.mem_append.mp h).elim ((fun w h => (List.mem_append.mp h).elim ((fun w h => (List.mem_append.mp h).elim ((List.forall_mem_cons.mpr ⟨(cl_X2_narrowKnown_1 _ (List.mem_of_getElem? (i := 6) rfl)), List.forall_mem_cons.mpr ⟨(cl_X2_narrowKnown_1 _ (List.mem_of_getElem? (i := 7) rfl)), List.forall_mem_cons.mpr ⟨(cl_X2_narrowKnown_1 _ (List.mem_of_getElem? (i := 8) rfl)), List.forall_mem_cons.mpr ⟨(cl_X2_narrowKnown_1 _ (List.mem_of_getElem? (i := 9) rfl)), List.forall_mem_cons.mpr ⟨(cl_X2_narrowKnown_1 _ (List.mem_of_getElem? (i := 10) rfl)), List.forall_mem_cons.mpr ⟨(cl_X2_narrowKnown_1 _ (List.mem_of_getElem? (i := 11) rfl)), List.forall_mem_cons.mpr ⟨(cl_X2_narrowKnown_1 _ (List.mem_of_getElem? (i := 12) rfl)), List.forall_mem_cons.mpr ⟨(cl_X2_narrowKnown_1 _ (List.mem_of_getElem? (i := 13) rfl)), List.forall_mem_cons.mpr ⟨(cl_X2_narrowKnown_1 _ (List.mem_of_getElem? (i := 14) rfl)), List.forall_mem_cons.mpr ⟨(cl_X2_narrowKnown_1 _ (List.mem_of_getElem? (i := 15) rfl)), List.forall_mem_cons.mpr ⟨(cl_X2_narrowKnown_1 _ (List.mem_of_getElem? (i := 16) rfl)), List.forall_mem_cons.mpr ⟨(cl_X2_narrowKnown_1 _ (List.mem_of_getElem? (i := 17) rfl)), List.forall_mem_cons.mpr ⟨(cl_X2_narrowKnown_1 _ (List.mem_of_getElem? (i := 18) rfl)), List.forall_mem_cons.mpr ⟨(cl_X2_narrowKnown_1 _ (List.mem_of_getElem? (i := 19) rfl)), List.forall_mem_cons.mpr ⟨(cl_X2_narrowKnown_1 _ (List.mem_of_getElem? (i := 20) rfl)), List.forall_mem_cons.mpr ⟨(cl_X2_narrowKnown_1 _ (List.mem_of_getElem? (i := 21) rfl)), List.forall_mem_cons.mpr ⟨(cl_X2_narrowKnown_1 _ (List.mem_of_getElem? (i := 22) rfl)), List.forall_mem_cons.mpr ⟨(cl_X2_narrowKnown_1 _ (List.mem_of_getElem? (i := 23) rfl)), List.forall_mem_cons.mpr ⟨(cl_X2_narrowKnown_2 _ (List.mem_of_getElem? (i := 0) rfl)), List.forall_mem_cons.mpr ⟨(cl_X2_narrowKnown_2 _ (List.mem_of_getElem? (i := 1) rfl)), List.forall_mem_cons.mpr ⟨(cl_X2_narrowKnown_2 _ (List.mem_of_getElem? (i := 2) rfl)), List.forall_mem_cons.mpr ⟨(cl_X2_narrowKnown_1 _ (List.mem_of_getElem? (i := 4) rfl)), List.forall_mem_cons.mpr ⟨(cl_X2_narrowKnown_2 _ (List.mem_of_getElem? (i := 3) rfl)), List.forall_mem_cons.mpr ⟨(cl_X2_narrowKnown_2 _ (List.mem_of_getElem? (i := 4) rfl)), fun _ h => absurd h List.not_mem_nil⟩⟩⟩⟩⟩⟩⟩⟩⟩⟩⟩⟩⟩⟩⟩⟩⟩⟩⟩⟩⟩⟩⟩⟩) w) ((List.forall_mem_cons.mpr ⟨(cl_X2_narrowKnown_2 _ (List.mem_of_getElem? (i := 5) rfl)), fun _ h => absurd h List.not_mem_nil⟩) w)) w) ((cl_X2_narrowKnown_4) w)) w) ((cl_X2_narrowKnown_5) w)) w) ((cl_X2_narrowKnown_6) w)) w) ((cl_X2_narrowKnown_7) w)⟩) (by decide +kernel)
set_option maxRecDepth 20000 in
theorem gX2_narrowKnown_X0_putKnown : GoodIn wsX2_narrowKnown (wsV RX2 38 RX0 yX0_putKnown wsX0_putKnown) := goodIn_app (goodIn_sub (List.forall_mem_cons.mpr ⟨(cl_X2_narrowKnown_1 _ (List.mem_of_getElem? (i := 1) rfl)), List.forall_mem_cons.mpr ⟨(cl_X2_narrowKnown_1 _ (List.mem_of_getElem? (i := 2) rfl)), List.forall_mem_cons.mpr ⟨(cl_X2_narrowKnown_1 _ (List.mem_of_getElem? (i := 3) rfl)), List.forall_mem_cons.mpr ⟨(cl_X2_narrowKnown_1 _ (List.mem_of_getElem? (i := 4) rfl)), fun _ h => absurd h List.not_mem_nil⟩⟩⟩⟩) (by decide +kernel)) ggX2_narrowKnown_X0_putKnown
noncomputable def dz_p13_25 : List (Nat × Instr × Nat) := [(0, (.aload_n 0, 1)), (1, (.getfield 25, 3)), (4, (.iload_n 1, 1)), (5, (.iload_n 2, 1)), (6, (.invokevirtual 38, 3)), (9, (.ireturn, 1))]
theorem dy_p13_25 : dz_ok cX2_narrowKnown dz_p13_25 = true := by decide +kernel
theorem dX2_narrowKnown_0 : decode cX2_narrowKnown 0 = .ok (.aload_n 0, 1) := dz_at (i := 0) dy_p13_25 rfl
theorem dX2_narrowKnown_1 : decode cX2_narrowKnown 1 = .ok (.getfield 25, 3) := dz_at (i := 1) dy_p13_25 rfl
theorem dX2_narrowKnown_4 : decode cX2_narrowKnown 4 = .ok (.iload_n 1, 1) := dz_at (i := 2) dy_p13_25 rfl
theorem dX2_narrowKnown_5 : decode cX2_narrowKnown 5 = .ok (.iload_n 2, 1) := dz_at (i := 3) dy_p13_25 rfl
theorem dX2_narrowKnown_6 : decode cX2_narrowKnown 6 = .ok (.invokevirtual 38, 3) := dz_at (i := 4) dy_p13_25 rfl
theorem dX2_narrowKnown_9 : decode cX2_narrowKnown 9 = .ok (.ireturn, 1) := dz_at (i := 5) dy_p13_25 rfl
noncomputable def o_X2_narrowKnown (a2 : Int32) (f2 : Nat → Int64) (p0 : Int32) (p1 : Int32) : Int32 × Int32 × Int32 × (Nat → Int64) :=
  if (o_X0_putKnown false a2 f2 p0 p1).1 = 0 then (0, (o_X0_putKnown false a2 f2 p0 p1).2.1, (o_X0_putKnown false a2 f2 p0 p1).2.2.1, (o_X0_putKnown false a2 f2 p0 p1).2.2.2)
  else ((o_X0_putKnown false a2 f2 p0 p1).1, 0, a2, f2)
set_option maxHeartbeats 4000000 in
set_option maxRecDepth 100000 in
theorem k_X2_narrowKnown (l : Launch) (hfl : l.flags = flags0) (dC : Nat → ClassId) (dI : Nat → Nat → Nat) (cy : ClassId) (h0 : Nat) (h1 : Nat) (hw1 : Nat) (hc1 : Nat) (hb1 : Nat) (h2 : Nat) (hw2 : Nat) (hc2 : Nat) (hb2 : Nat) (a1 : Int32) (r1 : Int32) (f1 : Nat → Int64) (g1 : Nat → Int64) (a2 : Int32) (r2 : Int32) (f2 : Nat → Int64) (g2 : Nat → Int64) (kn : Int32) (sz : Nat) (N : Nat) (p0 : Int32) (p1 : Int32) : vx_Met l yX2_narrowKnown wsX2_narrowKnown ({ frames := 8, cells := 2, slots := 12, locals := 143 }) (va_Pc [.ref h0, .int p0, .int p1] (xM (dC, dI) xCl [(h0, eE h1 h2 kn), (h1, eR hw1 hc1 hb1 a1 r1), (hw1, eW true), (hc1, eA cy f1), (hb1, eA cy g1), (h2, eR hw2 hc2 hb2 a2 r2), (hw2, eW false), (hc2, eA cy f2), (hb2, eA cy g2)] [(cy, .long)] sz N)) (va_Qi (fun (r : Int32) (_ : Unit) => (o_X2_narrowKnown a2 f2 p0 p1).1 = 0 ∧ r = (o_X2_narrowKnown a2 f2 p0 p1).2.1) (fun _ t => xW (dC, dI) xCl [(h0, eE h1 h2 kn), (h1, eR hw1 hc1 hb1 a1 r1), (hw1, eW true), (hc1, eA cy f1), (hb1, eA cy g1), (h2, eR hw2 hc2 hb2 (o_X2_narrowKnown a2 f2 p0 p1).2.2.1 r2), (hw2, eW false), (hc2, eA cy (o_X2_narrowKnown a2 f2 p0 p1).2.2.2), (hb2, eA cy g2)] (va_A [(h0, eE h1 h2 kn), (h1, eR hw1 hc1 hb1 a1 r1), (hw1, eW true), (hc1, eA cy f1), (hb1, eA cy g1), (h2, eR hw2 hc2 hb2 a2 r2), (hw2, eW false), (hc2, eA cy f2), (hb2, eA cy g2)] sz) t) (va_A [(h0, eE h1 h2 kn), (h1, eR hw1 hc1 hb1 a1 r1), (hw1, eW true), (hc1, eA cy f1), (hb1, eA cy g1), (h2, eR hw2 hc2 hb2 a2 r2), (hw2, eW false), (hc2, eA cy f2), (hb2, eA cy g2)] sz)) (vx_X (fun _ : Unit => ¬ (o_X2_narrowKnown a2 f2 p0 p1).1 = 0) (fun E _ t => E = xE (o_X2_narrowKnown a2 f2 p0 p1).1 ∧ xW (dC, dI) xCl [(h0, eE h1 h2 kn), (h1, eR hw1 hc1 hb1 a1 r1), (hw1, eW true), (hc1, eA cy f1), (hb1, eA cy g1), (h2, eR hw2 hc2 hb2 a2 r2), (hw2, eW false), (hc2, eA cy f2), (hb2, eA cy g2)] (va_A [(h0, eE h1 h2 kn), (h1, eR hw1 hc1 hb1 a1 r1), (hw1, eW true), (hc1, eA cy f1), (hb1, eA cy g1), (h2, eR hw2 hc2 hb2 a2 r2), (hw2, eW false), (hc2, eA cy f2), (hb2, eA cy g2)] sz) t) (va_A [(h0, eE h1 h2 kn), (h1, eR hw1 hc1 hb1 a1 r1), (hw1, eW true), (hc1, eA cy f1), (hb1, eA cy g1), (h2, eR hw2 hc2 hb2 a2 r2), (hw2, eW false), (hc2, eA cy f2), (hb2, eA cy g2)] sz)) 2 12 (va_A [(h0, eE h1 h2 kn), (h1, eR hw1 hc1 hb1 a1 r1), (hw1, eW true), (hc1, eA cy f1), (hb1, eA cy g1), (h2, eR hw2 hc2 hb2 a2 r2), (hw2, eW false), (hc2, eA cy f2), (hb2, eA cy g2)] sz) := by
  refine vx_ofW (cc := cX2_narrowKnown) (maxL := 3) (ret := (some .int)) (by decide +kernel) rfl ?_
  intro p e s m args below meth c s₁ B hml hno hv
  obtain ⟨rfl, hsz, hP, hK, hD0, hN, hG⟩ := hv
  have hx := B.exec
  have hb := B.bytes
  have hr := B.returns
  have hts := atoms_spec (ws := wsX2_narrowKnown) B.pre
  have hown : s.vm.findClass RX2 = some m.cls := findClass_of_methodNamed B.named
  have hlocks := B.notSynchronized
  subst hsz
  have hAN : ∀ q, va_A [(h0, eE h1 h2 kn), (h1, eR hw1 hc1 hb1 a1 r1), (hw1, eW true), (hc1, eA cy f1), (hb1, eA cy g1), (h2, eR hw2 hc2 hb2 a2 r2), (hw2, eW false), (hc2, eA cy f2), (hb2, eA cy g2)] s.heap.size q → N ≤ q := xA_N hD0 hN
  have hD := hD0.self (sz := s.heap.size)
  generalize hAe : va_A [(h0, eE h1 h2 kn), (h1, eR hw1 hc1 hb1 a1 r1), (hw1, eW true), (hc1, eA cy f1), (hb1, eA cy g1), (h2, eR hw2 hc2 hb2 a2 r2), (hw2, eW false), (hc2, eA cy f2), (hb2, eA cy g2)] s.heap.size = A at hD hAN ⊢
  have hA : ∀ q : Nat, s.heap.size ≤ q → A q := fun q h => by rw [← hAe]; exact Or.inr h
  have hS : va_S A s.heap s.heap [] := va_S.rf
  have hP : va_P (dC, dI) xCl [(h0, eE h1 h2 kn), (h1, eR hw1 hc1 hb1 a1 r1), (hw1, eW true), (hc1, eA cy f1), (hb1, eA cy g1), (h2, eR hw2 hc2 hb2 a2 r2), (hw2, eW false), (hc2, eA cy f2), (hb2, eA cy g2)] s.heap := hP
  have hl := lv_entry ([.ref h0, .int p0, .int p1]) (n := 3) (Nat.le_of_ble_eq_true rfl)
  rw [lg_entry_eq]
  generalize (lg_sl ([.ref h0, .int p0, .int p1]) ++ List.replicate (3 - (lg_sl ([.ref h0, .int p0, .int p1])).length) Slot.unset).toArray = ls at hl ⊢
  have hl : lv_has ls 3 [(0, .ref h0), (1, .int p0), (2, .int p1)] := hl
  refine lv_aload_n hx hb dX2_narrowKnown_0 rfl (lv_at hl 0 rfl) ?_
  refine va_get (D := (dC, dI)) (ci := 4) (v := .ref h2) (C := RX2) (T := TX2) (N := 3) hx hb hts (by decide +kernel) hown hK hP 0 rfl rfl 1 (by decide +kernel) (hts (.fieldLink RX2 25 "Edgefloats" "narrow" "LEdgefloats$Row;") (by decide +kernel)) (fun _ h9 => h9) rfl dX2_narrowKnown_1 ?_
  refine lv_iload_n hx hb dX2_narrowKnown_4 rfl (lv_at hl 1 rfl) ?_
  refine lv_iload_n hx hb dX2_narrowKnown_5 rfl (lv_at hl 2 rfl) ?_
  have hPc := hP.sub (ws' := [(h2, eR hw2 hc2 hb2 a2 r2), (hw2, eW false), (hc2, eA cy f2), (hb2, eA cy g2)]) [5, 6, 7, 8] rfl
  have hDc := hD.sub (ws' := [(h2, eR hw2 hc2 hb2 a2 r2), (hw2, eW false), (hc2, eA cy f2), (hb2, eA cy g2)]) [5, 6, 7, 8] (by decide +kernel) rfl
  have hKc := hK.sub (tys' := [(cy, .long)]) [0] rfl
  have hFc := va_free (wc := [(h2, eR hw2 hc2 hb2 a2 r2), (hw2, eW false), (hc2, eA cy f2), (hb2, eA cy g2)]) hD hS hA [5, 6, 7, 8] rfl
  refine vx_calli (vx_runV (As := [.int p0, .int p1]) (rest := []) ⟨hx, hb, hml, hown, hts⟩ (k_X0_putKnown l hfl dC dI cy h2 hw2 hc2 hb2 false a2 r2 f2 g2 s.heap.size N p0 p1) (cwV 2 hts gX2_narrowKnown_X0_putKnown rfl rfl rfl (by decide +kernel) ⟨Nat.le_of_ble_eq_true rfl, Nat.le_of_ble_eq_true rfl⟩) (xM.preV hKc hPc hDc hAN (Nat.le_trans hN hS.1) (hG.kept hS hAN) (ci := 2) (q0 := 0) rfl rfl) rfl rfl hl.1 rfl (lv_room (Nat.le_of_ble_eq_true rfl)) dX2_narrowKnown_6 ⟨Nat.le_of_ble_eq_true rfl, Nat.le_of_ble_eq_true rfl⟩) hS (fun q _ h => hFc q h) hFc (fun q _ h => hFc q h) (fun E ce q9 u9 t H locs ht hvm hpx hbx hz hk hS hce hcv hcl => ?_) (fun r_1 u t H locs ht hvm hw hB hz hk hS => ?_)
  · have c_2 : ¬ (o_X0_putKnown false a2 f2 p0 p1).1 = 0 := hpx
    obtain ⟨hbe, hP1, hD1⟩ := hbx
    rw [ht] at hP1
    obtain ⟨hP, hD⟩ := va_join (wr := [(h0, eE h1 h2 kn), (h1, eR hw1 hc1 hb1 a1 r1), (hw1, eW true), (hc1, eA cy f1), (hb1, eA cy g1)]) (w1 := [(h2, eR hw2 hc2 hb2 a2 r2), (hw2, eW false), (hc2, eA cy f2), (hb2, eA cy g2)]) hP hD [5, 6, 7, 8] [0, 1, 2, 3, 4] rfl rfl (by decide +kernel) (by decide +kernel) hk hFc hP1 hD1
    have hP := hP.sub (ws' := [(h0, eE h1 h2 kn), (h1, eR hw1 hc1 hb1 a1 r1), (hw1, eW true), (hc1, eA cy f1), (hb1, eA cy g1), (h2, eR hw2 hc2 hb2 a2 r2), (hw2, eW false), (hc2, eA cy f2), (hb2, eA cy g2)]) [0, 1, 2, 3, 4, 5, 6, 7, 8] rfl
    have hD := hD.sub (ws' := [(h0, eE h1 h2 kn), (h1, eR hw1 hc1 hb1 a1 r1), (hw1, eW true), (hc1, eA cy f1), (hb1, eA cy g1), (h2, eR hw2 hc2 hb2 a2 r2), (hw2, eW false), (hc2, eA cy f2), (hb2, eA cy g2)]) [0, 1, 2, 3, 4, 5, 6, 7, 8] (by decide +kernel) rfl
    have he : o_X2_narrowKnown a2 f2 p0 p1 = ((o_X0_putKnown false a2 f2 p0 p1).1, 0, a2, f2) := by (rw [o_X2_narrowKnown, if_neg c_2]) <;> rfl
    exact vx_out (fun x hx => (hno x hx).elim) hlocks hce hcv hcl (fun t ht hvm => ⟨(), by rw [he]; exact c_2, ⟨by rw [he]; exact hbe, by rw [ht]; exact hP, hD⟩, hS.F ht⟩) hS.2.2 (by omega) (by omega)
  · skip
    obtain ⟨c_3, hw⟩ := hw
    have c_3 : (o_X0_putKnown false a2 f2 p0 p1).1 = 0 := c_3
    replace hw : r_1 = (o_X0_putKnown false a2 f2 p0 p1).2.1 := hw
    subst r_1
    obtain ⟨hP1, hD1⟩ := hB
    rw [ht] at hP1
    obtain ⟨hP, hD⟩ := va_join (wr := [(h0, eE h1 h2 kn), (h1, eR hw1 hc1 hb1 a1 r1), (hw1, eW true), (hc1, eA cy f1), (hb1, eA cy g1)]) (w1 := [(h2, eR hw2 hc2 hb2 (o_X0_putKnown false a2 f2 p0 p1).2.2.1 r2), (hw2, eW false), (hc2, eA cy (o_X0_putKnown false a2 f2 p0 p1).2.2.2), (hb2, eA cy g2)]) hP hD [5, 6, 7, 8] [0, 1, 2, 3, 4] rfl rfl (by decide +kernel) (by decide +kernel) hk hFc hP1 hD1
    have hP := hP.sub (ws' := [(h0, eE h1 h2 kn), (h1, eR hw1 hc1 hb1 a1 r1), (hw1, eW true), (hc1, eA cy f1), (hb1, eA cy g1), (h2, eR hw2 hc2 hb2 (o_X0_putKnown false a2 f2 p0 p1).2.2.1 r2), (hw2, eW false), (hc2, eA cy (o_X0_putKnown false a2 f2 p0 p1).2.2.2), (hb2, eA cy g2)]) [0, 1, 2, 3, 4, 5, 6, 7, 8] rfl
    have hD := hD.sub (ws' := [(h0, eE h1 h2 kn), (h1, eR hw1 hc1 hb1 a1 r1), (hw1, eW true), (hc1, eA cy f1), (hb1, eA cy g1), (h2, eR hw2 hc2 hb2 (o_X0_putKnown false a2 f2 p0 p1).2.2.1 r2), (hw2, eW false), (hc2, eA cy (o_X0_putKnown false a2 f2 p0 p1).2.2.2), (hb2, eA cy g2)]) [0, 1, 2, 3, 4, 5, 6, 7, 8] (by decide +kernel) rfl
    have he : o_X2_narrowKnown a2 f2 p0 p1 = (0, (o_X0_putKnown false a2 f2 p0 p1).2.1, (o_X0_putKnown false a2 f2 p0 p1).2.2.1, (o_X0_putKnown false a2 f2 p0 p1).2.2.2) := by (rw [o_X2_narrowKnown, if_pos c_3]) <;> rfl
    refine W.widen (k := 2) (n := 12) (by omega) (by omega) ?_
    refine vx_ret ?_
    exact W.iret (v := ((o_X0_putKnown false a2 f2 p0 p1).2.1)) hx hb hr (fun t ht hW => ⟨⟨_, (), rfl, ⟨(by (rw [he]) <;> rfl), (by (rw [he]) <;> rfl)⟩, (by rw [he]; exact ⟨by rw [ht]; exact hP, hD⟩)⟩, hS.F ht⟩) hS.2.2 dX2_narrowKnown_9
theorem cl_X2_narrowCopy_1 : ∀ w ∈ [.fieldLink RX2 25 "Edgefloats" "narrow" "LEdgefloats$Row;", .methodLink RX2 41 yX0_copy, .instanceMethod yX0_copy, .selects RX0 yX0_copy yX0_copy, .initialized RX0, .code yX0_copy cX0_copy 3 (some .int), .fieldLink RX0 15 "Edgefloats$Row" "cells" "[J", .static yX2_checkCell, .initialized RX2, .code yX2_checkCell cX2_checkCell 1 none, .classLink RX2 148 "java/lang/IndexOutOfBoundsException", .initialized "java/lang/IndexOutOfBoundsException", .methodLink RX0 36 yX0_place, .instanceMethod yX0_place, .selects RX0 yX0_place yX0_place, .code yX0_place cX0_place 5 (some .int), .fieldLink RX0 80 "Edgefloats$Row" "acts" "I"], w ∈ wsX2_narrowCopy := fun _ h => (List.mem_cons_of_mem _ (List.mem_append_left _ (List.mem_append_left _ (List.mem_append_left _ h))))
theorem cl_X2_narrowCopy_2 : ∀ w ∈ wsX20, w ∈ wsX2_narrowCopy := fun _ h => (List.mem_cons_of_mem _ (List.mem_append_left _ (List.mem_append_left _ (List.mem_append_right _ h))))
theorem cl_X2_narrowCopy_3 : ∀ w ∈ wsX00, w ∈ wsX2_narrowCopy := fun _ h => (List.mem_cons_of_mem _ (List.mem_append_left _ (List.mem_append_right _ h)))
theorem cl_X2_narrowCopy_4 : ∀ w ∈ (vx_atS RX2 152 "java/lang/IndexOutOfBoundsException" ["java/lang/RuntimeException", "java/lang/Exception"]).filter goodWord, w ∈ wsX2_narrowCopy := fun _ h => (List.mem_cons_of_mem _ (List.mem_append_right _ h))
set_option maxRecDepth 20000 in
theorem ggX2_narrowCopy_X0_copy : GoodIn wsX2_narrowCopy wsX0_copy := goodIn_sub (List.forall_mem_cons.mpr ⟨(cl_X2_narrowCopy_1 _ (List.mem_of_getElem? (i := 5) rfl)), fun w h => (List.mem_append.mp h).elim ((fun w h => (List.mem_append.mp h).elim ((List.forall_mem_cons.mpr ⟨(cl_X2_narrowCopy_1 _ (List.mem_of_getElem? (i := 6) rfl)), List.forall_mem_cons.mpr ⟨(cl_X2_narrowCopy_1 _ (List.mem_of_getElem? (i := 7) rfl)), List.forall_mem_cons.mpr ⟨(cl_X2_narrowCopy_1 _ (List.mem_of_getElem? (i := 8) rfl)), List.forall_mem_cons.mpr ⟨(cl_X2_narrowCopy_1 _ (List.mem_of_getElem? (i := 9) rfl)), List.forall_mem_cons.mpr ⟨(cl_X2_narrowCopy_1 _ (List.mem_of_getElem? (i := 10) rfl)), List.forall_mem_cons.mpr ⟨(cl_X2_narrowCopy_1 _ (List.mem_of_getElem? (i := 11) rfl)), List.forall_mem_cons.mpr ⟨(cl_X2_narrowCopy_1 _ (List.mem_of_getElem? (i := 12) rfl)), List.forall_mem_cons.mpr ⟨(cl_X2_narrowCopy_1 _ (List.mem_of_getElem? (i := 13) rfl)), List.forall_mem_cons.mpr ⟨(cl_X2_narrowCopy_1 _ (List.mem_of_getElem? (i := 14) rfl)), List.forall_mem_cons.mpr ⟨(cl_X2_narrowCopy_1 _ (List.mem_of_getElem? (i := 4) rfl)), List.forall_mem_cons.mpr ⟨(cl_X2_narrowCopy_1 _ (List.mem_of_getElem? (i := 15) rfl)), List.forall_mem_cons.mpr ⟨(cl_X2_narrowCopy_1 _ (List.mem_of_getElem? (i := 16) rfl)), fun _ h => absurd h List.not_mem_nil⟩⟩⟩⟩⟩⟩⟩⟩⟩⟩⟩⟩) w) ((cl_X2_narrowCopy_3) w)) w) ((cl_X2_narrowCopy_4) w)⟩) (by decide +kernel)
set_option maxRecDepth 20000 in
theorem gX2_narrowCopy_X0_copy : GoodIn wsX2_narrowCopy (wsV RX2 41 RX0 yX0_copy wsX0_copy) := goodIn_app (goodIn_sub (List.forall_mem_cons.mpr ⟨(cl_X2_narrowCopy_1 _ (List.mem_of_getElem? (i := 1) rfl)), List.forall_mem_cons.mpr ⟨(cl_X2_narrowCopy_1 _ (List.mem_of_getElem? (i := 2) rfl)), List.forall_mem_cons.mpr ⟨(cl_X2_narrowCopy_1 _ (List.mem_of_getElem? (i := 3) rfl)), List.forall_mem_cons.mpr ⟨(cl_X2_narrowCopy_1 _ (List.mem_of_getElem? (i := 4) rfl)), fun _ h => absurd h List.not_mem_nil⟩⟩⟩⟩) (by decide +kernel)) ggX2_narrowCopy_X0_copy
noncomputable def dz_p13_26 : List (Nat × Instr × Nat) := [(0, (.aload_n 0, 1)), (1, (.getfield 25, 3)), (4, (.iload_n 1, 1)), (5, (.iload_n 2, 1)), (6, (.invokevirtual 41, 3)), (9, (.ireturn, 1))]
theorem dy_p13_26 : dz_ok cX2_narrowCopy dz_p13_26 = true := by decide +kernel
theorem dX2_narrowCopy_0 : decode cX2_narrowCopy 0 = .ok (.aload_n 0, 1) := dz_at (i := 0) dy_p13_26 rfl
theorem dX2_narrowCopy_1 : decode cX2_narrowCopy 1 = .ok (.getfield 25, 3) := dz_at (i := 1) dy_p13_26 rfl
theorem dX2_narrowCopy_4 : decode cX2_narrowCopy 4 = .ok (.iload_n 1, 1) := dz_at (i := 2) dy_p13_26 rfl
theorem dX2_narrowCopy_5 : decode cX2_narrowCopy 5 = .ok (.iload_n 2, 1) := dz_at (i := 3) dy_p13_26 rfl
theorem dX2_narrowCopy_6 : decode cX2_narrowCopy 6 = .ok (.invokevirtual 41, 3) := dz_at (i := 4) dy_p13_26 rfl
theorem dX2_narrowCopy_9 : decode cX2_narrowCopy 9 = .ok (.ireturn, 1) := dz_at (i := 5) dy_p13_26 rfl
noncomputable def o_X2_narrowCopy (a2 : Int32) (f2 : Nat → Int64) (p0 : Int32) (p1 : Int32) : Int32 × Int32 × Int32 × (Nat → Int64) :=
  if (o_X0_copy a2 f2 p0 p1).1 = 0 then (0, (o_X0_copy a2 f2 p0 p1).2.1, (o_X0_copy a2 f2 p0 p1).2.2.1, (o_X0_copy a2 f2 p0 p1).2.2.2)
  else ((o_X0_copy a2 f2 p0 p1).1, 0, a2, f2)
set_option maxHeartbeats 4000000 in
set_option maxRecDepth 100000 in
theorem k_X2_narrowCopy (l : Launch) (hfl : l.flags = flags0) (dC : Nat → ClassId) (dI : Nat → Nat → Nat) (cy : ClassId) (h0 : Nat) (h1 : Nat) (hw1 : Nat) (hc1 : Nat) (hb1 : Nat) (h2 : Nat) (hw2 : Nat) (hc2 : Nat) (hb2 : Nat) (a1 : Int32) (r1 : Int32) (f1 : Nat → Int64) (g1 : Nat → Int64) (a2 : Int32) (r2 : Int32) (f2 : Nat → Int64) (g2 : Nat → Int64) (kn : Int32) (sz : Nat) (N : Nat) (p0 : Int32) (p1 : Int32) : vx_Met l yX2_narrowCopy wsX2_narrowCopy ({ frames := 8, cells := 2, slots := 12, locals := 142 }) (va_Pc [.ref h0, .int p0, .int p1] (xM (dC, dI) xCl [(h0, eE h1 h2 kn), (h1, eR hw1 hc1 hb1 a1 r1), (hw1, eW true), (hc1, eA cy f1), (hb1, eA cy g1), (h2, eR hw2 hc2 hb2 a2 r2), (hw2, eW false), (hc2, eA cy f2), (hb2, eA cy g2)] [(cy, .long)] sz N)) (va_Qi (fun (r : Int32) (_ : Unit) => (o_X2_narrowCopy a2 f2 p0 p1).1 = 0 ∧ r = (o_X2_narrowCopy a2 f2 p0 p1).2.1) (fun _ t => xW (dC, dI) xCl [(h0, eE h1 h2 kn), (h1, eR hw1 hc1 hb1 a1 r1), (hw1, eW true), (hc1, eA cy f1), (hb1, eA cy g1), (h2, eR hw2 hc2 hb2 (o_X2_narrowCopy a2 f2 p0 p1).2.2.1 r2), (hw2, eW false), (hc2, eA cy (o_X2_narrowCopy a2 f2 p0 p1).2.2.2), (hb2, eA cy g2)] (va_A [(h0, eE h1 h2 kn), (h1, eR hw1 hc1 hb1 a1 r1), (hw1, eW true), (hc1, eA cy f1), (hb1, eA cy g1), (h2, eR hw2 hc2 hb2 a2 r2), (hw2, eW false), (hc2, eA cy f2), (hb2, eA cy g2)] sz) t) (va_A [(h0, eE h1 h2 kn), (h1, eR hw1 hc1 hb1 a1 r1), (hw1, eW true), (hc1, eA cy f1), (hb1, eA cy g1), (h2, eR hw2 hc2 hb2 a2 r2), (hw2, eW false), (hc2, eA cy f2), (hb2, eA cy g2)] sz)) (vx_X (fun _ : Unit => ¬ (o_X2_narrowCopy a2 f2 p0 p1).1 = 0) (fun E _ t => E = xE (o_X2_narrowCopy a2 f2 p0 p1).1 ∧ xW (dC, dI) xCl [(h0, eE h1 h2 kn), (h1, eR hw1 hc1 hb1 a1 r1), (hw1, eW true), (hc1, eA cy f1), (hb1, eA cy g1), (h2, eR hw2 hc2 hb2 a2 r2), (hw2, eW false), (hc2, eA cy f2), (hb2, eA cy g2)] (va_A [(h0, eE h1 h2 kn), (h1, eR hw1 hc1 hb1 a1 r1), (hw1, eW true), (hc1, eA cy f1), (hb1, eA cy g1), (h2, eR hw2 hc2 hb2 a2 r2), (hw2, eW false), (hc2, eA cy f2), (hb2, eA cy g2)] sz) t) (va_A [(h0, eE h1 h2 kn), (h1, eR hw1 hc1 hb1 a1 r1), (hw1, eW true), (hc1, eA cy f1), (hb1, eA cy g1), (h2, eR hw2 hc2 hb2 a2 r2), (hw2, eW false), (hc2, eA cy f2), (hb2, eA cy g2)] sz)) 2 12 (va_A [(h0, eE h1 h2 kn), (h1, eR hw1 hc1 hb1 a1 r1), (hw1, eW true), (hc1, eA cy f1), (hb1, eA cy g1), (h2, eR hw2 hc2 hb2 a2 r2), (hw2, eW false), (hc2, eA cy f2), (hb2, eA cy g2)] sz) := by
  refine vx_ofW (cc := cX2_narrowCopy) (maxL := 3) (ret := (some .int)) (by decide +kernel) rfl ?_
  intro p e s m args below meth c s₁ B hml hno hv
  obtain ⟨rfl, hsz, hP, hK, hD0, hN, hG⟩ := hv
  have hx := B.exec
  have hb := B.bytes
  have hr := B.returns
  have hts := atoms_spec (ws := wsX2_narrowCopy) B.pre
  have hown : s.vm.findClass RX2 = some m.cls := findClass_of_methodNamed B.named
  have hlocks := B.notSynchronized
  subst hsz
  have hAN : ∀ q, va_A [(h0, eE h1 h2 kn), (h1, eR hw1 hc1 hb1 a1 r1), (hw1, eW true), (hc1, eA cy f1), (hb1, eA cy g1), (h2, eR hw2 hc2 hb2 a2 r2), (hw2, eW false), (hc2, eA cy f2), (hb2, eA cy g2)] s.heap.size q → N ≤ q := xA_N hD0 hN
  have hD := hD0.self (sz := s.heap.size)
  generalize hAe : va_A [(h0, eE h1 h2 kn), (h1, eR hw1 hc1 hb1 a1 r1), (hw1, eW true), (hc1, eA cy f1), (hb1, eA cy g1), (h2, eR hw2 hc2 hb2 a2 r2), (hw2, eW false), (hc2, eA cy f2), (hb2, eA cy g2)] s.heap.size = A at hD hAN ⊢
  have hA : ∀ q : Nat, s.heap.size ≤ q → A q := fun q h => by rw [← hAe]; exact Or.inr h
  have hS : va_S A s.heap s.heap [] := va_S.rf
  have hP : va_P (dC, dI) xCl [(h0, eE h1 h2 kn), (h1, eR hw1 hc1 hb1 a1 r1), (hw1, eW true), (hc1, eA cy f1), (hb1, eA cy g1), (h2, eR hw2 hc2 hb2 a2 r2), (hw2, eW false), (hc2, eA cy f2), (hb2, eA cy g2)] s.heap := hP
  have hl := lv_entry ([.ref h0, .int p0, .int p1]) (n := 3) (Nat.le_of_ble_eq_true rfl)
  rw [lg_entry_eq]
  generalize (lg_sl ([.ref h0, .int p0, .int p1]) ++ List.replicate (3 - (lg_sl ([.ref h0, .int p0, .int p1])).length) Slot.unset).toArray = ls at hl ⊢
  have hl : lv_has ls 3 [(0, .ref h0), (1, .int p0), (2, .int p1)] := hl
  refine lv_aload_n hx hb dX2_narrowCopy_0 rfl (lv_at hl 0 rfl) ?_
  refine va_get (D := (dC, dI)) (ci := 4) (v := .ref h2) (C := RX2) (T := TX2) (N := 3) hx hb hts (by decide +kernel) hown hK hP 0 rfl rfl 1 (by decide +kernel) (hts (.fieldLink RX2 25 "Edgefloats" "narrow" "LEdgefloats$Row;") (by decide +kernel)) (fun _ h9 => h9) rfl dX2_narrowCopy_1 ?_
  refine lv_iload_n hx hb dX2_narrowCopy_4 rfl (lv_at hl 1 rfl) ?_
  refine lv_iload_n hx hb dX2_narrowCopy_5 rfl (lv_at hl 2 rfl) ?_
  have hPc := hP.sub (ws' := [(h2, eR hw2 hc2 hb2 a2 r2), (hw2, eW false), (hc2, eA cy f2), (hb2, eA cy g2)]) [5, 6, 7, 8] rfl
  have hDc := hD.sub (ws' := [(h2, eR hw2 hc2 hb2 a2 r2), (hw2, eW false), (hc2, eA cy f2), (hb2, eA cy g2)]) [5, 6, 7, 8] (by decide +kernel) rfl
  have hKc := hK.sub (tys' := [(cy, .long)]) [0] rfl
  have hFc := va_free (wc := [(h2, eR hw2 hc2 hb2 a2 r2), (hw2, eW false), (hc2, eA cy f2), (hb2, eA cy g2)]) hD hS hA [5, 6, 7, 8] rfl
  refine vx_calli (vx_runV (As := [.int p0, .int p1]) (rest := []) ⟨hx, hb, hml, hown, hts⟩ (k_X0_copy l hfl dC dI cy h2 hw2 hc2 hb2 false a2 r2 f2 g2 s.heap.size N p0 p1) (cwV 2 hts gX2_narrowCopy_X0_copy rfl rfl rfl (by decide +kernel) ⟨Nat.le_of_ble_eq_true rfl, Nat.le_of_ble_eq_true rfl⟩) (xM.preV hKc hPc hDc hAN (Nat.le_trans hN hS.1) (hG.kept hS hAN) (ci := 2) (q0 := 0) rfl rfl) rfl rfl hl.1 rfl (lv_room (Nat.le_of_ble_eq_true rfl)) dX2_narrowCopy_6 ⟨Nat.le_of_ble_eq_true rfl, Nat.le_of_ble_eq_true rfl⟩) hS (fun q _ h => hFc q h) hFc (fun q _ h => hFc q h) (fun E ce q9 u9 t H locs ht hvm hpx hbx hz hk hS hce hcv hcl => ?_) (fun r_1 u t H locs ht hvm hw hB hz hk hS => ?_)
  · have c_2 : ¬ (o_X0_copy a2 f2 p0 p1).1 = 0 := hpx
    obtain ⟨hbe, hP1, hD1⟩ := hbx
    rw [ht] at hP1
    obtain ⟨hP, hD⟩ := va_join (wr := [(h0, eE h1 h2 kn), (h1, eR hw1 hc1 hb1 a1 r1), (hw1, eW true), (hc1, eA cy f1), (hb1, eA cy g1)]) (w1 := [(h2, eR hw2 hc2 hb2 a2 r2), (hw2, eW false), (hc2, eA cy f2), (hb2, eA cy g2)]) hP hD [5, 6, 7, 8] [0, 1, 2, 3, 4] rfl rfl (by decide +kernel) (by decide +kernel) hk hFc hP1 hD1
    have hP := hP.sub (ws' := [(h0, eE h1 h2 kn), (h1, eR hw1 hc1 hb1 a1 r1), (hw1, eW true), (hc1, eA cy f1), (hb1, eA cy g1), (h2, eR hw2 hc2 hb2 a2 r2), (hw2, eW false), (hc2, eA cy f2), (hb2, eA cy g2)]) [0, 1, 2, 3, 4, 5, 6, 7, 8] rfl
    have hD := hD.sub (ws' := [(h0, eE h1 h2 kn), (h1, eR hw1 hc1 hb1 a1 r1), (hw1, eW true), (hc1, eA cy f1), (hb1, eA cy g1), (h2, eR hw2 hc2 hb2 a2 r2), (hw2, eW false), (hc2, eA cy f2), (hb2, eA cy g2)]) [0, 1, 2, 3, 4, 5, 6, 7, 8] (by decide +kernel) rfl
    have he : o_X2_narrowCopy a2 f2 p0 p1 = ((o_X0_copy a2 f2 p0 p1).1, 0, a2, f2) := by (rw [o_X2_narrowCopy, if_neg c_2]) <;> rfl
    exact vx_out (fun x hx => (hno x hx).elim) hlocks hce hcv hcl (fun t ht hvm => ⟨(), by rw [he]; exact c_2, ⟨by rw [he]; exact hbe, by rw [ht]; exact hP, hD⟩, hS.F ht⟩) hS.2.2 (by omega) (by omega)
  · skip
    obtain ⟨c_3, hw⟩ := hw
    have c_3 : (o_X0_copy a2 f2 p0 p1).1 = 0 := c_3
    replace hw : r_1 = (o_X0_copy a2 f2 p0 p1).2.1 := hw
    subst r_1
    obtain ⟨hP1, hD1⟩ := hB
    rw [ht] at hP1
    obtain ⟨hP, hD⟩ := va_join (wr := [(h0, eE h1 h2 kn), (h1, eR hw1 hc1 hb1 a1 r1), (hw1, eW true), (hc1, eA cy f1), (hb1, eA cy g1)]) (w1 := [(h2, eR hw2 hc2 hb2 (o_X0_copy a2 f2 p0 p1).2.2.1 r2), (hw2, eW false), (hc2, eA cy (o_X0_copy a2 f2 p0 p1).2.2.2), (hb2, eA cy g2)]) hP hD [5, 6, 7, 8] [0, 1, 2, 3, 4] rfl rfl (by decide +kernel) (by decide +kernel) hk hFc hP1 hD1
    have hP := hP.sub (ws' := [(h0, eE h1 h2 kn), (h1, eR hw1 hc1 hb1 a1 r1), (hw1, eW true), (hc1, eA cy f1), (hb1, eA cy g1), (h2, eR hw2 hc2 hb2 (o_X0_copy a2 f2 p0 p1).2.2.1 r2), (hw2, eW false), (hc2, eA cy (o_X0_copy a2 f2 p0 p1).2.2.2), (hb2, eA cy g2)]) [0, 1, 2, 3, 4, 5, 6, 7, 8] rfl
    have hD := hD.sub (ws' := [(h0, eE h1 h2 kn), (h1, eR hw1 hc1 hb1 a1 r1), (hw1, eW true), (hc1, eA cy f1), (hb1, eA cy g1), (h2, eR hw2 hc2 hb2 (o_X0_copy a2 f2 p0 p1).2.2.1 r2), (hw2, eW false), (hc2, eA cy (o_X0_copy a2 f2 p0 p1).2.2.2), (hb2, eA cy g2)]) [0, 1, 2, 3, 4, 5, 6, 7, 8] (by decide +kernel) rfl
    have he : o_X2_narrowCopy a2 f2 p0 p1 = (0, (o_X0_copy a2 f2 p0 p1).2.1, (o_X0_copy a2 f2 p0 p1).2.2.1, (o_X0_copy a2 f2 p0 p1).2.2.2) := by (rw [o_X2_narrowCopy, if_pos c_3]) <;> rfl
    refine W.widen (k := 2) (n := 12) (by omega) (by omega) ?_
    refine vx_ret ?_
    exact W.iret (v := ((o_X0_copy a2 f2 p0 p1).2.1)) hx hb hr (fun t ht hW => ⟨⟨_, (), rfl, ⟨(by (rw [he]) <;> rfl), (by (rw [he]) <;> rfl)⟩, (by rw [he]; exact ⟨by rw [ht]; exact hP, hD⟩)⟩, hS.F ht⟩) hS.2.2 dX2_narrowCopy_9
theorem cl_X2_narrowSwap_1 : ∀ w ∈ [.fieldLink RX2 25 "Edgefloats" "narrow" "LEdgefloats$Row;", .methodLink RX2 44 yX0_swap, .instanceMethod yX0_swap, .selects RX0 yX0_swap yX0_swap, .initialized RX0, .code yX0_swap cX0_swap 5 (some .int), .fieldLink RX0 15 "Edgefloats$Row" "cells" "[J", .static yX2_checkCell, .initialized RX2, .code yX2_checkCell cX2_checkCell 1 none, .classLink RX2 148 "java/lang/IndexOutOfBoundsException", .initialized "java/lang/IndexOutOfBoundsException", .methodLink RX0 36 yX0_place, .instanceMethod yX0_place, .selects RX0 yX0_place yX0_place, .code yX0_place cX0_place 5 (some .int), .fieldLink RX0 80 "Edgefloats$Row" "acts" "I"], w ∈ wsX2_narrowSwap := fun _ h => (List.mem_cons_of_mem _ (List.mem_append_left _ (List.mem_append_left _ (List.mem_append_left _ h))))
theorem cl_X2_narrowSwap_2 : ∀ w ∈ wsX20, w ∈ wsX2_narrowSwap := fun _ h => (List.mem_cons_of_mem _ (List.mem_append_left _ (List.mem_append_left _ (List.mem_append_right _ h))))
theorem cl_X2_narrowSwap_3 : ∀ w ∈ wsX00, w ∈ wsX2_narrowSwap := fun _ h => (List.mem_cons_of_mem _ (List.mem_append_left _ (List.mem_append_right _ h)))
theorem cl_X2_narrowSwap_4 : ∀ w ∈ (vx_atS RX2 152 "java/lang/IndexOutOfBoundsException" ["java/lang/RuntimeException", "java/lang/Exception"]).filter goodWord, w ∈ wsX2_narrowSwap := fun _ h => (List.mem_cons_of_mem _ (List.mem_append_right _ h))
set_option maxRecDepth 20000 in
theorem ggX2_narrowSwap_X0_swap : GoodIn wsX2_narrowSwap wsX0_swap := goodIn_sub (List.forall_mem_cons.mpr ⟨(cl_X2_narrowSwap_1 _ (List.mem_of_getElem? (i := 5) rfl)), fun w h => (List.mem_append.mp h).elim ((fun w h => (List.mem_append.mp h).elim ((List.forall_mem_cons.mpr ⟨(cl_X2_narrowSwap_1 _ (List.mem_of_getElem? (i := 6) rfl)), List.forall_mem_cons.mpr ⟨(cl_X2_narrowSwap_1 _ (List.mem_of_getElem? (i := 7) rfl)), List.forall_mem_cons.mpr ⟨(cl_X2_narrowSwap_1 _ (List.mem_of_getElem? (i := 8) rfl)), List.forall_mem_cons.mpr ⟨(cl_X2_narrowSwap_1 _ (List.mem_of_getElem? (i := 9) rfl)), List.forall_mem_cons.mpr ⟨(cl_X2_narrowSwap_1 _ (List.mem_of_getElem? (i := 10) rfl)), List.forall_mem_cons.mpr ⟨(cl_X2_narrowSwap_1 _ (List.mem_of_getElem? (i := 11) rfl)), List.forall_mem_cons.mpr ⟨(cl_X2_narrowSwap_1 _ (List.mem_of_getElem? (i := 12) rfl)), List.forall_mem_cons.mpr ⟨(cl_X2_narrowSwap_1 _ (List.mem_of_getElem? (i := 13) rfl)), List.forall_mem_cons.mpr ⟨(cl_X2_narrowSwap_1 _ (List.mem_of_getElem? (i := 14) rfl)), List.forall_mem_cons.mpr ⟨(cl_X2_narrowSwap_1 _ (List.mem_of_getElem? (i := 4) rfl)), List.forall_mem_cons.mpr ⟨(cl_X2_narrowSwap_1 _ (List.mem_of_getElem? (i := 15) rfl)), List.forall_mem_cons.mpr ⟨(cl_X2_narrowSwap_1 _ (List.mem_of_getElem? (i := 16) rfl)), fun _ h => absurd h List.not_mem_nil⟩⟩⟩⟩⟩⟩⟩⟩⟩⟩⟩⟩) w) ((cl_X2_narrowSwap_3) w)) w) ((cl_X2_narrowSwap_4) w)⟩) (by decide +kernel)
set_option maxRecDepth 20000 in
theorem gX2_narrowSwap_X0_swap : GoodIn wsX2_narrowSwap (wsV RX2 44 RX0 yX0_swap wsX0_swap) := goodIn_app (goodIn_sub (List.forall_mem_cons.mpr ⟨(cl_X2_narrowSwap_1 _ (List.mem_of_getElem? (i := 1) rfl)), List.forall_mem_cons.mpr ⟨(cl_X2_narrowSwap_1 _ (List.mem_of_getElem? (i := 2) rfl)), List.forall_mem_cons.mpr ⟨(cl_X2_narrowSwap_1 _ (List.mem_of_getElem? (i := 3) rfl)), List.forall_mem_cons.mpr ⟨(cl_X2_narrowSwap_1 _ (List.mem_of_getElem? (i := 4) rfl)), fun _ h => absurd h List.not_mem_nil⟩⟩⟩⟩) (by decide +kernel)) ggX2_narrowSwap_X0_swap
noncomputable def dz_p13_27 : List (Nat × Instr × Nat) := [(0, (.aload_n 0, 1)), (1, (.getfield 25, 3)), (4, (.iload_n 1, 1)), (5, (.iload_n 2, 1)), (6, (.invokevirtual 44, 3)), (9, (.ireturn, 1))]
theorem dy_p13_27 : dz_ok cX2_narrowSwap dz_p13_27 = true := by decide +kernel
theorem dX2_narrowSwap_0 : decode cX2_narrowSwap 0 = .ok (.aload_n 0, 1) := dz_at (i := 0) dy_p13_27 rfl
theorem dX2_narrowSwap_1 : decode cX2_narrowSwap 1 = .ok (.getfield 25, 3) := dz_at (i := 1) dy_p13_27 rfl
theorem dX2_narrowSwap_4 : decode cX2_narrowSwap 4 = .ok (.iload_n 1, 1) := dz_at (i := 2) dy_p13_27 rfl
theorem dX2_narrowSwap_5 : decode cX2_narrowSwap 5 = .ok (.iload_n 2, 1) := dz_at (i := 3) dy_p13_27 rfl
theorem dX2_narrowSwap_6 : decode cX2_narrowSwap 6 = .ok (.invokevirtual 44, 3) := dz_at (i := 4) dy_p13_27 rfl
theorem dX2_narrowSwap_9 : decode cX2_narrowSwap 9 = .ok (.ireturn, 1) := dz_at (i := 5) dy_p13_27 rfl
noncomputable def o_X2_narrowSwap (a2 : Int32) (f2 : Nat → Int64) (p0 : Int32) (p1 : Int32) : Int32 × Int32 × Int32 × (Nat → Int64) :=
  if (o_X0_swap a2 f2 p0 p1).1 = 0 then (0, (o_X0_swap a2 f2 p0 p1).2.1, (o_X0_swap a2 f2 p0 p1).2.2.1, (o_X0_swap a2 f2 p0 p1).2.2.2)
  else ((o_X0_swap a2 f2 p0 p1).1, 0, a2, f2)
set_option maxHeartbeats 4000000 in
set_option maxRecDepth 100000 in
theorem k_X2_narrowSwap (l : Launch) (hfl : l.flags = flags0) (dC : Nat → ClassId) (dI : Nat → Nat → Nat) (cy : ClassId) (h0 : Nat) (h1 : Nat) (hw1 : Nat) (hc1 : Nat) (hb1 : Nat) (h2 : Nat) (hw2 : Nat) (hc2 : Nat) (hb2 : Nat) (a1 : Int32) (r1 : Int32) (f1 : Nat → Int64) (g1 : Nat → Int64) (a2 : Int32) (r2 : Int32) (f2 : Nat → Int64) (g2 : Nat → Int64) (kn : Int32) (sz : Nat) (N : Nat) (p0 : Int32) (p1 : Int32) : vx_Met l yX2_narrowSwap wsX2_narrowSwap ({ frames := 8, cells := 2, slots := 12, locals := 144 }) (va_Pc [.ref h0, .int p0, .int p1] (xM (dC, dI) xCl [(h0, eE h1 h2 kn), (h1, eR hw1 hc1 hb1 a1 r1), (hw1, eW true), (hc1, eA cy f1), (hb1, eA cy g1), (h2, eR hw2 hc2 hb2 a2 r2), (hw2, eW false), (hc2, eA cy f2), (hb2, eA cy g2)] [(cy, .long)] sz N)) (va_Qi (fun (r : Int32) (_ : Unit) => (o_X2_narrowSwap a2 f2 p0 p1).1 = 0 ∧ r = (o_X2_narrowSwap a2 f2 p0 p1).2.1) (fun _ t => xW (dC, dI) xCl [(h0, eE h1 h2 kn), (h1, eR hw1 hc1 hb1 a1 r1), (hw1, eW true), (hc1, eA cy f1), (hb1, eA cy g1), (h2, eR hw2 hc2 hb2 (o_X2_narrowSwap a2 f2 p0 p1).2.2.1 r2), (hw2, eW false), (hc2, eA cy (o_X2_narrowSwap a2 f2 p0 p1).2.2.2), (hb2, eA cy g2)] (va_A [(h0, eE h1 h2 kn), (h1, eR hw1 hc1 hb1 a1 r1), (hw1, eW true), (hc1, eA cy f1), (hb1, eA cy g1), (h2, eR hw2 hc2 hb2 a2 r2), (hw2, eW false), (hc2, eA cy f2), (hb2, eA cy g2)] sz) t) (va_A [(h0, eE h1 h2 kn), (h1, eR hw1 hc1 hb1 a1 r1), (hw1, eW true), (hc1, eA cy f1), (hb1, eA cy g1), (h2, eR hw2 hc2 hb2 a2 r2), (hw2, eW false), (hc2, eA cy f2), (hb2, eA cy g2)] sz)) (vx_X (fun _ : Unit => ¬ (o_X2_narrowSwap a2 f2 p0 p1).1 = 0) (fun E _ t => E = xE (o_X2_narrowSwap a2 f2 p0 p1).1 ∧ xW (dC, dI) xCl [(h0, eE h1 h2 kn), (h1, eR hw1 hc1 hb1 a1 r1), (hw1, eW true), (hc1, eA cy f1), (hb1, eA cy g1), (h2, eR hw2 hc2 hb2 a2 r2), (hw2, eW false), (hc2, eA cy f2), (hb2, eA cy g2)] (va_A [(h0, eE h1 h2 kn), (h1, eR hw1 hc1 hb1 a1 r1), (hw1, eW true), (hc1, eA cy f1), (hb1, eA cy g1), (h2, eR hw2 hc2 hb2 a2 r2), (hw2, eW false), (hc2, eA cy f2), (hb2, eA cy g2)] sz) t) (va_A [(h0, eE h1 h2 kn), (h1, eR hw1 hc1 hb1 a1 r1), (hw1, eW true), (hc1, eA cy f1), (hb1, eA cy g1), (h2, eR hw2 hc2 hb2 a2 r2), (hw2, eW false), (hc2, eA cy f2), (hb2, eA cy g2)] sz)) 2 12 (va_A [(h0, eE h1 h2 kn), (h1, eR hw1 hc1 hb1 a1 r1), (hw1, eW true), (hc1, eA cy f1), (hb1, eA cy g1), (h2, eR hw2 hc2 hb2 a2 r2), (hw2, eW false), (hc2, eA cy f2), (hb2, eA cy g2)] sz) := by
  refine vx_ofW (cc := cX2_narrowSwap) (maxL := 3) (ret := (some .int)) (by decide +kernel) rfl ?_
  intro p e s m args below meth c s₁ B hml hno hv
  obtain ⟨rfl, hsz, hP, hK, hD0, hN, hG⟩ := hv
  have hx := B.exec
  have hb := B.bytes
  have hr := B.returns
  have hts := atoms_spec (ws := wsX2_narrowSwap) B.pre
  have hown : s.vm.findClass RX2 = some m.cls := findClass_of_methodNamed B.named
  have hlocks := B.notSynchronized
  subst hsz
  have hAN : ∀ q, va_A [(h0, eE h1 h2 kn), (h1, eR hw1 hc1 hb1 a1 r1), (hw1, eW true), (hc1, eA cy f1), (hb1, eA cy g1), (h2, eR hw2 hc2 hb2 a2 r2), (hw2, eW false), (hc2, eA cy f2), (hb2, eA cy g2)] s.heap.size q → N ≤ q := xA_N hD0 hN
  have hD := hD0.self (sz := s.heap.size)
  generalize hAe : va_A [(h0, eE h1 h2 kn), (h1, eR hw1 hc1 hb1 a1 r1), (hw1, eW true), (hc1, eA cy f1), (hb1, eA cy g1), (h2, eR hw2 hc2 hb2 a2 r2), (hw2, eW false), (hc2, eA cy f2), (hb2, eA cy g2)] s.heap.size = A at hD hAN ⊢
  have hA : ∀ q : Nat, s.heap.size ≤ q → A q := fun q h => by rw [← hAe]; exact Or.inr h
  have hS : va_S A s.heap s.heap [] := va_S.rf
  have hP : va_P (dC, dI) xCl [(h0, eE h1 h2 kn), (h1, eR hw1 hc1 hb1 a1 r1), (hw1, eW true), (hc1, eA cy f1), (hb1, eA cy g1), (h2, eR hw2 hc2 hb2 a2 r2), (hw2, eW false), (hc2, eA cy f2), (hb2, eA cy g2)] s.heap := hP
  have hl := lv_entry ([.ref h0, .int p0, .int p1]) (n := 3) (Nat.le_of_ble_eq_true rfl)
  rw [lg_entry_eq]
  generalize (lg_sl ([.ref h0, .int p0, .int p1]) ++ List.replicate (3 - (lg_sl ([.ref h0, .int p0, .int p1])).length) Slot.unset).toArray = ls at hl ⊢
  have hl : lv_has ls 3 [(0, .ref h0), (1, .int p0), (2, .int p1)] := hl
  refine lv_aload_n hx hb dX2_narrowSwap_0 rfl (lv_at hl 0 rfl) ?_
  refine va_get (D := (dC, dI)) (ci := 4) (v := .ref h2) (C := RX2) (T := TX2) (N := 3) hx hb hts (by decide +kernel) hown hK hP 0 rfl rfl 1 (by decide +kernel) (hts (.fieldLink RX2 25 "Edgefloats" "narrow" "LEdgefloats$Row;") (by decide +kernel)) (fun _ h9 => h9) rfl dX2_narrowSwap_1 ?_
  refine lv_iload_n hx hb dX2_narrowSwap_4 rfl (lv_at hl 1 rfl) ?_
  refine lv_iload_n hx hb dX2_narrowSwap_5 rfl (lv_at hl 2 rfl) ?_
  have hPc := hP.sub (ws' := [(h2, eR hw2 hc2 hb2 a2 r2), (hw2, eW false), (hc2, eA cy f2), (hb2, eA cy g2)]) [5, 6, 7, 8] rfl
  have hDc := hD.sub (ws' := [(h2, eR hw2 hc2 hb2 a2 r2), (hw2, eW false), (hc2, eA cy f2), (hb2, eA cy g2)]) [5, 6, 7, 8] (by decide +kernel) rfl
  have hKc := hK.sub (tys' := [(cy, .long)]) [0] rfl
  have hFc := va_free (wc := [(h2, eR hw2 hc2 hb2 a2 r2), (hw2, eW false), (hc2, eA cy f2), (hb2, eA cy g2)]) hD hS hA [5, 6, 7, 8] rfl
  refine vx_calli (vx_runV (As := [.int p0, .int p1]) (rest := []) ⟨hx, hb, hml, hown, hts⟩ (k_X0_swap l hfl dC dI cy h2 hw2 hc2 hb2 false a2 r2 f2 g2 s.heap.size N p0 p1) (cwV 2 hts gX2_narrowSwap_X0_swap rfl rfl rfl (by decide +kernel) ⟨Nat.le_of_ble_eq_true rfl, Nat.le_of_ble_eq_true rfl⟩) (xM.preV hKc hPc hDc hAN (Nat.le_trans hN hS.1) (hG.kept hS hAN) (ci := 2) (q0 := 0) rfl rfl) rfl rfl hl.1 rfl (lv_room (Nat.le_of_ble_eq_true rfl)) dX2_narrowSwap_6 ⟨Nat.le_of_ble_eq_true rfl, Nat.le_of_ble_eq_true rfl⟩) hS (fun q _ h => hFc q h) hFc (fun q _ h => hFc q h) (fun E ce q9 u9 t H locs ht hvm hpx hbx hz hk hS hce hcv hcl => ?_) (fun r_1 u t H locs ht hvm hw hB hz hk hS => ?_)
  · have c_2 : ¬ (o_X0_swap a2 f2 p0 p1).1 = 0 := hpx
    obtain ⟨hbe, hP1, hD1⟩ := hbx
    rw [ht] at hP1
    obtain ⟨hP, hD⟩ := va_join (wr := [(h0, eE h1 h2 kn), (h1, eR hw1 hc1 hb1 a1 r1), (hw1, eW true), (hc1, eA cy f1), (hb1, eA cy g1)]) (w1 := [(h2, eR hw2 hc2 hb2 a2 r2), (hw2, eW false), (hc2, eA cy f2), (hb2, eA cy g2)]) hP hD [5, 6, 7, 8] [0, 1, 2, 3, 4] rfl rfl (by decide +kernel) (by decide +kernel) hk hFc hP1 hD1
    have hP := hP.sub (ws' := [(h0, eE h1 h2 kn), (h1, eR hw1 hc1 hb1 a1 r1), (hw1, eW true), (hc1, eA cy f1), (hb1, eA cy g1), (h2, eR hw2 hc2 hb2 a2 r2), (hw2, eW false), (hc2, eA cy f2), (hb2, eA cy g2)]) [0, 1, 2, 3, 4, 5, 6, 7, 8] rfl
    have hD := hD.sub (ws' := [(h0, eE h1 h2 kn), (h1, eR hw1 hc1 hb1 a1 r1), (hw1, eW true), (hc1, eA cy f1), (hb1, eA cy g1), (h2, eR hw2 hc2 hb2 a2 r2), (hw2, eW false), (hc2, eA cy f2), (hb2, eA cy g2)]) [0, 1, 2, 3, 4, 5, 6, 7, 8] (by decide +kernel) rfl
    have he : o_X2_narrowSwap a2 f2 p0 p1 = ((o_X0_swap a2 f2 p0 p1).1, 0, a2, f2) := by (rw [o_X2_narrowSwap, if_neg c_2]) <;> rfl
    exact vx_out (fun x hx => (hno x hx).elim) hlocks hce hcv hcl (fun t ht hvm => ⟨(), by rw [he]; exact c_2, ⟨by rw [he]; exact hbe, by rw [ht]; exact hP, hD⟩, hS.F ht⟩) hS.2.2 (by omega) (by omega)
  · skip
    obtain ⟨c_3, hw⟩ := hw
    have c_3 : (o_X0_swap a2 f2 p0 p1).1 = 0 := c_3
    replace hw : r_1 = (o_X0_swap a2 f2 p0 p1).2.1 := hw
    subst r_1
    obtain ⟨hP1, hD1⟩ := hB
    rw [ht] at hP1
    obtain ⟨hP, hD⟩ := va_join (wr := [(h0, eE h1 h2 kn), (h1, eR hw1 hc1 hb1 a1 r1), (hw1, eW true), (hc1, eA cy f1), (hb1, eA cy g1)]) (w1 := [(h2, eR hw2 hc2 hb2 (o_X0_swap a2 f2 p0 p1).2.2.1 r2), (hw2, eW false), (hc2, eA cy (o_X0_swap a2 f2 p0 p1).2.2.2), (hb2, eA cy g2)]) hP hD [5, 6, 7, 8] [0, 1, 2, 3, 4] rfl rfl (by decide +kernel) (by decide +kernel) hk hFc hP1 hD1
    have hP := hP.sub (ws' := [(h0, eE h1 h2 kn), (h1, eR hw1 hc1 hb1 a1 r1), (hw1, eW true), (hc1, eA cy f1), (hb1, eA cy g1), (h2, eR hw2 hc2 hb2 (o_X0_swap a2 f2 p0 p1).2.2.1 r2), (hw2, eW false), (hc2, eA cy (o_X0_swap a2 f2 p0 p1).2.2.2), (hb2, eA cy g2)]) [0, 1, 2, 3, 4, 5, 6, 7, 8] rfl
    have hD := hD.sub (ws' := [(h0, eE h1 h2 kn), (h1, eR hw1 hc1 hb1 a1 r1), (hw1, eW true), (hc1, eA cy f1), (hb1, eA cy g1), (h2, eR hw2 hc2 hb2 (o_X0_swap a2 f2 p0 p1).2.2.1 r2), (hw2, eW false), (hc2, eA cy (o_X0_swap a2 f2 p0 p1).2.2.2), (hb2, eA cy g2)]) [0, 1, 2, 3, 4, 5, 6, 7, 8] (by decide +kernel) rfl
    have he : o_X2_narrowSwap a2 f2 p0 p1 = (0, (o_X0_swap a2 f2 p0 p1).2.1, (o_X0_swap a2 f2 p0 p1).2.2.1, (o_X0_swap a2 f2 p0 p1).2.2.2) := by (rw [o_X2_narrowSwap, if_pos c_3]) <;> rfl
    refine W.widen (k := 2) (n := 12) (by omega) (by omega) ?_
    refine vx_ret ?_
    exact W.iret (v := ((o_X0_swap a2 f2 p0 p1).2.1)) hx hb hr (fun t ht hW => ⟨⟨_, (), rfl, ⟨(by (rw [he]) <;> rfl), (by (rw [he]) <;> rfl)⟩, (by rw [he]; exact ⟨by rw [ht]; exact hP, hD⟩)⟩, hS.F ht⟩) hS.2.2 dX2_narrowSwap_9
theorem cl_X2_narrowMax_1 : ∀ w ∈ wsX2_narrowMax_r1, w ∈ wsX2_narrowMax := fun _ h => (List.mem_cons_of_mem _ (List.mem_append_left _ (List.mem_append_left _ (List.mem_append_left _ (List.mem_append_left _ (List.mem_append_left _ h))))))
theorem cl_X2_narrowMax_2 : ∀ w ∈ wsX2_narrowMax_r2, w ∈ wsX2_narrowMax := fun _ h => (List.mem_cons_of_mem _ (List.mem_append_left _ (List.mem_append_left _ (List.mem_append_left _ (List.mem_append_left _ (List.mem_append_right _ h))))))
theorem cl_X2_narrowMax_3 : ∀ w ∈ wsX20, w ∈ wsX2_narrowMax := fun _ h => (List.mem_cons_of_mem _ (List.mem_append_left _ (List.mem_append_left _ (List.mem_append_left _ (List.mem_append_right _ h)))))
theorem cl_X2_narrowMax_4 : ∀ w ∈ wsX00, w ∈ wsX2_narrowMax := fun _ h => (List.mem_cons_of_mem _ (List.mem_append_left _ (List.mem_append_left _ (List.mem_append_right _ h))))
theorem cl_X2_narrowMax_5 : ∀ w ∈ wsX10, w ∈ wsX2_narrowMax := fun _ h => (List.mem_cons_of_mem _ (List.mem_append_left _ (List.mem_append_right _ h)))
theorem cl_X2_narrowMax_6 : ∀ w ∈ (vx_atS RX2 152 "java/lang/IndexOutOfBoundsException" ["java/lang/RuntimeException", "java/lang/Exception"]).filter goodWord, w ∈ wsX2_narrowMax := fun _ h => (List.mem_cons_of_mem _ (List.mem_append_right _ h))
set_option maxRecDepth 20000 in
theorem ggX2_narrowMax_X0_putGreater : GoodIn wsX2_narrowMax wsX0_putGreater := goodIn_sub (List.forall_mem_cons.mpr ⟨(cl_X2_narrowMax_1 _ (List.mem_of_getElem? (i := 5) rfl)), fun w h => (List.mem_append.mp h).elim ((fun w h => (List.mem_append.mp h).elim ((fun w h => (List.mem_append.mp h).elim ((fun w h => (List.mem_append.mp h).elim ((List.forall_mem_cons.mpr ⟨(cl_X2_narrowMax_1 _ (List.mem_of_getElem? (i := 6) rfl)), List.forall_mem_cons.mpr ⟨(cl_X2_narrowMax_1 _ (List.mem_of_getElem? (i := 7) rfl)), List.forall_mem_cons.mpr ⟨(cl_X2_narrowMax_1 _ (List.mem_of_getElem? (i := 8) rfl)), List.forall_mem_cons.mpr ⟨(cl_X2_narrowMax_1 _ (List.mem_of_getElem? (i := 9) rfl)), List.forall_mem_cons.mpr ⟨(cl_X2_narrowMax_1 _ (List.mem_of_getElem? (i := 4) rfl)), List.forall_mem_cons.mpr ⟨(cl_X2_narrowMax_1 _ (List.mem_of_getElem? (i := 10) rfl)), List.forall_mem_cons.mpr ⟨(cl_X2_narrowMax_1 _ (List.mem_of_getElem? (i := 11) rfl)), List.forall_mem_cons.mpr ⟨(cl_X2_narrowMax_1 _ (List.mem_of_getElem? (i := 12) rfl)), List.forall_mem_cons.mpr ⟨(cl_X2_narrowMax_1 _ (List.mem_of_getElem? (i := 13) rfl)), List.forall_mem_cons.mpr ⟨(cl_X2_narrowMax_1 _ (List.mem_of_getElem? (i := 14) rfl)), List.forall_mem_cons.mpr ⟨(cl_X2_narrowMax_1 _ (List.mem_of_getElem? (i := 15) rfl)), List.forall_mem_cons.mpr ⟨(cl_X2_narrowMax_1 _ (List.mem_of_getElem? (i := 16) rfl)), List.forall_mem_cons.mpr ⟨(cl_X2_narrowMax_1 _ (List.mem_of_getElem? (i := 17) rfl)), List.forall_mem_cons.mpr ⟨(cl_X2_narrowMax_1 _ (List.mem_of_getElem? (i := 18) rfl)), List.forall_mem_cons.mpr ⟨(cl_X2_narrowMax_1 _ (List.mem_of_getElem? (i := 19) rfl)), List.forall_mem_cons.mpr ⟨(cl_X2_narrowMax_1 _ (List.mem_of_getElem? (i := 20) rfl)), List.forall_mem_cons.mpr ⟨(cl_X2_narrowMax_1 _ (List.mem_of_getElem? (i := 21) rfl)), List.forall_mem_cons.mpr ⟨(cl_X2_narrowMax_1 _ (List.mem_of_getElem? (i := 22) rfl)), List.forall_mem_cons.mpr ⟨(cl_X2_narrowMax_1 _ (List.mem_of_getElem? (i := 23) rfl)), List.forall_mem_cons.mpr ⟨(cl_X2_narrowMax_2 _ (List.mem_of_getElem? (i := 0) rfl)), List.forall_mem_cons.mpr ⟨(cl_X2_narrowMax_2 _ (List.mem_of_getElem? (i := 1) rfl)), List.forall_mem_cons.mpr ⟨(cl_X2_narrowMax_2 _ (List.mem_of_getElem? (i := 2) rfl)), List.forall_mem_cons.mpr ⟨(cl_X2_narrowMax_2 _ (List.mem_of_getElem? (i := 3) rfl)), List.forall_mem_cons.mpr ⟨(cl_X2_narrowMax_2 _ (List.mem_of_getElem? (i := 4) rfl)), fun _ h => absurd h List.not_mem_nil⟩⟩⟩⟩⟩⟩⟩⟩⟩⟩⟩⟩⟩⟩⟩⟩⟩⟩⟩⟩⟩⟩⟩⟩) w) ((List.forall_mem_cons.mpr ⟨(cl_X2_narrowMax_2 _ (List.mem_of_getElem? (i := 5) rfl)), List.forall_mem_cons.mpr ⟨(cl_X2_narrowMax_2 _ (List.mem_of_getElem? (i := 6) rfl)), List.forall_mem_cons.mpr ⟨(cl_X2_narrowMax_2 _ (List.mem_of_getElem? (i := 7) rfl)), List.forall_mem_cons.mpr ⟨(cl_X2_narrowMax_2 _ (List.mem_of_getElem? (i := 8) rfl)), List.forall_mem_cons.mpr ⟨(cl_X2_narrowMax_2 _ (List.mem_of_getElem? (i := 9) rfl)), List.forall_mem_cons.mpr ⟨(cl_X2_narrowMax_2 _ (List.mem_of_getElem? (i := 10) rfl)), List.forall_mem_cons.mpr ⟨(cl_X2_narrowMax_2 _ (List.mem_of_getElem? (i := 11) rfl)), fun _ h => absurd h List.not_mem_nil⟩⟩⟩⟩⟩⟩⟩) w)) w) ((cl_X2_narrowMax_4) w)) w) ((cl_X2_narrowMax_5) w)) w) ((cl_X2_narrowMax_6) w)⟩) (by decide +kernel)
set_option maxRecDepth 20000 in
theorem gX2_narrowMax_X0_putGreater : GoodIn wsX2_narrowMax (wsV RX2 47 RX0 yX0_putGreater wsX0_putGreater) := goodIn_app (goodIn_sub (List.forall_mem_cons.mpr ⟨(cl_X2_narrowMax_1 _ (List.mem_of_getElem? (i := 1) rfl)), List.forall_mem_cons.mpr ⟨(cl_X2_narrowMax_1 _ (List.mem_of_getElem? (i := 2) rfl)), List.forall_mem_cons.mpr ⟨(cl_X2_narrowMax_1 _ (List.mem_of_getElem? (i := 3) rfl)), List.forall_mem_cons.mpr ⟨(cl_X2_narrowMax_1 _ (List.mem_of_getElem? (i := 4) rfl)), fun _ h => absurd h List.not_mem_nil⟩⟩⟩⟩) (by decide +kernel)) ggX2_narrowMax_X0_putGreater
noncomputable def dz_p13_28 : List (Nat × Instr × Nat) := [(0, (.aload_n 0, 1)), (1, (.getfield 25, 3)), (4, (.iload_n 1, 1)), (5, (.iload_n 2, 1)), (6, (.iload_n 3, 1)), (7, (.invokevirtual 47, 3)), (10, (.ireturn, 1))]
theorem dy_p13_28 : dz_ok cX2_narrowMax dz_p13_28 = true := by decide +kernel
theorem dX2_narrowMax_0 : decode cX2_narrowMax 0 = .ok (.aload_n 0, 1) := dz_at (i := 0) dy_p13_28 rfl
theorem dX2_narrowMax_1 : decode cX2_narrowMax 1 = .ok (.getfield 25, 3) := dz_at (i := 1) dy_p13_28 rfl
theorem dX2_narrowMax_4 : decode cX2_narrowMax 4 = .ok (.iload_n 1, 1) := dz_at (i := 2) dy_p13_28 rfl
theorem dX2_narrowMax_5 : decode cX2_narrowMax 5 = .ok (.iload_n 2, 1) := dz_at (i := 3) dy_p13_28 rfl
theorem dX2_narrowMax_6 : decode cX2_narrowMax 6 = .ok (.iload_n 3, 1) := dz_at (i := 4) dy_p13_28 rfl
theorem dX2_narrowMax_7 : decode cX2_narrowMax 7 = .ok (.invokevirtual 47, 3) := dz_at (i := 5) dy_p13_28 rfl
theorem dX2_narrowMax_10 : decode cX2_narrowMax 10 = .ok (.ireturn, 1) := dz_at (i := 6) dy_p13_28 rfl
noncomputable def o_X2_narrowMax (a2 : Int32) (f2 : Nat → Int64) (p0 : Int32) (p1 : Int32) (p2 : Int32) : Int32 × Int32 × Int32 × (Nat → Int64) :=
  if (o_X0_putGreater false a2 f2 p0 p1 p2).1 = 0 then (0, (o_X0_putGreater false a2 f2 p0 p1 p2).2.1, (o_X0_putGreater false a2 f2 p0 p1 p2).2.2.1, (o_X0_putGreater false a2 f2 p0 p1 p2).2.2.2)
  else ((o_X0_putGreater false a2 f2 p0 p1 p2).1, 0, a2, f2)
set_option maxHeartbeats 4000000 in
set_option maxRecDepth 100000 in
theorem k_X2_narrowMax (l : Launch) (hfl : l.flags = flags0) (dC : Nat → ClassId) (dI : Nat → Nat → Nat) (cy : ClassId) (h0 : Nat) (h1 : Nat) (hw1 : Nat) (hc1 : Nat) (hb1 : Nat) (h2 : Nat) (hw2 : Nat) (hc2 : Nat) (hb2 : Nat) (a1 : Int32) (r1 : Int32) (f1 : Nat → Int64) (g1 : Nat → Int64) (a2 : Int32) (r2 : Int32) (f2 : Nat → Int64) (g2 : Nat → Int64) (kn : Int32) (sz : Nat) (N : Nat) (p0 : Int32) (p1 : Int32) (p2 : Int32) : vx_Met l yX2_narrowMax wsX2_narrowMax ({ frames := 9, cells := 3, slots := 18, locals := 165 }) (va_Pc [.ref h0, .int p0, .int p1, .int p2] (xM (dC, dI) xCl [(h0, eE h1 h2 kn), (h1, eR hw1 hc1 hb1 a1 r1), (hw1, eW true), (hc1, eA cy f1), (hb1, eA cy g1), (h2, eR hw2 hc2 hb2 a2 r2), (hw2, eW false), (hc2, eA cy f2), (hb2, eA cy g2)] [(cy, .long)] sz N)) (va_Qi (fun (r : Int32) (_ : Unit) => (o_X2_narrowMax a2 f2 p0 p1 p2).1 = 0 ∧ r = (o_X2_narrowMax a2 f2 p0 p1 p2).2.1) (fun _ t => xW (dC, dI) xCl [(h0, eE h1 h2 kn), (h1, eR hw1 hc1 hb1 a1 r1), (hw1, eW true), (hc1, eA cy f1), (hb1, eA cy g1), (h2, eR hw2 hc2 hb2 (o_X2_narrowMax a2 f2 p0 p1 p2).2.2.1 r2), (hw2, eW false), (hc2, eA cy (o_X2_narrowMax a2 f2 p0 p1 p2).2.2.2), (hb2, eA cy g2)] (va_A [(h0, eE h1 h2 kn), (h1, eR hw1 hc1 hb1 a1 r1), (hw1, eW true), (hc1, eA cy f1), (hb1, eA cy g1), (h2, eR hw2 hc2 hb2 a2 r2), (hw2, eW false), (hc2, eA cy f2), (hb2, eA cy g2)] sz) t) (va_A [(h0, eE h1 h2 kn), (h1, eR hw1 hc1 hb1 a1 r1), (hw1, eW true), (hc1, eA cy f1), (hb1, eA cy g1), (h2, eR hw2 hc2 hb2 a2 r2), (hw2, eW false), (hc2, eA cy f2), (hb2, eA cy g2)] sz)) (vx_X (fun _ : Unit => ¬ (o_X2_narrowMax a2 f2 p0 p1 p2).1 = 0) (fun E _ t => E = xE (o_X2_narrowMax a2 f2 p0 p1 p2).1 ∧ xW (dC, dI) xCl [(h0, eE h1 h2 kn), (h1, eR hw1 hc1 hb1 a1 r1), (hw1, eW true), (hc1, eA cy f1), (hb1, eA cy g1), (h2, eR hw2 hc2 hb2 a2 r2), (hw2, eW false), (hc2, eA cy f2), (hb2, eA cy g2)] (va_A [(h0, eE h1 h2 kn), (h1, eR hw1 hc1 hb1 a1 r1), (hw1, eW true), (hc1, eA cy f1), (hb1, eA cy g1), (h2, eR hw2 hc2 hb2 a2 r2), (hw2, eW false), (hc2, eA cy f2), (hb2, eA cy g2)] sz) t) (va_A [(h0, eE h1 h2 kn), (h1, eR hw1 hc1 hb1 a1 r1), (hw1, eW true), (hc1, eA cy f1), (hb1, eA cy g1), (h2, eR hw2 hc2 hb2 a2 r2), (hw2, eW false), (hc2, eA cy f2), (hb2, eA cy g2)] sz)) 3 18 (va_A [(h0, eE h1 h2 kn), (h1, eR hw1 hc1 hb1 a1 r1), (hw1, eW true), (hc1, eA cy f1), (hb1, eA cy g1), (h2, eR hw2 hc2 hb2 a2 r2), (hw2, eW false), (hc2, eA cy f2), (hb2, eA cy g2)] sz) := by
  refine vx_ofW (cc := cX2_narrowMax) (maxL := 4) (ret := (some .int)) (by decide +kernel) rfl ?_
  intro p e s m args below meth c s₁ B hml hno hv
  obtain ⟨rfl, hsz, hP, hK, hD0, hN, hG⟩ := hv
  have hx := B.exec
  have hb := B.bytes
  have hr := B.returns
  have hts := atoms_spec (ws := wsX2_narrowMax) B.pre
  have hown : s.vm.findClass RX2 = some m.cls := findClass_of_methodNamed B.named
  have hlocks := B.notSynchronized
  subst hsz
  have hAN : ∀ q, va_A [(h0, eE h1 h2 kn), (h1, eR hw1 hc1 hb1 a1 r1), (hw1, eW true), (hc1, eA cy f1), (hb1, eA cy g1), (h2, eR hw2 hc2 hb2 a2 r2), (hw2, eW false), (hc2, eA cy f2), (hb2, eA cy g2)] s.heap.size q → N ≤ q := xA_N hD0 hN
  have hD := hD0.self (sz := s.heap.size)
  generalize hAe : va_A [(h0, eE h1 h2 kn), (h1, eR hw1 hc1 hb1 a1 r1), (hw1, eW true), (hc1, eA cy f1), (hb1, eA cy g1), (h2, eR hw2 hc2 hb2 a2 r2), (hw2, eW false), (hc2, eA cy f2), (hb2, eA cy g2)] s.heap.size = A at hD hAN ⊢
  have hA : ∀ q : Nat, s.heap.size ≤ q → A q := fun q h => by rw [← hAe]; exact Or.inr h
  have hS : va_S A s.heap s.heap [] := va_S.rf
  have hP : va_P (dC, dI) xCl [(h0, eE h1 h2 kn), (h1, eR hw1 hc1 hb1 a1 r1), (hw1, eW true), (hc1, eA cy f1), (hb1, eA cy g1), (h2, eR hw2 hc2 hb2 a2 r2), (hw2, eW false), (hc2, eA cy f2), (hb2, eA cy g2)] s.heap := hP
  have hl := lv_entry ([.ref h0, .int p0, .int p1, .int p2]) (n := 4) (Nat.le_of_ble_eq_true rfl)
  rw [lg_entry_eq]
  generalize (lg_sl ([.ref h0, .int p0, .int p1, .int p2]) ++ List.replicate (4 - (lg_sl ([.ref h0, .int p0, .int p1, .int p2])).length) Slot.unset).toArray = ls at hl ⊢
  have hl : lv_has ls 4 [(0, .ref h0), (1, .int p0), (2, .int p1), (3, .int p2)] := hl
  refine lv_aload_n hx hb dX2_narrowMax_0 rfl (lv_at hl 0 rfl) ?_
  refine va_get (D := (dC, dI)) (ci := 4) (v := .ref h2) (C := RX2) (T := TX2) (N := 3) hx hb hts (by decide +kernel) hown hK hP 0 rfl rfl 1 (by decide +kernel) (hts (.fieldLink RX2 25 "Edgefloats" "narrow" "LEdgefloats$Row;") (by decide +kernel)) (fun _ h9 => h9) rfl dX2_narrowMax_1 ?_
  refine lv_iload_n hx hb dX2_narrowMax_4 rfl (lv_at hl 1 rfl) ?_
  refine lv_iload_n hx hb dX2_narrowMax_5 rfl (lv_at hl 2 rfl) ?_
  refine lv_iload_n hx hb dX2_narrowMax_6 rfl (lv_at hl 3 rfl) ?_
  have hPc := hP.sub (ws' := [(h2, eR hw2 hc2 hb2 a2 r2), (hw2, eW false), (hc2, eA cy f2), (hb2, eA cy g2)]) [5, 6, 7, 8] rfl
  have hDc := hD.sub (ws' := [(h2, eR hw2 hc2 hb2 a2 r2), (hw2, eW false), (hc2, eA cy f2), (hb2, eA cy g2)]) [5, 6, 7, 8] (by decide +kernel) rfl
  have hKc := hK.sub (tys' := [(cy, .long)]) [0] rfl
  have hFc := va_free (wc := [(h2, eR hw2 hc2 hb2 a2 r2), (hw2, eW false), (hc2, eA cy f2), (hb2, eA cy g2)]) hD hS hA [5, 6, 7, 8] rfl
  refine vx_calli (vx_runV (As := [.int p0, .int p1, .int p2]) (rest := []) ⟨hx, hb, hml, hown, hts⟩ (k_X0_putGreater l hfl dC dI cy h2 hw2 hc2 hb2 false a2 r2 f2 g2 s.heap.size N p0 p1 p2) (cwV 3 hts gX2_narrowMax_X0_putGreater rfl rfl rfl (by decide +kernel) ⟨Nat.le_of_ble_eq_true rfl, Nat.le_of_ble_eq_true rfl⟩) (xM.preV hKc hPc hDc hAN (Nat.le_trans hN hS.1) (hG.kept hS hAN) (ci := 2) (q0 := 0) rfl rfl) rfl rfl hl.1 rfl (lv_room (Nat.le_of_ble_eq_true rfl)) dX2_narrowMax_7 ⟨Nat.le_of_ble_eq_true rfl, Nat.le_of_ble_eq_true rfl⟩) hS (fun q _ h => hFc q h) hFc (fun q _ h => hFc q h) (fun E ce q9 u9 t H locs ht hvm hpx hbx hz hk hS hce hcv hcl => ?_) (fun r_1 u t H locs ht hvm hw hB hz hk hS => ?_)
  · have c_2 : ¬ (o_X0_putGreater false a2 f2 p0 p1 p2).1 = 0 := hpx
    obtain ⟨hbe, hP1, hD1⟩ := hbx
    rw [ht] at hP1
    obtain ⟨hP, hD⟩ := va_join (wr := [(h0, eE h1 h2 kn), (h1, eR hw1 hc1 hb1 a1 r1), (hw1, eW true), (hc1, eA cy f1), (hb1, eA cy g1)]) (w1 := [(h2, eR hw2 hc2 hb2 a2 r2), (hw2, eW false), (hc2, eA cy f2), (hb2, eA cy g2)]) hP hD [5, 6, 7, 8] [0, 1, 2, 3, 4] rfl rfl (by decide +kernel) (by decide +kernel) hk hFc hP1 hD1
    have hP := hP.sub (ws' := [(h0, eE h1 h2 kn), (h1, eR hw1 hc1 hb1 a1 r1), (hw1, eW true), (hc1, eA cy f1), (hb1, eA cy g1), (h2, eR hw2 hc2 hb2 a2 r2), (hw2, eW false), (hc2, eA cy f2), (hb2, eA cy g2)]) [0, 1, 2, 3, 4, 5, 6, 7, 8] rfl
    have hD := hD.sub (ws' := [(h0, eE h1 h2 kn), (h1, eR hw1 hc1 hb1 a1 r1), (hw1, eW true), (hc1, eA cy f1), (hb1, eA cy g1), (h2, eR hw2 hc2 hb2 a2 r2), (hw2, eW false), (hc2, eA cy f2), (hb2, eA cy g2)]) [0, 1, 2, 3, 4, 5, 6, 7, 8] (by decide +kernel) rfl
    have he : o_X2_narrowMax a2 f2 p0 p1 p2 = ((o_X0_putGreater false a2 f2 p0 p1 p2).1, 0, a2, f2) := by (rw [o_X2_narrowMax, if_neg c_2]) <;> rfl
    exact vx_out (fun x hx => (hno x hx).elim) hlocks hce hcv hcl (fun t ht hvm => ⟨(), by rw [he]; exact c_2, ⟨by rw [he]; exact hbe, by rw [ht]; exact hP, hD⟩, hS.F ht⟩) hS.2.2 (by omega) (by omega)
  · skip
    obtain ⟨c_3, hw⟩ := hw
    have c_3 : (o_X0_putGreater false a2 f2 p0 p1 p2).1 = 0 := c_3
    replace hw : r_1 = (o_X0_putGreater false a2 f2 p0 p1 p2).2.1 := hw
    subst r_1
    obtain ⟨hP1, hD1⟩ := hB
    rw [ht] at hP1
    obtain ⟨hP, hD⟩ := va_join (wr := [(h0, eE h1 h2 kn), (h1, eR hw1 hc1 hb1 a1 r1), (hw1, eW true), (hc1, eA cy f1), (hb1, eA cy g1)]) (w1 := [(h2, eR hw2 hc2 hb2 (o_X0_putGreater false a2 f2 p0 p1 p2).2.2.1 r2), (hw2, eW false), (hc2, eA cy (o_X0_putGreater false a2 f2 p0 p1 p2).2.2.2), (hb2, eA cy g2)]) hP hD [5, 6, 7, 8] [0, 1, 2, 3, 4] rfl rfl (by decide +kernel) (by decide +kernel) hk hFc hP1 hD1
    have hP := hP.sub (ws' := [(h0, eE h1 h2 kn), (h1, eR hw1 hc1 hb1 a1 r1), (hw1, eW true), (hc1, eA cy f1), (hb1, eA cy g1), (h2, eR hw2 hc2 hb2 (o_X0_putGreater false a2 f2 p0 p1 p2).2.2.1 r2), (hw2, eW false), (hc2, eA cy (o_X0_putGreater false a2 f2 p0 p1 p2).2.2.2), (hb2, eA cy g2)]) [0, 1, 2, 3, 4, 5, 6, 7, 8] rfl
    have hD := hD.sub (ws' := [(h0, eE h1 h2 kn), (h1, eR hw1 hc1 hb1 a1 r1), (hw1, eW true), (hc1, eA cy f1), (hb1, eA cy g1), (h2, eR hw2 hc2 hb2 (o_X0_putGreater false a2 f2 p0 p1 p2).2.2.1 r2), (hw2, eW false), (hc2, eA cy (o_X0_putGreater false a2 f2 p0 p1 p2).2.2.2), (hb2, eA cy g2)]) [0, 1, 2, 3, 4, 5, 6, 7, 8] (by decide +kernel) rfl
    have he : o_X2_narrowMax a2 f2 p0 p1 p2 = (0, (o_X0_putGreater false a2 f2 p0 p1 p2).2.1, (o_X0_putGreater false a2 f2 p0 p1 p2).2.2.1, (o_X0_putGreater false a2 f2 p0 p1 p2).2.2.2) := by (rw [o_X2_narrowMax, if_pos c_3]) <;> rfl
    refine W.widen (k := 3) (n := 18) (by omega) (by omega) ?_
    refine vx_ret ?_
    exact W.iret (v := ((o_X0_putGreater false a2 f2 p0 p1 p2).2.1)) hx hb hr (fun t ht hW => ⟨⟨_, (), rfl, ⟨(by (rw [he]) <;> rfl), (by (rw [he]) <;> rfl)⟩, (by rw [he]; exact ⟨by rw [ht]; exact hP, hD⟩)⟩, hS.F ht⟩) hS.2.2 dX2_narrowMax_10
theorem cl_X2_narrowMin_1 : ∀ w ∈ wsX2_narrowMin_r1, w ∈ wsX2_narrowMin := fun _ h => (List.mem_cons_of_mem _ (List.mem_append_left _ (List.mem_append_left _ (List.mem_append_left _ (List.mem_append_left _ (List.mem_append_left _ h))))))
theorem cl_X2_narrowMin_2 : ∀ w ∈ wsX2_narrowMin_r2, w ∈ wsX2_narrowMin := fun _ h => (List.mem_cons_of_mem _ (List.mem_append_left _ (List.mem_append_left _ (List.mem_append_left _ (List.mem_append_left _ (List.mem_append_right _ h))))))
theorem cl_X2_narrowMin_3 : ∀ w ∈ wsX20, w ∈ wsX2_narrowMin := fun _ h => (List.mem_cons_of_mem _ (List.mem_append_left _ (List.mem_append_left _ (List.mem_append_left _ (List.mem_append_right _ h)))))
theorem cl_X2_narrowMin_4 : ∀ w ∈ wsX00, w ∈ wsX2_narrowMin := fun _ h => (List.mem_cons_of_mem _ (List.mem_append_left _ (List.mem_append_left _ (List.mem_append_right _ h))))
theorem cl_X2_narrowMin_5 : ∀ w ∈ wsX10, w ∈ wsX2_narrowMin := fun _ h => (List.mem_cons_of_mem _ (List.mem_append_left _ (List.mem_append_right _ h)))
theorem cl_X2_narrowMin_6 : ∀ w ∈ (vx_atS RX2 152 "java/lang/IndexOutOfBoundsException" ["java/lang/RuntimeException", "java/lang/Exception"]).filter goodWord, w ∈ wsX2_narrowMin := fun _ h => (List.mem_cons_of_mem _ (List.mem_append_right _ h))
set_option maxRecDepth 20000 in
theorem ggX2_narrowMin_X0_putLesser : GoodIn wsX2_narrowMin wsX0_putLesser := goodIn_sub (List.forall_mem_cons.mpr ⟨(cl_X2_narrowMin_1 _ (List.mem_of_getElem? (i := 5) rfl)), fun w h => (List.mem_append.mp h).elim ((fun w h => (List.mem_append.mp h).elim ((fun w h => (List.mem_append.mp h).elim ((fun w h => (List.mem_append.mp h).elim ((List.forall_mem_cons.mpr ⟨(cl_X2_narrowMin_1 _ (List.mem_of_getElem? (i := 6) rfl)), List.forall_mem_cons.mpr ⟨(cl_X2_narrowMin_1 _ (List.mem_of_getElem? (i := 7) rfl)), List.forall_mem_cons.mpr ⟨(cl_X2_narrowMin_1 _ (List.mem_of_getElem? (i := 8) rfl)), List.forall_mem_cons.mpr ⟨(cl_X2_narrowMin_1 _ (List.mem_of_getElem? (i := 9) rfl)), List.forall_mem_cons.mpr ⟨(cl_X2_narrowMin_1 _ (List.mem_of_getElem? (i := 4) rfl)), List.forall_mem_cons.mpr ⟨(cl_X2_narrowMin_1 _ (List.mem_of_getElem? (i := 10) rfl)), List.forall_mem_cons.mpr ⟨(cl_X2_narrowMin_1 _ (List.mem_of_getElem? (i := 11) rfl)), List.forall_mem_cons.mpr ⟨(cl_X2_narrowMin_1 _ (List.mem_of_getElem? (i := 12) rfl)), List.forall_mem_cons.mpr ⟨(cl_X2_narrowMin_1 _ (List.mem_of_getElem? (i := 13) rfl)), List.forall_mem_cons.mpr ⟨(cl_X2_narrowMin_1 _ (List.mem_of_getElem? (i := 14) rfl)), List.forall_mem_cons.mpr ⟨(cl_X2_narrowMin_1 _ (List.mem_of_getElem? (i := 15) rfl)), List.forall_mem_cons.mpr ⟨(cl_X2_narrowMin_1 _ (List.mem_of_getElem? (i := 16) rfl)), List.forall_mem_cons.mpr ⟨(cl_X2_narrowMin_1 _ (List.mem_of_getElem? (i := 17) rfl)), List.forall_mem_cons.mpr ⟨(cl_X2_narrowMin_1 _ (List.mem_of_getElem? (i := 18) rfl)), List.forall_mem_cons.mpr ⟨(cl_X2_narrowMin_1 _ (List.mem_of_getElem? (i := 19) rfl)), List.forall_mem_cons.mpr ⟨(cl_X2_narrowMin_1 _ (List.mem_of_getElem? (i := 20) rfl)), List.forall_mem_cons.mpr ⟨(cl_X2_narrowMin_1 _ (List.mem_of_getElem? (i := 21) rfl)), List.forall_mem_cons.mpr ⟨(cl_X2_narrowMin_1 _ (List.mem_of_getElem? (i := 22) rfl)), List.forall_mem_cons.mpr ⟨(cl_X2_narrowMin_1 _ (List.mem_of_getElem? (i := 23) rfl)), List.forall_mem_cons.mpr ⟨(cl_X2_narrowMin_2 _ (List.mem_of_getElem? (i := 0) rfl)), List.forall_mem_cons.mpr ⟨(cl_X2_narrowMin_2 _ (List.mem_of_getElem? (i := 1) rfl)), List.forall_mem_cons.mpr ⟨(cl_X2_narrowMin_2 _ (List.mem_of_getElem? (i := 2) rfl)), List.forall_mem_cons.mpr ⟨(cl_X2_narrowMin_2 _ (List.mem_of_getElem? (i := 3) rfl)), List.forall_mem_cons.mpr ⟨(cl_X2_narrowMin_2 _ (List.mem_of_getElem? (i := 4) rfl)), fun _ h => absurd h List.not_mem_nil⟩⟩⟩⟩⟩⟩⟩⟩⟩⟩⟩⟩⟩⟩⟩⟩⟩⟩⟩⟩⟩⟩⟩⟩) w) ((List.forall_mem_cons.mpr ⟨(cl_X2_narrowMin_2 _ (List.mem_of_getElem? (i := 5) rfl)), List.forall_mem_cons.mpr ⟨(cl_X2_narrowMin_2 _ (List.mem_of_getElem? (i := 6) rfl)), List.forall_mem_cons.mpr ⟨(cl_X2_narrowMin_2 _ (List.mem_of_getElem? (i := 7) rfl)), List.forall_mem_cons.mpr ⟨(cl_X2_narrowMin_2 _ (List.mem_of_getElem? (i := 8) rfl)), List.forall_mem_cons.mpr ⟨(cl_X2_narrowMin_2 _ (List.mem_of_getElem? (i := 9) rfl)), List.forall_mem_cons.mpr ⟨(cl_X2_narrowMin_2 _ (List.mem_of_getElem? (i := 10) rfl)), List.forall_mem_cons.mpr ⟨(cl_X2_narrowMin_2 _ (List.mem_of_getElem? (i := 11) rfl)), fun _ h => absurd h List.not_mem_nil⟩⟩⟩⟩⟩⟩⟩) w)) w) ((cl_X2_narrowMin_4) w)) w) ((cl_X2_narrowMin_5) w)) w) ((cl_X2_narrowMin_6) w)⟩) (by decide +kernel)
set_option maxRecDepth 20000 in
theorem gX2_narrowMin_X0_putLesser : GoodIn wsX2_narrowMin (wsV RX2 51 RX0 yX0_putLesser wsX0_putLesser) := goodIn_app (goodIn_sub (List.forall_mem_cons.mpr ⟨(cl_X2_narrowMin_1 _ (List.mem_of_getElem? (i := 1) rfl)), List.forall_mem_cons.mpr ⟨(cl_X2_narrowMin_1 _ (List.mem_of_getElem? (i := 2) rfl)), List.forall_mem_cons.mpr ⟨(cl_X2_narrowMin_1 _ (List.mem_of_getElem? (i := 3) rfl)), List.forall_mem_cons.mpr ⟨(cl_X2_narrowMin_1 _ (List.mem_of_getElem? (i := 4) rfl)), fun _ h => absurd h List.not_mem_nil⟩⟩⟩⟩) (by decide +kernel)) ggX2_narrowMin_X0_putLesser
noncomputable def dz_p13_29 : List (Nat × Instr × Nat) := [(0, (.aload_n 0, 1)), (1, (.getfield 25, 3)), (4, (.iload_n 1, 1)), (5, (.iload_n 2, 1)), (6, (.iload_n 3, 1)), (7, (.invokevirtual 51, 3)), (10, (.ireturn, 1))]
theorem dy_p13_29 : dz_ok cX2_narrowMin dz_p13_29 = true := by decide +kernel
theorem dX2_narrowMin_0 : decode cX2_narrowMin 0 = .ok (.aload_n 0, 1) := dz_at (i := 0) dy_p13_29 rfl
theorem dX2_narrowMin_1 : decode cX2_narrowMin 1 = .ok (.getfield 25, 3) := dz_at (i := 1) dy_p13_29 rfl
theorem dX2_narrowMin_4 : decode cX2_narrowMin 4 = .ok (.iload_n 1, 1) := dz_at (i := 2) dy_p13_29 rfl
theorem dX2_narrowMin_5 : decode cX2_narrowMin 5 = .ok (.iload_n 2, 1) := dz_at (i := 3) dy_p13_29 rfl
theorem dX2_narrowMin_6 : decode cX2_narrowMin 6 = .ok (.iload_n 3, 1) := dz_at (i := 4) dy_p13_29 rfl
theorem dX2_narrowMin_7 : decode cX2_narrowMin 7 = .ok (.invokevirtual 51, 3) := dz_at (i := 5) dy_p13_29 rfl
theorem dX2_narrowMin_10 : decode cX2_narrowMin 10 = .ok (.ireturn, 1) := dz_at (i := 6) dy_p13_29 rfl
noncomputable def o_X2_narrowMin (a2 : Int32) (f2 : Nat → Int64) (p0 : Int32) (p1 : Int32) (p2 : Int32) : Int32 × Int32 × Int32 × (Nat → Int64) :=
  if (o_X0_putLesser false a2 f2 p0 p1 p2).1 = 0 then (0, (o_X0_putLesser false a2 f2 p0 p1 p2).2.1, (o_X0_putLesser false a2 f2 p0 p1 p2).2.2.1, (o_X0_putLesser false a2 f2 p0 p1 p2).2.2.2)
  else ((o_X0_putLesser false a2 f2 p0 p1 p2).1, 0, a2, f2)
set_option maxHeartbeats 4000000 in
set_option maxRecDepth 100000 in
theorem k_X2_narrowMin (l : Launch) (hfl : l.flags = flags0) (dC : Nat → ClassId) (dI : Nat → Nat → Nat) (cy : ClassId) (h0 : Nat) (h1 : Nat) (hw1 : Nat) (hc1 : Nat) (hb1 : Nat) (h2 : Nat) (hw2 : Nat) (hc2 : Nat) (hb2 : Nat) (a1 : Int32) (r1 : Int32) (f1 : Nat → Int64) (g1 : Nat → Int64) (a2 : Int32) (r2 : Int32) (f2 : Nat → Int64) (g2 : Nat → Int64) (kn : Int32) (sz : Nat) (N : Nat) (p0 : Int32) (p1 : Int32) (p2 : Int32) : vx_Met l yX2_narrowMin wsX2_narrowMin ({ frames := 9, cells := 3, slots := 18, locals := 165 }) (va_Pc [.ref h0, .int p0, .int p1, .int p2] (xM (dC, dI) xCl [(h0, eE h1 h2 kn), (h1, eR hw1 hc1 hb1 a1 r1), (hw1, eW true), (hc1, eA cy f1), (hb1, eA cy g1), (h2, eR hw2 hc2 hb2 a2 r2), (hw2, eW false), (hc2, eA cy f2), (hb2, eA cy g2)] [(cy, .long)] sz N)) (va_Qi (fun (r : Int32) (_ : Unit) => (o_X2_narrowMin a2 f2 p0 p1 p2).1 = 0 ∧ r = (o_X2_narrowMin a2 f2 p0 p1 p2).2.1) (fun _ t => xW (dC, dI) xCl [(h0, eE h1 h2 kn), (h1, eR hw1 hc1 hb1 a1 r1), (hw1, eW true), (hc1, eA cy f1), (hb1, eA cy g1), (h2, eR hw2 hc2 hb2 (o_X2_narrowMin a2 f2 p0 p1 p2).2.2.1 r2), (hw2, eW false), (hc2, eA cy (o_X2_narrowMin a2 f2 p0 p1 p2).2.2.2), (hb2, eA cy g2)] (va_A [(h0, eE h1 h2 kn), (h1, eR hw1 hc1 hb1 a1 r1), (hw1, eW true), (hc1, eA cy f1), (hb1, eA cy g1), (h2, eR hw2 hc2 hb2 a2 r2), (hw2, eW false), (hc2, eA cy f2), (hb2, eA cy g2)] sz) t) (va_A [(h0, eE h1 h2 kn), (h1, eR hw1 hc1 hb1 a1 r1), (hw1, eW true), (hc1, eA cy f1), (hb1, eA cy g1), (h2, eR hw2 hc2 hb2 a2 r2), (hw2, eW false), (hc2, eA cy f2), (hb2, eA cy g2)] sz)) (vx_X (fun _ : Unit => ¬ (o_X2_narrowMin a2 f2 p0 p1 p2).1 = 0) (fun E _ t => E = xE (o_X2_narrowMin a2 f2 p0 p1 p2).1 ∧ xW (dC, dI) xCl [(h0, eE h1 h2 kn), (h1, eR hw1 hc1 hb1 a1 r1), (hw1, eW true), (hc1, eA cy f1), (hb1, eA cy g1), (h2, eR hw2 hc2 hb2 a2 r2), (hw2, eW false), (hc2, eA cy f2), (hb2, eA cy g2)] (va_A [(h0, eE h1 h2 kn), (h1, eR hw1 hc1 hb1 a1 r1), (hw1, eW true), (hc1, eA cy f1), (hb1, eA cy g1), (h2, eR hw2 hc2 hb2 a2 r2), (hw2, eW false), (hc2, eA cy f2), (hb2, eA cy g2)] sz) t) (va_A [(h0, eE h1 h2 kn), (h1, eR hw1 hc1 hb1 a1 r1), (hw1, eW true), (hc1, eA cy f1), (hb1, eA cy g1), (h2, eR hw2 hc2 hb2 a2 r2), (hw2, eW false), (hc2, eA cy f2), (hb2, eA cy g2)] sz)) 3 18 (va_A [(h0, eE h1 h2 kn), (h1, eR hw1 hc1 hb1 a1 r1), (hw1, eW true), (hc1, eA cy f1), (hb1, eA cy g1), (h2, eR hw2 hc2 hb2 a2 r2), (hw2, eW false), (hc2, eA cy f2), (hb2, eA cy g2)] sz) := by
  refine vx_ofW (cc := cX2_narrowMin) (maxL := 4) (ret := (some .int)) (by decide +kernel) rfl ?_
  intro p e s m args below meth c s₁ B hml hno hv
  obtain ⟨rfl, hsz, hP, hK, hD0, hN, hG⟩ := hv
  have hx := B.exec
  have hb := B.bytes
  have hr := B.returns
  have hts := atoms_spec (ws := wsX2_narrowMin) B.pre
  have hown : s.vm.findClass RX2 = some m.cls := findClass_of_methodNamed B.named
  have hlocks := B.notSynchronized
  subst hsz
  have hAN : ∀ q, va_A [(h0, eE h1 h2 kn), (h1, eR hw1 hc1 hb1 a1 r1), (hw1, eW true), (hc1, eA cy f1), (hb1, eA cy g1), (h2, eR hw2 hc2 hb2 a2 r2), (hw2, eW false), (hc2, eA cy f2), (hb2, eA cy g2)] s.heap.size q → N ≤ q := xA_N hD0 hN
  have hD := hD0.self (sz := s.heap.size)
  generalize hAe : va_A [(h0, eE h1 h2 kn), (h1, eR hw1 hc1 hb1 a1 r1), (hw1, eW true), (hc1, eA cy f1), (hb1, eA cy g1), (h2, eR hw2 hc2 hb2 a2 r2), (hw2, eW false), (hc2, eA cy f2), (hb2, eA cy g2)] s.heap.size = A at hD hAN ⊢
  have hA : ∀ q : Nat, s.heap.size ≤ q → A q := fun q h => by rw [← hAe]; exact Or.inr h
  have hS : va_S A s.heap s.heap [] := va_S.rf
  have hP : va_P (dC, dI) xCl [(h0, eE h1 h2 kn), (h1, eR hw1 hc1 hb1 a1 r1), (hw1, eW true), (hc1, eA cy f1), (hb1, eA cy g1), (h2, eR hw2 hc2 hb2 a2 r2), (hw2, eW false), (hc2, eA cy f2), (hb2, eA cy g2)] s.heap := hP
  have hl := lv_entry ([.ref h0, .int p0, .int p1, .int p2]) (n := 4) (Nat.le_of_ble_eq_true rfl)
  rw [lg_entry_eq]
  generalize (lg_sl ([.ref h0, .int p0, .int p1, .int p2]) ++ List.replicate (4 - (lg_sl ([.ref h0, .int p0, .int p1, .int p2])).length) Slot.unset).toArray = ls at hl ⊢
  have hl : lv_has ls 4 [(0, .ref h0), (1, .int p0), (2, .int p1), (3, .int p2)] := hl
  refine lv_aload_n hx hb dX2_narrowMin_0 rfl (lv_at hl 0 rfl) ?_
  refine va_get (D := (dC, dI)) (ci := 4) (v := .ref h2) (C := RX2) (T := TX2) (N := 3) hx hb hts (by decide +kernel) hown hK hP 0 rfl rfl 1 (by decide +kernel) (hts (.fieldLink RX2 25 "Edgefloats" "narrow" "LEdgefloats$Row;") (by decide +kernel)) (fun _ h9 => h9) rfl dX2_narrowMin_1 ?_
  refine lv_iload_n hx hb dX2_narrowMin_4 rfl (lv_at hl 1 rfl) ?_
  refine lv_iload_n hx hb dX2_narrowMin_5 rfl (lv_at hl 2 rfl) ?_
  refine lv_iload_n hx hb dX2_narrowMin_6 rfl (lv_at hl 3 rfl) ?_
  have hPc := hP.sub (ws' := [(h2, eR hw2 hc2 hb2 a2 r2), (hw2, eW false), (hc2, eA cy f2), (hb2, eA cy g2)]) [5, 6, 7, 8] rfl
  have hDc := hD.sub (ws' := [(h2, eR hw2 hc2 hb2 a2 r2), (hw2, eW false), (hc2, eA cy f2), (hb2, eA cy g2)]) [5, 6, 7, 8] (by decide +kernel) rfl
  have hKc := hK.sub (tys' := [(cy, .long)]) [0] rfl
  have hFc := va_free (wc := [(h2, eR hw2 hc2 hb2 a2 r2), (hw2, eW false), (hc2, eA cy f2), (hb2, eA cy g2)]) hD hS hA [5, 6, 7, 8] rfl
  refine vx_calli (vx_runV (As := [.int p0, .int p1, .int p2]) (rest := []) ⟨hx, hb, hml, hown, hts⟩ (k_X0_putLesser l hfl dC dI cy h2 hw2 hc2 hb2 false a2 r2 f2 g2 s.heap.size N p0 p1 p2) (cwV 3 hts gX2_narrowMin_X0_putLesser rfl rfl rfl (by decide +kernel) ⟨Nat.le_of_ble_eq_true rfl, Nat.le_of_ble_eq_true rfl⟩) (xM.preV hKc hPc hDc hAN (Nat.le_trans hN hS.1) (hG.kept hS hAN) (ci := 2) (q0 := 0) rfl rfl) rfl rfl hl.1 rfl (lv_room (Nat.le_of_ble_eq_true rfl)) dX2_narrowMin_7 ⟨Nat.le_of_ble_eq_true rfl, Nat.le_of_ble_eq_true rfl⟩) hS (fun q _ h => hFc q h) hFc (fun q _ h => hFc q h) (fun E ce q9 u9 t H locs ht hvm hpx hbx hz hk hS hce hcv hcl => ?_) (fun r_1 u t H locs ht hvm hw hB hz hk hS => ?_)
  · have c_2 : ¬ (o_X0_putLesser false a2 f2 p0 p1 p2).1 = 0 := hpx
    obtain ⟨hbe, hP1, hD1⟩ := hbx
    rw [ht] at hP1
    obtain ⟨hP, hD⟩ := va_join (wr := [(h0, eE h1 h2 kn), (h1, eR hw1 hc1 hb1 a1 r1), (hw1, eW true), (hc1, eA cy f1), (hb1, eA cy g1)]) (w1 := [(h2, eR hw2 hc2 hb2 a2 r2), (hw2, eW false), (hc2, eA cy f2), (hb2, eA cy g2)]) hP hD [5, 6, 7, 8] [0, 1, 2, 3, 4] rfl rfl (by decide +kernel) (by decide +kernel) hk hFc hP1 hD1
    have hP := hP.sub (ws' := [(h0, eE h1 h2 kn), (h1, eR hw1 hc1 hb1 a1 r1), (hw1, eW true), (hc1, eA cy f1), (hb1, eA cy g1), (h2, eR hw2 hc2 hb2 a2 r2), (hw2, eW false), (hc2, eA cy f2), (hb2, eA cy g2)]) [0, 1, 2, 3, 4, 5, 6, 7, 8] rfl
    have hD := hD.sub (ws' := [(h0, eE h1 h2 kn), (h1, eR hw1 hc1 hb1 a1 r1), (hw1, eW true), (hc1, eA cy f1), (hb1, eA cy g1), (h2, eR hw2 hc2 hb2 a2 r2), (hw2, eW false), (hc2, eA cy f2), (hb2, eA cy g2)]) [0, 1, 2, 3, 4, 5, 6, 7, 8] (by decide +kernel) rfl
    have he : o_X2_narrowMin a2 f2 p0 p1 p2 = ((o_X0_putLesser false a2 f2 p0 p1 p2).1, 0, a2, f2) := by (rw [o_X2_narrowMin, if_neg c_2]) <;> rfl
    exact vx_out (fun x hx => (hno x hx).elim) hlocks hce hcv hcl (fun t ht hvm => ⟨(), by rw [he]; exact c_2, ⟨by rw [he]; exact hbe, by rw [ht]; exact hP, hD⟩, hS.F ht⟩) hS.2.2 (by omega) (by omega)
  · skip
    obtain ⟨c_3, hw⟩ := hw
    have c_3 : (o_X0_putLesser false a2 f2 p0 p1 p2).1 = 0 := c_3
    replace hw : r_1 = (o_X0_putLesser false a2 f2 p0 p1 p2).2.1 := hw
    subst r_1
    obtain ⟨hP1, hD1⟩ := hB
    rw [ht] at hP1
    obtain ⟨hP, hD⟩ := va_join (wr := [(h0, eE h1 h2 kn), (h1, eR hw1 hc1 hb1 a1 r1), (hw1, eW true), (hc1, eA cy f1), (hb1, eA cy g1)]) (w1 := [(h2, eR hw2 hc2 hb2 (o_X0_putLesser false a2 f2 p0 p1 p2).2.2.1 r2), (hw2, eW false), (hc2, eA cy (o_X0_putLesser false a2 f2 p0 p1 p2).2.2.2), (hb2, eA cy g2)]) hP hD [5, 6, 7, 8] [0, 1, 2, 3, 4] rfl rfl (by decide +kernel) (by decide +kernel) hk hFc hP1 hD1
    have hP := hP.sub (ws' := [(h0, eE h1 h2 kn), (h1, eR hw1 hc1 hb1 a1 r1), (hw1, eW true), (hc1, eA cy f1), (hb1, eA cy g1), (h2, eR hw2 hc2 hb2 (o_X0_putLesser false a2 f2 p0 p1 p2).2.2.1 r2), (hw2, eW false), (hc2, eA cy (o_X0_putLesser false a2 f2 p0 p1 p2).2.2.2), (hb2, eA cy g2)]) [0, 1, 2, 3, 4, 5, 6, 7, 8] rfl
    have hD := hD.sub (ws' := [(h0, eE h1 h2 kn), (h1, eR hw1 hc1 hb1 a1 r1), (hw1, eW true), (hc1, eA cy f1), (hb1, eA cy g1), (h2, eR hw2 hc2 hb2 (o_X0_putLesser false a2 f2 p0 p1 p2).2.2.1 r2), (hw2, eW false), (hc2, eA cy (o_X0_putLesser false a2 f2 p0 p1 p2).2.2.2), (hb2, eA cy g2)]) [0, 1, 2, 3, 4, 5, 6, 7, 8] (by decide +kernel) rfl
    have he : o_X2_narrowMin a2 f2 p0 p1 p2 = (0, (o_X0_putLesser false a2 f2 p0 p1 p2).2.1, (o_X0_putLesser false a2 f2 p0 p1 p2).2.2.1, (o_X0_putLesser false a2 f2 p0 p1 p2).2.2.2) := by (rw [o_X2_narrowMin, if_pos c_3]) <;> rfl
    refine W.widen (k := 3) (n := 18) (by omega) (by omega) ?_
    refine vx_ret ?_
    exact W.iret (v := ((o_X0_putLesser false a2 f2 p0 p1 p2).2.1)) hx hb hr (fun t ht hW => ⟨⟨_, (), rfl, ⟨(by (rw [he]) <;> rfl), (by (rw [he]) <;> rfl)⟩, (by rw [he]; exact ⟨by rw [ht]; exact hP, hD⟩)⟩, hS.F ht⟩) hS.2.2 dX2_narrowMin_10
theorem cl_X2_narrowSum_1 : ∀ w ∈ wsX2_narrowSum_r1, w ∈ wsX2_narrowSum := fun _ h => (List.mem_cons_of_mem _ (List.mem_append_left _ (List.mem_append_left _ (List.mem_append_left _ (List.mem_append_left _ (List.mem_append_left _ h))))))
theorem cl_X2_narrowSum_2 : ∀ w ∈ wsX2_narrowSum_r2, w ∈ wsX2_narrowSum := fun _ h => (List.mem_cons_of_mem _ (List.mem_append_left _ (List.mem_append_left _ (List.mem_append_left _ (List.mem_append_left _ (List.mem_append_right _ (List.mem_append_left _ h)))))))
theorem cl_X2_narrowSum_3 : ∀ w ∈ wsX2_narrowSum_r3, w ∈ wsX2_narrowSum := fun _ h => (List.mem_cons_of_mem _ (List.mem_append_left _ (List.mem_append_left _ (List.mem_append_left _ (List.mem_append_left _ (List.mem_append_right _ (List.mem_append_right _ (List.mem_append_left _ h))))))))
theorem cl_X2_narrowSum_4 : ∀ w ∈ wsX2_narrowSum_r4, w ∈ wsX2_narrowSum := fun _ h => (List.mem_cons_of_mem _ (List.mem_append_left _ (List.mem_append_left _ (List.mem_append_left _ (List.mem_append_left _ (List.mem_append_right _ (List.mem_append_right _ (List.mem_append_right _ h))))))))
theorem cl_X2_narrowSum_5 : ∀ w ∈ wsX20, w ∈ wsX2_narrowSum := fun _ h => (List.mem_cons_of_mem _ (List.mem_append_left _ (List.mem_append_left _ (List.mem_append_left _ (List.mem_append_right _ h)))))
theorem cl_X2_narrowSum_6 : ∀ w ∈ wsX00, w ∈ wsX2_narrowSum := fun _ h => (List.mem_cons_of_mem _ (List.mem_append_left _ (List.mem_append_left _ (List.mem_append_right _ h))))
theorem cl_X2_narrowSum_7 : ∀ w ∈ wsX10, w ∈ wsX2_narrowSum := fun _ h => (List.mem_cons_of_mem _ (List.mem_append_left _ (List.mem_append_right _ h)))
theorem cl_X2_narrowSum_8 : ∀ w ∈ (vx_atS RX2 152 "java/lang/IndexOutOfBoundsException" ["java/lang/RuntimeException", "java/lang/Exception"]).filter goodWord, w ∈ wsX2_narrowSum := fun _ h => (List.mem_cons_of_mem _ (List.mem_append_right _ h))
set_option maxRecDepth 20000 in
theorem ggX2_narrowSum_X0_putSum : GoodIn wsX2_narrowSum wsX0_putSum := goodIn_sub (List.forall_mem_cons.mpr ⟨(cl_X2_narrowSum_1 _ (List.mem_of_getElem? (i := 5) rfl)), fun w h => (List.mem_append.mp h).elim ((fun w h => (List.mem_append.mp h).elim ((fun w h => (List.mem_append.mp h).elim ((fun w h => (List.mem_append.mp h).elim ((List.forall_mem_cons.mpr ⟨(cl_X2_narrowSum_1 _ (List.mem_of_getElem? (i := 6) rfl)), List.forall_mem_cons.mpr ⟨(cl_X2_narrowSum_1 _ (List.mem_of_getElem? (i := 7) rfl)), List.forall_mem_cons.mpr ⟨(cl_X2_narrowSum_1 _ (List.mem_of_getElem? (i := 8) rfl)), List.forall_mem_cons.mpr ⟨(cl_X2_narrowSum_1 _ (List.mem_of_getElem? (i := 9) rfl)), List.forall_mem_cons.mpr ⟨(cl_X2_narrowSum_1 _ (List.mem_of_getElem? (i := 4) rfl)), List.forall_mem_cons.mpr ⟨(cl_X2_narrowSum_1 _ (List.mem_of_getElem? (i := 10) rfl)), List.forall_mem_cons.mpr ⟨(cl_X2_narrowSum_1 _ (List.mem_of_getElem? (i := 11) rfl)), List.forall_mem_cons.mpr ⟨(cl_X2_narrowSum_1 _ (List.mem_of_getElem? (i := 12) rfl)), List.forall_mem_cons.mpr ⟨(cl_X2_narrowSum_1 _ (List.mem_of_getElem? (i := 13) rfl)), List.forall_mem_cons.mpr ⟨(cl_X2_narrowSum_1 _ (List.mem_of_getElem? (i := 14) rfl)), List.forall_mem_cons.mpr ⟨(cl_X2_narrowSum_1 _ (List.mem_of_getElem? (i := 15) rfl)), List.forall_mem_cons.mpr ⟨(cl_X2_narrowSum_1 _ (List.mem_of_getElem? (i := 16) rfl)), List.forall_mem_cons.mpr ⟨(cl_X2_narrowSum_1 _ (List.mem_of_getElem? (i := 17) rfl)), List.forall_mem_cons.mpr ⟨(cl_X2_narrowSum_1 _ (List.mem_of_getElem? (i := 18) rfl)), List.forall_mem_cons.mpr ⟨(cl_X2_narrowSum_1 _ (List.mem_of_getElem? (i := 19) rfl)), List.forall_mem_cons.mpr ⟨(cl_X2_narrowSum_1 _ (List.mem_of_getElem? (i := 20) rfl)), List.forall_mem_cons.mpr ⟨(cl_X2_narrowSum_1 _ (List.mem_of_getElem? (i := 21) rfl)), List.forall_mem_cons.mpr ⟨(cl_X2_narrowSum_1 _ (List.mem_of_getElem? (i := 22) rfl)), List.forall_mem_cons.mpr ⟨(cl_X2_narrowSum_1 _ (List.mem_of_getElem? (i := 23) rfl)), List.forall_mem_cons.mpr ⟨(cl_X2_narrowSum_2 _ (List.mem_of_getElem? (i := 0) rfl)), List.forall_mem_cons.mpr ⟨(cl_X2_narrowSum_2 _ (List.mem_of_getElem? (i := 1) rfl)), List.forall_mem_cons.mpr ⟨(cl_X2_narrowSum_2 _ (List.mem_of_getElem? (i := 2) rfl)), List.forall_mem_cons.mpr ⟨(cl_X2_narrowSum_2 _ (List.mem_of_getElem? (i := 3) rfl)), List.forall_mem_cons.mpr ⟨(cl_X2_narrowSum_2 _ (List.mem_of_getElem? (i := 4) rfl)), fun _ h => absurd h List.not_mem_nil⟩⟩⟩⟩⟩⟩⟩⟩⟩⟩⟩⟩⟩⟩⟩⟩⟩⟩⟩⟩⟩⟩⟩⟩) w) ((fun w h => (List.mem_append.mp h).elim ((List.forall_mem_cons.mpr ⟨(cl_X2_narrowSum_2 _ (List.mem_of_getElem? (i := 5) rfl)), List.forall_mem_cons.mpr ⟨(cl_X2_narrowSum_2 _ (List.mem_of_getElem? (i := 6) rfl)), List.forall_mem_cons.mpr ⟨(cl_X2_narrowSum_2 _ (List.mem_of_getElem? (i := 7) rfl)), List.forall_mem_cons.mpr ⟨(cl_X2_narrowSum_2 _ (List.mem_of_getElem? (i := 8) rfl)), List.forall_mem_cons.mpr ⟨(cl_X2_narrowSum_2 _ (List.mem_of_getElem? (i := 9) rfl)), List.forall_mem_cons.mpr ⟨(cl_X2_narrowSum_2 _ (List.mem_of_getElem? (i := 10) rfl)), List.forall_mem_cons.mpr ⟨(cl_X2_narrowSum_2 _ (List.mem_of_getElem? (i := 11) rfl)), List.forall_mem_cons.mpr ⟨(cl_X2_narrowSum_2 _ (List.mem_of_getElem? (i := 12) rfl)), List.forall_mem_cons.mpr ⟨(cl_X2_narrowSum_2 _ (List.mem_of_getElem? (i := 13) rfl)), List.forall_mem_cons.mpr ⟨(cl_X2_narrowSum_2 _ (List.mem_of_getElem? (i := 14) rfl)), List.forall_mem_cons.mpr ⟨(cl_X2_narrowSum_2 _ (List.mem_of_getElem? (i := 15) rfl)), List.forall_mem_cons.mpr ⟨(cl_X2_narrowSum_2 _ (List.mem_of_getElem? (i := 16) rfl)), List.forall_mem_cons.mpr ⟨(cl_X2_narrowSum_2 _ (List.mem_of_getElem? (i := 17) rfl)), List.forall_mem_cons.mpr ⟨(cl_X2_narrowSum_2 _ (List.mem_of_getElem? (i := 18) rfl)), List.forall_mem_cons.mpr ⟨(cl_X2_narrowSum_2 _ (List.mem_of_getElem? (i := 19) rfl)), List.forall_mem_cons.mpr ⟨(cl_X2_narrowSum_2 _ (List.mem_of_getElem? (i := 20) rfl)), List.forall_mem_cons.mpr ⟨(cl_X2_narrowSum_2 _ (List.mem_of_getElem? (i := 21) rfl)), List.forall_mem_cons.mpr ⟨(cl_X2_narrowSum_2 _ (List.mem_of_getElem? (i := 22) rfl)), List.forall_mem_cons.mpr ⟨(cl_X2_narrowSum_2 _ (List.mem_of_getElem? (i := 23) rfl)), List.forall_mem_cons.mpr ⟨(cl_X2_narrowSum_3 _ (List.mem_of_getElem? (i := 0) rfl)), List.forall_mem_cons.mpr ⟨(cl_X2_narrowSum_3 _ (List.mem_of_getElem? (i := 1) rfl)), List.forall_mem_cons.mpr ⟨(cl_X2_narrowSum_3 _ (List.mem_of_getElem? (i := 2) rfl)), List.forall_mem_cons.mpr ⟨(cl_X2_narrowSum_3 _ (List.mem_of_getElem? (i := 3) rfl)), List.forall_mem_cons.mpr ⟨(cl_X2_narrowSum_3 _ (List.mem_of_getElem? (i := 4) rfl)), fun _ h => absurd h List.not_mem_nil⟩⟩⟩⟩⟩⟩⟩⟩⟩⟩⟩⟩⟩⟩⟩⟩⟩⟩⟩⟩⟩⟩⟩⟩) w) ((fun w h => (List.mem_append.mp h).elim ((List.forall_mem_cons.mpr ⟨(cl_X2_narrowSum_3 _ (List.mem_of_getElem? (i := 5) rfl)), List.forall_mem_cons.mpr ⟨(cl_X2_narrowSum_3 _ (List.mem_of_getElem? (i := 6) rfl)), List.forall_mem_cons.mpr ⟨(cl_X2_narrowSum_3 _ (List.mem_of_getElem? (i := 7) rfl)), List.forall_mem_cons.mpr ⟨(cl_X2_narrowSum_3 _ (List.mem_of_getElem? (i := 8) rfl)), List.forall_mem_cons.mpr ⟨(cl_X2_narrowSum_3 _ (List.mem_of_getElem? (i := 9) rfl)), List.forall_mem_cons.mpr ⟨(cl_X2_narrowSum_3 _ (List.mem_of_getElem? (i := 10) rfl)), List.forall_mem_cons.mpr ⟨(cl_X2_narrowSum_3 _ (List.mem_of_getElem? (i := 11) rfl)), List.forall_mem_cons.mpr ⟨(cl_X2_narrowSum_3 _ (List.mem_of_getElem? (i := 12) rfl)), List.forall_mem_cons.mpr ⟨(cl_X2_narrowSum_3 _ (List.mem_of_getElem? (i := 13) rfl)), List.forall_mem_cons.mpr ⟨(cl_X2_narrowSum_3 _ (List.mem_of_getElem? (i := 14) rfl)), List.forall_mem_cons.mpr ⟨(cl_X2_narrowSum_3 _ (List.mem_of_getElem? (i := 15) rfl)), List.forall_mem_cons.mpr ⟨(cl_X2_narrowSum_3 _ (List.mem_of_getElem? (i := 16) rfl)), List.forall_mem_cons.mpr ⟨(cl_X2_narrowSum_3 _ (List.mem_of_getElem? (i := 17) rfl)), List.forall_mem_cons.mpr ⟨(cl_X2_narrowSum_3 _ (List.mem_of_getElem? (i := 18) rfl)), List.forall_mem_cons.mpr ⟨(cl_X2_narrowSum_3 _ (List.mem_of_getElem? (i := 19) rfl)), List.forall_mem_cons.mpr ⟨(cl_X2_narrowSum_3 _ (List.mem_of_getElem? (i := 20) rfl)), List.forall_mem_cons.mpr ⟨(cl_X2_narrowSum_3 _ (List.mem_of_getElem? (i := 21) rfl)), List.forall_mem_cons.mpr ⟨(cl_X2_narrowSum_3 _ (List.mem_of_getElem? (i := 22) rfl)), List.forall_mem_cons.mpr ⟨(cl_X2_narrowSum_3 _ (List.mem_of_getElem? (i := 23) rfl)), List.forall_mem_cons.mpr ⟨(cl_X2_narrowSum_4 _ (List.mem_of_getElem? (i := 0) rfl)), List.forall_mem_cons.mpr ⟨(cl_X2_narrowSum_4 _ (List.mem_of_getElem? (i := 1) rfl)), List.forall_mem_cons.mpr ⟨(cl_X2_narrowSum_4 _ (List.mem_of_getElem? (i := 2) rfl)), List.forall_mem_cons.mpr ⟨(cl_X2_narrowSum_4 _ (List.mem_of_getElem? (i := 3) rfl)), List.forall_mem_cons.mpr ⟨(cl_X2_narrowSum_4 _ (List.mem_of_getElem? (i := 4) rfl)), fun _ h => absurd h List.not_mem_nil⟩⟩⟩⟩⟩⟩⟩⟩⟩⟩⟩⟩⟩⟩⟩⟩⟩⟩⟩⟩⟩⟩⟩⟩) w) ((List.forall_mem_cons.mpr ⟨(cl_X2_narrowSum_4 _ (List.mem_of_getElem? (i := 5) rfl)), List.forall_mem_cons.mpr ⟨(cl_X2_narrowSum_4 _ (List.mem_of_getElem? (i := 6) rfl)), fun _ h => absurd h List.not_mem_nil⟩⟩) w)) w)) w)) w) ((cl_X2_narrowSum_6) w)) w) ((cl_X2_narrowSum_7) w)) w) ((cl_X2_narrowSum_8) w)⟩) (by decide +kernel)
set_option maxRecDepth 20000 in
theorem gX2_narrowSum_X0_putSum : GoodIn wsX2_narrowSum (wsV RX2 54 RX0 yX0_putSum wsX0_putSum) := goodIn_app (goodIn_sub (List.forall_mem_cons.mpr ⟨(cl_X2_narrowSum_1 _ (List.mem_of_getElem? (i := 1) rfl)), List.forall_mem_cons.mpr ⟨(cl_X2_narrowSum_1 _ (List.mem_of_getElem? (i := 2) rfl)), List.forall_mem_cons.mpr ⟨(cl_X2_narrowSum_1 _ (List.mem_of_getElem? (i := 3) rfl)), List.forall_mem_cons.mpr ⟨(cl_X2_narrowSum_1 _ (List.mem_of_getElem? (i := 4) rfl)), fun _ h => absurd h List.not_mem_nil⟩⟩⟩⟩) (by decide +kernel)) ggX2_narrowSum_X0_putSum
noncomputable def dz_p13_30 : List (Nat × Instr × Nat) := [(0, (.aload_n 0, 1)), (1, (.getfield 25, 3)), (4, (.iload_n 1, 1)), (5, (.iload_n 2, 1)), (6, (.iload_n 3, 1)), (7, (.invokevirtual 54, 3)), (10, (.ireturn, 1))]
theorem dy_p13_30 : dz_ok cX2_narrowSum dz_p13_30 = true := by decide +kernel
theorem dX2_narrowSum_0 : decode cX2_narrowSum 0 = .ok (.aload_n 0, 1) := dz_at (i := 0) dy_p13_30 rfl
theorem dX2_narrowSum_1 : decode cX2_narrowSum 1 = .ok (.getfield 25, 3) := dz_at (i := 1) dy_p13_30 rfl
theorem dX2_narrowSum_4 : decode cX2_narrowSum 4 = .ok (.iload_n 1, 1) := dz_at (i := 2) dy_p13_30 rfl
theorem dX2_narrowSum_5 : decode cX2_narrowSum 5 = .ok (.iload_n 2, 1) := dz_at (i := 3) dy_p13_30 rfl
theorem dX2_narrowSum_6 : decode cX2_narrowSum 6 = .ok (.iload_n 3, 1) := dz_at (i := 4) dy_p13_30 rfl
theorem dX2_narrowSum_7 : decode cX2_narrowSum 7 = .ok (.invokevirtual 54, 3) := dz_at (i := 5) dy_p13_30 rfl
theorem dX2_narrowSum_10 : decode cX2_narrowSum 10 = .ok (.ireturn, 1) := dz_at (i := 6) dy_p13_30 rfl
noncomputable def o_X2_narrowSum (a2 : Int32) (r2 : Int32) (f2 : Nat → Int64) (p0 : Int32) (p1 : Int32) (p2 : Int32) : Int32 × Int32 × Int32 × Int32 × (Nat → Int64) :=
  if (o_X0_putSum false a2 r2 f2 p0 p1 p2).1 = 0 then (0, (o_X0_putSum false a2 r2 f2 p0 p1 p2).2.1, (o_X0_putSum false a2 r2 f2 p0 p1 p2).2.2.1, (o_X0_putSum false a2 r2 f2 p0 p1 p2).2.2.2.1, (o_X0_putSum false a2 r2 f2 p0 p1 p2).2.2.2.2)
  else ((o_X0_putSum false a2 r2 f2 p0 p1 p2).1, 0, a2, r2, f2)
set_option maxHeartbeats 4000000 in
set_option maxRecDepth 100000 in
theorem k_X2_narrowSum (l : Launch) (hfl : l.flags = flags0) (dC : Nat → ClassId) (dI : Nat → Nat → Nat) (cy : ClassId) (h0 : Nat) (h1 : Nat) (hw1 : Nat) (hc1 : Nat) (hb1 : Nat) (h2 : Nat) (hw2 : Nat) (hc2 : Nat) (hb2 : Nat) (a1 : Int32) (r1 : Int32) (f1 : Nat → Int64) (g1 : Nat → Int64) (a2 : Int32) (r2 : Int32) (f2 : Nat → Int64) (g2 : Nat → Int64) (kn : Int32) (sz : Nat) (N : Nat) (p0 : Int32) (p1 : Int32) (p2 : Int32) : vx_Met l yX2_narrowSum wsX2_narrowSum ({ frames := 9, cells := 3, slots := 18, locals := 165 }) (va_Pc [.ref h0, .int p0, .int p1, .int p2] (xM (dC, dI) xCl [(h0, eE h1 h2 kn), (h1, eR hw1 hc1 hb1 a1 r1), (hw1, eW true), (hc1, eA cy f1), (hb1, eA cy g1), (h2, eR hw2 hc2 hb2 a2 r2), (hw2, eW false), (hc2, eA cy f2), (hb2, eA cy g2)] [(cy, .long)] sz N)) (va_Qi (fun (r : Int32) (_ : Unit) => (o_X2_narrowSum a2 r2 f2 p0 p1 p2).1 = 0 ∧ r = (o_X2_narrowSum a2 r2 f2 p0 p1 p2).2.1) (fun _ t => xW (dC, dI) xCl [(h0, eE h1 h2 kn), (h1, eR hw1 hc1 hb1 a1 r1), (hw1, eW true), (hc1, eA cy f1), (hb1, eA cy g1), (h2, eR hw2 hc2 hb2 (o_X2_narrowSum a2 r2 f2 p0 p1 p2).2.2.1 (o_X2_narrowSum a2 r2 f2 p0 p1 p2).2.2.2.1), (hw2, eW false), (hc2, eA cy (o_X2_narrowSum a2 r2 f2 p0 p1 p2).2.2.2.2), (hb2, eA cy g2)] (va_A [(h0, eE h1 h2 kn), (h1, eR hw1 hc1 hb1 a1 r1), (hw1, eW true), (hc1, eA cy f1), (hb1, eA cy g1), (h2, eR hw2 hc2 hb2 a2 r2), (hw2, eW false), (hc2, eA cy f2), (hb2, eA cy g2)] sz) t) (va_A [(h0, eE h1 h2 kn), (h1, eR hw1 hc1 hb1 a1 r1), (hw1, eW true), (hc1, eA cy f1), (hb1, eA cy g1), (h2, eR hw2 hc2 hb2 a2 r2), (hw2, eW false), (hc2, eA cy f2), (hb2, eA cy g2)] sz)) (vx_X (fun _ : Unit => ¬ (o_X2_narrowSum a2 r2 f2 p0 p1 p2).1 = 0) (fun E _ t => E = xE (o_X2_narrowSum a2 r2 f2 p0 p1 p2).1 ∧ xW (dC, dI) xCl [(h0, eE h1 h2 kn), (h1, eR hw1 hc1 hb1 a1 r1), (hw1, eW true), (hc1, eA cy f1), (hb1, eA cy g1), (h2, eR hw2 hc2 hb2 a2 r2), (hw2, eW false), (hc2, eA cy f2), (hb2, eA cy g2)] (va_A [(h0, eE h1 h2 kn), (h1, eR hw1 hc1 hb1 a1 r1), (hw1, eW true), (hc1, eA cy f1), (hb1, eA cy g1), (h2, eR hw2 hc2 hb2 a2 r2), (hw2, eW false), (hc2, eA cy f2), (hb2, eA cy g2)] sz) t) (va_A [(h0, eE h1 h2 kn), (h1, eR hw1 hc1 hb1 a1 r1), (hw1, eW true), (hc1, eA cy f1), (hb1, eA cy g1), (h2, eR hw2 hc2 hb2 a2 r2), (hw2, eW false), (hc2, eA cy f2), (hb2, eA cy g2)] sz)) 3 18 (va_A [(h0, eE h1 h2 kn), (h1, eR hw1 hc1 hb1 a1 r1), (hw1, eW true), (hc1, eA cy f1), (hb1, eA cy g1), (h2, eR hw2 hc2 hb2 a2 r2), (hw2, eW false), (hc2, eA cy f2), (hb2, eA cy g2)] sz) := by
  refine vx_ofW (cc := cX2_narrowSum) (maxL := 4) (ret := (some .int)) (by decide +kernel) rfl ?_
  intro p e s m args below meth c s₁ B hml hno hv
  obtain ⟨rfl, hsz, hP, hK, hD0, hN, hG⟩ := hv
  have hx := B.exec
  have hb := B.bytes
  have hr := B.returns
  have hts := atoms_spec (ws := wsX2_narrowSum) B.pre
  have hown : s.vm.findClass RX2 = some m.cls := findClass_of_methodNamed B.named
  have hlocks := B.notSynchronized
  subst hsz
  have hAN : ∀ q, va_A [(h0, eE h1 h2 kn), (h1, eR hw1 hc1 hb1 a1 r1), (hw1, eW true), (hc1, eA cy f1), (hb1, eA cy g1), (h2, eR hw2 hc2 hb2 a2 r2), (hw2, eW false), (hc2, eA cy f2), (hb2, eA cy g2)] s.heap.size q → N ≤ q := xA_N hD0 hN
  have hD := hD0.self (sz := s.heap.size)
  generalize hAe : va_A [(h0, eE h1 h2 kn), (h1, eR hw1 hc1 hb1 a1 r1), (hw1, eW true), (hc1, eA cy f1), (hb1, eA cy g1), (h2, eR hw2 hc2 hb2 a2 r2), (hw2, eW false), (hc2, eA cy f2), (hb2, eA cy g2)] s.heap.size = A at hD hAN ⊢
  have hA : ∀ q : Nat, s.heap.size ≤ q → A q := fun q h => by rw [← hAe]; exact Or.inr h
  have hS : va_S A s.heap s.heap [] := va_S.rf
  have hP : va_P (dC, dI) xCl [(h0, eE h1 h2 kn), (h1, eR hw1 hc1 hb1 a1 r1), (hw1, eW true), (hc1, eA cy f1), (hb1, eA cy g1), (h2, eR hw2 hc2 hb2 a2 r2), (hw2, eW false), (hc2, eA cy f2), (hb2, eA cy g2)] s.heap := hP
  have hl := lv_entry ([.ref h0, .int p0, .int p1, .int p2]) (n := 4) (Nat.le_of_ble_eq_true rfl)
  rw [lg_entry_eq]
  generalize (lg_sl ([.ref h0, .int p0, .int p1, .int p2]) ++ List.replicate (4 - (lg_sl ([.ref h0, .int p0, .int p1, .int p2])).length) Slot.unset).toArray = ls at hl ⊢
  have hl : lv_has ls 4 [(0, .ref h0), (1, .int p0), (2, .int p1), (3, .int p2)] := hl
  refine lv_aload_n hx hb dX2_narrowSum_0 rfl (lv_at hl 0 rfl) ?_
  refine va_get (D := (dC, dI)) (ci := 4) (v := .ref h2) (C := RX2) (T := TX2) (N := 3) hx hb hts (by decide +kernel) hown hK hP 0 rfl rfl 1 (by decide +kernel) (hts (.fieldLink RX2 25 "Edgefloats" "narrow" "LEdgefloats$Row;") (by decide +kernel)) (fun _ h9 => h9) rfl dX2_narrowSum_1 ?_
  refine lv_iload_n hx hb dX2_narrowSum_4 rfl (lv_at hl 1 rfl) ?_
  refine lv_iload_n hx hb dX2_narrowSum_5 rfl (lv_at hl 2 rfl) ?_
  refine lv_iload_n hx hb dX2_narrowSum_6 rfl (lv_at hl 3 rfl) ?_
  have hPc := hP.sub (ws' := [(h2, eR hw2 hc2 hb2 a2 r2), (hw2, eW false), (hc2, eA cy f2), (hb2, eA cy g2)]) [5, 6, 7, 8] rfl
  have hDc := hD.sub (ws' := [(h2, eR hw2 hc2 hb2 a2 r2), (hw2, eW false), (hc2, eA cy f2), (hb2, eA cy g2)]) [5, 6, 7, 8] (by decide +kernel) rfl
  have hKc := hK.sub (tys' := [(cy, .long)]) [0] rfl
  have hFc := va_free (wc := [(h2, eR hw2 hc2 hb2 a2 r2), (hw2, eW false), (hc2, eA cy f2), (hb2, eA cy g2)]) hD hS hA [5, 6, 7, 8] rfl
  refine vx_calli (vx_runV (As := [.int p0, .int p1, .int p2]) (rest := []) ⟨hx, hb, hml, hown, hts⟩ (k_X0_putSum l hfl dC dI cy h2 hw2 hc2 hb2 false a2 r2 f2 g2 s.heap.size N p0 p1 p2) (cwV 3 hts gX2_narrowSum_X0_putSum rfl rfl rfl (by decide +kernel) ⟨Nat.le_of_ble_eq_true rfl, Nat.le_of_ble_eq_true rfl⟩) (xM.preV hKc hPc hDc hAN (Nat.le_trans hN hS.1) (hG.kept hS hAN) (ci := 2) (q0 := 0) rfl rfl) rfl rfl hl.1 rfl (lv_room (Nat.le_of_ble_eq_true rfl)) dX2_narrowSum_7 ⟨Nat.le_of_ble_eq_true rfl, Nat.le_of_ble_eq_true rfl⟩) hS (fun q _ h => hFc q h) hFc (fun q _ h => hFc q h) (fun E ce q9 u9 t H locs ht hvm hpx hbx hz hk hS hce hcv hcl => ?_) (fun r_1 u t H locs ht hvm hw hB hz hk hS => ?_)
  · have c_2 : ¬ (o_X0_putSum false a2 r2 f2 p0 p1 p2).1 = 0 := hpx
    obtain ⟨hbe, hP1, hD1⟩ := hbx
    rw [ht] at hP1
    obtain ⟨hP, hD⟩ := va_join (wr := [(h0, eE h1 h2 kn), (h1, eR hw1 hc1 hb1 a1 r1), (hw1, eW true), (hc1, eA cy f1), (hb1, eA cy g1)]) (w1 := [(h2, eR hw2 hc2 hb2 a2 r2), (hw2, eW false), (hc2, eA cy f2), (hb2, eA cy g2)]) hP hD [5, 6, 7, 8] [0, 1, 2, 3, 4] rfl rfl (by decide +kernel) (by decide +kernel) hk hFc hP1 hD1
    have hP := hP.sub (ws' := [(h0, eE h1 h2 kn), (h1, eR hw1 hc1 hb1 a1 r1), (hw1, eW true), (hc1, eA cy f1), (hb1, eA cy g1), (h2, eR hw2 hc2 hb2 a2 r2), (hw2, eW false), (hc2, eA cy f2), (hb2, eA cy g2)]) [0, 1, 2, 3, 4, 5, 6, 7, 8] rfl
    have hD := hD.sub (ws' := [(h0, eE h1 h2 kn), (h1, eR hw1 hc1 hb1 a1 r1), (hw1, eW true), (hc1, eA cy f1), (hb1, eA cy g1), (h2, eR hw2 hc2 hb2 a2 r2), (hw2, eW false), (hc2, eA cy f2), (hb2, eA cy g2)]) [0, 1, 2, 3, 4, 5, 6, 7, 8] (by decide +kernel) rfl
    have he : o_X2_narrowSum a2 r2 f2 p0 p1 p2 = ((o_X0_putSum false a2 r2 f2 p0 p1 p2).1, 0, a2, r2, f2) := by (rw [o_X2_narrowSum, if_neg c_2]) <;> rfl
    exact vx_out (fun x hx => (hno x hx).elim) hlocks hce hcv hcl (fun t ht hvm => ⟨(), by rw [he]; exact c_2, ⟨by rw [he]; exact hbe, by rw [ht]; exact hP, hD⟩, hS.F ht⟩) hS.2.2 (by omega) (by omega)
  · skip
    obtain ⟨c_3, hw⟩ := hw
    have c_3 : (o_X0_putSum false a2 r2 f2 p0 p1 p2).1 = 0 := c_3
    replace hw : r_1 = (o_X0_putSum false a2 r2 f2 p0 p1 p2).2.1 := hw
    subst r_1
    obtain ⟨hP1, hD1⟩ := hB
    rw [ht] at hP1
    obtain ⟨hP, hD⟩ := va_join (wr := [(h0, eE h1 h2 kn), (h1, eR hw1 hc1 hb1 a1 r1), (hw1, eW true), (hc1, eA cy f1), (hb1, eA cy g1)]) (w1 := [(h2, eR hw2 hc2 hb2 (o_X0_putSum false a2 r2 f2 p0 p1 p2).2.2.1 (o_X0_putSum false a2 r2 f2 p0 p1 p2).2.2.2.1), (hw2, eW false), (hc2, eA cy (o_X0_putSum false a2 r2 f2 p0 p1 p2).2.2.2.2), (hb2, eA cy g2)]) hP hD [5, 6, 7, 8] [0, 1, 2, 3, 4] rfl rfl (by decide +kernel) (by decide +kernel) hk hFc hP1 hD1
    have hP := hP.sub (ws' := [(h0, eE h1 h2 kn), (h1, eR hw1 hc1 hb1 a1 r1), (hw1, eW true), (hc1, eA cy f1), (hb1, eA cy g1), (h2, eR hw2 hc2 hb2 (o_X0_putSum false a2 r2 f2 p0 p1 p2).2.2.1 (o_X0_putSum false a2 r2 f2 p0 p1 p2).2.2.2.1), (hw2, eW false), (hc2, eA cy (o_X0_putSum false a2 r2 f2 p0 p1 p2).2.2.2.2), (hb2, eA cy g2)]) [0, 1, 2, 3, 4, 5, 6, 7, 8] rfl
    have hD := hD.sub (ws' := [(h0, eE h1 h2 kn), (h1, eR hw1 hc1 hb1 a1 r1), (hw1, eW true), (hc1, eA cy f1), (hb1, eA cy g1), (h2, eR hw2 hc2 hb2 (o_X0_putSum false a2 r2 f2 p0 p1 p2).2.2.1 (o_X0_putSum false a2 r2 f2 p0 p1 p2).2.2.2.1), (hw2, eW false), (hc2, eA cy (o_X0_putSum false a2 r2 f2 p0 p1 p2).2.2.2.2), (hb2, eA cy g2)]) [0, 1, 2, 3, 4, 5, 6, 7, 8] (by decide +kernel) rfl
    have he : o_X2_narrowSum a2 r2 f2 p0 p1 p2 = (0, (o_X0_putSum false a2 r2 f2 p0 p1 p2).2.1, (o_X0_putSum false a2 r2 f2 p0 p1 p2).2.2.1, (o_X0_putSum false a2 r2 f2 p0 p1 p2).2.2.2.1, (o_X0_putSum false a2 r2 f2 p0 p1 p2).2.2.2.2) := by (rw [o_X2_narrowSum, if_pos c_3]) <;> rfl
    refine W.widen (k := 3) (n := 18) (by omega) (by omega) ?_
    refine vx_ret ?_
    exact W.iret (v := ((o_X0_putSum false a2 r2 f2 p0 p1 p2).2.1)) hx hb hr (fun t ht hW => ⟨⟨_, (), rfl, ⟨(by (rw [he]) <;> rfl), (by (rw [he]) <;> rfl)⟩, (by rw [he]; exact ⟨by rw [ht]; exact hP, hD⟩)⟩, hS.F ht⟩) hS.2.2 dX2_narrowSum_10
theorem cl_X2_narrowSort_1 : ∀ w ∈ wsX2_narrowSort_r1, w ∈ wsX2_narrowSort := fun _ h => (List.mem_cons_of_mem _ (List.mem_append_left _ (List.mem_append_left _ (List.mem_append_left _ (List.mem_append_left _ (List.mem_append_left _ h))))))
theorem cl_X2_narrowSort_2 : ∀ w ∈ wsX2_narrowSort_r2, w ∈ wsX2_narrowSort := fun _ h => (List.mem_cons_of_mem _ (List.mem_append_left _ (List.mem_append_left _ (List.mem_append_left _ (List.mem_append_left _ (List.mem_append_right _ h))))))
theorem cl_X2_narrowSort_3 : ∀ w ∈ wsX20, w ∈ wsX2_narrowSort := fun _ h => (List.mem_cons_of_mem _ (List.mem_append_left _ (List.mem_append_left _ (List.mem_append_left _ (List.mem_append_right _ h)))))
theorem cl_X2_narrowSort_4 : ∀ w ∈ wsX00, w ∈ wsX2_narrowSort := fun _ h => (List.mem_cons_of_mem _ (List.mem_append_left _ (List.mem_append_left _ (List.mem_append_right _ h))))
theorem cl_X2_narrowSort_5 : ∀ w ∈ wsX10, w ∈ wsX2_narrowSort := fun _ h => (List.mem_cons_of_mem _ (List.mem_append_left _ (List.mem_append_right _ h)))
theorem cl_X2_narrowSort_6 : ∀ w ∈ (vx_atS RX2 159 "java/lang/IllegalArgumentException" ["java/lang/RuntimeException", "java/lang/Exception"]).filter goodWord, w ∈ wsX2_narrowSort := fun _ h => (List.mem_cons_of_mem _ (List.mem_append_right _ h))
set_option maxRecDepth 20000 in
theorem ggX2_narrowSort_X0_sort : GoodIn wsX2_narrowSort wsX0_sort := goodIn_sub (List.forall_mem_cons.mpr ⟨(cl_X2_narrowSort_1 _ (List.mem_of_getElem? (i := 5) rfl)), fun w h => (List.mem_append.mp h).elim ((fun w h => (List.mem_append.mp h).elim ((fun w h => (List.mem_append.mp h).elim ((fun w h => (List.mem_append.mp h).elim ((List.forall_mem_cons.mpr ⟨(cl_X2_narrowSort_1 _ (List.mem_of_getElem? (i := 6) rfl)), List.forall_mem_cons.mpr ⟨(cl_X2_narrowSort_1 _ (List.mem_of_getElem? (i := 7) rfl)), List.forall_mem_cons.mpr ⟨(cl_X2_narrowSort_1 _ (List.mem_of_getElem? (i := 8) rfl)), List.forall_mem_cons.mpr ⟨(cl_X2_narrowSort_1 _ (List.mem_of_getElem? (i := 9) rfl)), List.forall_mem_cons.mpr ⟨(cl_X2_narrowSort_1 _ (List.mem_of_getElem? (i := 10) rfl)), List.forall_mem_cons.mpr ⟨(cl_X2_narrowSort_1 _ (List.mem_of_getElem? (i := 11) rfl)), List.forall_mem_cons.mpr ⟨(cl_X2_narrowSort_1 _ (List.mem_of_getElem? (i := 12) rfl)), List.forall_mem_cons.mpr ⟨(cl_X2_narrowSort_1 _ (List.mem_of_getElem? (i := 13) rfl)), List.forall_mem_cons.mpr ⟨(cl_X2_narrowSort_1 _ (List.mem_of_getElem? (i := 14) rfl)), List.forall_mem_cons.mpr ⟨(cl_X2_narrowSort_1 _ (List.mem_of_getElem? (i := 15) rfl)), List.forall_mem_cons.mpr ⟨(cl_X2_narrowSort_1 _ (List.mem_of_getElem? (i := 16) rfl)), List.forall_mem_cons.mpr ⟨(cl_X2_narrowSort_1 _ (List.mem_of_getElem? (i := 17) rfl)), List.forall_mem_cons.mpr ⟨(cl_X2_narrowSort_1 _ (List.mem_of_getElem? (i := 18) rfl)), List.forall_mem_cons.mpr ⟨(cl_X2_narrowSort_1 _ (List.mem_of_getElem? (i := 19) rfl)), List.forall_mem_cons.mpr ⟨(cl_X2_narrowSort_1 _ (List.mem_of_getElem? (i := 20) rfl)), List.forall_mem_cons.mpr ⟨(cl_X2_narrowSort_1 _ (List.mem_of_getElem? (i := 4) rfl)), List.forall_mem_cons.mpr ⟨(cl_X2_narrowSort_1 _ (List.mem_of_getElem? (i := 21) rfl)), List.forall_mem_cons.mpr ⟨(cl_X2_narrowSort_1 _ (List.mem_of_getElem? (i := 22) rfl)), List.forall_mem_cons.mpr ⟨(cl_X2_narrowSort_1 _ (List.mem_of_getElem? (i := 23) rfl)), List.forall_mem_cons.mpr ⟨(cl_X2_narrowSort_2 _ (List.mem_of_getElem? (i := 0) rfl)), List.forall_mem_cons.mpr ⟨(cl_X2_narrowSort_2 _ (List.mem_of_getElem? (i := 1) rfl)), List.forall_mem_cons.mpr ⟨(cl_X2_narrowSort_2 _ (List.mem_of_getElem? (i := 2) rfl)), List.forall_mem_cons.mpr ⟨(cl_X2_narrowSort_2 _ (List.mem_of_getElem? (i := 3) rfl)), List.forall_mem_cons.mpr ⟨(cl_X2_narrowSort_2 _ (List.mem_of_getElem? (i := 4) rfl)), fun _ h => absurd h List.not_mem_nil⟩⟩⟩⟩⟩⟩⟩⟩⟩⟩⟩⟩⟩⟩⟩⟩⟩⟩⟩⟩⟩⟩⟩⟩) w) ((List.forall_mem_cons.mpr ⟨(cl_X2_narrowSort_2 _ (List.mem_of_getElem? (i := 5) rfl)), List.forall_mem_cons.mpr ⟨(cl_X2_narrowSort_2 _ (List.mem_of_getElem? (i := 6) rfl)), List.forall_mem_cons.mpr ⟨(cl_X2_narrowSort_2 _ (List.mem_of_getElem? (i := 7) rfl)), List.forall_mem_cons.mpr ⟨(cl_X2_narrowSort_2 _ (List.mem_of_getElem? (i := 8) rfl)), List.forall_mem_cons.mpr ⟨(cl_X2_narrowSort_2 _ (List.mem_of_getElem? (i := 9) rfl)), fun _ h => absurd h List.not_mem_nil⟩⟩⟩⟩⟩) w)) w) ((cl_X2_narrowSort_4) w)) w) ((cl_X2_narrowSort_5) w)) w) ((cl_X2_narrowSort_6) w)⟩) (by decide +kernel)
set_option maxRecDepth 20000 in
theorem gX2_narrowSort_X0_sort : GoodIn wsX2_narrowSort (wsV RX2 57 RX0 yX0_sort wsX0_sort) := goodIn_app (goodIn_sub (List.forall_mem_cons.mpr ⟨(cl_X2_narrowSort_1 _ (List.mem_of_getElem? (i := 1) rfl)), List.forall_mem_cons.mpr ⟨(cl_X2_narrowSort_1 _ (List.mem_of_getElem? (i := 2) rfl)), List.forall_mem_cons.mpr ⟨(cl_X2_narrowSort_1 _ (List.mem_of_getElem? (i := 3) rfl)), List.forall_mem_cons.mpr ⟨(cl_X2_narrowSort_1 _ (List.mem_of_getElem? (i := 4) rfl)), fun _ h => absurd h List.not_mem_nil⟩⟩⟩⟩) (by decide +kernel)) ggX2_narrowSort_X0_sort
noncomputable def dz_p13_31 : List (Nat × Instr × Nat) := [(0, (.aload_n 0, 1)), (1, (.getfield 25, 3)), (4, (.iload_n 1, 1)), (5, (.invokevirtual 57, 3)), (8, (.ireturn, 1))]
theorem dy_p13_31 : dz_ok cX2_narrowSort dz_p13_31 = true := by decide +kernel
theorem dX2_narrowSort_0 : decode cX2_narrowSort 0 = .ok (.aload_n 0, 1) := dz_at (i := 0) dy_p13_31 rfl
theorem dX2_narrowSort_1 : decode cX2_narrowSort 1 = .ok (.getfield 25, 3) := dz_at (i := 1) dy_p13_31 rfl
theorem dX2_narrowSort_4 : decode cX2_narrowSort 4 = .ok (.iload_n 1, 1) := dz_at (i := 2) dy_p13_31 rfl
theorem dX2_narrowSort_5 : decode cX2_narrowSort 5 = .ok (.invokevirtual 57, 3) := dz_at (i := 3) dy_p13_31 rfl
theorem dX2_narrowSort_8 : decode cX2_narrowSort 8 = .ok (.ireturn, 1) := dz_at (i := 4) dy_p13_31 rfl
noncomputable def o_X2_narrowSort (a2 : Int32) (f2 : Nat → Int64) (g2 : Nat → Int64) (p0 : Int32) : Int32 × Int32 × Int32 × (Nat → Int64) × (Nat → Int64) :=
  if (o_X0_sort false a2 f2 g2 p0).1 = 0 then (0, (o_X0_sort false a2 f2 g2 p0).2.1, (o_X0_sort false a2 f2 g2 p0).2.2.1, (o_X0_sort false a2 f2 g2 p0).2.2.2.1, (o_X0_sort false a2 f2 g2 p0).2.2.2.2)
  else ((o_X0_sort false a2 f2 g2 p0).1, 0, a2, f2, g2)
set_option maxHeartbeats 4000000 in
set_option maxRecDepth 100000 in
theorem k_X2_narrowSort (l : Launch) (hfl : l.flags = flags0) (dC : Nat → ClassId) (dI : Nat → Nat → Nat) (cy : ClassId) (h0 : Nat) (h1 : Nat) (hw1 : Nat) (hc1 : Nat) (hb1 : Nat) (h2 : Nat) (hw2 : Nat) (hc2 : Nat) (hb2 : Nat) (a1 : Int32) (r1 : Int32) (f1 : Nat → Int64) (g1 : Nat → Int64) (a2 : Int32) (r2 : Int32) (f2 : Nat → Int64) (g2 : Nat → Int64) (kn : Int32) (sz : Nat) (N : Nat) (p0 : Int32) : vx_Met l yX2_narrowSort wsX2_narrowSort ({ frames := 8, cells := 1, slots := 6, locals := 144 }) (va_Pc [.ref h0, .int p0] (xM (dC, dI) xCl [(h0, eE h1 h2 kn), (h1, eR hw1 hc1 hb1 a1 r1), (hw1, eW true), (hc1, eA cy f1), (hb1, eA cy g1), (h2, eR hw2 hc2 hb2 a2 r2), (hw2, eW false), (hc2, eA cy f2), (hb2, eA cy g2)] [(cy, .long)] sz N)) (va_Qi (fun (r : Int32) (_ : Unit) => (o_X2_narrowSort a2 f2 g2 p0).1 = 0 ∧ r = (o_X2_narrowSort a2 f2 g2 p0).2.1) (fun _ t => xW (dC, dI) xCl [(h0, eE h1 h2 kn), (h1, eR hw1 hc1 hb1 a1 r1), (hw1, eW true), (hc1, eA cy f1), (hb1, eA cy g1), (h2, eR hw2 hc2 hb2 (o_X2_narrowSort a2 f2 g2 p0).2.2.1 r2), (hw2, eW false), (hc2, eA cy (o_X2_narrowSort a2 f2 g2 p0).2.2.2.1), (hb2, eA cy (o_X2_narrowSort a2 f2 g2 p0).2.2.2.2)] (va_A [(h0, eE h1 h2 kn), (h1, eR hw1 hc1 hb1 a1 r1), (hw1, eW true), (hc1, eA cy f1), (hb1, eA cy g1), (h2, eR hw2 hc2 hb2 a2 r2), (hw2, eW false), (hc2, eA cy f2), (hb2, eA cy g2)] sz) t) (va_A [(h0, eE h1 h2 kn), (h1, eR hw1 hc1 hb1 a1 r1), (hw1, eW true), (hc1, eA cy f1), (hb1, eA cy g1), (h2, eR hw2 hc2 hb2 a2 r2), (hw2, eW false), (hc2, eA cy f2), (hb2, eA cy g2)] sz)) (vx_X (fun _ : Unit => ¬ (o_X2_narrowSort a2 f2 g2 p0).1 = 0) (fun E _ t => E = xE (o_X2_narrowSort a2 f2 g2 p0).1 ∧ xW (dC, dI) xCl [(h0, eE h1 h2 kn), (h1, eR hw1 hc1 hb1 a1 r1), (hw1, eW true), (hc1, eA cy f1), (hb1, eA cy g1), (h2, eR hw2 hc2 hb2 a2 r2), (hw2, eW false), (hc2, eA cy f2), (hb2, eA cy g2)] (va_A [(h0, eE h1 h2 kn), (h1, eR hw1 hc1 hb1 a1 r1), (hw1, eW true), (hc1, eA cy f1), (hb1, eA cy g1), (h2, eR hw2 hc2 hb2 a2 r2), (hw2, eW false), (hc2, eA cy f2), (hb2, eA cy g2)] sz) t) (va_A [(h0, eE h1 h2 kn), (h1, eR hw1 hc1 hb1 a1 r1), (hw1, eW true), (hc1, eA cy f1), (hb1, eA cy g1), (h2, eR hw2 hc2 hb2 a2 r2), (hw2, eW false), (hc2, eA cy f2), (hb2, eA cy g2)] sz)) 1 6 (va_A [(h0, eE h1 h2 kn), (h1, eR hw1 hc1 hb1 a1 r1), (hw1, eW true), (hc1, eA cy f1), (hb1, eA cy g1), (h2, eR hw2 hc2 hb2 a2 r2), (hw2, eW false), (hc2, eA cy f2), (hb2, eA cy g2)] sz) := by
  refine vx_ofW (cc := cX2_narrowSort) (maxL := 2) (ret := (some .int)) (by decide +kernel) rfl ?_
  intro p e s m args below meth c s₁ B hml hno hv
  obtain ⟨rfl, hsz, hP, hK, hD0, hN, hG⟩ := hv
  have hx := B.exec
  have hb := B.bytes
  have hr := B.returns
  have hts := atoms_spec (ws := wsX2_narrowSort) B.pre
  have hown : s.vm.findClass RX2 = some m.cls := findClass_of_methodNamed B.named
  have hlocks := B.notSynchronized
  subst hsz
  have hAN : ∀ q, va_A [(h0, eE h1 h2 kn), (h1, eR hw1 hc1 hb1 a1 r1), (hw1, eW true), (hc1, eA cy f1), (hb1, eA cy g1), (h2, eR hw2 hc2 hb2 a2 r2), (hw2, eW false), (hc2, eA cy f2), (hb2, eA cy g2)] s.heap.size q → N ≤ q := xA_N hD0 hN
  have hD := hD0.self (sz := s.heap.size)
  generalize hAe : va_A [(h0, eE h1 h2 kn), (h1, eR hw1 hc1 hb1 a1 r1), (hw1, eW true), (hc1, eA cy f1), (hb1, eA cy g1), (h2, eR hw2 hc2 hb2 a2 r2), (hw2, eW false), (hc2, eA cy f2), (hb2, eA cy g2)] s.heap.size = A at hD hAN ⊢
  have hA : ∀ q : Nat, s.heap.size ≤ q → A q := fun q h => by rw [← hAe]; exact Or.inr h
  have hS : va_S A s.heap s.heap [] := va_S.rf
  have hP : va_P (dC, dI) xCl [(h0, eE h1 h2 kn), (h1, eR hw1 hc1 hb1 a1 r1), (hw1, eW true), (hc1, eA cy f1), (hb1, eA cy g1), (h2, eR hw2 hc2 hb2 a2 r2), (hw2, eW false), (hc2, eA cy f2), (hb2, eA cy g2)] s.heap := hP
  have hl := lv_entry ([.ref h0, .int p0]) (n := 2) (Nat.le_of_ble_eq_true rfl)
  rw [lg_entry_eq]
  generalize (lg_sl ([.ref h0, .int p0]) ++ List.replicate (2 - (lg_sl ([.ref h0, .int p0])).length) Slot.unset).toArray = ls at hl ⊢
  have hl : lv_has ls 2 [(0, .ref h0), (1, .int p0)] := hl
  refine lv_aload_n hx hb dX2_narrowSort_0 rfl (lv_at hl 0 rfl) ?_
  refine va_get (D := (dC, dI)) (ci := 4) (v := .ref h2) (C := RX2) (T := TX2) (N := 3) hx hb hts (by decide +kernel) hown hK hP 0 rfl rfl 1 (by decide +kernel) (hts (.fieldLink RX2 25 "Edgefloats" "narrow" "LEdgefloats$Row;") (by decide +kernel)) (fun _ h9 => h9) rfl dX2_narrowSort_1 ?_
  refine lv_iload_n hx hb dX2_narrowSort_4 rfl (lv_at hl 1 rfl) ?_
  have hPc := hP.sub (ws' := [(h2, eR hw2 hc2 hb2 a2 r2), (hw2, eW false), (hc2, eA cy f2), (hb2, eA cy g2)]) [5, 6, 7, 8] rfl
  have hDc := hD.sub (ws' := [(h2, eR hw2 hc2 hb2 a2 r2), (hw2, eW false), (hc2, eA cy f2), (hb2, eA cy g2)]) [5, 6, 7, 8] (by decide +kernel) rfl
  have hKc := hK.sub (tys' := [(cy, .long)]) [0] rfl
  have hFc := va_free (wc := [(h2, eR hw2 hc2 hb2 a2 r2), (hw2, eW false), (hc2, eA cy f2), (hb2, eA cy g2)]) hD hS hA [5, 6, 7, 8] rfl
  refine vx_calli (vx_runV (As := [.int p0]) (rest := []) ⟨hx, hb, hml, hown, hts⟩ (k_X0_sort l hfl dC dI cy h2 hw2 hc2 hb2 false a2 r2 f2 g2 s.heap.size N p0) (cwV 1 hts gX2_narrowSort_X0_sort rfl rfl rfl (by decide +kernel) ⟨Nat.le_of_ble_eq_true rfl, Nat.le_of_ble_eq_true rfl⟩) (xM.preV hKc hPc hDc hAN (Nat.le_trans hN hS.1) (hG.kept hS hAN) (ci := 2) (q0 := 0) rfl rfl) rfl rfl hl.1 rfl (lv_room (Nat.le_of_ble_eq_true rfl)) dX2_narrowSort_5 ⟨Nat.le_of_ble_eq_true rfl, Nat.le_of_ble_eq_true rfl⟩) hS (fun q _ h => hFc q h) hFc (fun q _ h => hFc q h) (fun E ce q9 u9 t H locs ht hvm hpx hbx hz hk hS hce hcv hcl => ?_) (fun r_1 u t H locs ht hvm hw hB hz hk hS => ?_)
  · have c_2 : ¬ (o_X0_sort false a2 f2 g2 p0).1 = 0 := hpx
    obtain ⟨hbe, hP1, hD1⟩ := hbx
    rw [ht] at hP1
    obtain ⟨hP, hD⟩ := va_join (wr := [(h0, eE h1 h2 kn), (h1, eR hw1 hc1 hb1 a1 r1), (hw1, eW true), (hc1, eA cy f1), (hb1, eA cy g1)]) (w1 := [(h2, eR hw2 hc2 hb2 a2 r2), (hw2, eW false), (hc2, eA cy f2), (hb2, eA cy g2)]) hP hD [5, 6, 7, 8] [0, 1, 2, 3, 4] rfl rfl (by decide +kernel) (by decide +kernel) hk hFc hP1 hD1
    have hP := hP.sub (ws' := [(h0, eE h1 h2 kn), (h1, eR hw1 hc1 hb1 a1 r1), (hw1, eW true), (hc1, eA cy f1), (hb1, eA cy g1), (h2, eR hw2 hc2 hb2 a2 r2), (hw2, eW false), (hc2, eA cy f2), (hb2, eA cy g2)]) [0, 1, 2, 3, 4, 5, 6, 7, 8] rfl
    have hD := hD.sub (ws' := [(h0, eE h1 h2 kn), (h1, eR hw1 hc1 hb1 a1 r1), (hw1, eW true), (hc1, eA cy f1), (hb1, eA cy g1), (h2, eR hw2 hc2 hb2 a2 r2), (hw2, eW false), (hc2, eA cy f2), (hb2, eA cy g2)]) [0, 1, 2, 3, 4, 5, 6, 7, 8] (by decide +kernel) rfl
    have he : o_X2_narrowSort a2 f2 g2 p0 = ((o_X0_sort false a2 f2 g2 p0).1, 0, a2, f2, g2) := by (rw [o_X2_narrowSort, if_neg c_2]) <;> rfl
    exact vx_out (fun x hx => (hno x hx).elim) hlocks hce hcv hcl (fun t ht hvm => ⟨(), by rw [he]; exact c_2, ⟨by rw [he]; exact hbe, by rw [ht]; exact hP, hD⟩, hS.F ht⟩) hS.2.2 (by omega) (by omega)
  · skip
    obtain ⟨c_3, hw⟩ := hw
    have c_3 : (o_X0_sort false a2 f2 g2 p0).1 = 0 := c_3
    replace hw : r_1 = (o_X0_sort false a2 f2 g2 p0).2.1 := hw
    subst r_1
    obtain ⟨hP1, hD1⟩ := hB
    rw [ht] at hP1
    obtain ⟨hP, hD⟩ := va_join (wr := [(h0, eE h1 h2 kn), (h1, eR hw1 hc1 hb1 a1 r1), (hw1, eW true), (hc1, eA cy f1), (hb1, eA cy g1)]) (w1 := [(h2, eR hw2 hc2 hb2 (o_X0_sort false a2 f2 g2 p0).2.2.1 r2), (hw2, eW false), (hc2, eA cy (o_X0_sort false a2 f2 g2 p0).2.2.2.1), (hb2, eA cy (o_X0_sort false a2 f2 g2 p0).2.2.2.2)]) hP hD [5, 6, 7, 8] [0, 1, 2, 3, 4] rfl rfl (by decide +kernel) (by decide +kernel) hk hFc hP1 hD1
    have hP := hP.sub (ws' := [(h0, eE h1 h2 kn), (h1, eR hw1 hc1 hb1 a1 r1), (hw1, eW true), (hc1, eA cy f1), (hb1, eA cy g1), (h2, eR hw2 hc2 hb2 (o_X0_sort false a2 f2 g2 p0).2.2.1 r2), (hw2, eW false), (hc2, eA cy (o_X0_sort false a2 f2 g2 p0).2.2.2.1), (hb2, eA cy (o_X0_sort false a2 f2 g2 p0).2.2.2.2)]) [0, 1, 2, 3, 4, 5, 6, 7, 8] rfl
    have hD := hD.sub (ws' := [(h0, eE h1 h2 kn), (h1, eR hw1 hc1 hb1 a1 r1), (hw1, eW true), (hc1, eA cy f1), (hb1, eA cy g1), (h2, eR hw2 hc2 hb2 (o_X0_sort false a2 f2 g2 p0).2.2.1 r2), (hw2, eW false), (hc2, eA cy (o_X0_sort false a2 f2 g2 p0).2.2.2.1), (hb2, eA cy (o_X0_sort false a2 f2 g2 p0).2.2.2.2)]) [0, 1, 2, 3, 4, 5, 6, 7, 8] (by decide +kernel) rfl
    have he : o_X2_narrowSort a2 f2 g2 p0 = (0, (o_X0_sort false a2 f2 g2 p0).2.1, (o_X0_sort false a2 f2 g2 p0).2.2.1, (o_X0_sort false a2 f2 g2 p0).2.2.2.1, (o_X0_sort false a2 f2 g2 p0).2.2.2.2) := by (rw [o_X2_narrowSort, if_pos c_3]) <;> rfl
    refine W.widen (k := 1) (n := 6) (by omega) (by omega) ?_
    refine vx_ret ?_
    exact W.iret (v := ((o_X0_sort false a2 f2 g2 p0).2.1)) hx hb hr (fun t ht hW => ⟨⟨_, (), rfl, ⟨(by (rw [he]) <;> rfl), (by (rw [he]) <;> rfl)⟩, (by rw [he]; exact ⟨by rw [ht]; exact hP, hD⟩)⟩, hS.F ht⟩) hS.2.2 dX2_narrowSort_8
theorem cl_X2_narrowEnd_1 : ∀ w ∈ wsX2_narrowEnd_r1, w ∈ wsX2_narrowEnd := fun _ h => (List.mem_cons_of_mem _ (List.mem_append_left _ (List.mem_append_left _ (List.mem_append_left _ (List.mem_append_left _ (List.mem_append_left _ h))))))
theorem cl_X2_narrowEnd_2 : ∀ w ∈ wsX2_narrowEnd_r2, w ∈ wsX2_narrowEnd := fun _ h => (List.mem_cons_of_mem _ (List.mem_append_left _ (List.mem_append_left _ (List.mem_append_left _ (List.mem_append_left _ (List.mem_append_right _ h))))))
theorem cl_X2_narrowEnd_3 : ∀ w ∈ wsX20, w ∈ wsX2_narrowEnd := fun _ h => (List.mem_cons_of_mem _ (List.mem_append_left _ (List.mem_append_left _ (List.mem_append_left _ (List.mem_append_right _ h)))))
theorem cl_X2_narrowEnd_4 : ∀ w ∈ wsX00, w ∈ wsX2_narrowEnd := fun _ h => (List.mem_cons_of_mem _ (List.mem_append_left _ (List.mem_append_left _ (List.mem_append_right _ h))))
theorem cl_X2_narrowEnd_5 : ∀ w ∈ wsX10, w ∈ wsX2_narrowEnd := fun _ h => (List.mem_cons_of_mem _ (List.mem_append_left _ (List.mem_append_right _ h)))
theorem cl_X2_narrowEnd_6 : ∀ w ∈ (vx_atS RX2 152 "java/lang/IndexOutOfBoundsException" ["java/lang/RuntimeException", "java/lang/Exception"]).filter goodWord, w ∈ wsX2_narrowEnd := fun _ h => (List.mem_cons_of_mem _ (List.mem_append_right _ h))
set_option maxRecDepth 20000 in
theorem ggX2_narrowEnd_X0_putEnd : GoodIn wsX2_narrowEnd wsX0_putEnd := goodIn_sub (List.forall_mem_cons.mpr ⟨(cl_X2_narrowEnd_1 _ (List.mem_of_getElem? (i := 5) rfl)), fun w h => (List.mem_append.mp h).elim ((fun w h => (List.mem_append.mp h).elim ((fun w h => (List.mem_append.mp h).elim ((fun w h => (List.mem_append.mp h).elim ((List.forall_mem_cons.mpr ⟨(cl_X2_narrowEnd_1 _ (List.mem_of_getElem? (i := 6) rfl)), List.forall_mem_cons.mpr ⟨(cl_X2_narrowEnd_1 _ (List.mem_of_getElem? (i := 7) rfl)), List.forall_mem_cons.mpr ⟨(cl_X2_narrowEnd_1 _ (List.mem_of_getElem? (i := 8) rfl)), List.forall_mem_cons.mpr ⟨(cl_X2_narrowEnd_1 _ (List.mem_of_getElem? (i := 9) rfl)), List.forall_mem_cons.mpr ⟨(cl_X2_narrowEnd_1 _ (List.mem_of_getElem? (i := 10) rfl)), List.forall_mem_cons.mpr ⟨(cl_X2_narrowEnd_1 _ (List.mem_of_getElem? (i := 11) rfl)), List.forall_mem_cons.mpr ⟨(cl_X2_narrowEnd_1 _ (List.mem_of_getElem? (i := 12) rfl)), List.forall_mem_cons.mpr ⟨(cl_X2_narrowEnd_1 _ (List.mem_of_getElem? (i := 13) rfl)), List.forall_mem_cons.mpr ⟨(cl_X2_narrowEnd_1 _ (List.mem_of_getElem? (i := 14) rfl)), List.forall_mem_cons.mpr ⟨(cl_X2_narrowEnd_1 _ (List.mem_of_getElem? (i := 15) rfl)), List.forall_mem_cons.mpr ⟨(cl_X2_narrowEnd_1 _ (List.mem_of_getElem? (i := 16) rfl)), List.forall_mem_cons.mpr ⟨(cl_X2_narrowEnd_1 _ (List.mem_of_getElem? (i := 17) rfl)), List.forall_mem_cons.mpr ⟨(cl_X2_narrowEnd_1 _ (List.mem_of_getElem? (i := 18) rfl)), List.forall_mem_cons.mpr ⟨(cl_X2_narrowEnd_1 _ (List.mem_of_getElem? (i := 19) rfl)), List.forall_mem_cons.mpr ⟨(cl_X2_narrowEnd_1 _ (List.mem_of_getElem? (i := 20) rfl)), List.forall_mem_cons.mpr ⟨(cl_X2_narrowEnd_1 _ (List.mem_of_getElem? (i := 21) rfl)), List.forall_mem_cons.mpr ⟨(cl_X2_narrowEnd_1 _ (List.mem_of_getElem? (i := 22) rfl)), List.forall_mem_cons.mpr ⟨(cl_X2_narrowEnd_1 _ (List.mem_of_getElem? (i := 23) rfl)), List.forall_mem_cons.mpr ⟨(cl_X2_narrowEnd_2 _ (List.mem_of_getElem? (i := 0) rfl)), List.forall_mem_cons.mpr ⟨(cl_X2_narrowEnd_2 _ (List.mem_of_getElem? (i := 1) rfl)), List.forall_mem_cons.mpr ⟨(cl_X2_narrowEnd_2 _ (List.mem_of_getElem? (i := 2) rfl)), List.forall_mem_cons.mpr ⟨(cl_X2_narrowEnd_2 _ (List.mem_of_getElem? (i := 3) rfl)), List.forall_mem_cons.mpr ⟨(cl_X2_narrowEnd_2 _ (List.mem_of_getElem? (i := 4) rfl)), List.forall_mem_cons.mpr ⟨(cl_X2_narrowEnd_2 _ (List.mem_of_getElem? (i := 5) rfl)), fun _ h => absurd h List.not_mem_nil⟩⟩⟩⟩⟩⟩⟩⟩⟩⟩⟩⟩⟩⟩⟩⟩⟩⟩⟩⟩⟩⟩⟩⟩) w) ((List.forall_mem_cons.mpr ⟨(cl_X2_narrowEnd_2 _ (List.mem_of_getElem? (i := 6) rfl)), List.forall_mem_cons.mpr ⟨(cl_X2_narrowEnd_2 _ (List.mem_of_getElem? (i := 7) rfl)), List.forall_mem_cons.mpr ⟨(cl_X2_narrowEnd_2 _ (List.mem_of_getElem? (i := 8) rfl)), List.forall_mem_cons.mpr ⟨(cl_X2_narrowEnd_2 _ (List.mem_of_getElem? (i := 9) rfl)), List.forall_mem_cons.mpr ⟨(cl_X2_narrowEnd_2 _ (List.mem_of_getElem? (i := 10) rfl)), List.forall_mem_cons.mpr ⟨(cl_X2_narrowEnd_1 _ (List.mem_of_getElem? (i := 4) rfl)), List.forall_mem_cons.mpr ⟨(cl_X2_narrowEnd_2 _ (List.mem_of_getElem? (i := 11) rfl)), List.forall_mem_cons.mpr ⟨(cl_X2_narrowEnd_2 _ (List.mem_of_getElem? (i := 12) rfl)), fun _ h => absurd h List.not_mem_nil⟩⟩⟩⟩⟩⟩⟩⟩) w)) w) ((cl_X2_narrowEnd_4) w)) w) ((cl_X2_narrowEnd_5) w)) w) ((cl_X2_narrowEnd_6) w)⟩) (by decide +kernel)
set_option maxRecDepth 20000 in
theorem gX2_narrowEnd_X0_putEnd : GoodIn wsX2_narrowEnd (wsV RX2 61 RX0 yX0_putEnd wsX0_putEnd) := goodIn_app (goodIn_sub (List.forall_mem_cons.mpr ⟨(cl_X2_narrowEnd_1 _ (List.mem_of_getElem? (i := 1) rfl)), List.forall_mem_cons.mpr ⟨(cl_X2_narrowEnd_1 _ (List.mem_of_getElem? (i := 2) rfl)), List.forall_mem_cons.mpr ⟨(cl_X2_narrowEnd_1 _ (List.mem_of_getElem? (i := 3) rfl)), List.forall_mem_cons.mpr ⟨(cl_X2_narrowEnd_1 _ (List.mem_of_getElem? (i := 4) rfl)), fun _ h => absurd h List.not_mem_nil⟩⟩⟩⟩) (by decide +kernel)) ggX2_narrowEnd_X0_putEnd
noncomputable def dz_p13_32 : List (Nat × Instr × Nat) := [(0, (.aload_n 0, 1)), (1, (.getfield 25, 3)), (4, (.iload_n 1, 1)), (5, (.iload_n 2, 1)), (6, (.invokevirtual 61, 3)), (9, (.ireturn, 1))]
theorem dy_p13_32 : dz_ok cX2_narrowEnd dz_p13_32 = true := by decide +kernel
theorem dX2_narrowEnd_0 : decode cX2_narrowEnd 0 = .ok (.aload_n 0, 1) := dz_at (i := 0) dy_p13_32 rfl
theorem dX2_narrowEnd_1 : decode cX2_narrowEnd 1 = .ok (.getfield 25, 3) := dz_at (i := 1) dy_p13_32 rfl
theorem dX2_narrowEnd_4 : decode cX2_narrowEnd 4 = .ok (.iload_n 1, 1) := dz_at (i := 2) dy_p13_32 rfl
theorem dX2_narrowEnd_5 : decode cX2_narrowEnd 5 = .ok (.iload_n 2, 1) := dz_at (i := 3) dy_p13_32 rfl
theorem dX2_narrowEnd_6 : decode cX2_narrowEnd 6 = .ok (.invokevirtual 61, 3) := dz_at (i := 4) dy_p13_32 rfl
theorem dX2_narrowEnd_9 : decode cX2_narrowEnd 9 = .ok (.ireturn, 1) := dz_at (i := 5) dy_p13_32 rfl
noncomputable def o_X2_narrowEnd (a2 : Int32) (f2 : Nat → Int64) (p0 : Bool) (p1 : Int32) : Int32 × Int32 × Int32 × (Nat → Int64) :=
  if (o_X0_putEnd false a2 f2 p0 p1).1 = 0 then (0, (o_X0_putEnd false a2 f2 p0 p1).2.1, (o_X0_putEnd false a2 f2 p0 p1).2.2.1, (o_X0_putEnd false a2 f2 p0 p1).2.2.2)
  else ((o_X0_putEnd false a2 f2 p0 p1).1, 0, a2, f2)
set_option maxHeartbeats 4000000 in
set_option maxRecDepth 100000 in
theorem k_X2_narrowEnd (l : Launch) (hfl : l.flags = flags0) (dC : Nat → ClassId) (dI : Nat → Nat → Nat) (cy : ClassId) (h0 : Nat) (h1 : Nat) (hw1 : Nat) (hc1 : Nat) (hb1 : Nat) (h2 : Nat) (hw2 : Nat) (hc2 : Nat) (hb2 : Nat) (a1 : Int32) (r1 : Int32) (f1 : Nat → Int64) (g1 : Nat → Int64) (a2 : Int32) (r2 : Int32) (f2 : Nat → Int64) (g2 : Nat → Int64) (kn : Int32) (sz : Nat) (N : Nat) (p0 : Bool) (p1 : Int32) : vx_Met l yX2_narrowEnd wsX2_narrowEnd ({ frames := 8, cells := 1, slots := 6, locals := 145 }) (va_Pc [.ref h0, .int (b2i p0), .int p1] (xM (dC, dI) xCl [(h0, eE h1 h2 kn), (h1, eR hw1 hc1 hb1 a1 r1), (hw1, eW true), (hc1, eA cy f1), (hb1, eA cy g1), (h2, eR hw2 hc2 hb2 a2 r2), (hw2, eW false), (hc2, eA cy f2), (hb2, eA cy g2)] [(cy, .long)] sz N)) (va_Qi (fun (r : Int32) (_ : Unit) => (o_X2_narrowEnd a2 f2 p0 p1).1 = 0 ∧ r = (o_X2_narrowEnd a2 f2 p0 p1).2.1) (fun _ t => xW (dC, dI) xCl [(h0, eE h1 h2 kn), (h1, eR hw1 hc1 hb1 a1 r1), (hw1, eW true), (hc1, eA cy f1), (hb1, eA cy g1), (h2, eR hw2 hc2 hb2 (o_X2_narrowEnd a2 f2 p0 p1).2.2.1 r2), (hw2, eW false), (hc2, eA cy (o_X2_narrowEnd a2 f2 p0 p1).2.2.2), (hb2, eA cy g2)] (va_A [(h0, eE h1 h2 kn), (h1, eR hw1 hc1 hb1 a1 r1), (hw1, eW true), (hc1, eA cy f1), (hb1, eA cy g1), (h2, eR hw2 hc2 hb2 a2 r2), (hw2, eW false), (hc2, eA cy f2), (hb2, eA cy g2)] sz) t) (va_A [(h0, eE h1 h2 kn), (h1, eR hw1 hc1 hb1 a1 r1), (hw1, eW true), (hc1, eA cy f1), (hb1, eA cy g1), (h2, eR hw2 hc2 hb2 a2 r2), (hw2, eW false), (hc2, eA cy f2), (hb2, eA cy g2)] sz)) (vx_X (fun _ : Unit => ¬ (o_X2_narrowEnd a2 f2 p0 p1).1 = 0) (fun E _ t => E = xE (o_X2_narrowEnd a2 f2 p0 p1).1 ∧ xW (dC, dI) xCl [(h0, eE h1 h2 kn), (h1, eR hw1 hc1 hb1 a1 r1), (hw1, eW true), (hc1, eA cy f1), (hb1, eA cy g1), (h2, eR hw2 hc2 hb2 a2 r2), (hw2, eW false), (hc2, eA cy f2), (hb2, eA cy g2)] (va_A [(h0, eE h1 h2 kn), (h1, eR hw1 hc1 hb1 a1 r1), (hw1, eW true), (hc1, eA cy f1), (hb1, eA cy g1), (h2, eR hw2 hc2 hb2 a2 r2), (hw2, eW false), (hc2, eA cy f2), (hb2, eA cy g2)] sz) t) (va_A [(h0, eE h1 h2 kn), (h1, eR hw1 hc1 hb1 a1 r1), (hw1, eW true), (hc1, eA cy f1), (hb1, eA cy g1), (h2, eR hw2 hc2 hb2 a2 r2), (hw2, eW false), (hc2, eA cy f2), (hb2, eA cy g2)] sz)) 1 6 (va_A [(h0, eE h1 h2 kn), (h1, eR hw1 hc1 hb1 a1 r1), (hw1, eW true), (hc1, eA cy f1), (hb1, eA cy g1), (h2, eR hw2 hc2 hb2 a2 r2), (hw2, eW false), (hc2, eA cy f2), (hb2, eA cy g2)] sz) := by
  refine vx_ofW (cc := cX2_narrowEnd) (maxL := 3) (ret := (some .int)) (by decide +kernel) rfl ?_
  intro p e s m args below meth c s₁ B hml hno hv
  obtain ⟨rfl, hsz, hP, hK, hD0, hN, hG⟩ := hv
  have hx := B.exec
  have hb := B.bytes
  have hr := B.returns
  have hts := atoms_spec (ws := wsX2_narrowEnd) B.pre
  have hown : s.vm.findClass RX2 = some m.cls := findClass_of_methodNamed B.named
  have hlocks := B.notSynchronized
  subst hsz
  have hAN : ∀ q, va_A [(h0, eE h1 h2 kn), (h1, eR hw1 hc1 hb1 a1 r1), (hw1, eW true), (hc1, eA cy f1), (hb1, eA cy g1), (h2, eR hw2 hc2 hb2 a2 r2), (hw2, eW false), (hc2, eA cy f2), (hb2, eA cy g2)] s.heap.size q → N ≤ q := xA_N hD0 hN
  have hD := hD0.self (sz := s.heap.size)
  generalize hAe : va_A [(h0, eE h1 h2 kn), (h1, eR hw1 hc1 hb1 a1 r1), (hw1, eW true), (hc1, eA cy f1), (hb1, eA cy g1), (h2, eR hw2 hc2 hb2 a2 r2), (hw2, eW false), (hc2, eA cy f2), (hb2, eA cy g2)] s.heap.size = A at hD hAN ⊢
  have hA : ∀ q : Nat, s.heap.size ≤ q → A q := fun q h => by rw [← hAe]; exact Or.inr h
  have hS : va_S A s.heap s.heap [] := va_S.rf
  have hP : va_P (dC, dI) xCl [(h0, eE h1 h2 kn), (h1, eR hw1 hc1 hb1 a1 r1), (hw1, eW true), (hc1, eA cy f1), (hb1, eA cy g1), (h2, eR hw2 hc2 hb2 a2 r2), (hw2, eW false), (hc2, eA cy f2), (hb2, eA cy g2)] s.heap := hP
  have hl := lv_entry ([.ref h0, .int (b2i p0), .int p1]) (n := 3) (Nat.le_of_ble_eq_true rfl)
  rw [lg_entry_eq]
  generalize (lg_sl ([.ref h0, .int (b2i p0), .int p1]) ++ List.replicate (3 - (lg_sl ([.ref h0, .int (b2i p0), .int p1])).length) Slot.unset).toArray = ls at hl ⊢
  have hl : lv_has ls 3 [(0, .ref h0), (1, .int (b2i p0)), (2, .int p1)] := hl
  refine lv_aload_n hx hb dX2_narrowEnd_0 rfl (lv_at hl 0 rfl) ?_
  refine va_get (D := (dC, dI)) (ci := 4) (v := .ref h2) (C := RX2) (T := TX2) (N := 3) hx hb hts (by decide +kernel) hown hK hP 0 rfl rfl 1 (by decide +kernel) (hts (.fieldLink RX2 25 "Edgefloats" "narrow" "LEdgefloats$Row;") (by decide +kernel)) (fun _ h9 => h9) rfl dX2_narrowEnd_1 ?_
  refine lv_iload_n hx hb dX2_narrowEnd_4 rfl (lv_at hl 1 rfl) ?_
  refine lv_iload_n hx hb dX2_narrowEnd_5 rfl (lv_at hl 2 rfl) ?_
  have hPc := hP.sub (ws' := [(h2, eR hw2 hc2 hb2 a2 r2), (hw2, eW false), (hc2, eA cy f2), (hb2, eA cy g2)]) [5, 6, 7, 8] rfl
  have hDc := hD.sub (ws' := [(h2, eR hw2 hc2 hb2 a2 r2), (hw2, eW false), (hc2, eA cy f2), (hb2, eA cy g2)]) [5, 6, 7, 8] (by decide +kernel) rfl
  have hKc := hK.sub (tys' := [(cy, .long)]) [0] rfl
  have hFc := va_free (wc := [(h2, eR hw2 hc2 hb2 a2 r2), (hw2, eW false), (hc2, eA cy f2), (hb2, eA cy g2)]) hD hS hA [5, 6, 7, 8] rfl
  refine vx_calli (vx_runV (As := [.int (b2i p0), .int p1]) (rest := []) ⟨hx, hb, hml, hown, hts⟩ (k_X0_putEnd l hfl dC dI cy h2 hw2 hc2 hb2 false a2 r2 f2 g2 s.heap.size N p0 p1) (cwV 2 hts gX2_narrowEnd_X0_putEnd rfl rfl rfl (by decide +kernel) ⟨Nat.le_of_ble_eq_true rfl, Nat.le_of_ble_eq_true rfl⟩) (xM.preV hKc hPc hDc hAN (Nat.le_trans hN hS.1) (hG.kept hS hAN) (ci := 2) (q0 := 0) rfl rfl) rfl rfl hl.1 rfl (lv_room (Nat.le_of_ble_eq_true rfl)) dX2_narrowEnd_6 ⟨Nat.le_of_ble_eq_true rfl, Nat.le_of_ble_eq_true rfl⟩) hS (fun q _ h => hFc q h) hFc (fun q _ h => hFc q h) (fun E ce q9 u9 t H locs ht hvm hpx hbx hz hk hS hce hcv hcl => ?_) (fun r_1 u t H locs ht hvm hw hB hz hk hS => ?_)
  · have c_2 : ¬ (o_X0_putEnd false a2 f2 p0 p1).1 = 0 := hpx
    obtain ⟨hbe, hP1, hD1⟩ := hbx
    rw [ht] at hP1
    obtain ⟨hP, hD⟩ := va_join (wr := [(h0, eE h1 h2 kn), (h1, eR hw1 hc1 hb1 a1 r1), (hw1, eW true), (hc1, eA cy f1), (hb1, eA cy g1)]) (w1 := [(h2, eR hw2 hc2 hb2 a2 r2), (hw2, eW false), (hc2, eA cy f2), (hb2, eA cy g2)]) hP hD [5, 6, 7, 8] [0, 1, 2, 3, 4] rfl rfl (by decide +kernel) (by decide +kernel) hk hFc hP1 hD1
    have hP := hP.sub (ws' := [(h0, eE h1 h2 kn), (h1, eR hw1 hc1 hb1 a1 r1), (hw1, eW true), (hc1, eA cy f1), (hb1, eA cy g1), (h2, eR hw2 hc2 hb2 a2 r2), (hw2, eW false), (hc2, eA cy f2), (hb2, eA cy g2)]) [0, 1, 2, 3, 4, 5, 6, 7, 8] rfl
    have hD := hD.sub (ws' := [(h0, eE h1 h2 kn), (h1, eR hw1 hc1 hb1 a1 r1), (hw1, eW true), (hc1, eA cy f1), (hb1, eA cy g1), (h2, eR hw2 hc2 hb2 a2 r2), (hw2, eW false), (hc2, eA cy f2), (hb2, eA cy g2)]) [0, 1, 2, 3, 4, 5, 6, 7, 8] (by decide +kernel) rfl
    have he : o_X2_narrowEnd a2 f2 p0 p1 = ((o_X0_putEnd false a2 f2 p0 p1).1, 0, a2, f2) := by (rw [o_X2_narrowEnd, if_neg c_2]) <;> rfl
    exact vx_out (fun x hx => (hno x hx).elim) hlocks hce hcv hcl (fun t ht hvm => ⟨(), by rw [he]; exact c_2, ⟨by rw [he]; exact hbe, by rw [ht]; exact hP, hD⟩, hS.F ht⟩) hS.2.2 (by omega) (by omega)
  · skip
    obtain ⟨c_3, hw⟩ := hw
    have c_3 : (o_X0_putEnd false a2 f2 p0 p1).1 = 0 := c_3
    replace hw : r_1 = (o_X0_putEnd false a2 f2 p0 p1).2.1 := hw
    subst r_1
    obtain ⟨hP1, hD1⟩ := hB
    rw [ht] at hP1
    obtain ⟨hP, hD⟩ := va_join (wr := [(h0, eE h1 h2 kn), (h1, eR hw1 hc1 hb1 a1 r1), (hw1, eW true), (hc1, eA cy f1), (hb1, eA cy g1)]) (w1 := [(h2, eR hw2 hc2 hb2 (o_X0_putEnd false a2 f2 p0 p1).2.2.1 r2), (hw2, eW false), (hc2, eA cy (o_X0_putEnd false a2 f2 p0 p1).2.2.2), (hb2, eA cy g2)]) hP hD [5, 6, 7, 8] [0, 1, 2, 3, 4] rfl rfl (by decide +kernel) (by decide +kernel) hk hFc hP1 hD1
    have hP := hP.sub (ws' := [(h0, eE h1 h2 kn), (h1, eR hw1 hc1 hb1 a1 r1), (hw1, eW true), (hc1, eA cy f1), (hb1, eA cy g1), (h2, eR hw2 hc2 hb2 (o_X0_putEnd false a2 f2 p0 p1).2.2.1 r2), (hw2, eW false), (hc2, eA cy (o_X0_putEnd false a2 f2 p0 p1).2.2.2), (hb2, eA cy g2)]) [0, 1, 2, 3, 4, 5, 6, 7, 8] rfl
    have hD := hD.sub (ws' := [(h0, eE h1 h2 kn), (h1, eR hw1 hc1 hb1 a1 r1), (hw1, eW true), (hc1, eA cy f1), (hb1, eA cy g1), (h2, eR hw2 hc2 hb2 (o_X0_putEnd false a2 f2 p0 p1).2.2.1 r2), (hw2, eW false), (hc2, eA cy (o_X0_putEnd false a2 f2 p0 p1).2.2.2), (hb2, eA cy g2)]) [0, 1, 2, 3, 4, 5, 6, 7, 8] (by decide +kernel) rfl
    have he : o_X2_narrowEnd a2 f2 p0 p1 = (0, (o_X0_putEnd false a2 f2 p0 p1).2.1, (o_X0_putEnd false a2 f2 p0 p1).2.2.1, (o_X0_putEnd false a2 f2 p0 p1).2.2.2) := by (rw [o_X2_narrowEnd, if_pos c_3]) <;> rfl
    refine W.widen (k := 1) (n := 6) (by omega) (by omega) ?_
    refine vx_ret ?_
    exact W.iret (v := ((o_X0_putEnd false a2 f2 p0 p1).2.1)) hx hb hr (fun t ht hW => ⟨⟨_, (), rfl, ⟨(by (rw [he]) <;> rfl), (by (rw [he]) <;> rfl)⟩, (by rw [he]; exact ⟨by rw [ht]; exact hP, hD⟩)⟩, hS.F ht⟩) hS.2.2 dX2_narrowEnd_9
theorem cl_X2_digits_1 : ∀ w ∈ [.fieldLink RX2 25 "Edgefloats" "narrow" "LEdgefloats$Row;", .methodLink RX2 68 yX0_lastHalf, .instanceMethod yX0_lastHalf, .selects RX0 yX0_lastHalf yX0_lastHalf, .initialized RX0, .code yX0_lastHalf cX0_lastHalf 2 (some .int), .fieldLink RX0 15 "Edgefloats$Row" "cells" "[J", .static yX2_checkCell, .initialized RX2, .code yX2_checkCell cX2_checkCell 1 none, .classLink RX2 148 "java/lang/IndexOutOfBoundsException", .initialized "java/lang/IndexOutOfBoundsException"], w ∈ wsX2_digits := fun _ h => (List.mem_cons_of_mem _ (List.mem_append_left _ (List.mem_append_left _ (List.mem_append_left _ h))))
theorem cl_X2_digits_2 : ∀ w ∈ wsX20, w ∈ wsX2_digits := fun _ h => (List.mem_cons_of_mem _ (List.mem_append_left _ (List.mem_append_left _ (List.mem_append_right _ h))))
theorem cl_X2_digits_3 : ∀ w ∈ wsX00, w ∈ wsX2_digits := fun _ h => (List.mem_cons_of_mem _ (List.mem_append_left _ (List.mem_append_right _ h)))
theorem cl_X2_digits_4 : ∀ w ∈ (vx_atS RX2 152 "java/lang/IndexOutOfBoundsException" ["java/lang/RuntimeException", "java/lang/Exception"]).filter goodWord, w ∈ wsX2_digits := fun _ h => (List.mem_cons_of_mem _ (List.mem_append_right _ h))
set_option maxRecDepth 20000 in
theorem ggX2_digits_X0_lastHalf : GoodIn wsX2_digits wsX0_lastHalf := goodIn_sub (List.forall_mem_cons.mpr ⟨(cl_X2_digits_1 _ (List.mem_of_getElem? (i := 5) rfl)), fun w h => (List.mem_append.mp h).elim ((fun w h => (List.mem_append.mp h).elim ((List.forall_mem_cons.mpr ⟨(cl_X2_digits_1 _ (List.mem_of_getElem? (i := 6) rfl)), List.forall_mem_cons.mpr ⟨(cl_X2_digits_1 _ (List.mem_of_getElem? (i := 7) rfl)), List.forall_mem_cons.mpr ⟨(cl_X2_digits_1 _ (List.mem_of_getElem? (i := 8) rfl)), List.forall_mem_cons.mpr ⟨(cl_X2_digits_1 _ (List.mem_of_getElem? (i := 9) rfl)), List.forall_mem_cons.mpr ⟨(cl_X2_digits_1 _ (List.mem_of_getElem? (i := 10) rfl)), List.forall_mem_cons.mpr ⟨(cl_X2_digits_1 _ (List.mem_of_getElem? (i := 11) rfl)), fun _ h => absurd h List.not_mem_nil⟩⟩⟩⟩⟩⟩) w) ((cl_X2_digits_3) w)) w) ((cl_X2_digits_4) w)⟩) (by decide +kernel)
set_option maxRecDepth 20000 in
theorem gX2_digits_X0_lastHalf : GoodIn wsX2_digits (wsV RX2 68 RX0 yX0_lastHalf wsX0_lastHalf) := goodIn_app (goodIn_sub (List.forall_mem_cons.mpr ⟨(cl_X2_digits_1 _ (List.mem_of_getElem? (i := 1) rfl)), List.forall_mem_cons.mpr ⟨(cl_X2_digits_1 _ (List.mem_of_getElem? (i := 2) rfl)), List.forall_mem_cons.mpr ⟨(cl_X2_digits_1 _ (List.mem_of_getElem? (i := 3) rfl)), List.forall_mem_cons.mpr ⟨(cl_X2_digits_1 _ (List.mem_of_getElem? (i := 4) rfl)), fun _ h => absurd h List.not_mem_nil⟩⟩⟩⟩) (by decide +kernel)) ggX2_digits_X0_lastHalf
noncomputable def dz_p13_33 : List (Nat × Instr × Nat) := [(0, (.aload_n 0, 1)), (1, (.getfield 25, 3)), (4, (.iload_n 1, 1)), (5, (.invokevirtual 68, 3)), (8, (.ireturn, 1))]
theorem dy_p13_33 : dz_ok cX2_digits dz_p13_33 = true := by decide +kernel
theorem dX2_digits_0 : decode cX2_digits 0 = .ok (.aload_n 0, 1) := dz_at (i := 0) dy_p13_33 rfl
theorem dX2_digits_1 : decode cX2_digits 1 = .ok (.getfield 25, 3) := dz_at (i := 1) dy_p13_33 rfl
theorem dX2_digits_4 : decode cX2_digits 4 = .ok (.iload_n 1, 1) := dz_at (i := 2) dy_p13_33 rfl
theorem dX2_digits_5 : decode cX2_digits 5 = .ok (.invokevirtual 68, 3) := dz_at (i := 3) dy_p13_33 rfl
theorem dX2_digits_8 : decode cX2_digits 8 = .ok (.ireturn, 1) := dz_at (i := 4) dy_p13_33 rfl
noncomputable def o_X2_digits (f2 : Nat → Int64) (p0 : Int32) : Int32 × Int32 :=
  if (o_X0_lastHalf f2 p0).1 = 0 then (0, (o_X0_lastHalf f2 p0).2)
  else ((o_X0_lastHalf f2 p0).1, 0)
set_option maxHeartbeats 4000000 in
set_option maxRecDepth 100000 in
theorem k_X2_digits (l : Launch) (hfl : l.flags = flags0) (dC : Nat → ClassId) (dI : Nat → Nat → Nat) (cy : ClassId) (h0 : Nat) (h1 : Nat) (hw1 : Nat) (hc1 : Nat) (hb1 : Nat) (h2 : Nat) (hw2 : Nat) (hc2 : Nat) (hb2 : Nat) (a1 : Int32) (r1 : Int32) (f1 : Nat → Int64) (g1 : Nat → Int64) (a2 : Int32) (r2 : Int32) (f2 : Nat → Int64) (g2 : Nat → Int64) (kn : Int32) (sz : Nat) (N : Nat) (p0 : Int32) : vx_Met l yX2_digits wsX2_digits ({ frames := 8, cells := 1, slots := 6, locals := 141 }) (va_Pc [.ref h0, .int p0] (xM (dC, dI) xCl [(h0, eE h1 h2 kn), (h1, eR hw1 hc1 hb1 a1 r1), (hw1, eW true), (hc1, eA cy f1), (hb1, eA cy g1), (h2, eR hw2 hc2 hb2 a2 r2), (hw2, eW false), (hc2, eA cy f2), (hb2, eA cy g2)] [(cy, .long)] sz N)) (va_Qi (fun (r : Int32) (_ : Unit) => (o_X2_digits f2 p0).1 = 0 ∧ r = (o_X2_digits f2 p0).2) (fun _ _ => True) (aN sz)) (vx_X (fun _ : Unit => ¬ (o_X2_digits f2 p0).1 = 0) (fun E _ _ => E = xE (o_X2_digits f2 p0).1) (aN sz)) 1 6 (aN sz) := by
  refine vx_ofW (cc := cX2_digits) (maxL := 2) (ret := (some .int)) (by decide +kernel) rfl ?_
  intro p e s m args below meth c s₁ B hml hno hv
  obtain ⟨rfl, hsz, hP, hK, hD0, hN, hG⟩ := hv
  have hx := B.exec
  have hb := B.bytes
  have hr := B.returns
  have hts := atoms_spec (ws := wsX2_digits) B.pre
  have hown : s.vm.findClass RX2 = some m.cls := findClass_of_methodNamed B.named
  have hlocks := B.notSynchronized
  subst hsz
  have hA : ∀ q : Nat, s.heap.size ≤ q → aN s.heap.size q := fun _ h => h
  have hD := hD0
  have hAN : ∀ q, aN s.heap.size q → N ≤ q := fun q h => Nat.le_trans hN h
  have hS : va_S (aN s.heap.size) s.heap s.heap [] := va_S.rf
  have hP : va_P (dC, dI) xCl [(h0, eE h1 h2 kn), (h1, eR hw1 hc1 hb1 a1 r1), (hw1, eW true), (hc1, eA cy f1), (hb1, eA cy g1), (h2, eR hw2 hc2 hb2 a2 r2), (hw2, eW false), (hc2, eA cy f2), (hb2, eA cy g2)] s.heap := hP
  have hl := lv_entry ([.ref h0, .int p0]) (n := 2) (Nat.le_of_ble_eq_true rfl)
  rw [lg_entry_eq]
  generalize (lg_sl ([.ref h0, .int p0]) ++ List.replicate (2 - (lg_sl ([.ref h0, .int p0])).length) Slot.unset).toArray = ls at hl ⊢
  have hl : lv_has ls 2 [(0, .ref h0), (1, .int p0)] := hl
  refine lv_aload_n hx hb dX2_digits_0 rfl (lv_at hl 0 rfl) ?_
  refine va_get (D := (dC, dI)) (ci := 4) (v := .ref h2) (C := RX2) (T := TX2) (N := 3) hx hb hts (by decide +kernel) hown hK hP 0 rfl rfl 1 (by decide +kernel) (hts (.fieldLink RX2 25 "Edgefloats" "narrow" "LEdgefloats$Row;") (by decide +kernel)) (fun _ h9 => h9) rfl dX2_digits_1 ?_
  refine lv_iload_n hx hb dX2_digits_4 rfl (lv_at hl 1 rfl) ?_
  have hPc := hP.sub (ws' := [(h2, eR hw2 hc2 hb2 a2 r2), (hw2, eW false), (hc2, eA cy f2), (hb2, eA cy g2)]) [5, 6, 7, 8] rfl
  have hDc := hD.sub (ws' := [(h2, eR hw2 hc2 hb2 a2 r2), (hw2, eW false), (hc2, eA cy f2), (hb2, eA cy g2)]) [5, 6, 7, 8] (by decide +kernel) rfl
  have hKc := hK.sub (tys' := [(cy, .long)]) [0] rfl
  refine vx_calli (vx_runV (As := [.int p0]) (rest := []) ⟨hx, hb, hml, hown, hts⟩ (k_X0_lastHalf l hfl dC dI cy h2 hw2 hc2 hb2 false a2 r2 f2 g2 s.heap.size N p0) (cwV 1 hts gX2_digits_X0_lastHalf rfl rfl rfl (by decide +kernel) ⟨Nat.le_of_ble_eq_true rfl, Nat.le_of_ble_eq_true rfl⟩) (xM.preV hKc hPc hDc (fun _ h => h) (Nat.le_trans hN hS.1) (hG.kept hS hAN) (ci := 2) (q0 := 0) rfl rfl) rfl rfl hl.1 rfl (lv_room (Nat.le_of_ble_eq_true rfl)) dX2_digits_5 ⟨Nat.le_of_ble_eq_true rfl, Nat.le_of_ble_eq_true rfl⟩) hS xA_old (fun q h => hA q (Nat.le_trans hS.1 h)) xA_old (fun E ce q9 u9 t H locs ht hvm hpx hbx hz hk hS hce hcv hcl => ?_) (fun r_1 u t H locs ht hvm hw hB hz hk hS => ?_)
  · have c_2 : ¬ (o_X0_lastHalf f2 p0).1 = 0 := hpx
    have hbe := hbx
    have hP := xP_keep hP hk
    have he : o_X2_digits f2 p0 = ((o_X0_lastHalf f2 p0).1, 0) := by (rw [o_X2_digits, if_neg c_2]) <;> rfl
    exact vx_out (fun x hx => (hno x hx).elim) hlocks hce hcv hcl (fun t ht hvm => ⟨(), by rw [he]; exact c_2, by rw [he]; exact hbe, hS.F ht⟩) hS.2.2 (by omega) (by omega)
  · skip
    obtain ⟨c_3, hw⟩ := hw
    have c_3 : (o_X0_lastHalf f2 p0).1 = 0 := c_3
    replace hw : r_1 = (o_X0_lastHalf f2 p0).2 := hw
    subst r_1
    have hP := xP_keep hP hk
    have he : o_X2_digits f2 p0 = (0, (o_X0_lastHalf f2 p0).2) := by (rw [o_X2_digits, if_pos c_3]) <;> rfl
    refine W.widen (k := 1) (n := 6) (by omega) (by omega) ?_
    refine vx_ret ?_
    exact W.iret (v := ((o_X0_lastHalf f2 p0).2)) hx hb hr (fun t ht hW => ⟨⟨_, (), rfl, ⟨(by (rw [he]) <;> rfl), (by (rw [he]) <;> rfl)⟩, trivial⟩, hS.F ht⟩) hS.2.2 dX2_digits_8
theorem cl_X2_narrowOrder_1 : ∀ w ∈ wsX2_narrowOrder_r1, w ∈ wsX2_narrowOrder := fun _ h => (List.mem_cons_of_mem _ (List.mem_append_left _ (List.mem_append_left _ (List.mem_append_left _ (List.mem_append_left _ (List.mem_append_left _ (List.mem_append_left _ h)))))))
theorem cl_X2_narrowOrder_2 : ∀ w ∈ wsX2_narrowOrder_r2, w ∈ wsX2_narrowOrder := fun _ h => (List.mem_cons_of_mem _ (List.mem_append_left _ (List.mem_append_left _ (List.mem_append_left _ (List.mem_append_left _ (List.mem_append_left _ (List.mem_append_right _ h)))))))
theorem cl_X2_narrowOrder_3 : ∀ w ∈ wsX20, w ∈ wsX2_narrowOrder := fun _ h => (List.mem_cons_of_mem _ (List.mem_append_left _ (List.mem_append_left _ (List.mem_append_left _ (List.mem_append_left _ (List.mem_append_right _ h))))))
theorem cl_X2_narrowOrder_4 : ∀ w ∈ wsX00, w ∈ wsX2_narrowOrder := fun _ h => (List.mem_cons_of_mem _ (List.mem_append_left _ (List.mem_append_left _ (List.mem_append_left _ (List.mem_append_right _ h)))))
theorem cl_X2_narrowOrder_5 : ∀ w ∈ wsX10, w ∈ wsX2_narrowOrder := fun _ h => (List.mem_cons_of_mem _ (List.mem_append_left _ (List.mem_append_left _ (List.mem_append_right _ h))))
theorem cl_X2_narrowOrder_6 : ∀ w ∈ (vx_atS RX2 152 "java/lang/IndexOutOfBoundsException" ["java/lang/RuntimeException", "java/lang/Exception"]).filter goodWord, w ∈ wsX2_narrowOrder := fun _ h => (List.mem_cons_of_mem _ (List.mem_append_left _ (List.mem_append_right _ h)))
theorem cl_X2_narrowOrder_7 : ∀ w ∈ (vx_atS RX2 159 "java/lang/IllegalArgumentException" ["java/lang/RuntimeException", "java/lang/Exception"]).filter goodWord, w ∈ wsX2_narrowOrder := fun _ h => (List.mem_cons_of_mem _ (List.mem_append_right _ h))
set_option maxRecDepth 20000 in
theorem ggX2_narrowOrder_X0_order : GoodIn wsX2_narrowOrder wsX0_order := goodIn_sub (List.forall_mem_cons.mpr ⟨(cl_X2_narrowOrder_1 _ (List.mem_of_getElem? (i := 5) rfl)), fun w h => (List.mem_append.mp h).elim ((fun w h => (List.mem_append.mp h).elim ((fun w h => (List.mem_append.mp h).elim ((fun w h => (List.mem_append.mp h).elim ((List.forall_mem_cons.mpr ⟨(cl_X2_narrowOrder_1 _ (List.mem_of_getElem? (i := 6) rfl)), List.forall_mem_cons.mpr ⟨(cl_X2_narrowOrder_1 _ (List.mem_of_getElem? (i := 7) rfl)), List.forall_mem_cons.mpr ⟨(cl_X2_narrowOrder_1 _ (List.mem_of_getElem? (i := 8) rfl)), List.forall_mem_cons.mpr ⟨(cl_X2_narrowOrder_1 _ (List.mem_of_getElem? (i := 9) rfl)), List.forall_mem_cons.mpr ⟨(cl_X2_narrowOrder_1 _ (List.mem_of_getElem? (i := 10) rfl)), List.forall_mem_cons.mpr ⟨(cl_X2_narrowOrder_1 _ (List.mem_of_getElem? (i := 11) rfl)), List.forall_mem_cons.mpr ⟨(cl_X2_narrowOrder_1 _ (List.mem_of_getElem? (i := 12) rfl)), List.forall_mem_cons.mpr ⟨(cl_X2_narrowOrder_1 _ (List.mem_of_getElem? (i := 13) rfl)), List.forall_mem_cons.mpr ⟨(cl_X2_narrowOrder_1 _ (List.mem_of_getElem? (i := 14) rfl)), List.forall_mem_cons.mpr ⟨(cl_X2_narrowOrder_1 _ (List.mem_of_getElem? (i := 15) rfl)), List.forall_mem_cons.mpr ⟨(cl_X2_narrowOrder_1 _ (List.mem_of_getElem? (i := 16) rfl)), List.forall_mem_cons.mpr ⟨(cl_X2_narrowOrder_1 _ (List.mem_of_getElem? (i := 17) rfl)), List.forall_mem_cons.mpr ⟨(cl_X2_narrowOrder_1 _ (List.mem_of_getElem? (i := 18) rfl)), List.forall_mem_cons.mpr ⟨(cl_X2_narrowOrder_1 _ (List.mem_of_getElem? (i := 19) rfl)), List.forall_mem_cons.mpr ⟨(cl_X2_narrowOrder_1 _ (List.mem_of_getElem? (i := 20) rfl)), List.forall_mem_cons.mpr ⟨(cl_X2_narrowOrder_1 _ (List.mem_of_getElem? (i := 21) rfl)), List.forall_mem_cons.mpr ⟨(cl_X2_narrowOrder_1 _ (List.mem_of_getElem? (i := 22) rfl)), List.forall_mem_cons.mpr ⟨(cl_X2_narrowOrder_1 _ (List.mem_of_getElem? (i := 23) rfl)), List.forall_mem_cons.mpr ⟨(cl_X2_narrowOrder_2 _ (List.mem_of_getElem? (i := 0) rfl)), List.forall_mem_cons.mpr ⟨(cl_X2_narrowOrder_2 _ (List.mem_of_getElem? (i := 1) rfl)), List.forall_mem_cons.mpr ⟨(cl_X2_narrowOrder_2 _ (List.mem_of_getElem? (i := 2) rfl)), List.forall_mem_cons.mpr ⟨(cl_X2_narrowOrder_2 _ (List.mem_of_getElem? (i := 3) rfl)), fun _ h => absurd h List.not_mem_nil⟩⟩⟩⟩⟩⟩⟩⟩⟩⟩⟩⟩⟩⟩⟩⟩⟩⟩⟩⟩⟩⟩) w) ((cl_X2_narrowOrder_4) w)) w) ((cl_X2_narrowOrder_5) w)) w) ((cl_X2_narrowOrder_6) w)) w) ((cl_X2_narrowOrder_7) w)⟩) (by decide +kernel)
set_option maxRecDepth 20000 in
theorem gX2_narrowOrder_X0_order : GoodIn wsX2_narrowOrder (wsV RX2 75 RX0 yX0_order wsX0_order) := goodIn_app (goodIn_sub (List.forall_mem_cons.mpr ⟨(cl_X2_narrowOrder_1 _ (List.mem_of_getElem? (i := 1) rfl)), List.forall_mem_cons.mpr ⟨(cl_X2_narrowOrder_1 _ (List.mem_of_getElem? (i := 2) rfl)), List.forall_mem_cons.mpr ⟨(cl_X2_narrowOrder_1 _ (List.mem_of_getElem? (i := 3) rfl)), List.forall_mem_cons.mpr ⟨(cl_X2_narrowOrder_1 _ (List.mem_of_getElem? (i := 4) rfl)), fun _ h => absurd h List.not_mem_nil⟩⟩⟩⟩) (by decide +kernel)) ggX2_narrowOrder_X0_order
noncomputable def dz_p13_34 : List (Nat × Instr × Nat) := [(0, (.aload_n 0, 1)), (1, (.getfield 25, 3)), (4, (.iload_n 1, 1)), (5, (.iload_n 2, 1)), (6, (.iload_n 3, 1)), (7, (.invokevirtual 75, 3)), (10, (.ireturn, 1))]
theorem dy_p13_34 : dz_ok cX2_narrowOrder dz_p13_34 = true := by decide +kernel
theorem dX2_narrowOrder_0 : decode cX2_narrowOrder 0 = .ok (.aload_n 0, 1) := dz_at (i := 0) dy_p13_34 rfl
theorem dX2_narrowOrder_1 : decode cX2_narrowOrder 1 = .ok (.getfield 25, 3) := dz_at (i := 1) dy_p13_34 rfl
theorem dX2_narrowOrder_4 : decode cX2_narrowOrder 4 = .ok (.iload_n 1, 1) := dz_at (i := 2) dy_p13_34 rfl
theorem dX2_narrowOrder_5 : decode cX2_narrowOrder 5 = .ok (.iload_n 2, 1) := dz_at (i := 3) dy_p13_34 rfl
theorem dX2_narrowOrder_6 : decode cX2_narrowOrder 6 = .ok (.iload_n 3, 1) := dz_at (i := 4) dy_p13_34 rfl
theorem dX2_narrowOrder_7 : decode cX2_narrowOrder 7 = .ok (.invokevirtual 75, 3) := dz_at (i := 5) dy_p13_34 rfl
theorem dX2_narrowOrder_10 : decode cX2_narrowOrder 10 = .ok (.ireturn, 1) := dz_at (i := 6) dy_p13_34 rfl
noncomputable def o_X2_narrowOrder (f2 : Nat → Int64) (p0 : Int32) (p1 : Int32) (p2 : Int32) : Int32 × Int32 :=
  if (o_X0_order false f2 p0 p1 p2).1 = 0 then (0, (o_X0_order false f2 p0 p1 p2).2)
  else ((o_X0_order false f2 p0 p1 p2).1, 0)
set_option maxHeartbeats 4000000 in
set_option maxRecDepth 100000 in
theorem k_X2_narrowOrder (l : Launch) (hfl : l.flags = flags0) (dC : Nat → ClassId) (dI : Nat → Nat → Nat) (cy : ClassId) (h0 : Nat) (h1 : Nat) (hw1 : Nat) (hc1 : Nat) (hb1 : Nat) (h2 : Nat) (hw2 : Nat) (hc2 : Nat) (hb2 : Nat) (a1 : Int32) (r1 : Int32) (f1 : Nat → Int64) (g1 : Nat → Int64) (a2 : Int32) (r2 : Int32) (f2 : Nat → Int64) (g2 : Nat → Int64) (kn : Int32) (sz : Nat) (N : Nat) (p0 : Int32) (p1 : Int32) (p2 : Int32) : vx_Met l yX2_narrowOrder wsX2_narrowOrder ({ frames := 8, cells := 3, slots := 18, locals := 144 }) (va_Pc [.ref h0, .int p0, .int p1, .int p2] (xM (dC, dI) xCl [(h0, eE h1 h2 kn), (h1, eR hw1 hc1 hb1 a1 r1), (hw1, eW true), (hc1, eA cy f1), (hb1, eA cy g1), (h2, eR hw2 hc2 hb2 a2 r2), (hw2, eW false), (hc2, eA cy f2), (hb2, eA cy g2)] [(cy, .long)] sz N)) (va_Qi (fun (r : Int32) (_ : Unit) => (o_X2_narrowOrder f2 p0 p1 p2).1 = 0 ∧ r = (o_X2_narrowOrder f2 p0 p1 p2).2) (fun _ _ => True) (aN sz)) (vx_X (fun _ : Unit => ¬ (o_X2_narrowOrder f2 p0 p1 p2).1 = 0) (fun E _ _ => E = xE (o_X2_narrowOrder f2 p0 p1 p2).1) (aN sz)) 3 18 (aN sz) := by
  refine vx_ofW (cc := cX2_narrowOrder) (maxL := 4) (ret := (some .int)) (by decide +kernel) rfl ?_
  intro p e s m args below meth c s₁ B hml hno hv
  obtain ⟨rfl, hsz, hP, hK, hD0, hN, hG⟩ := hv
  have hx := B.exec
  have hb := B.bytes
  have hr := B.returns
  have hts := atoms_spec (ws := wsX2_narrowOrder) B.pre
  have hown : s.vm.findClass RX2 = some m.cls := findClass_of_methodNamed B.named
  have hlocks := B.notSynchronized
  subst hsz
  have hA : ∀ q : Nat, s.heap.size ≤ q → aN s.heap.size q := fun _ h => h
  have hD := hD0
  have hAN : ∀ q, aN s.heap.size q → N ≤ q := fun q h => Nat.le_trans hN h
  have hS : va_S (aN s.heap.size) s.heap s.heap [] := va_S.rf
  have hP : va_P (dC, dI) xCl [(h0, eE h1 h2 kn), (h1, eR hw1 hc1 hb1 a1 r1), (hw1, eW true), (hc1, eA cy f1), (hb1, eA cy g1), (h2, eR hw2 hc2 hb2 a2 r2), (hw2, eW false), (hc2, eA cy f2), (hb2, eA cy g2)] s.heap := hP
  have hl := lv_entry ([.ref h0, .int p0, .int p1, .int p2]) (n := 4) (Nat.le_of_ble_eq_true rfl)
  rw [lg_entry_eq]
  generalize (lg_sl ([.ref h0, .int p0, .int p1, .int p2]) ++ List.replicate (4 - (lg_sl ([.ref h0, .int p0, .int p1, .int p2])).length) Slot.unset).toArray = ls at hl ⊢
  have hl : lv_has ls 4 [(0, .ref h0), (1, .int p0), (2, .int p1), (3, .int p2)] := hl
  refine lv_aload_n hx hb dX2_narrowOrder_0 rfl (lv_at hl 0 rfl) ?_
  refine va_get (D := (dC, dI)) (ci := 4) (v := .ref h2) (C := RX2) (T := TX2) (N := 3) hx hb hts (by decide +kernel) hown hK hP 0 rfl rfl 1 (by decide +kernel) (hts (.fieldLink RX2 25 "Edgefloats" "narrow" "LEdgefloats$Row;") (by decide +kernel)) (fun _ h9 => h9) rfl dX2_narrowOrder_1 ?_
  refine lv_iload_n hx hb dX2_narrowOrder_4 rfl (lv_at hl 1 rfl) ?_
  refine lv_iload_n hx hb dX2_narrowOrder_5 rfl (lv_at hl 2 rfl) ?_
  refine lv_iload_n hx hb dX2_narrowOrder_6 rfl (lv_at hl 3 rfl) ?_
  have hPc := hP.sub (ws' := [(h2, eR hw2 hc2 hb2 a2 r2), (hw2, eW false), (hc2, eA cy f2), (hb2, eA cy g2)]) [5, 6, 7, 8] rfl
  have hDc := hD.sub (ws' := [(h2, eR hw2 hc2 hb2 a2 r2), (hw2, eW false), (hc2, eA cy f2), (hb2, eA cy g2)]) [5, 6, 7, 8] (by decide +kernel) rfl
  have hKc := hK.sub (tys' := [(cy, .long)]) [0] rfl
  refine vx_calli (vx_runV (As := [.int p0, .int p1, .int p2]) (rest := []) ⟨hx, hb, hml, hown, hts⟩ (k_X0_order l hfl dC dI cy h2 hw2 hc2 hb2 false a2 r2 f2 g2 s.heap.size N p0 p1 p2) (cwV 3 hts gX2_narrowOrder_X0_order rfl rfl rfl (by decide +kernel) ⟨Nat.le_of_ble_eq_true rfl, Nat.le_of_ble_eq_true rfl⟩) (xM.preV hKc hPc hDc (fun _ h => h) (Nat.le_trans hN hS.1) (hG.kept hS hAN) (ci := 2) (q0 := 0) rfl rfl) rfl rfl hl.1 rfl (lv_room (Nat.le_of_ble_eq_true rfl)) dX2_narrowOrder_7 ⟨Nat.le_of_ble_eq_true rfl, Nat.le_of_ble_eq_true rfl⟩) hS xA_old (fun q h => hA q (Nat.le_trans hS.1 h)) xA_old (fun E ce q9 u9 t H locs ht hvm hpx hbx hz hk hS hce hcv hcl => ?_) (fun r_1 u t H locs ht hvm hw hB hz hk hS => ?_)
  · have c_2 : ¬ (o_X0_order false f2 p0 p1 p2).1 = 0 := hpx
    have hbe := hbx
    have hP := xP_keep hP hk
    have he : o_X2_narrowOrder f2 p0 p1 p2 = ((o_X0_order false f2 p0 p1 p2).1, 0) := by (rw [o_X2_narrowOrder, if_neg c_2]) <;> rfl
    exact vx_out (fun x hx => (hno x hx).elim) hlocks hce hcv hcl (fun t ht hvm => ⟨(), by rw [he]; exact c_2, by rw [he]; exact hbe, hS.F ht⟩) hS.2.2 (by omega) (by omega)
  · skip
    obtain ⟨c_3, hw⟩ := hw
    have c_3 : (o_X0_order false f2 p0 p1 p2).1 = 0 := c_3
    replace hw : r_1 = (o_X0_order false f2 p0 p1 p2).2 := hw
    subst r_1
    have hP := xP_keep hP hk
    have he : o_X2_narrowOrder f2 p0 p1 p2 = (0, (o_X0_order false f2 p0 p1 p2).2) := by (rw [o_X2_narrowOrder, if_pos c_3]) <;> rfl
    refine W.widen (k := 3) (n := 18) (by omega) (by omega) ?_
    refine vx_ret ?_
    exact W.iret (v := ((o_X0_order false f2 p0 p1 p2).2)) hx hb hr (fun t ht hW => ⟨⟨_, (), rfl, ⟨(by (rw [he]) <;> rfl), (by (rw [he]) <;> rfl)⟩, trivial⟩, hS.F ht⟩) hS.2.2 dX2_narrowOrder_10
theorem cl_X2_narrowSame_1 : ∀ w ∈ wsX2_narrowSame_r1, w ∈ wsX2_narrowSame := fun _ h => (List.mem_cons_of_mem _ (List.mem_append_left _ (List.mem_append_left _ (List.mem_append_left _ (List.mem_append_left _ (List.mem_append_left _ (List.mem_append_left _ h)))))))
theorem cl_X2_narrowSame_2 : ∀ w ∈ wsX2_narrowSame_r2, w ∈ wsX2_narrowSame := fun _ h => (List.mem_cons_of_mem _ (List.mem_append_left _ (List.mem_append_left _ (List.mem_append_left _ (List.mem_append_left _ (List.mem_append_left _ (List.mem_append_right _ h)))))))
theorem cl_X2_narrowSame_3 : ∀ w ∈ wsX20, w ∈ wsX2_narrowSame := fun _ h => (List.mem_cons_of_mem _ (List.mem_append_left _ (List.mem_append_left _ (List.mem_append_left _ (List.mem_append_left _ (List.mem_append_right _ h))))))
theorem cl_X2_narrowSame_4 : ∀ w ∈ wsX00, w ∈ wsX2_narrowSame := fun _ h => (List.mem_cons_of_mem _ (List.mem_append_left _ (List.mem_append_left _ (List.mem_append_left _ (List.mem_append_right _ h)))))
theorem cl_X2_narrowSame_5 : ∀ w ∈ wsX10, w ∈ wsX2_narrowSame := fun _ h => (List.mem_cons_of_mem _ (List.mem_append_left _ (List.mem_append_left _ (List.mem_append_right _ h))))
theorem cl_X2_narrowSame_6 : ∀ w ∈ (vx_atS RX2 152 "java/lang/IndexOutOfBoundsException" ["java/lang/RuntimeException", "java/lang/Exception"]).filter goodWord, w ∈ wsX2_narrowSame := fun _ h => (List.mem_cons_of_mem _ (List.mem_append_left _ (List.mem_append_right _ h)))
theorem cl_X2_narrowSame_7 : ∀ w ∈ (vx_atS RX2 159 "java/lang/IllegalArgumentException" ["java/lang/RuntimeException", "java/lang/Exception"]).filter goodWord, w ∈ wsX2_narrowSame := fun _ h => (List.mem_cons_of_mem _ (List.mem_append_right _ h))
set_option maxRecDepth 20000 in
theorem ggX2_narrowSame_X0_areSame : GoodIn wsX2_narrowSame wsX0_areSame := goodIn_sub (List.forall_mem_cons.mpr ⟨(cl_X2_narrowSame_1 _ (List.mem_of_getElem? (i := 5) rfl)), fun w h => (List.mem_append.mp h).elim ((fun w h => (List.mem_append.mp h).elim ((fun w h => (List.mem_append.mp h).elim ((fun w h => (List.mem_append.mp h).elim ((fun w h => (List.mem_append.mp h).elim ((List.forall_mem_cons.mpr ⟨(cl_X2_narrowSame_1 _ (List.mem_of_getElem? (i := 6) rfl)), List.forall_mem_cons.mpr ⟨(cl_X2_narrowSame_1 _ (List.mem_of_getElem? (i := 7) rfl)), List.forall_mem_cons.mpr ⟨(cl_X2_narrowSame_1 _ (List.mem_of_getElem? (i := 8) rfl)), List.forall_mem_cons.mpr ⟨(cl_X2_narrowSame_1 _ (List.mem_of_getElem? (i := 4) rfl)), List.forall_mem_cons.mpr ⟨(cl_X2_narrowSame_1 _ (List.mem_of_getElem? (i := 9) rfl)), List.forall_mem_cons.mpr ⟨(cl_X2_narrowSame_1 _ (List.mem_of_getElem? (i := 10) rfl)), List.forall_mem_cons.mpr ⟨(cl_X2_narrowSame_1 _ (List.mem_of_getElem? (i := 11) rfl)), List.forall_mem_cons.mpr ⟨(cl_X2_narrowSame_1 _ (List.mem_of_getElem? (i := 12) rfl)), List.forall_mem_cons.mpr ⟨(cl_X2_narrowSame_1 _ (List.mem_of_getElem? (i := 13) rfl)), List.forall_mem_cons.mpr ⟨(cl_X2_narrowSame_1 _ (List.mem_of_getElem? (i := 14) rfl)), List.forall_mem_cons.mpr ⟨(cl_X2_narrowSame_1 _ (List.mem_of_getElem? (i := 15) rfl)), List.forall_mem_cons.mpr ⟨(cl_X2_narrowSame_1 _ (List.mem_of_getElem? (i := 16) rfl)), List.forall_mem_cons.mpr ⟨(cl_X2_narrowSame_1 _ (List.mem_of_getElem? (i := 17) rfl)), List.forall_mem_cons.mpr ⟨(cl_X2_narrowSame_1 _ (List.mem_of_getElem? (i := 18) rfl)), List.forall_mem_cons.mpr ⟨(cl_X2_narrowSame_1 _ (List.mem_of_getElem? (i := 19) rfl)), List.forall_mem_cons.mpr ⟨(cl_X2_narrowSame_1 _ (List.mem_of_getElem? (i := 20) rfl)), List.forall_mem_cons.mpr ⟨(cl_X2_narrowSame_1 _ (List.mem_of_getElem? (i := 21) rfl)), List.forall_mem_cons.mpr ⟨(cl_X2_narrowSame_1 _ (List.mem_of_getElem? (i := 22) rfl)), List.forall_mem_cons.mpr ⟨(cl_X2_narrowSame_1 _ (List.mem_of_getElem? (i := 23) rfl)), List.forall_mem_cons.mpr ⟨(cl_X2_narrowSame_2 _ (List.mem_of_getElem? (i := 0) rfl)), List.forall_mem_cons.mpr ⟨(cl_X2_narrowSame_2 _ (List.mem_of_getElem? (i := 1) rfl)), List.forall_mem_cons.mpr ⟨(cl_X2_narrowSame_2 _ (List.mem_of_getElem? (i := 2) rfl)), List.forall_mem_cons.mpr ⟨(cl_X2_narrowSame_2 _ (List.mem_of_getElem? (i := 3) rfl)), List.forall_mem_cons.mpr ⟨(cl_X2_narrowSame_2 _ (List.mem_of_getElem? (i := 4) rfl)), fun _ h => absurd h List.not_mem_nil⟩⟩⟩⟩⟩⟩⟩⟩⟩⟩⟩⟩⟩⟩⟩⟩⟩⟩⟩⟩⟩⟩⟩⟩) w) ((List.forall_mem_cons.mpr ⟨(cl_X2_narrowSame_2 _ (List.mem_of_getElem? (i := 5) rfl)), List.forall_mem_cons.mpr ⟨(cl_X2_narrowSame_2 _ (List.mem_of_getElem? (i := 6) rfl)), List.forall_mem_cons.mpr ⟨(cl_X2_narrowSame_2 _ (List.mem_of_getElem? (i := 7) rfl)), fun _ h => absurd h List.not_mem_nil⟩⟩⟩) w)) w) ((cl_X2_narrowSame_4) w)) w) ((cl_X2_narrowSame_5) w)) w) ((cl_X2_narrowSame_6) w)) w) ((cl_X2_narrowSame_7) w)⟩) (by decide +kernel)
set_option maxRecDepth 20000 in
theorem gX2_narrowSame_X0_areSame : GoodIn wsX2_narrowSame (wsV RX2 78 RX0 yX0_areSame wsX0_areSame) := goodIn_app (goodIn_sub (List.forall_mem_cons.mpr ⟨(cl_X2_narrowSame_1 _ (List.mem_of_getElem? (i := 1) rfl)), List.forall_mem_cons.mpr ⟨(cl_X2_narrowSame_1 _ (List.mem_of_getElem? (i := 2) rfl)), List.forall_mem_cons.mpr ⟨(cl_X2_narrowSame_1 _ (List.mem_of_getElem? (i := 3) rfl)), List.forall_mem_cons.mpr ⟨(cl_X2_narrowSame_1 _ (List.mem_of_getElem? (i := 4) rfl)), fun _ h => absurd h List.not_mem_nil⟩⟩⟩⟩) (by decide +kernel)) ggX2_narrowSame_X0_areSame
noncomputable def dz_p13_35 : List (Nat × Instr × Nat) := [(0, (.aload_n 0, 1)), (1, (.getfield 25, 3)), (4, (.iload_n 1, 1)), (5, (.iload_n 2, 1)), (6, (.iload_n 3, 1)), (7, (.invokevirtual 78, 3)), (10, (.ireturn, 1))]
theorem dy_p13_35 : dz_ok cX2_narrowSame dz_p13_35 = true := by decide +kernel
theorem dX2_narrowSame_0 : decode cX2_narrowSame 0 = .ok (.aload_n 0, 1) := dz_at (i := 0) dy_p13_35 rfl
theorem dX2_narrowSame_1 : decode cX2_narrowSame 1 = .ok (.getfield 25, 3) := dz_at (i := 1) dy_p13_35 rfl
theorem dX2_narrowSame_4 : decode cX2_narrowSame 4 = .ok (.iload_n 1, 1) := dz_at (i := 2) dy_p13_35 rfl
theorem dX2_narrowSame_5 : decode cX2_narrowSame 5 = .ok (.iload_n 2, 1) := dz_at (i := 3) dy_p13_35 rfl
theorem dX2_narrowSame_6 : decode cX2_narrowSame 6 = .ok (.iload_n 3, 1) := dz_at (i := 4) dy_p13_35 rfl
theorem dX2_narrowSame_7 : decode cX2_narrowSame 7 = .ok (.invokevirtual 78, 3) := dz_at (i := 5) dy_p13_35 rfl
theorem dX2_narrowSame_10 : decode cX2_narrowSame 10 = .ok (.ireturn, 1) := dz_at (i := 6) dy_p13_35 rfl
noncomputable def o_X2_narrowSame (f2 : Nat → Int64) (p0 : Int32) (p1 : Int32) (p2 : Int32) : Int32 × Bool :=
  if (o_X0_areSame false f2 p0 p1 p2).1 = 0 then (0, (o_X0_areSame false f2 p0 p1 p2).2)
  else ((o_X0_areSame false f2 p0 p1 p2).1, false)
set_option maxHeartbeats 4000000 in
set_option maxRecDepth 100000 in
theorem k_X2_narrowSame (l : Launch) (hfl : l.flags = flags0) (dC : Nat → ClassId) (dI : Nat → Nat → Nat) (cy : ClassId) (h0 : Nat) (h1 : Nat) (hw1 : Nat) (hc1 : Nat) (hb1 : Nat) (h2 : Nat) (hw2 : Nat) (hc2 : Nat) (hb2 : Nat) (a1 : Int32) (r1 : Int32) (f1 : Nat → Int64) (g1 : Nat → Int64) (a2 : Int32) (r2 : Int32) (f2 : Nat → Int64) (g2 : Nat → Int64) (kn : Int32) (sz : Nat) (N : Nat) (p0 : Int32) (p1 : Int32) (p2 : Int32) : vx_Met l yX2_narrowSame wsX2_narrowSame ({ frames := 9, cells := 3, slots := 18, locals := 167 }) (va_Pc [.ref h0, .int p0, .int p1, .int p2] (xM (dC, dI) xCl [(h0, eE h1 h2 kn), (h1, eR hw1 hc1 hb1 a1 r1), (hw1, eW true), (hc1, eA cy f1), (hb1, eA cy g1), (h2, eR hw2 hc2 hb2 a2 r2), (hw2, eW false), (hc2, eA cy f2), (hb2, eA cy g2)] [(cy, .long)] sz N)) (va_Qi (fun (r : Int32) (_ : Unit) => (o_X2_narrowSame f2 p0 p1 p2).1 = 0 ∧ r = b2i ((o_X2_narrowSame f2 p0 p1 p2).2)) (fun _ _ => True) (aN sz)) (vx_X (fun _ : Unit => ¬ (o_X2_narrowSame f2 p0 p1 p2).1 = 0) (fun E _ _ => E = xE (o_X2_narrowSame f2 p0 p1 p2).1) (aN sz)) 3 18 (aN sz) := by
  refine vx_ofW (cc := cX2_narrowSame) (maxL := 4) (ret := (some .boolean)) (by decide +kernel) rfl ?_
  intro p e s m args below meth c s₁ B hml hno hv
  obtain ⟨rfl, hsz, hP, hK, hD0, hN, hG⟩ := hv
  have hx := B.exec
  have hb := B.bytes
  have hr := B.returns
  have hts := atoms_spec (ws := wsX2_narrowSame) B.pre
  have hown : s.vm.findClass RX2 = some m.cls := findClass_of_methodNamed B.named
  have hlocks := B.notSynchronized
  subst hsz
  have hA : ∀ q : Nat, s.heap.size ≤ q → aN s.heap.size q := fun _ h => h
  have hD := hD0
  have hAN : ∀ q, aN s.heap.size q → N ≤ q := fun q h => Nat.le_trans hN h
  have hS : va_S (aN s.heap.size) s.heap s.heap [] := va_S.rf
  have hP : va_P (dC, dI) xCl [(h0, eE h1 h2 kn), (h1, eR hw1 hc1 hb1 a1 r1), (hw1, eW true), (hc1, eA cy f1), (hb1, eA cy g1), (h2, eR hw2 hc2 hb2 a2 r2), (hw2, eW false), (hc2, eA cy f2), (hb2, eA cy g2)] s.heap := hP
  have hl := lv_entry ([.ref h0, .int p0, .int p1, .int p2]) (n := 4) (Nat.le_of_ble_eq_true rfl)
  rw [lg_entry_eq]
  generalize (lg_sl ([.ref h0, .int p0, .int p1, .int p2]) ++ List.replicate (4 - (lg_sl ([.ref h0, .int p0, .int p1, .int p2])).length) Slot.unset).toArray = ls at hl ⊢
  have hl : lv_has ls 4 [(0, .ref h0), (1, .int p0), (2, .int p1), (3, .int p2)] := hl
  refine lv_aload_n hx hb dX2_narrowSame_0 rfl (lv_at hl 0 rfl) ?_
  refine va_get (D := (dC, dI)) (ci := 4) (v := .ref h2) (C := RX2) (T := TX2) (N := 3) hx hb hts (by decide +kernel) hown hK hP 0 rfl rfl 1 (by decide +kernel) (hts (.fieldLink RX2 25 "Edgefloats" "narrow" "LEdgefloats$Row;") (by decide +kernel)) (fun _ h9 => h9) rfl dX2_narrowSame_1 ?_
  refine lv_iload_n hx hb dX2_narrowSame_4 rfl (lv_at hl 1 rfl) ?_
  refine lv_iload_n hx hb dX2_narrowSame_5 rfl (lv_at hl 2 rfl) ?_
  refine lv_iload_n hx hb dX2_narrowSame_6 rfl (lv_at hl 3 rfl) ?_
  have hPc := hP.sub (ws' := [(h2, eR hw2 hc2 hb2 a2 r2), (hw2, eW false), (hc2, eA cy f2), (hb2, eA cy g2)]) [5, 6, 7, 8] rfl
  have hDc := hD.sub (ws' := [(h2, eR hw2 hc2 hb2 a2 r2), (hw2, eW false), (hc2, eA cy f2), (hb2, eA cy g2)]) [5, 6, 7, 8] (by decide +kernel) rfl
  have hKc := hK.sub (tys' := [(cy, .long)]) [0] rfl
  refine vx_calli (vx_runV (As := [.int p0, .int p1, .int p2]) (rest := []) ⟨hx, hb, hml, hown, hts⟩ (k_X0_areSame l hfl dC dI cy h2 hw2 hc2 hb2 false a2 r2 f2 g2 s.heap.size N p0 p1 p2) (cwV 3 hts gX2_narrowSame_X0_areSame rfl rfl rfl (by decide +kernel) ⟨Nat.le_of_ble_eq_true rfl, Nat.le_of_ble_eq_true rfl⟩) (xM.preV hKc hPc hDc (fun _ h => h) (Nat.le_trans hN hS.1) (hG.kept hS hAN) (ci := 2) (q0 := 0) rfl rfl) rfl rfl hl.1 rfl (lv_room (Nat.le_of_ble_eq_true rfl)) dX2_narrowSame_7 ⟨Nat.le_of_ble_eq_true rfl, Nat.le_of_ble_eq_true rfl⟩) hS xA_old (fun q h => hA q (Nat.le_trans hS.1 h)) xA_old (fun E ce q9 u9 t H locs ht hvm hpx hbx hz hk hS hce hcv hcl => ?_) (fun r_1 u t H locs ht hvm hw hB hz hk hS => ?_)
  · have c_2 : ¬ (o_X0_areSame false f2 p0 p1 p2).1 = 0 := hpx
    have hbe := hbx
    have hP := xP_keep hP hk
    have he : o_X2_narrowSame f2 p0 p1 p2 = ((o_X0_areSame false f2 p0 p1 p2).1, false) := by (rw [o_X2_narrowSame, if_neg c_2]) <;> rfl
    exact vx_out (fun x hx => (hno x hx).elim) hlocks hce hcv hcl (fun t ht hvm => ⟨(), by rw [he]; exact c_2, by rw [he]; exact hbe, hS.F ht⟩) hS.2.2 (by omega) (by omega)
  · skip
    obtain ⟨c_3, hw⟩ := hw
    have c_3 : (o_X0_areSame false f2 p0 p1 p2).1 = 0 := c_3
    replace hw : r_1 = b2i ((o_X0_areSame false f2 p0 p1 p2).2) := hw
    subst r_1
    have hP := xP_keep hP hk
    have he : o_X2_narrowSame f2 p0 p1 p2 = (0, (o_X0_areSame false f2 p0 p1 p2).2) := by (rw [o_X2_narrowSame, if_pos c_3]) <;> rfl
    refine W.widen (k := 3) (n := 18) (by omega) (by omega) ?_
    refine vx_ret ?_
    exact W.zret (v := (b2i ((o_X0_areSame false f2 p0 p1 p2).2))) (ty := .boolean) hx hb hr (b2i_nar _) (fun t ht hW => ⟨⟨_, (), rfl, ⟨(by (rw [he]) <;> rfl), (by (rw [he]) <;> rfl)⟩, trivial⟩, hS.F ht⟩) hS.2.2 dX2_narrowSame_10
theorem cl_X2_narrowOther_1 : ∀ w ∈ [.fieldLink RX2 25 "Edgefloats" "narrow" "LEdgefloats$Row;", .methodLink RX2 82 yX0_isEqualToOther, .instanceMethod yX0_isEqualToOther, .selects RX0 yX0_isEqualToOther yX0_isEqualToOther, .initialized RX0, .code yX0_isEqualToOther cX0_isEqualToOther 3 (some .boolean), .static yX2_checkCell, .initialized RX2, .code yX2_checkCell cX2_checkCell 1 none, .classLink RX2 148 "java/lang/IndexOutOfBoundsException", .initialized "java/lang/IndexOutOfBoundsException", .static yX2_checkChoice, .code yX2_checkChoice cX2_checkChoice 2 none, .classLink RX2 155 "java/lang/IllegalArgumentException", .initialized "java/lang/IllegalArgumentException"], w ∈ wsX2_narrowOther := fun _ h => (List.mem_cons_of_mem _ (List.mem_append_left _ (List.mem_append_left _ (List.mem_append_left _ h))))
theorem cl_X2_narrowOther_2 : ∀ w ∈ wsX20, w ∈ wsX2_narrowOther := fun _ h => (List.mem_cons_of_mem _ (List.mem_append_left _ (List.mem_append_left _ (List.mem_append_right _ h))))
theorem cl_X2_narrowOther_3 : ∀ w ∈ (vx_atS RX2 152 "java/lang/IndexOutOfBoundsException" ["java/lang/RuntimeException", "java/lang/Exception"]).filter goodWord, w ∈ wsX2_narrowOther := fun _ h => (List.mem_cons_of_mem _ (List.mem_append_left _ (List.mem_append_right _ h)))
theorem cl_X2_narrowOther_4 : ∀ w ∈ (vx_atS RX2 159 "java/lang/IllegalArgumentException" ["java/lang/RuntimeException", "java/lang/Exception"]).filter goodWord, w ∈ wsX2_narrowOther := fun _ h => (List.mem_cons_of_mem _ (List.mem_append_right _ h))
set_option maxRecDepth 20000 in
theorem ggX2_narrowOther_X0_isEqualToOther : GoodIn wsX2_narrowOther wsX0_isEqualToOther := goodIn_sub (List.forall_mem_cons.mpr ⟨(cl_X2_narrowOther_1 _ (List.mem_of_getElem? (i := 5) rfl)), fun w h => (List.mem_append.mp h).elim ((fun w h => (List.mem_append.mp h).elim ((List.forall_mem_cons.mpr ⟨(cl_X2_narrowOther_1 _ (List.mem_of_getElem? (i := 6) rfl)), List.forall_mem_cons.mpr ⟨(cl_X2_narrowOther_1 _ (List.mem_of_getElem? (i := 7) rfl)), List.forall_mem_cons.mpr ⟨(cl_X2_narrowOther_1 _ (List.mem_of_getElem? (i := 8) rfl)), List.forall_mem_cons.mpr ⟨(cl_X2_narrowOther_1 _ (List.mem_of_getElem? (i := 9) rfl)), List.forall_mem_cons.mpr ⟨(cl_X2_narrowOther_1 _ (List.mem_of_getElem? (i := 10) rfl)), List.forall_mem_cons.mpr ⟨(cl_X2_narrowOther_1 _ (List.mem_of_getElem? (i := 11) rfl)), List.forall_mem_cons.mpr ⟨(cl_X2_narrowOther_1 _ (List.mem_of_getElem? (i := 12) rfl)), List.forall_mem_cons.mpr ⟨(cl_X2_narrowOther_1 _ (List.mem_of_getElem? (i := 13) rfl)), List.forall_mem_cons.mpr ⟨(cl_X2_narrowOther_1 _ (List.mem_of_getElem? (i := 14) rfl)), fun _ h => absurd h List.not_mem_nil⟩⟩⟩⟩⟩⟩⟩⟩⟩) w) ((cl_X2_narrowOther_3) w)) w) ((cl_X2_narrowOther_4) w)⟩) (by decide +kernel)
set_option maxRecDepth 20000 in
theorem gX2_narrowOther_X0_isEqualToOther : GoodIn wsX2_narrowOther (wsV RX2 82 RX0 yX0_isEqualToOther wsX0_isEqualToOther) := goodIn_app (goodIn_sub (List.forall_mem_cons.mpr ⟨(cl_X2_narrowOther_1 _ (List.mem_of_getElem? (i := 1) rfl)), List.forall_mem_cons.mpr ⟨(cl_X2_narrowOther_1 _ (List.mem_of_getElem? (i := 2) rfl)), List.forall_mem_cons.mpr ⟨(cl_X2_narrowOther_1 _ (List.mem_of_getElem? (i := 3) rfl)), List.forall_mem_cons.mpr ⟨(cl_X2_narrowOther_1 _ (List.mem_of_getElem? (i := 4) rfl)), fun _ h => absurd h List.not_mem_nil⟩⟩⟩⟩) (by decide +kernel)) ggX2_narrowOther_X0_isEqualToOther
noncomputable def dz_p13_36 : List (Nat × Instr × Nat) := [(0, (.aload_n 0, 1)), (1, (.getfield 25, 3)), (4, (.iload_n 1, 1)), (5, (.iload_n 2, 1)), (6, (.invokevirtual 82, 3)), (9, (.ireturn, 1))]
theorem dy_p13_36 : dz_ok cX2_narrowOther dz_p13_36 = true := by decide +kernel
theorem dX2_narrowOther_0 : decode cX2_narrowOther 0 = .ok (.aload_n 0, 1) := dz_at (i := 0) dy_p13_36 rfl
theorem dX2_narrowOther_1 : decode cX2_narrowOther 1 = .ok (.getfield 25, 3) := dz_at (i := 1) dy_p13_36 rfl
theorem dX2_narrowOther_4 : decode cX2_narrowOther 4 = .ok (.iload_n 1, 1) := dz_at (i := 2) dy_p13_36 rfl
theorem dX2_narrowOther_5 : decode cX2_narrowOther 5 = .ok (.iload_n 2, 1) := dz_at (i := 3) dy_p13_36 rfl
theorem dX2_narrowOther_6 : decode cX2_narrowOther 6 = .ok (.invokevirtual 82, 3) := dz_at (i := 4) dy_p13_36 rfl
theorem dX2_narrowOther_9 : decode cX2_narrowOther 9 = .ok (.ireturn, 1) := dz_at (i := 5) dy_p13_36 rfl
noncomputable def o_X2_narrowOther  (p0 : Int32) (p1 : Int32) : Int32 × Bool :=
  if (o_X0_isEqualToOther p0 p1).1 = 0 then (0, (o_X0_isEqualToOther p0 p1).2)
  else ((o_X0_isEqualToOther p0 p1).1, false)
set_option maxHeartbeats 4000000 in
set_option maxRecDepth 100000 in
theorem k_X2_narrowOther (l : Launch) (hfl : l.flags = flags0) (dC : Nat → ClassId) (dI : Nat → Nat → Nat) (cy : ClassId) (h0 : Nat) (h1 : Nat) (hw1 : Nat) (hc1 : Nat) (hb1 : Nat) (h2 : Nat) (hw2 : Nat) (hc2 : Nat) (hb2 : Nat) (a1 : Int32) (r1 : Int32) (f1 : Nat → Int64) (g1 : Nat → Int64) (a2 : Int32) (r2 : Int32) (f2 : Nat → Int64) (g2 : Nat → Int64) (kn : Int32) (sz : Nat) (N : Nat) (p0 : Int32) (p1 : Int32) : vx_Met l yX2_narrowOther wsX2_narrowOther ({ frames := 8, cells := 2, slots := 12, locals := 143 }) (va_Pc [.ref h0, .int p0, .int p1] (xM (dC, dI) xCl [(h0, eE h1 h2 kn), (h1, eR hw1 hc1 hb1 a1 r1), (hw1, eW true), (hc1, eA cy f1), (hb1, eA cy g1), (h2, eR hw2 hc2 hb2 a2 r2), (hw2, eW false), (hc2, eA cy f2), (hb2, eA cy g2)] [(cy, .long)] sz N)) (va_Qi (fun (r : Int32) (_ : Unit) => (o_X2_narrowOther p0 p1).1 = 0 ∧ r = b2i ((o_X2_narrowOther p0 p1).2)) (fun _ _ => True) (aN sz)) (vx_X (fun _ : Unit => ¬ (o_X2_narrowOther p0 p1).1 = 0) (fun E _ _ => E = xE (o_X2_narrowOther p0 p1).1) (aN sz)) 2 12 (aN sz) := by
  refine vx_ofW (cc := cX2_narrowOther) (maxL := 3) (ret := (some .boolean)) (by decide +kernel) rfl ?_
  intro p e s m args below meth c s₁ B hml hno hv
  obtain ⟨rfl, hsz, hP, hK, hD0, hN, hG⟩ := hv
  have hx := B.exec
  have hb := B.bytes
  have hr := B.returns
  have hts := atoms_spec (ws := wsX2_narrowOther) B.pre
  have hown : s.vm.findClass RX2 = some m.cls := findClass_of_methodNamed B.named
  have hlocks := B.notSynchronized
  subst hsz
  have hA : ∀ q : Nat, s.heap.size ≤ q → aN s.heap.size q := fun _ h => h
  have hD := hD0
  have hAN : ∀ q, aN s.heap.size q → N ≤ q := fun q h => Nat.le_trans hN h
  have hS : va_S (aN s.heap.size) s.heap s.heap [] := va_S.rf
  have hP : va_P (dC, dI) xCl [(h0, eE h1 h2 kn), (h1, eR hw1 hc1 hb1 a1 r1), (hw1, eW true), (hc1, eA cy f1), (hb1, eA cy g1), (h2, eR hw2 hc2 hb2 a2 r2), (hw2, eW false), (hc2, eA cy f2), (hb2, eA cy g2)] s.heap := hP
  have hl := lv_entry ([.ref h0, .int p0, .int p1]) (n := 3) (Nat.le_of_ble_eq_true rfl)
  rw [lg_entry_eq]
  generalize (lg_sl ([.ref h0, .int p0, .int p1]) ++ List.replicate (3 - (lg_sl ([.ref h0, .int p0, .int p1])).length) Slot.unset).toArray = ls at hl ⊢
  have hl : lv_has ls 3 [(0, .ref h0), (1, .int p0), (2, .int p1)] := hl
  refine lv_aload_n hx hb dX2_narrowOther_0 rfl (lv_at hl 0 rfl) ?_
  refine va_get (D := (dC, dI)) (ci := 4) (v := .ref h2) (C := RX2) (T := TX2) (N := 3) hx hb hts (by decide +kernel) hown hK hP 0 rfl rfl 1 (by decide +kernel) (hts (.fieldLink RX2 25 "Edgefloats" "narrow" "LEdgefloats$Row;") (by decide +kernel)) (fun _ h9 => h9) rfl dX2_narrowOther_1 ?_
  refine lv_iload_n hx hb dX2_narrowOther_4 rfl (lv_at hl 1 rfl) ?_
  refine lv_iload_n hx hb dX2_narrowOther_5 rfl (lv_at hl 2 rfl) ?_
  have hPc := hP.sub (ws' := [(h2, eR hw2 hc2 hb2 a2 r2), (hw2, eW false), (hc2, eA cy f2), (hb2, eA cy g2)]) [5, 6, 7, 8] rfl
  have hDc := hD.sub (ws' := [(h2, eR hw2 hc2 hb2 a2 r2), (hw2, eW false), (hc2, eA cy f2), (hb2, eA cy g2)]) [5, 6, 7, 8] (by decide +kernel) rfl
  have hKc := hK.sub (tys' := [(cy, .long)]) [0] rfl
  refine vx_calli (vx_runV (As := [.int p0, .int p1]) (rest := []) ⟨hx, hb, hml, hown, hts⟩ (k_X0_isEqualToOther l hfl dC dI cy h2 hw2 hc2 hb2 false a2 r2 f2 g2 s.heap.size N p0 p1) (cwV 2 hts gX2_narrowOther_X0_isEqualToOther rfl rfl rfl (by decide +kernel) ⟨Nat.le_of_ble_eq_true rfl, Nat.le_of_ble_eq_true rfl⟩) (xM.preV hKc hPc hDc (fun _ h => h) (Nat.le_trans hN hS.1) (hG.kept hS hAN) (ci := 2) (q0 := 0) rfl rfl) rfl rfl hl.1 rfl (lv_room (Nat.le_of_ble_eq_true rfl)) dX2_narrowOther_6 ⟨Nat.le_of_ble_eq_true rfl, Nat.le_of_ble_eq_true rfl⟩) hS xA_old (fun q h => hA q (Nat.le_trans hS.1 h)) xA_old (fun E ce q9 u9 t H locs ht hvm hpx hbx hz hk hS hce hcv hcl => ?_) (fun r_1 u t H locs ht hvm hw hB hz hk hS => ?_)
  · have c_2 : ¬ (o_X0_isEqualToOther p0 p1).1 = 0 := hpx
    have hbe := hbx
    have hP := xP_keep hP hk
    have he : o_X2_narrowOther p0 p1 = ((o_X0_isEqualToOther p0 p1).1, false) := by (rw [o_X2_narrowOther, if_neg c_2]) <;> rfl
    exact vx_out (fun x hx => (hno x hx).elim) hlocks hce hcv hcl (fun t ht hvm => ⟨(), by rw [he]; exact c_2, by rw [he]; exact hbe, hS.F ht⟩) hS.2.2 (by omega) (by omega)
  · skip
    obtain ⟨c_3, hw⟩ := hw
    have c_3 : (o_X0_isEqualToOther p0 p1).1 = 0 := c_3
    replace hw : r_1 = b2i ((o_X0_isEqualToOther p0 p1).2) := hw
    subst r_1
    have hP := xP_keep hP hk
    have he : o_X2_narrowOther p0 p1 = (0, (o_X0_isEqualToOther p0 p1).2) := by (rw [o_X2_narrowOther, if_pos c_3]) <;> rfl
    refine W.widen (k := 2) (n := 12) (by omega) (by omega) ?_
    refine vx_ret ?_
    exact W.zret (v := (b2i ((o_X0_isEqualToOther p0 p1).2))) (ty := .boolean) hx hb hr (b2i_nar _) (fun t ht hW => ⟨⟨_, (), rfl, ⟨(by (rw [he]) <;> rfl), (by (rw [he]) <;> rfl)⟩, trivial⟩, hS.F ht⟩) hS.2.2 dX2_narrowOther_9
theorem cl_X2_narrowLike_1 : ∀ w ∈ [.fieldLink RX2 25 "Edgefloats" "narrow" "LEdgefloats$Row;", .methodLink RX2 86 yX0_areLike, .instanceMethod yX0_areLike, .selects RX0 yX0_areLike yX0_areLike, .initialized RX0, .code yX0_areLike cX0_areLike 3 (some .boolean), .fieldLink RX0 9 "Edgefloats$Row" "width" "LEdgefloats$Width;", .fieldLink RX0 15 "Edgefloats$Row" "cells" "[J", .static yX2_checkCell, .initialized RX2, .code yX2_checkCell cX2_checkCell 1 none, .classLink RX2 148 "java/lang/IndexOutOfBoundsException", .initialized "java/lang/IndexOutOfBoundsException", .methodLink RX0 103 yX1_areLike, .instanceMethod yX1_areLike, .selects RX1 yX1_areLike yX1_areLike, .initialized RX1, .code yX1_areLike cX1_areLike 5 (some .boolean), .methodLink RX1 45 yX1_rank, .instanceMethod yX1_rank, .selects RX1 yX1_rank yX1_rank, .code yX1_rank cX1_rank 5 (some .long), .fieldLink RX1 28 "Edgefloats$Width" "sizeOnes" "J", .fieldLink RX1 25 "Edgefloats$Width" "signOne" "J"], w ∈ wsX2_narrowLike := fun _ h => (List.mem_cons_of_mem _ (List.mem_append_left _ (List.mem_append_left _ (List.mem_append_left _ (List.mem_append_left _ h)))))
theorem cl_X2_narrowLike_2 : ∀ w ∈ wsX20, w ∈ wsX2_narrowLike := fun _ h => (List.mem_cons_of_mem _ (List.mem_append_left _ (List.mem_append_left _ (List.mem_append_left _ (List.mem_append_right _ h)))))
theorem cl_X2_narrowLike_3 : ∀ w ∈ wsX00, w ∈ wsX2_narrowLike := fun _ h => (List.mem_cons_of_mem _ (List.mem_append_left _ (List.mem_append_left _ (List.mem_append_right _ h))))
theorem cl_X2_narrowLike_4 : ∀ w ∈ wsX10, w ∈ wsX2_narrowLike := fun _ h => (List.mem_cons_of_mem _ (List.mem_append_left _ (List.mem_append_right _ h)))
theorem cl_X2_narrowLike_5 : ∀ w ∈ (vx_atS RX2 152 "java/lang/IndexOutOfBoundsException" ["java/lang/RuntimeException", "java/lang/Exception"]).filter goodWord, w ∈ wsX2_narrowLike := fun _ h => (List.mem_cons_of_mem _ (List.mem_append_right _ h))
set_option maxRecDepth 20000 in
theorem ggX2_narrowLike_X0_areLike : GoodIn wsX2_narrowLike wsX0_areLike := goodIn_sub (List.forall_mem_cons.mpr ⟨(cl_X2_narrowLike_1 _ (List.mem_of_getElem? (i := 5) rfl)), fun w h => (List.mem_append.mp h).elim ((fun w h => (List.mem_append.mp h).elim ((fun w h => (List.mem_append.mp h).elim ((List.forall_mem_cons.mpr ⟨(cl_X2_narrowLike_1 _ (List.mem_of_getElem? (i := 6) rfl)), List.forall_mem_cons.mpr ⟨(cl_X2_narrowLike_1 _ (List.mem_of_getElem? (i := 7) rfl)), List.forall_mem_cons.mpr ⟨(cl_X2_narrowLike_1 _ (List.mem_of_getElem? (i := 8) rfl)), List.forall_mem_cons.mpr ⟨(cl_X2_narrowLike_1 _ (List.mem_of_getElem? (i := 9) rfl)), List.forall_mem_cons.mpr ⟨(cl_X2_narrowLike_1 _ (List.mem_of_getElem? (i := 10) rfl)), List.forall_mem_cons.mpr ⟨(cl_X2_narrowLike_1 _ (List.mem_of_getElem? (i := 11) rfl)), List.forall_mem_cons.mpr ⟨(cl_X2_narrowLike_1 _ (List.mem_of_getElem? (i := 12) rfl)), List.forall_mem_cons.mpr ⟨(cl_X2_narrowLike_1 _ (List.mem_of_getElem? (i := 13) rfl)), List.forall_mem_cons.mpr ⟨(cl_X2_narrowLike_1 _ (List.mem_of_getElem? (i := 14) rfl)), List.forall_mem_cons.mpr ⟨(cl_X2_narrowLike_1 _ (List.mem_of_getElem? (i := 15) rfl)), List.forall_mem_cons.mpr ⟨(cl_X2_narrowLike_1 _ (List.mem_of_getElem? (i := 16) rfl)), List.forall_mem_cons.mpr ⟨(cl_X2_narrowLike_1 _ (List.mem_of_getElem? (i := 17) rfl)), List.forall_mem_cons.mpr ⟨(cl_X2_narrowLike_1 _ (List.mem_of_getElem? (i := 18) rfl)), List.forall_mem_cons.mpr ⟨(cl_X2_narrowLike_1 _ (List.mem_of_getElem? (i := 19) rfl)), List.forall_mem_cons.mpr ⟨(cl_X2_narrowLike_1 _ (List.mem_of_getElem? (i := 20) rfl)), List.forall_mem_cons.mpr ⟨(cl_X2_narrowLike_1 _ (List.mem_of_getElem? (i := 21) rfl)), List.forall_mem_cons.mpr ⟨(cl_X2_narrowLike_1 _ (List.mem_of_getElem? (i := 22) rfl)), List.forall_mem_cons.mpr ⟨(cl_X2_narrowLike_1 _ (List.mem_of_getElem? (i := 23) rfl)), fun _ h => absurd h List.not_mem_nil⟩⟩⟩⟩⟩⟩⟩⟩⟩⟩⟩⟩⟩⟩⟩⟩⟩⟩) w) ((cl_X2_narrowLike_3) w)) w) ((cl_X2_narrowLike_4) w)) w) ((cl_X2_narrowLike_5) w)⟩) (by decide +kernel)
set_option maxRecDepth 20000 in
theorem gX2_narrowLike_X0_areLike : GoodIn wsX2_narrowLike (wsV RX2 86 RX0 yX0_areLike wsX0_areLike) := goodIn_app (goodIn_sub (List.forall_mem_cons.mpr ⟨(cl_X2_narrowLike_1 _ (List.mem_of_getElem? (i := 1) rfl)), List.forall_mem_cons.mpr ⟨(cl_X2_narrowLike_1 _ (List.mem_of_getElem? (i := 2) rfl)), List.forall_mem_cons.mpr ⟨(cl_X2_narrowLike_1 _ (List.mem_of_getElem? (i := 3) rfl)), List.forall_mem_cons.mpr ⟨(cl_X2_narrowLike_1 _ (List.mem_of_getElem? (i := 4) rfl)), fun _ h => absurd h List.not_mem_nil⟩⟩⟩⟩) (by decide +kernel)) ggX2_narrowLike_X0_areLike
noncomputable def dz_p13_37 : List (Nat × Instr × Nat) := [(0, (.aload_n 0, 1)), (1, (.getfield 25, 3)), (4, (.iload_n 1, 1)), (5, (.iload_n 2, 1)), (6, (.invokevirtual 86, 3)), (9, (.ireturn, 1))]
theorem dy_p13_37 : dz_ok cX2_narrowLike dz_p13_37 = true := by decide +kernel
theorem dX2_narrowLike_0 : decode cX2_narrowLike 0 = .ok (.aload_n 0, 1) := dz_at (i := 0) dy_p13_37 rfl
theorem dX2_narrowLike_1 : decode cX2_narrowLike 1 = .ok (.getfield 25, 3) := dz_at (i := 1) dy_p13_37 rfl
theorem dX2_narrowLike_4 : decode cX2_narrowLike 4 = .ok (.iload_n 1, 1) := dz_at (i := 2) dy_p13_37 rfl
theorem dX2_narrowLike_5 : decode cX2_narrowLike 5 = .ok (.iload_n 2, 1) := dz_at (i := 3) dy_p13_37 rfl
theorem dX2_narrowLike_6 : decode cX2_narrowLike 6 = .ok (.invokevirtual 86, 3) := dz_at (i := 4) dy_p13_37 rfl
theorem dX2_narrowLike_9 : decode cX2_narrowLike 9 = .ok (.ireturn, 1) := dz_at (i := 5) dy_p13_37 rfl
noncomputable def o_X2_narrowLike (f2 : Nat → Int64) (p0 : Int32) (p1 : Int32) : Int32 × Bool :=
  if (o_X0_areLike false f2 p0 p1).1 = 0 then (0, (o_X0_areLike false f2 p0 p1).2)
  else ((o_X0_areLike false f2 p0 p1).1, false)
set_option maxHeartbeats 4000000 in
set_option maxRecDepth 100000 in
theorem k_X2_narrowLike (l : Launch) (hfl : l.flags = flags0) (dC : Nat → ClassId) (dI : Nat → Nat → Nat) (cy : ClassId) (h0 : Nat) (h1 : Nat) (hw1 : Nat) (hc1 : Nat) (hb1 : Nat) (h2 : Nat) (hw2 : Nat) (hc2 : Nat) (hb2 : Nat) (a1 : Int32) (r1 : Int32) (f1 : Nat → Int64) (g1 : Nat → Int64) (a2 : Int32) (r2 : Int32) (f2 : Nat → Int64) (g2 : Nat → Int64) (kn : Int32) (sz : Nat) (N : Nat) (p0 : Int32) (p1 : Int32) : vx_Met l yX2_narrowLike wsX2_narrowLike ({ frames := 8, cells := 2, slots := 12, locals := 142 }) (va_Pc [.ref h0, .int p0, .int p1] (xM (dC, dI) xCl [(h0, eE h1 h2 kn), (h1, eR hw1 hc1 hb1 a1 r1), (hw1, eW true), (hc1, eA cy f1), (hb1, eA cy g1), (h2, eR hw2 hc2 hb2 a2 r2), (hw2, eW false), (hc2, eA cy f2), (hb2, eA cy g2)] [(cy, .long)] sz N)) (va_Qi (fun (r : Int32) (_ : Unit) => (o_X2_narrowLike f2 p0 p1).1 = 0 ∧ r = b2i ((o_X2_narrowLike f2 p0 p1).2)) (fun _ _ => True) (aN sz)) (vx_X (fun _ : Unit => ¬ (o_X2_narrowLike f2 p0 p1).1 = 0) (fun E _ _ => E = xE (o_X2_narrowLike f2 p0 p1).1) (aN sz)) 2 12 (aN sz) := by
  refine vx_ofW (cc := cX2_narrowLike) (maxL := 3) (ret := (some .boolean)) (by decide +kernel) rfl ?_
  intro p e s m args below meth c s₁ B hml hno hv
  obtain ⟨rfl, hsz, hP, hK, hD0, hN, hG⟩ := hv
  have hx := B.exec
  have hb := B.bytes
  have hr := B.returns
  have hts := atoms_spec (ws := wsX2_narrowLike) B.pre
  have hown : s.vm.findClass RX2 = some m.cls := findClass_of_methodNamed B.named
  have hlocks := B.notSynchronized
  subst hsz
  have hA : ∀ q : Nat, s.heap.size ≤ q → aN s.heap.size q := fun _ h => h
  have hD := hD0
  have hAN : ∀ q, aN s.heap.size q → N ≤ q := fun q h => Nat.le_trans hN h
  have hS : va_S (aN s.heap.size) s.heap s.heap [] := va_S.rf
  have hP : va_P (dC, dI) xCl [(h0, eE h1 h2 kn), (h1, eR hw1 hc1 hb1 a1 r1), (hw1, eW true), (hc1, eA cy f1), (hb1, eA cy g1), (h2, eR hw2 hc2 hb2 a2 r2), (hw2, eW false), (hc2, eA cy f2), (hb2, eA cy g2)] s.heap := hP
  have hl := lv_entry ([.ref h0, .int p0, .int p1]) (n := 3) (Nat.le_of_ble_eq_true rfl)
  rw [lg_entry_eq]
  generalize (lg_sl ([.ref h0, .int p0, .int p1]) ++ List.replicate (3 - (lg_sl ([.ref h0, .int p0, .int p1])).length) Slot.unset).toArray = ls at hl ⊢
  have hl : lv_has ls 3 [(0, .ref h0), (1, .int p0), (2, .int p1)] := hl
  refine lv_aload_n hx hb dX2_narrowLike_0 rfl (lv_at hl 0 rfl) ?_
  refine va_get (D := (dC, dI)) (ci := 4) (v := .ref h2) (C := RX2) (T := TX2) (N := 3) hx hb hts (by decide +kernel) hown hK hP 0 rfl rfl 1 (by decide +kernel) (hts (.fieldLink RX2 25 "Edgefloats" "narrow" "LEdgefloats$Row;") (by decide +kernel)) (fun _ h9 => h9) rfl dX2_narrowLike_1 ?_
  refine lv_iload_n hx hb dX2_narrowLike_4 rfl (lv_at hl 1 rfl) ?_
  refine lv_iload_n hx hb dX2_narrowLike_5 rfl (lv_at hl 2 rfl) ?_
  have hPc := hP.sub (ws' := [(h2, eR hw2 hc2 hb2 a2 r2), (hw2, eW false), (hc2, eA cy f2), (hb2, eA cy g2)]) [5, 6, 7, 8] rfl
  have hDc := hD.sub (ws' := [(h2, eR hw2 hc2 hb2 a2 r2), (hw2, eW false), (hc2, eA cy f2), (hb2, eA cy g2)]) [5, 6, 7, 8] (by decide +kernel) rfl
  have hKc := hK.sub (tys' := [(cy, .long)]) [0] rfl
  refine vx_calli (vx_runV (As := [.int p0, .int p1]) (rest := []) ⟨hx, hb, hml, hown, hts⟩ (k_X0_areLike l hfl dC dI cy h2 hw2 hc2 hb2 false a2 r2 f2 g2 s.heap.size N p0 p1) (cwV 2 hts gX2_narrowLike_X0_areLike rfl rfl rfl (by decide +kernel) ⟨Nat.le_of_ble_eq_true rfl, Nat.le_of_ble_eq_true rfl⟩) (xM.preV hKc hPc hDc (fun _ h => h) (Nat.le_trans hN hS.1) (hG.kept hS hAN) (ci := 2) (q0 := 0) rfl rfl) rfl rfl hl.1 rfl (lv_room (Nat.le_of_ble_eq_true rfl)) dX2_narrowLike_6 ⟨Nat.le_of_ble_eq_true rfl, Nat.le_of_ble_eq_true rfl⟩) hS xA_old (fun q h => hA q (Nat.le_trans hS.1 h)) xA_old (fun E ce q9 u9 t H locs ht hvm hpx hbx hz hk hS hce hcv hcl => ?_) (fun r_1 u t H locs ht hvm hw hB hz hk hS => ?_)
  · have c_2 : ¬ (o_X0_areLike false f2 p0 p1).1 = 0 := hpx
    have hbe := hbx
    have hP := xP_keep hP hk
    have he : o_X2_narrowLike f2 p0 p1 = ((o_X0_areLike false f2 p0 p1).1, false) := by (rw [o_X2_narrowLike, if_neg c_2]) <;> rfl
    exact vx_out (fun x hx => (hno x hx).elim) hlocks hce hcv hcl (fun t ht hvm => ⟨(), by rw [he]; exact c_2, by rw [he]; exact hbe, hS.F ht⟩) hS.2.2 (by omega) (by omega)
  · skip
    obtain ⟨c_3, hw⟩ := hw
    have c_3 : (o_X0_areLike false f2 p0 p1).1 = 0 := c_3
    replace hw : r_1 = b2i ((o_X0_areLike false f2 p0 p1).2) := hw
    subst r_1
    have hP := xP_keep hP hk
    have he : o_X2_narrowLike f2 p0 p1 = (0, (o_X0_areLike false f2 p0 p1).2) := by (rw [o_X2_narrowLike, if_pos c_3]) <;> rfl
    refine W.widen (k := 2) (n := 12) (by omega) (by omega) ?_
    refine vx_ret ?_
    exact W.zret (v := (b2i ((o_X0_areLike false f2 p0 p1).2))) (ty := .boolean) hx hb hr (b2i_nar _) (fun t ht hW => ⟨⟨_, (), rfl, ⟨(by (rw [he]) <;> rfl), (by (rw [he]) <;> rfl)⟩, trivial⟩, hS.F ht⟩) hS.2.2 dX2_narrowLike_9
theorem cl_X2_narrowBelow_1 : ∀ w ∈ wsX2_narrowBelow_r1, w ∈ wsX2_narrowBelow := fun _ h => (List.mem_cons_of_mem _ (List.mem_append_left _ (List.mem_append_left _ (List.mem_append_left _ (List.mem_append_left _ (List.mem_append_left _ h))))))
theorem cl_X2_narrowBelow_2 : ∀ w ∈ wsX2_narrowBelow_r2, w ∈ wsX2_narrowBelow := fun _ h => (List.mem_cons_of_mem _ (List.mem_append_left _ (List.mem_append_left _ (List.mem_append_left _ (List.mem_append_left _ (List.mem_append_right _ h))))))
theorem cl_X2_narrowBelow_3 : ∀ w ∈ wsX20, w ∈ wsX2_narrowBelow := fun _ h => (List.mem_cons_of_mem _ (List.mem_append_left _ (List.mem_append_left _ (List.mem_append_left _ (List.mem_append_right _ h)))))
theorem cl_X2_narrowBelow_4 : ∀ w ∈ wsX00, w ∈ wsX2_narrowBelow := fun _ h => (List.mem_cons_of_mem _ (List.mem_append_left _ (List.mem_append_left _ (List.mem_append_right _ h))))
theorem cl_X2_narrowBelow_5 : ∀ w ∈ wsX10, w ∈ wsX2_narrowBelow := fun _ h => (List.mem_cons_of_mem _ (List.mem_append_left _ (List.mem_append_right _ h)))
theorem cl_X2_narrowBelow_6 : ∀ w ∈ (vx_atS RX2 152 "java/lang/IndexOutOfBoundsException" ["java/lang/RuntimeException", "java/lang/Exception"]).filter goodWord, w ∈ wsX2_narrowBelow := fun _ h => (List.mem_cons_of_mem _ (List.mem_append_right _ h))
set_option maxRecDepth 20000 in
theorem ggX2_narrowBelow_X0_isBelow : GoodIn wsX2_narrowBelow wsX0_isBelow := goodIn_sub (List.forall_mem_cons.mpr ⟨(cl_X2_narrowBelow_1 _ (List.mem_of_getElem? (i := 5) rfl)), fun w h => (List.mem_append.mp h).elim ((fun w h => (List.mem_append.mp h).elim ((fun w h => (List.mem_append.mp h).elim ((List.forall_mem_cons.mpr ⟨(cl_X2_narrowBelow_1 _ (List.mem_of_getElem? (i := 6) rfl)), List.forall_mem_cons.mpr ⟨(cl_X2_narrowBelow_1 _ (List.mem_of_getElem? (i := 7) rfl)), List.forall_mem_cons.mpr ⟨(cl_X2_narrowBelow_1 _ (List.mem_of_getElem? (i := 8) rfl)), List.forall_mem_cons.mpr ⟨(cl_X2_narrowBelow_1 _ (List.mem_of_getElem? (i := 9) rfl)), List.forall_mem_cons.mpr ⟨(cl_X2_narrowBelow_1 _ (List.mem_of_getElem? (i := 10) rfl)), List.forall_mem_cons.mpr ⟨(cl_X2_narrowBelow_1 _ (List.mem_of_getElem? (i := 11) rfl)), List.forall_mem_cons.mpr ⟨(cl_X2_narrowBelow_1 _ (List.mem_of_getElem? (i := 12) rfl)), List.forall_mem_cons.mpr ⟨(cl_X2_narrowBelow_1 _ (List.mem_of_getElem? (i := 13) rfl)), List.forall_mem_cons.mpr ⟨(cl_X2_narrowBelow_1 _ (List.mem_of_getElem? (i := 14) rfl)), List.forall_mem_cons.mpr ⟨(cl_X2_narrowBelow_1 _ (List.mem_of_getElem? (i := 15) rfl)), List.forall_mem_cons.mpr ⟨(cl_X2_narrowBelow_1 _ (List.mem_of_getElem? (i := 16) rfl)), List.forall_mem_cons.mpr ⟨(cl_X2_narrowBelow_1 _ (List.mem_of_getElem? (i := 17) rfl)), List.forall_mem_cons.mpr ⟨(cl_X2_narrowBelow_1 _ (List.mem_of_getElem? (i := 18) rfl)), List.forall_mem_cons.mpr ⟨(cl_X2_narrowBelow_1 _ (List.mem_of_getElem? (i := 19) rfl)), List.forall_mem_cons.mpr ⟨(cl_X2_narrowBelow_1 _ (List.mem_of_getElem? (i := 20) rfl)), List.forall_mem_cons.mpr ⟨(cl_X2_narrowBelow_1 _ (List.mem_of_getElem? (i := 21) rfl)), List.forall_mem_cons.mpr ⟨(cl_X2_narrowBelow_1 _ (List.mem_of_getElem? (i := 22) rfl)), List.forall_mem_cons.mpr ⟨(cl_X2_narrowBelow_1 _ (List.mem_of_getElem? (i := 23) rfl)), List.forall_mem_cons.mpr ⟨(cl_X2_narrowBelow_2 _ (List.mem_of_getElem? (i := 0) rfl)), List.forall_mem_cons.mpr ⟨(cl_X2_narrowBelow_2 _ (List.mem_of_getElem? (i := 1) rfl)), List.forall_mem_cons.mpr ⟨(cl_X2_narrowBelow_2 _ (List.mem_of_getElem? (i := 2) rfl)), List.forall_mem_cons.mpr ⟨(cl_X2_narrowBelow_2 _ (List.mem_of_getElem? (i := 3) rfl)), fun _ h => absurd h List.not_mem_nil⟩⟩⟩⟩⟩⟩⟩⟩⟩⟩⟩⟩⟩⟩⟩⟩⟩⟩⟩⟩⟩⟩) w) ((cl_X2_narrowBelow_4) w)) w) ((cl_X2_narrowBelow_5) w)) w) ((cl_X2_narrowBelow_6) w)⟩) (by decide +kernel)
set_option maxRecDepth 20000 in
theorem gX2_narrowBelow_X0_isBelow : GoodIn wsX2_narrowBelow (wsV RX2 89 RX0 yX0_isBelow wsX0_isBelow) := goodIn_app (goodIn_sub (List.forall_mem_cons.mpr ⟨(cl_X2_narrowBelow_1 _ (List.mem_of_getElem? (i := 1) rfl)), List.forall_mem_cons.mpr ⟨(cl_X2_narrowBelow_1 _ (List.mem_of_getElem? (i := 2) rfl)), List.forall_mem_cons.mpr ⟨(cl_X2_narrowBelow_1 _ (List.mem_of_getElem? (i := 3) rfl)), List.forall_mem_cons.mpr ⟨(cl_X2_narrowBelow_1 _ (List.mem_of_getElem? (i := 4) rfl)), fun _ h => absurd h List.not_mem_nil⟩⟩⟩⟩) (by decide +kernel)) ggX2_narrowBelow_X0_isBelow
noncomputable def dz_p13_38 : List (Nat × Instr × Nat) := [(0, (.aload_n 0, 1)), (1, (.getfield 25, 3)), (4, (.iload_n 1, 1)), (5, (.iload_n 2, 1)), (6, (.iload_n 3, 1)), (7, (.invokevirtual 89, 3)), (10, (.ireturn, 1))]
theorem dy_p13_38 : dz_ok cX2_narrowBelow dz_p13_38 = true := by decide +kernel
theorem dX2_narrowBelow_0 : decode cX2_narrowBelow 0 = .ok (.aload_n 0, 1) := dz_at (i := 0) dy_p13_38 rfl
theorem dX2_narrowBelow_1 : decode cX2_narrowBelow 1 = .ok (.getfield 25, 3) := dz_at (i := 1) dy_p13_38 rfl
theorem dX2_narrowBelow_4 : decode cX2_narrowBelow 4 = .ok (.iload_n 1, 1) := dz_at (i := 2) dy_p13_38 rfl
theorem dX2_narrowBelow_5 : decode cX2_narrowBelow 5 = .ok (.iload_n 2, 1) := dz_at (i := 3) dy_p13_38 rfl
theorem dX2_narrowBelow_6 : decode cX2_narrowBelow 6 = .ok (.iload_n 3, 1) := dz_at (i := 4) dy_p13_38 rfl
theorem dX2_narrowBelow_7 : decode cX2_narrowBelow 7 = .ok (.invokevirtual 89, 3) := dz_at (i := 5) dy_p13_38 rfl
theorem dX2_narrowBelow_10 : decode cX2_narrowBelow 10 = .ok (.ireturn, 1) := dz_at (i := 6) dy_p13_38 rfl
noncomputable def o_X2_narrowBelow (f2 : Nat → Int64) (p0 : Int32) (p1 : Int32) (p2 : Bool) : Int32 × Bool :=
  if (o_X0_isBelow false f2 p0 p1 p2).1 = 0 then (0, (o_X0_isBelow false f2 p0 p1 p2).2)
  else ((o_X0_isBelow false f2 p0 p1 p2).1, false)
set_option maxHeartbeats 4000000 in
set_option maxRecDepth 100000 in
theorem k_X2_narrowBelow (l : Launch) (hfl : l.flags = flags0) (dC : Nat → ClassId) (dI : Nat → Nat → Nat) (cy : ClassId) (h0 : Nat) (h1 : Nat) (hw1 : Nat) (hc1 : Nat) (hb1 : Nat) (h2 : Nat) (hw2 : Nat) (hc2 : Nat) (hb2 : Nat) (a1 : Int32) (r1 : Int32) (f1 : Nat → Int64) (g1 : Nat → Int64) (a2 : Int32) (r2 : Int32) (f2 : Nat → Int64) (g2 : Nat → Int64) (kn : Int32) (sz : Nat) (N : Nat) (p0 : Int32) (p1 : Int32) (p2 : Bool) : vx_Met l yX2_narrowBelow wsX2_narrowBelow ({ frames := 8, cells := 2, slots := 12, locals := 143 }) (va_Pc [.ref h0, .int p0, .int p1, .int (b2i p2)] (xM (dC, dI) xCl [(h0, eE h1 h2 kn), (h1, eR hw1 hc1 hb1 a1 r1), (hw1, eW true), (hc1, eA cy f1), (hb1, eA cy g1), (h2, eR hw2 hc2 hb2 a2 r2), (hw2, eW false), (hc2, eA cy f2), (hb2, eA cy g2)] [(cy, .long)] sz N)) (va_Qi (fun (r : Int32) (_ : Unit) => (o_X2_narrowBelow f2 p0 p1 p2).1 = 0 ∧ r = b2i ((o_X2_narrowBelow f2 p0 p1 p2).2)) (fun _ _ => True) (aN sz)) (vx_X (fun _ : Unit => ¬ (o_X2_narrowBelow f2 p0 p1 p2).1 = 0) (fun E _ _ => E = xE (o_X2_narrowBelow f2 p0 p1 p2).1) (aN sz)) 2 12 (aN sz) := by
  refine vx_ofW (cc := cX2_narrowBelow) (maxL := 4) (ret := (some .boolean)) (by decide +kernel) rfl ?_
  intro p e s m args below meth c s₁ B hml hno hv
  obtain ⟨rfl, hsz, hP, hK, hD0, hN, hG⟩ := hv
  have hx := B.exec
  have hb := B.bytes
  have hr := B.returns
  have hts := atoms_spec (ws := wsX2_narrowBelow) B.pre
  have hown : s.vm.findClass RX2 = some m.cls := findClass_of_methodNamed B.named
  have hlocks := B.notSynchronized
  subst hsz
  have hA : ∀ q : Nat, s.heap.size ≤ q → aN s.heap.size q := fun _ h => h
  have hD := hD0
  have hAN : ∀ q, aN s.heap.size q → N ≤ q := fun q h => Nat.le_trans hN h
  have hS : va_S (aN s.heap.size) s.heap s.heap [] := va_S.rf
  have hP : va_P (dC, dI) xCl [(h0, eE h1 h2 kn), (h1, eR hw1 hc1 hb1 a1 r1), (hw1, eW true), (hc1, eA cy f1), (hb1, eA cy g1), (h2, eR hw2 hc2 hb2 a2 r2), (hw2, eW false), (hc2, eA cy f2), (hb2, eA cy g2)] s.heap := hP
  have hl := lv_entry ([.ref h0, .int p0, .int p1, .int (b2i p2)]) (n := 4) (Nat.le_of_ble_eq_true rfl)
  rw [lg_entry_eq]
  generalize (lg_sl ([.ref h0, .int p0, .int p1, .int (b2i p2)]) ++ List.replicate (4 - (lg_sl ([.ref h0, .int p0, .int p1, .int (b2i p2)])).length) Slot.unset).toArray = ls at hl ⊢
  have hl : lv_has ls 4 [(0, .ref h0), (1, .int p0), (2, .int p1), (3, .int (b2i p2))] := hl
  refine lv_aload_n hx hb dX2_narrowBelow_0 rfl (lv_at hl 0 rfl) ?_
  refine va_get (D := (dC, dI)) (ci := 4) (v := .ref h2) (C := RX2) (T := TX2) (N := 3) hx hb hts (by decide +kernel) hown hK hP 0 rfl rfl 1 (by decide +kernel) (hts (.fieldLink RX2 25 "Edgefloats" "narrow" "LEdgefloats$Row;") (by decide +kernel)) (fun _ h9 => h9) rfl dX2_narrowBelow_1 ?_
  refine lv_iload_n hx hb dX2_narrowBelow_4 rfl (lv_at hl 1 rfl) ?_
  refine lv_iload_n hx hb dX2_narrowBelow_5 rfl (lv_at hl 2 rfl) ?_
  refine lv_iload_n hx hb dX2_narrowBelow_6 rfl (lv_at hl 3 rfl) ?_
  have hPc := hP.sub (ws' := [(h2, eR hw2 hc2 hb2 a2 r2), (hw2, eW false), (hc2, eA cy f2), (hb2, eA cy g2)]) [5, 6, 7, 8] rfl
  have hDc := hD.sub (ws' := [(h2, eR hw2 hc2 hb2 a2 r2), (hw2, eW false), (hc2, eA cy f2), (hb2, eA cy g2)]) [5, 6, 7, 8] (by decide +kernel) rfl
  have hKc := hK.sub (tys' := [(cy, .long)]) [0] rfl
  refine vx_calli (vx_runV (As := [.int p0, .int p1, .int (b2i p2)]) (rest := []) ⟨hx, hb, hml, hown, hts⟩ (k_X0_isBelow l hfl dC dI cy h2 hw2 hc2 hb2 false a2 r2 f2 g2 s.heap.size N p0 p1 p2) (cwV 3 hts gX2_narrowBelow_X0_isBelow rfl rfl rfl (by decide +kernel) ⟨Nat.le_of_ble_eq_true rfl, Nat.le_of_ble_eq_true rfl⟩) (xM.preV hKc hPc hDc (fun _ h => h) (Nat.le_trans hN hS.1) (hG.kept hS hAN) (ci := 2) (q0 := 0) rfl rfl) rfl rfl hl.1 rfl (lv_room (Nat.le_of_ble_eq_true rfl)) dX2_narrowBelow_7 ⟨Nat.le_of_ble_eq_true rfl, Nat.le_of_ble_eq_true rfl⟩) hS xA_old (fun q h => hA q (Nat.le_trans hS.1 h)) xA_old (fun E ce q9 u9 t H locs ht hvm hpx hbx hz hk hS hce hcv hcl => ?_) (fun r_1 u t H locs ht hvm hw hB hz hk hS => ?_)
  · have c_2 : ¬ (o_X0_isBelow false f2 p0 p1 p2).1 = 0 := hpx
    have hbe := hbx
    have hP := xP_keep hP hk
    have he : o_X2_narrowBelow f2 p0 p1 p2 = ((o_X0_isBelow false f2 p0 p1 p2).1, false) := by (rw [o_X2_narrowBelow, if_neg c_2]) <;> rfl
    exact vx_out (fun x hx => (hno x hx).elim) hlocks hce hcv hcl (fun t ht hvm => ⟨(), by rw [he]; exact c_2, by rw [he]; exact hbe, hS.F ht⟩) hS.2.2 (by omega) (by omega)
  · skip
    obtain ⟨c_3, hw⟩ := hw
    have c_3 : (o_X0_isBelow false f2 p0 p1 p2).1 = 0 := c_3
    replace hw : r_1 = b2i ((o_X0_isBelow false f2 p0 p1 p2).2) := hw
    subst r_1
    have hP := xP_keep hP hk
    have he : o_X2_narrowBelow f2 p0 p1 p2 = (0, (o_X0_isBelow false f2 p0 p1 p2).2) := by (rw [o_X2_narrowBelow, if_pos c_3]) <;> rfl
    refine W.widen (k := 2) (n := 12) (by omega) (by omega) ?_
    refine vx_ret ?_
    exact W.zret (v := (b2i ((o_X0_isBelow false f2 p0 p1 p2).2))) (ty := .boolean) hx hb hr (b2i_nar _) (fun t ht hW => ⟨⟨_, (), rfl, ⟨(by (rw [he]) <;> rfl), (by (rw [he]) <;> rfl)⟩, trivial⟩, hS.F ht⟩) hS.2.2 dX2_narrowBelow_10
theorem cl_X2_narrowHash_1 : ∀ w ∈ [.fieldLink RX2 25 "Edgefloats" "narrow" "LEdgefloats$Row;", .methodLink RX2 93 yX0_hash, .instanceMethod yX0_hash, .selects RX0 yX0_hash yX0_hash, .initialized RX0, .code yX0_hash cX0_hash 3 (some .int), .fieldLink RX0 9 "Edgefloats$Row" "width" "LEdgefloats$Width;", .fieldLink RX0 15 "Edgefloats$Row" "cells" "[J", .static yX2_checkCell, .initialized RX2, .code yX2_checkCell cX2_checkCell 1 none, .classLink RX2 148 "java/lang/IndexOutOfBoundsException", .initialized "java/lang/IndexOutOfBoundsException", .static yX2_checkChoice, .code yX2_checkChoice cX2_checkChoice 2 none, .classLink RX2 155 "java/lang/IllegalArgumentException", .initialized "java/lang/IllegalArgumentException", .methodLink RX0 109 yX1_hash, .instanceMethod yX1_hash, .selects RX1 yX1_hash yX1_hash, .initialized RX1, .code yX1_hash cX1_hash 3 (some .int)], w ∈ wsX2_narrowHash := fun _ h => (List.mem_cons_of_mem _ (List.mem_append_left _ (List.mem_append_left _ (List.mem_append_left _ (List.mem_append_left _ h)))))
theorem cl_X2_narrowHash_2 : ∀ w ∈ wsX20, w ∈ wsX2_narrowHash := fun _ h => (List.mem_cons_of_mem _ (List.mem_append_left _ (List.mem_append_left _ (List.mem_append_left _ (List.mem_append_right _ h)))))
theorem cl_X2_narrowHash_3 : ∀ w ∈ wsX00, w ∈ wsX2_narrowHash := fun _ h => (List.mem_cons_of_mem _ (List.mem_append_left _ (List.mem_append_left _ (List.mem_append_right _ h))))
theorem cl_X2_narrowHash_4 : ∀ w ∈ (vx_atS RX2 152 "java/lang/IndexOutOfBoundsException" ["java/lang/RuntimeException", "java/lang/Exception"]).filter goodWord, w ∈ wsX2_narrowHash := fun _ h => (List.mem_cons_of_mem _ (List.mem_append_left _ (List.mem_append_right _ h)))
theorem cl_X2_narrowHash_5 : ∀ w ∈ (vx_atS RX2 159 "java/lang/IllegalArgumentException" ["java/lang/RuntimeException", "java/lang/Exception"]).filter goodWord, w ∈ wsX2_narrowHash := fun _ h => (List.mem_cons_of_mem _ (List.mem_append_right _ h))
set_option maxRecDepth 20000 in
theorem ggX2_narrowHash_X0_hash : GoodIn wsX2_narrowHash wsX0_hash := goodIn_sub (List.forall_mem_cons.mpr ⟨(cl_X2_narrowHash_1 _ (List.mem_of_getElem? (i := 5) rfl)), fun w h => (List.mem_append.mp h).elim ((fun w h => (List.mem_append.mp h).elim ((fun w h => (List.mem_append.mp h).elim ((List.forall_mem_cons.mpr ⟨(cl_X2_narrowHash_1 _ (List.mem_of_getElem? (i := 6) rfl)), List.forall_mem_cons.mpr ⟨(cl_X2_narrowHash_1 _ (List.mem_of_getElem? (i := 7) rfl)), List.forall_mem_cons.mpr ⟨(cl_X2_narrowHash_1 _ (List.mem_of_getElem? (i := 8) rfl)), List.forall_mem_cons.mpr ⟨(cl_X2_narrowHash_1 _ (List.mem_of_getElem? (i := 9) rfl)), List.forall_mem_cons.mpr ⟨(cl_X2_narrowHash_1 _ (List.mem_of_getElem? (i := 10) rfl)), List.forall_mem_cons.mpr ⟨(cl_X2_narrowHash_1 _ (List.mem_of_getElem? (i := 11) rfl)), List.forall_mem_cons.mpr ⟨(cl_X2_narrowHash_1 _ (List.mem_of_getElem? (i := 12) rfl)), List.forall_mem_cons.mpr ⟨(cl_X2_narrowHash_1 _ (List.mem_of_getElem? (i := 13) rfl)), List.forall_mem_cons.mpr ⟨(cl_X2_narrowHash_1 _ (List.mem_of_getElem? (i := 14) rfl)), List.forall_mem_cons.mpr ⟨(cl_X2_narrowHash_1 _ (List.mem_of_getElem? (i := 15) rfl)), List.forall_mem_cons.mpr ⟨(cl_X2_narrowHash_1 _ (List.mem_of_getElem? (i := 16) rfl)), List.forall_mem_cons.mpr ⟨(cl_X2_narrowHash_1 _ (List.mem_of_getElem? (i := 17) rfl)), List.forall_mem_cons.mpr ⟨(cl_X2_narrowHash_1 _ (List.mem_of_getElem? (i := 18) rfl)), List.forall_mem_cons.mpr ⟨(cl_X2_narrowHash_1 _ (List.mem_of_getElem? (i := 19) rfl)), List.forall_mem_cons.mpr ⟨(cl_X2_narrowHash_1 _ (List.mem_of_getElem? (i := 20) rfl)), List.forall_mem_cons.mpr ⟨(cl_X2_narrowHash_1 _ (List.mem_of_getElem? (i := 21) rfl)), fun _ h => absurd h List.not_mem_nil⟩⟩⟩⟩⟩⟩⟩⟩⟩⟩⟩⟩⟩⟩⟩⟩) w) ((cl_X2_narrowHash_3) w)) w) ((cl_X2_narrowHash_4) w)) w) ((cl_X2_narrowHash_5) w)⟩) (by decide +kernel)
set_option maxRecDepth 20000 in
theorem gX2_narrowHash_X0_hash : GoodIn wsX2_narrowHash (wsV RX2 93 RX0 yX0_hash wsX0_hash) := goodIn_app (goodIn_sub (List.forall_mem_cons.mpr ⟨(cl_X2_narrowHash_1 _ (List.mem_of_getElem? (i := 1) rfl)), List.forall_mem_cons.mpr ⟨(cl_X2_narrowHash_1 _ (List.mem_of_getElem? (i := 2) rfl)), List.forall_mem_cons.mpr ⟨(cl_X2_narrowHash_1 _ (List.mem_of_getElem? (i := 3) rfl)), List.forall_mem_cons.mpr ⟨(cl_X2_narrowHash_1 _ (List.mem_of_getElem? (i := 4) rfl)), fun _ h => absurd h List.not_mem_nil⟩⟩⟩⟩) (by decide +kernel)) ggX2_narrowHash_X0_hash
noncomputable def dz_p13_39 : List (Nat × Instr × Nat) := [(0, (.aload_n 0, 1)), (1, (.getfield 25, 3)), (4, (.iload_n 1, 1)), (5, (.iload_n 2, 1)), (6, (.invokevirtual 93, 3)), (9, (.ireturn, 1))]
theorem dy_p13_39 : dz_ok cX2_narrowHash dz_p13_39 = true := by decide +kernel
theorem dX2_narrowHash_0 : decode cX2_narrowHash 0 = .ok (.aload_n 0, 1) := dz_at (i := 0) dy_p13_39 rfl
theorem dX2_narrowHash_1 : decode cX2_narrowHash 1 = .ok (.getfield 25, 3) := dz_at (i := 1) dy_p13_39 rfl
theorem dX2_narrowHash_4 : decode cX2_narrowHash 4 = .ok (.iload_n 1, 1) := dz_at (i := 2) dy_p13_39 rfl
theorem dX2_narrowHash_5 : decode cX2_narrowHash 5 = .ok (.iload_n 2, 1) := dz_at (i := 3) dy_p13_39 rfl
theorem dX2_narrowHash_6 : decode cX2_narrowHash 6 = .ok (.invokevirtual 93, 3) := dz_at (i := 4) dy_p13_39 rfl
theorem dX2_narrowHash_9 : decode cX2_narrowHash 9 = .ok (.ireturn, 1) := dz_at (i := 5) dy_p13_39 rfl
noncomputable def o_X2_narrowHash (f2 : Nat → Int64) (p0 : Int32) (p1 : Int32) : Int32 × Int32 :=
  if (o_X0_hash f2 p0 p1).1 = 0 then (0, (o_X0_hash f2 p0 p1).2)
  else ((o_X0_hash f2 p0 p1).1, 0)
set_option maxHeartbeats 4000000 in
set_option maxRecDepth 100000 in
theorem k_X2_narrowHash (l : Launch) (hfl : l.flags = flags0) (dC : Nat → ClassId) (dI : Nat → Nat → Nat) (cy : ClassId) (h0 : Nat) (h1 : Nat) (hw1 : Nat) (hc1 : Nat) (hb1 : Nat) (h2 : Nat) (hw2 : Nat) (hc2 : Nat) (hb2 : Nat) (a1 : Int32) (r1 : Int32) (f1 : Nat → Int64) (g1 : Nat → Int64) (a2 : Int32) (r2 : Int32) (f2 : Nat → Int64) (g2 : Nat → Int64) (kn : Int32) (sz : Nat) (N : Nat) (p0 : Int32) (p1 : Int32) : vx_Met l yX2_narrowHash wsX2_narrowHash ({ frames := 8, cells := 2, slots := 12, locals := 143 }) (va_Pc [.ref h0, .int p0, .int p1] (xM (dC, dI) xCl [(h0, eE h1 h2 kn), (h1, eR hw1 hc1 hb1 a1 r1), (hw1, eW true), (hc1, eA cy f1), (hb1, eA cy g1), (h2, eR hw2 hc2 hb2 a2 r2), (hw2, eW false), (hc2, eA cy f2), (hb2, eA cy g2)] [(cy, .long)] sz N)) (va_Qi (fun (r : Int32) (_ : Unit) => (o_X2_narrowHash f2 p0 p1).1 = 0 ∧ r = (o_X2_narrowHash f2 p0 p1).2) (fun _ _ => True) (aN sz)) (vx_X (fun _ : Unit => ¬ (o_X2_narrowHash f2 p0 p1).1 = 0) (fun E _ _ => E = xE (o_X2_narrowHash f2 p0 p1).1) (aN sz)) 2 12 (aN sz) := by
  refine vx_ofW (cc := cX2_narrowHash) (maxL := 3) (ret := (some .int)) (by decide +kernel) rfl ?_
  intro p e s m args below meth c s₁ B hml hno hv
  obtain ⟨rfl, hsz, hP, hK, hD0, hN, hG⟩ := hv
  have hx := B.exec
  have hb := B.bytes
  have hr := B.returns
  have hts := atoms_spec (ws := wsX2_narrowHash) B.pre
  have hown : s.vm.findClass RX2 = some m.cls := findClass_of_methodNamed B.named
  have hlocks := B.notSynchronized
  subst hsz
  have hA : ∀ q : Nat, s.heap.size ≤ q → aN s.heap.size q := fun _ h => h
  have hD := hD0
  have hAN : ∀ q, aN s.heap.size q → N ≤ q := fun q h => Nat.le_trans hN h
  have hS : va_S (aN s.heap.size) s.heap s.heap [] := va_S.rf
  have hP : va_P (dC, dI) xCl [(h0, eE h1 h2 kn), (h1, eR hw1 hc1 hb1 a1 r1), (hw1, eW true), (hc1, eA cy f1), (hb1, eA cy g1), (h2, eR hw2 hc2 hb2 a2 r2), (hw2, eW false), (hc2, eA cy f2), (hb2, eA cy g2)] s.heap := hP
  have hl := lv_entry ([.ref h0, .int p0, .int p1]) (n := 3) (Nat.le_of_ble_eq_true rfl)
  rw [lg_entry_eq]
  generalize (lg_sl ([.ref h0, .int p0, .int p1]) ++ List.replicate (3 - (lg_sl ([.ref h0, .int p0, .int p1])).length) Slot.unset).toArray = ls at hl ⊢
  have hl : lv_has ls 3 [(0, .ref h0), (1, .int p0), (2, .int p1)] := hl
  refine lv_aload_n hx hb dX2_narrowHash_0 rfl (lv_at hl 0 rfl) ?_
  refine va_get (D := (dC, dI)) (ci := 4) (v := .ref h2) (C := RX2) (T := TX2) (N := 3) hx hb hts (by decide +kernel) hown hK hP 0 rfl rfl 1 (by decide +kernel) (hts (.fieldLink RX2 25 "Edgefloats" "narrow" "LEdgefloats$Row;") (by decide +kernel)) (fun _ h9 => h9) rfl dX2_narrowHash_1 ?_
  refine lv_iload_n hx hb dX2_narrowHash_4 rfl (lv_at hl 1 rfl) ?_
  refine lv_iload_n hx hb dX2_narrowHash_5 rfl (lv_at hl 2 rfl) ?_
  have hPc := hP.sub (ws' := [(h2, eR hw2 hc2 hb2 a2 r2), (hw2, eW false), (hc2, eA cy f2), (hb2, eA cy g2)]) [5, 6, 7, 8] rfl
  have hDc := hD.sub (ws' := [(h2, eR hw2 hc2 hb2 a2 r2), (hw2, eW false), (hc2, eA cy f2), (hb2, eA cy g2)]) [5, 6, 7, 8] (by decide +kernel) rfl
  have hKc := hK.sub (tys' := [(cy, .long)]) [0] rfl
  refine vx_calli (vx_runV (As := [.int p0, .int p1]) (rest := []) ⟨hx, hb, hml, hown, hts⟩ (k_X0_hash l hfl dC dI cy h2 hw2 hc2 hb2 false a2 r2 f2 g2 s.heap.size N p0 p1) (cwV 2 hts gX2_narrowHash_X0_hash rfl rfl rfl (by decide +kernel) ⟨Nat.le_of_ble_eq_true rfl, Nat.le_of_ble_eq_true rfl⟩) (xM.preV hKc hPc hDc (fun _ h => h) (Nat.le_trans hN hS.1) (hG.kept hS hAN) (ci := 2) (q0 := 0) rfl rfl) rfl rfl hl.1 rfl (lv_room (Nat.le_of_ble_eq_true rfl)) dX2_narrowHash_6 ⟨Nat.le_of_ble_eq_true rfl, Nat.le_of_ble_eq_true rfl⟩) hS xA_old (fun q h => hA q (Nat.le_trans hS.1 h)) xA_old (fun E ce q9 u9 t H locs ht hvm hpx hbx hz hk hS hce hcv hcl => ?_) (fun r_1 u t H locs ht hvm hw hB hz hk hS => ?_)
  · have c_2 : ¬ (o_X0_hash f2 p0 p1).1 = 0 := hpx
    have hbe := hbx
    have hP := xP_keep hP hk
    have he : o_X2_narrowHash f2 p0 p1 = ((o_X0_hash f2 p0 p1).1, 0) := by (rw [o_X2_narrowHash, if_neg c_2]) <;> rfl
    exact vx_out (fun x hx => (hno x hx).elim) hlocks hce hcv hcl (fun t ht hvm => ⟨(), by rw [he]; exact c_2, by rw [he]; exact hbe, hS.F ht⟩) hS.2.2 (by omega) (by omega)
  · skip
    obtain ⟨c_3, hw⟩ := hw
    have c_3 : (o_X0_hash f2 p0 p1).1 = 0 := c_3
    replace hw : r_1 = (o_X0_hash f2 p0 p1).2 := hw
    subst r_1
    have hP := xP_keep hP hk
    have he : o_X2_narrowHash f2 p0 p1 = (0, (o_X0_hash f2 p0 p1).2) := by (rw [o_X2_narrowHash, if_pos c_3]) <;> rfl
    refine W.widen (k := 2) (n := 12) (by omega) (by omega) ?_
    refine vx_ret ?_
    exact W.iret (v := ((o_X0_hash f2 p0 p1).2)) hx hb hr (fun t ht hW => ⟨⟨_, (), rfl, ⟨(by (rw [he]) <;> rfl), (by (rw [he]) <;> rfl)⟩, trivial⟩, hS.F ht⟩) hS.2.2 dX2_narrowHash_9
theorem cl_X2_narrowEndless_1 : ∀ w ∈ wsX2_narrowEndless_r1, w ∈ wsX2_narrowEndless := fun _ h => (List.mem_cons_of_mem _ (List.mem_append_left _ (List.mem_append_left _ (List.mem_append_left _ (List.mem_append_left _ (List.mem_append_left _ (List.mem_append_left _ h)))))))
theorem cl_X2_narrowEndless_2 : ∀ w ∈ wsX2_narrowEndless_r2, w ∈ wsX2_narrowEndless := fun _ h => (List.mem_cons_of_mem _ (List.mem_append_left _ (List.mem_append_left _ (List.mem_append_left _ (List.mem_append_left _ (List.mem_append_left _ (List.mem_append_right _ h)))))))
theorem cl_X2_narrowEndless_3 : ∀ w ∈ wsX20, w ∈ wsX2_narrowEndless := fun _ h => (List.mem_cons_of_mem _ (List.mem_append_left _ (List.mem_append_left _ (List.mem_append_left _ (List.mem_append_left _ (List.mem_append_right _ h))))))
theorem cl_X2_narrowEndless_4 : ∀ w ∈ wsX00, w ∈ wsX2_narrowEndless := fun _ h => (List.mem_cons_of_mem _ (List.mem_append_left _ (List.mem_append_left _ (List.mem_append_left _ (List.mem_append_right _ h)))))
theorem cl_X2_narrowEndless_5 : ∀ w ∈ wsX10, w ∈ wsX2_narrowEndless := fun _ h => (List.mem_cons_of_mem _ (List.mem_append_left _ (List.mem_append_left _ (List.mem_append_right _ h))))
theorem cl_X2_narrowEndless_6 : ∀ w ∈ (vx_atS RX2 152 "java/lang/IndexOutOfBoundsException" ["java/lang/RuntimeException", "java/lang/Exception"]).filter goodWord, w ∈ wsX2_narrowEndless := fun _ h => (List.mem_cons_of_mem _ (List.mem_append_left _ (List.mem_append_right _ h)))
theorem cl_X2_narrowEndless_7 : ∀ w ∈ (vx_atS RX2 159 "java/lang/IllegalArgumentException" ["java/lang/RuntimeException", "java/lang/Exception"]).filter goodWord, w ∈ wsX2_narrowEndless := fun _ h => (List.mem_cons_of_mem _ (List.mem_append_right _ h))
set_option maxRecDepth 20000 in
theorem ggX2_narrowEndless_X0_isEndless : GoodIn wsX2_narrowEndless wsX0_isEndless := goodIn_sub (List.forall_mem_cons.mpr ⟨(cl_X2_narrowEndless_1 _ (List.mem_of_getElem? (i := 5) rfl)), fun w h => (List.mem_append.mp h).elim ((fun w h => (List.mem_append.mp h).elim ((fun w h => (List.mem_append.mp h).elim ((fun w h => (List.mem_append.mp h).elim ((fun w h => (List.mem_append.mp h).elim ((List.forall_mem_cons.mpr ⟨(cl_X2_narrowEndless_1 _ (List.mem_of_getElem? (i := 6) rfl)), List.forall_mem_cons.mpr ⟨(cl_X2_narrowEndless_1 _ (List.mem_of_getElem? (i := 7) rfl)), List.forall_mem_cons.mpr ⟨(cl_X2_narrowEndless_1 _ (List.mem_of_getElem? (i := 8) rfl)), List.forall_mem_cons.mpr ⟨(cl_X2_narrowEndless_1 _ (List.mem_of_getElem? (i := 9) rfl)), List.forall_mem_cons.mpr ⟨(cl_X2_narrowEndless_1 _ (List.mem_of_getElem? (i := 10) rfl)), List.forall_mem_cons.mpr ⟨(cl_X2_narrowEndless_1 _ (List.mem_of_getElem? (i := 11) rfl)), List.forall_mem_cons.mpr ⟨(cl_X2_narrowEndless_1 _ (List.mem_of_getElem? (i := 12) rfl)), List.forall_mem_cons.mpr ⟨(cl_X2_narrowEndless_1 _ (List.mem_of_getElem? (i := 13) rfl)), List.forall_mem_cons.mpr ⟨(cl_X2_narrowEndless_1 _ (List.mem_of_getElem? (i := 14) rfl)), List.forall_mem_cons.mpr ⟨(cl_X2_narrowEndless_1 _ (List.mem_of_getElem? (i := 15) rfl)), List.forall_mem_cons.mpr ⟨(cl_X2_narrowEndless_1 _ (List.mem_of_getElem? (i := 16) rfl)), List.forall_mem_cons.mpr ⟨(cl_X2_narrowEndless_1 _ (List.mem_of_getElem? (i := 17) rfl)), List.forall_mem_cons.mpr ⟨(cl_X2_narrowEndless_1 _ (List.mem_of_getElem? (i := 18) rfl)), List.forall_mem_cons.mpr ⟨(cl_X2_narrowEndless_1 _ (List.mem_of_getElem? (i := 19) rfl)), List.forall_mem_cons.mpr ⟨(cl_X2_narrowEndless_1 _ (List.mem_of_getElem? (i := 20) rfl)), List.forall_mem_cons.mpr ⟨(cl_X2_narrowEndless_1 _ (List.mem_of_getElem? (i := 21) rfl)), List.forall_mem_cons.mpr ⟨(cl_X2_narrowEndless_1 _ (List.mem_of_getElem? (i := 22) rfl)), List.forall_mem_cons.mpr ⟨(cl_X2_narrowEndless_1 _ (List.mem_of_getElem? (i := 23) rfl)), List.forall_mem_cons.mpr ⟨(cl_X2_narrowEndless_2 _ (List.mem_of_getElem? (i := 0) rfl)), List.forall_mem_cons.mpr ⟨(cl_X2_narrowEndless_2 _ (List.mem_of_getElem? (i := 1) rfl)), List.forall_mem_cons.mpr ⟨(cl_X2_narrowEndless_2 _ (List.mem_of_getElem? (i := 2) rfl)), List.forall_mem_cons.mpr ⟨(cl_X2_narrowEndless_2 _ (List.mem_of_getElem? (i := 3) rfl)), List.forall_mem_cons.mpr ⟨(cl_X2_narrowEndless_2 _ (List.mem_of_getElem? (i := 4) rfl)), List.forall_mem_cons.mpr ⟨(cl_X2_narrowEndless_2 _ (List.mem_of_getElem? (i := 5) rfl)), fun _ h => absurd h List.not_mem_nil⟩⟩⟩⟩⟩⟩⟩⟩⟩⟩⟩⟩⟩⟩⟩⟩⟩⟩⟩⟩⟩⟩⟩⟩) w) ((List.forall_mem_cons.mpr ⟨(cl_X2_narrowEndless_2 _ (List.mem_of_getElem? (i := 6) rfl)), List.forall_mem_cons.mpr ⟨(cl_X2_narrowEndless_2 _ (List.mem_of_getElem? (i := 7) rfl)), List.forall_mem_cons.mpr ⟨(cl_X2_narrowEndless_2 _ (List.mem_of_getElem? (i := 8) rfl)), fun _ h => absurd h List.not_mem_nil⟩⟩⟩) w)) w) ((cl_X2_narrowEndless_4) w)) w) ((cl_X2_narrowEndless_5) w)) w) ((cl_X2_narrowEndless_6) w)) w) ((cl_X2_narrowEndless_7) w)⟩) (by decide +kernel)
set_option maxRecDepth 20000 in
theorem gX2_narrowEndless_X0_isEndless : GoodIn wsX2_narrowEndless (wsV RX2 96 RX0 yX0_isEndless wsX0_isEndless) := goodIn_app (goodIn_sub (List.forall_mem_cons.mpr ⟨(cl_X2_narrowEndless_1 _ (List.mem_of_getElem? (i := 1) rfl)), List.forall_mem_cons.mpr ⟨(cl_X2_narrowEndless_1 _ (List.mem_of_getElem? (i := 2) rfl)), List.forall_mem_cons.mpr ⟨(cl_X2_narrowEndless_1 _ (List.mem_of_getElem? (i := 3) rfl)), List.forall_mem_cons.mpr ⟨(cl_X2_narrowEndless_1 _ (List.mem_of_getElem? (i := 4) rfl)), fun _ h => absurd h List.not_mem_nil⟩⟩⟩⟩) (by decide +kernel)) ggX2_narrowEndless_X0_isEndless
noncomputable def dz_p13_40 : List (Nat × Instr × Nat) := [(0, (.aload_n 0, 1)), (1, (.getfield 25, 3)), (4, (.iload_n 1, 1)), (5, (.iload_n 2, 1)), (6, (.invokevirtual 96, 3)), (9, (.ireturn, 1))]
theorem dy_p13_40 : dz_ok cX2_narrowEndless dz_p13_40 = true := by decide +kernel
theorem dX2_narrowEndless_0 : decode cX2_narrowEndless 0 = .ok (.aload_n 0, 1) := dz_at (i := 0) dy_p13_40 rfl
theorem dX2_narrowEndless_1 : decode cX2_narrowEndless 1 = .ok (.getfield 25, 3) := dz_at (i := 1) dy_p13_40 rfl
theorem dX2_narrowEndless_4 : decode cX2_narrowEndless 4 = .ok (.iload_n 1, 1) := dz_at (i := 2) dy_p13_40 rfl
theorem dX2_narrowEndless_5 : decode cX2_narrowEndless 5 = .ok (.iload_n 2, 1) := dz_at (i := 3) dy_p13_40 rfl
theorem dX2_narrowEndless_6 : decode cX2_narrowEndless 6 = .ok (.invokevirtual 96, 3) := dz_at (i := 4) dy_p13_40 rfl
theorem dX2_narrowEndless_9 : decode cX2_narrowEndless 9 = .ok (.ireturn, 1) := dz_at (i := 5) dy_p13_40 rfl
noncomputable def o_X2_narrowEndless (f2 : Nat → Int64) (p0 : Int32) (p1 : Int32) : Int32 × Bool :=
  if (o_X0_isEndless false f2 p0 p1).1 = 0 then (0, (o_X0_isEndless false f2 p0 p1).2)
  else ((o_X0_isEndless false f2 p0 p1).1, false)
set_option maxHeartbeats 4000000 in
set_option maxRecDepth 100000 in
theorem k_X2_narrowEndless (l : Launch) (hfl : l.flags = flags0) (dC : Nat → ClassId) (dI : Nat → Nat → Nat) (cy : ClassId) (h0 : Nat) (h1 : Nat) (hw1 : Nat) (hc1 : Nat) (hb1 : Nat) (h2 : Nat) (hw2 : Nat) (hc2 : Nat) (hb2 : Nat) (a1 : Int32) (r1 : Int32) (f1 : Nat → Int64) (g1 : Nat → Int64) (a2 : Int32) (r2 : Int32) (f2 : Nat → Int64) (g2 : Nat → Int64) (kn : Int32) (sz : Nat) (N : Nat) (p0 : Int32) (p1 : Int32) : vx_Met l yX2_narrowEndless wsX2_narrowEndless ({ frames := 8, cells := 2, slots := 12, locals := 143 }) (va_Pc [.ref h0, .int p0, .int p1] (xM (dC, dI) xCl [(h0, eE h1 h2 kn), (h1, eR hw1 hc1 hb1 a1 r1), (hw1, eW true), (hc1, eA cy f1), (hb1, eA cy g1), (h2, eR hw2 hc2 hb2 a2 r2), (hw2, eW false), (hc2, eA cy f2), (hb2, eA cy g2)] [(cy, .long)] sz N)) (va_Qi (fun (r : Int32) (_ : Unit) => (o_X2_narrowEndless f2 p0 p1).1 = 0 ∧ r = b2i ((o_X2_narrowEndless f2 p0 p1).2)) (fun _ _ => True) (aN sz)) (vx_X (fun _ : Unit => ¬ (o_X2_narrowEndless f2 p0 p1).1 = 0) (fun E _ _ => E = xE (o_X2_narrowEndless f2 p0 p1).1) (aN sz)) 2 12 (aN sz) := by
  refine vx_ofW (cc := cX2_narrowEndless) (maxL := 3) (ret := (some .boolean)) (by decide +kernel) rfl ?_
  intro p e s m args below meth c s₁ B hml hno hv
  obtain ⟨rfl, hsz, hP, hK, hD0, hN, hG⟩ := hv
  have hx := B.exec
  have hb := B.bytes
  have hr := B.returns
  have hts := atoms_spec (ws := wsX2_narrowEndless) B.pre
  have hown : s.vm.findClass RX2 = some m.cls := findClass_of_methodNamed B.named
  have hlocks := B.notSynchronized
  subst hsz
  have hA : ∀ q : Nat, s.heap.size ≤ q → aN s.heap.size q := fun _ h => h
  have hD := hD0
  have hAN : ∀ q, aN s.heap.size q → N ≤ q := fun q h => Nat.le_trans hN h
  have hS : va_S (aN s.heap.size) s.heap s.heap [] := va_S.rf
  have hP : va_P (dC, dI) xCl [(h0, eE h1 h2 kn), (h1, eR hw1 hc1 hb1 a1 r1), (hw1, eW true), (hc1, eA cy f1), (hb1, eA cy g1), (h2, eR hw2 hc2 hb2 a2 r2), (hw2, eW false), (hc2, eA cy f2), (hb2, eA cy g2)] s.heap := hP
  have hl := lv_entry ([.ref h0, .int p0, .int p1]) (n := 3) (Nat.le_of_ble_eq_true rfl)
  rw [lg_entry_eq]
  generalize (lg_sl ([.ref h0, .int p0, .int p1]) ++ List.replicate (3 - (lg_sl ([.ref h0, .int p0, .int p1])).length) Slot.unset).toArray = ls at hl ⊢
  have hl : lv_has ls 3 [(0, .ref h0), (1, .int p0), (2, .int p1)] := hl
  refine lv_aload_n hx hb dX2_narrowEndless_0 rfl (lv_at hl 0 rfl) ?_
  refine va_get (D := (dC, dI)) (ci := 4) (v := .ref h2) (C := RX2) (T := TX2) (N := 3) hx hb hts (by decide +kernel) hown hK hP 0 rfl rfl 1 (by decide +kernel) (hts (.fieldLink RX2 25 "Edgefloats" "narrow" "LEdgefloats$Row;") (by decide +kernel)) (fun _ h9 => h9) rfl dX2_narrowEndless_1 ?_
  refine lv_iload_n hx hb dX2_narrowEndless_4 rfl (lv_at hl 1 rfl) ?_
  refine lv_iload_n hx hb dX2_narrowEndless_5 rfl (lv_at hl 2 rfl) ?_
  have hPc := hP.sub (ws' := [(h2, eR hw2 hc2 hb2 a2 r2), (hw2, eW false), (hc2, eA cy f2), (hb2, eA cy g2)]) [5, 6, 7, 8] rfl
  have hDc := hD.sub (ws' := [(h2, eR hw2 hc2 hb2 a2 r2), (hw2, eW false), (hc2, eA cy f2), (hb2, eA cy g2)]) [5, 6, 7, 8] (by decide +kernel) rfl
  have hKc := hK.sub (tys' := [(cy, .long)]) [0] rfl
  refine vx_calli (vx_runV (As := [.int p0, .int p1]) (rest := []) ⟨hx, hb, hml, hown, hts⟩ (k_X0_isEndless l hfl dC dI cy h2 hw2 hc2 hb2 false a2 r2 f2 g2 s.heap.size N p0 p1) (cwV 2 hts gX2_narrowEndless_X0_isEndless rfl rfl rfl (by decide +kernel) ⟨Nat.le_of_ble_eq_true rfl, Nat.le_of_ble_eq_true rfl⟩) (xM.preV hKc hPc hDc (fun _ h => h) (Nat.le_trans hN hS.1) (hG.kept hS hAN) (ci := 2) (q0 := 0) rfl rfl) rfl rfl hl.1 rfl (lv_room (Nat.le_of_ble_eq_true rfl)) dX2_narrowEndless_6 ⟨Nat.le_of_ble_eq_true rfl, Nat.le_of_ble_eq_true rfl⟩) hS xA_old (fun q h => hA q (Nat.le_trans hS.1 h)) xA_old (fun E ce q9 u9 t H locs ht hvm hpx hbx hz hk hS hce hcv hcl => ?_) (fun r_1 u t H locs ht hvm hw hB hz hk hS => ?_)
  · have c_2 : ¬ (o_X0_isEndless false f2 p0 p1).1 = 0 := hpx
    have hbe := hbx
    have hP := xP_keep hP hk
    have he : o_X2_narrowEndless f2 p0 p1 = ((o_X0_isEndless false f2 p0 p1).1, false) := by (rw [o_X2_narrowEndless, if_neg c_2]) <;> rfl
    exact vx_out (fun x hx => (hno x hx).elim) hlocks hce hcv hcl (fun t ht hvm => ⟨(), by rw [he]; exact c_2, by rw [he]; exact hbe, hS.F ht⟩) hS.2.2 (by omega) (by omega)
  · skip
    obtain ⟨c_3, hw⟩ := hw
    have c_3 : (o_X0_isEndless false f2 p0 p1).1 = 0 := c_3
    replace hw : r_1 = b2i ((o_X0_isEndless false f2 p0 p1).2) := hw
    subst r_1
    have hP := xP_keep hP hk
    have he : o_X2_narrowEndless f2 p0 p1 = (0, (o_X0_isEndless false f2 p0 p1).2) := by (rw [o_X2_narrowEndless, if_pos c_3]) <;> rfl
    refine W.widen (k := 2) (n := 12) (by omega) (by omega) ?_
    refine vx_ret ?_
    exact W.zret (v := (b2i ((o_X0_isEndless false f2 p0 p1).2))) (ty := .boolean) hx hb hr (b2i_nar _) (fun t ht hW => ⟨⟨_, (), rfl, ⟨(by (rw [he]) <;> rfl), (by (rw [he]) <;> rfl)⟩, trivial⟩, hS.F ht⟩) hS.2.2 dX2_narrowEndless_9
theorem cl_X2_narrowCount_1 : ∀ w ∈ wsX2_narrowCount_r1, w ∈ wsX2_narrowCount := fun _ h => (List.mem_cons_of_mem _ (List.mem_append_left _ (List.mem_append_left _ (List.mem_append_left _ (List.mem_append_left _ (List.mem_append_left _ h))))))
theorem cl_X2_narrowCount_2 : ∀ w ∈ wsX2_narrowCount_r2, w ∈ wsX2_narrowCount := fun _ h => (List.mem_cons_of_mem _ (List.mem_append_left _ (List.mem_append_left _ (List.mem_append_left _ (List.mem_append_left _ (List.mem_append_right _ h))))))
theorem cl_X2_narrowCount_3 : ∀ w ∈ wsX20, w ∈ wsX2_narrowCount := fun _ h => (List.mem_cons_of_mem _ (List.mem_append_left _ (List.mem_append_left _ (List.mem_append_left _ (List.mem_append_right _ h)))))
theorem cl_X2_narrowCount_4 : ∀ w ∈ wsX00, w ∈ wsX2_narrowCount := fun _ h => (List.mem_cons_of_mem _ (List.mem_append_left _ (List.mem_append_left _ (List.mem_append_right _ h))))
theorem cl_X2_narrowCount_5 : ∀ w ∈ wsX10, w ∈ wsX2_narrowCount := fun _ h => (List.mem_cons_of_mem _ (List.mem_append_left _ (List.mem_append_right _ h)))
theorem cl_X2_narrowCount_6 : ∀ w ∈ (vx_atS RX2 152 "java/lang/IndexOutOfBoundsException" ["java/lang/RuntimeException", "java/lang/Exception"]).filter goodWord, w ∈ wsX2_narrowCount := fun _ h => (List.mem_cons_of_mem _ (List.mem_append_right _ h))
set_option maxRecDepth 20000 in
theorem ggX2_narrowCount_X0_quarters : GoodIn wsX2_narrowCount wsX0_quarters := goodIn_sub (List.forall_mem_cons.mpr ⟨(cl_X2_narrowCount_1 _ (List.mem_of_getElem? (i := 5) rfl)), fun w h => (List.mem_append.mp h).elim ((fun w h => (List.mem_append.mp h).elim ((fun w h => (List.mem_append.mp h).elim ((fun w h => (List.mem_append.mp h).elim ((List.forall_mem_cons.mpr ⟨(cl_X2_narrowCount_1 _ (List.mem_of_getElem? (i := 6) rfl)), List.forall_mem_cons.mpr ⟨(cl_X2_narrowCount_1 _ (List.mem_of_getElem? (i := 7) rfl)), List.forall_mem_cons.mpr ⟨(cl_X2_narrowCount_1 _ (List.mem_of_getElem? (i := 8) rfl)), List.forall_mem_cons.mpr ⟨(cl_X2_narrowCount_1 _ (List.mem_of_getElem? (i := 9) rfl)), List.forall_mem_cons.mpr ⟨(cl_X2_narrowCount_1 _ (List.mem_of_getElem? (i := 10) rfl)), List.forall_mem_cons.mpr ⟨(cl_X2_narrowCount_1 _ (List.mem_of_getElem? (i := 11) rfl)), List.forall_mem_cons.mpr ⟨(cl_X2_narrowCount_1 _ (List.mem_of_getElem? (i := 12) rfl)), List.forall_mem_cons.mpr ⟨(cl_X2_narrowCount_1 _ (List.mem_of_getElem? (i := 13) rfl)), List.forall_mem_cons.mpr ⟨(cl_X2_narrowCount_1 _ (List.mem_of_getElem? (i := 14) rfl)), List.forall_mem_cons.mpr ⟨(cl_X2_narrowCount_1 _ (List.mem_of_getElem? (i := 15) rfl)), List.forall_mem_cons.mpr ⟨(cl_X2_narrowCount_1 _ (List.mem_of_getElem? (i := 16) rfl)), List.forall_mem_cons.mpr ⟨(cl_X2_narrowCount_1 _ (List.mem_of_getElem? (i := 17) rfl)), List.forall_mem_cons.mpr ⟨(cl_X2_narrowCount_1 _ (List.mem_of_getElem? (i := 18) rfl)), List.forall_mem_cons.mpr ⟨(cl_X2_narrowCount_1 _ (List.mem_of_getElem? (i := 19) rfl)), List.forall_mem_cons.mpr ⟨(cl_X2_narrowCount_1 _ (List.mem_of_getElem? (i := 20) rfl)), List.forall_mem_cons.mpr ⟨(cl_X2_narrowCount_1 _ (List.mem_of_getElem? (i := 21) rfl)), List.forall_mem_cons.mpr ⟨(cl_X2_narrowCount_1 _ (List.mem_of_getElem? (i := 22) rfl)), List.forall_mem_cons.mpr ⟨(cl_X2_narrowCount_1 _ (List.mem_of_getElem? (i := 23) rfl)), List.forall_mem_cons.mpr ⟨(cl_X2_narrowCount_2 _ (List.mem_of_getElem? (i := 0) rfl)), List.forall_mem_cons.mpr ⟨(cl_X2_narrowCount_2 _ (List.mem_of_getElem? (i := 1) rfl)), List.forall_mem_cons.mpr ⟨(cl_X2_narrowCount_2 _ (List.mem_of_getElem? (i := 2) rfl)), List.forall_mem_cons.mpr ⟨(cl_X2_narrowCount_2 _ (List.mem_of_getElem? (i := 3) rfl)), List.forall_mem_cons.mpr ⟨(cl_X2_narrowCount_2 _ (List.mem_of_getElem? (i := 4) rfl)), List.forall_mem_cons.mpr ⟨(cl_X2_narrowCount_2 _ (List.mem_of_getElem? (i := 5) rfl)), fun _ h => absurd h List.not_mem_nil⟩⟩⟩⟩⟩⟩⟩⟩⟩⟩⟩⟩⟩⟩⟩⟩⟩⟩⟩⟩⟩⟩⟩⟩) w) ((List.forall_mem_cons.mpr ⟨(cl_X2_narrowCount_2 _ (List.mem_of_getElem? (i := 6) rfl)), List.forall_mem_cons.mpr ⟨(cl_X2_narrowCount_2 _ (List.mem_of_getElem? (i := 7) rfl)), List.forall_mem_cons.mpr ⟨(cl_X2_narrowCount_2 _ (List.mem_of_getElem? (i := 8) rfl)), List.forall_mem_cons.mpr ⟨(cl_X2_narrowCount_2 _ (List.mem_of_getElem? (i := 9) rfl)), List.forall_mem_cons.mpr ⟨(cl_X2_narrowCount_2 _ (List.mem_of_getElem? (i := 10) rfl)), List.forall_mem_cons.mpr ⟨(cl_X2_narrowCount_2 _ (List.mem_of_getElem? (i := 11) rfl)), List.forall_mem_cons.mpr ⟨(cl_X2_narrowCount_2 _ (List.mem_of_getElem? (i := 12) rfl)), List.forall_mem_cons.mpr ⟨(cl_X2_narrowCount_2 _ (List.mem_of_getElem? (i := 13) rfl)), List.forall_mem_cons.mpr ⟨(cl_X2_narrowCount_2 _ (List.mem_of_getElem? (i := 14) rfl)), List.forall_mem_cons.mpr ⟨(cl_X2_narrowCount_2 _ (List.mem_of_getElem? (i := 15) rfl)), List.forall_mem_cons.mpr ⟨(cl_X2_narrowCount_2 _ (List.mem_of_getElem? (i := 16) rfl)), List.forall_mem_cons.mpr ⟨(cl_X2_narrowCount_2 _ (List.mem_of_getElem? (i := 17) rfl)), List.forall_mem_cons.mpr ⟨(cl_X2_narrowCount_2 _ (List.mem_of_getElem? (i := 18) rfl)), List.forall_mem_cons.mpr ⟨(cl_X2_narrowCount_2 _ (List.mem_of_getElem? (i := 19) rfl)), List.forall_mem_cons.mpr ⟨(cl_X2_narrowCount_2 _ (List.mem_of_getElem? (i := 20) rfl)), List.forall_mem_cons.mpr ⟨(cl_X2_narrowCount_2 _ (List.mem_of_getElem? (i := 21) rfl)), fun _ h => absurd h List.not_mem_nil⟩⟩⟩⟩⟩⟩⟩⟩⟩⟩⟩⟩⟩⟩⟩⟩) w)) w) ((cl_X2_narrowCount_4) w)) w) ((cl_X2_narrowCount_5) w)) w) ((cl_X2_narrowCount_6) w)⟩) (by decide +kernel)
set_option maxRecDepth 20000 in
theorem gX2_narrowCount_X0_quarters : GoodIn wsX2_narrowCount (wsV RX2 99 RX0 yX0_quarters wsX0_quarters) := goodIn_app (goodIn_sub (List.forall_mem_cons.mpr ⟨(cl_X2_narrowCount_1 _ (List.mem_of_getElem? (i := 1) rfl)), List.forall_mem_cons.mpr ⟨(cl_X2_narrowCount_1 _ (List.mem_of_getElem? (i := 2) rfl)), List.forall_mem_cons.mpr ⟨(cl_X2_narrowCount_1 _ (List.mem_of_getElem? (i := 3) rfl)), List.forall_mem_cons.mpr ⟨(cl_X2_narrowCount_1 _ (List.mem_of_getElem? (i := 4) rfl)), fun _ h => absurd h List.not_mem_nil⟩⟩⟩⟩) (by decide +kernel)) ggX2_narrowCount_X0_quarters
noncomputable def dz_p13_41 : List (Nat × Instr × Nat) := [(0, (.aload_n 0, 1)), (1, (.getfield 25, 3)), (4, (.iload_n 1, 1)), (5, (.invokevirtual 99, 3)), (8, (.ireturn, 1))]
theorem dy_p13_41 : dz_ok cX2_narrowCount dz_p13_41 = true := by decide +kernel
theorem dX2_narrowCount_0 : decode cX2_narrowCount 0 = .ok (.aload_n 0, 1) := dz_at (i := 0) dy_p13_41 rfl
theorem dX2_narrowCount_1 : decode cX2_narrowCount 1 = .ok (.getfield 25, 3) := dz_at (i := 1) dy_p13_41 rfl
theorem dX2_narrowCount_4 : decode cX2_narrowCount 4 = .ok (.iload_n 1, 1) := dz_at (i := 2) dy_p13_41 rfl
theorem dX2_narrowCount_5 : decode cX2_narrowCount 5 = .ok (.invokevirtual 99, 3) := dz_at (i := 3) dy_p13_41 rfl
theorem dX2_narrowCount_8 : decode cX2_narrowCount 8 = .ok (.ireturn, 1) := dz_at (i := 4) dy_p13_41 rfl
noncomputable def o_X2_narrowCount (f2 : Nat → Int64) (p0 : Int32) : Int32 × Int32 :=
  if (o_X0_quarters false f2 p0).1 = 0 then (0, (o_X0_quarters false f2 p0).2)
  else ((o_X0_quarters false f2 p0).1, 0)
set_option maxHeartbeats 4000000 in
set_option maxRecDepth 100000 in
theorem k_X2_narrowCount (l : Launch) (hfl : l.flags = flags0) (dC : Nat → ClassId) (dI : Nat → Nat → Nat) (cy : ClassId) (h0 : Nat) (h1 : Nat) (hw1 : Nat) (hc1 : Nat) (hb1 : Nat) (h2 : Nat) (hw2 : Nat) (hc2 : Nat) (hb2 : Nat) (a1 : Int32) (r1 : Int32) (f1 : Nat → Int64) (g1 : Nat → Int64) (a2 : Int32) (r2 : Int32) (f2 : Nat → Int64) (g2 : Nat → Int64) (kn : Int32) (sz : Nat) (N : Nat) (p0 : Int32) : vx_Met l yX2_narrowCount wsX2_narrowCount ({ frames := 8, cells := 1, slots := 6, locals := 141 }) (va_Pc [.ref h0, .int p0] (xM (dC, dI) xCl [(h0, eE h1 h2 kn), (h1, eR hw1 hc1 hb1 a1 r1), (hw1, eW true), (hc1, eA cy f1), (hb1, eA cy g1), (h2, eR hw2 hc2 hb2 a2 r2), (hw2, eW false), (hc2, eA cy f2), (hb2, eA cy g2)] [(cy, .long)] sz N)) (va_Qi (fun (r : Int32) (_ : Unit) => (o_X2_narrowCount f2 p0).1 = 0 ∧ r = (o_X2_narrowCount f2 p0).2) (fun _ _ => True) (aN sz)) (vx_X (fun _ : Unit => ¬ (o_X2_narrowCount f2 p0).1 = 0) (fun E _ _ => E = xE (o_X2_narrowCount f2 p0).1) (aN sz)) 1 6 (aN sz) := by
  refine vx_ofW (cc := cX2_narrowCount) (maxL := 2) (ret := (some .int)) (by decide +kernel) rfl ?_
  intro p e s m args below meth c s₁ B hml hno hv
  obtain ⟨rfl, hsz, hP, hK, hD0, hN, hG⟩ := hv
  have hx := B.exec
  have hb := B.bytes
  have hr := B.returns
  have hts := atoms_spec (ws := wsX2_narrowCount) B.pre
  have hown : s.vm.findClass RX2 = some m.cls := findClass_of_methodNamed B.named
  have hlocks := B.notSynchronized
  subst hsz
  have hA : ∀ q : Nat, s.heap.size ≤ q → aN s.heap.size q := fun _ h => h
  have hD := hD0
  have hAN : ∀ q, aN s.heap.size q → N ≤ q := fun q h => Nat.le_trans hN h
  have hS : va_S (aN s.heap.size) s.heap s.heap [] := va_S.rf
  have hP : va_P (dC, dI) xCl [(h0, eE h1 h2 kn), (h1, eR hw1 hc1 hb1 a1 r1), (hw1, eW true), (hc1, eA cy f1), (hb1, eA cy g1), (h2, eR hw2 hc2 hb2 a2 r2), (hw2, eW false), (hc2, eA cy f2), (hb2, eA cy g2)] s.heap := hP
  have hl := lv_entry ([.ref h0, .int p0]) (n := 2) (Nat.le_of_ble_eq_true rfl)
  rw [lg_entry_eq]
  generalize (lg_sl ([.ref h0, .int p0]) ++ List.replicate (2 - (lg_sl ([.ref h0, .int p0])).length) Slot.unset).toArray = ls at hl ⊢
  have hl : lv_has ls 2 [(0, .ref h0), (1, .int p0)] := hl
  refine lv_aload_n hx hb dX2_narrowCount_0 rfl (lv_at hl 0 rfl) ?_
  refine va_get (D := (dC, dI)) (ci := 4) (v := .ref h2) (C := RX2) (T := TX2) (N := 3) hx hb hts (by decide +kernel) hown hK hP 0 rfl rfl 1 (by decide +kernel) (hts (.fieldLink RX2 25 "Edgefloats" "narrow" "LEdgefloats$Row;") (by decide +kernel)) (fun _ h9 => h9) rfl dX2_narrowCount_1 ?_
  refine lv_iload_n hx hb dX2_narrowCount_4 rfl (lv_at hl 1 rfl) ?_
  have hPc := hP.sub (ws' := [(h2, eR hw2 hc2 hb2 a2 r2), (hw2, eW false), (hc2, eA cy f2), (hb2, eA cy g2)]) [5, 6, 7, 8] rfl
  have hDc := hD.sub (ws' := [(h2, eR hw2 hc2 hb2 a2 r2), (hw2, eW false), (hc2, eA cy f2), (hb2, eA cy g2)]) [5, 6, 7, 8] (by decide +kernel) rfl
  have hKc := hK.sub (tys' := [(cy, .long)]) [0] rfl
  refine vx_calli (vx_runV (As := [.int p0]) (rest := []) ⟨hx, hb, hml, hown, hts⟩ (k_X0_quarters l hfl dC dI cy h2 hw2 hc2 hb2 false a2 r2 f2 g2 s.heap.size N p0) (cwV 1 hts gX2_narrowCount_X0_quarters rfl rfl rfl (by decide +kernel) ⟨Nat.le_of_ble_eq_true rfl, Nat.le_of_ble_eq_true rfl⟩) (xM.preV hKc hPc hDc (fun _ h => h) (Nat.le_trans hN hS.1) (hG.kept hS hAN) (ci := 2) (q0 := 0) rfl rfl) rfl rfl hl.1 rfl (lv_room (Nat.le_of_ble_eq_true rfl)) dX2_narrowCount_5 ⟨Nat.le_of_ble_eq_true rfl, Nat.le_of_ble_eq_true rfl⟩) hS xA_old (fun q h => hA q (Nat.le_trans hS.1 h)) xA_old (fun E ce q9 u9 t H locs ht hvm hpx hbx hz hk hS hce hcv hcl => ?_) (fun r_1 u t H locs ht hvm hw hB hz hk hS => ?_)
  · have c_2 : ¬ (o_X0_quarters false f2 p0).1 = 0 := hpx
    have hbe := hbx
    have hP := xP_keep hP hk
    have he : o_X2_narrowCount f2 p0 = ((o_X0_quarters false f2 p0).1, 0) := by (rw [o_X2_narrowCount, if_neg c_2]) <;> rfl
    exact vx_out (fun x hx => (hno x hx).elim) hlocks hce hcv hcl (fun t ht hvm => ⟨(), by rw [he]; exact c_2, by rw [he]; exact hbe, hS.F ht⟩) hS.2.2 (by omega) (by omega)
  · skip
    obtain ⟨c_3, hw⟩ := hw
    have c_3 : (o_X0_quarters false f2 p0).1 = 0 := c_3
    replace hw : r_1 = (o_X0_quarters false f2 p0).2 := hw
    subst r_1
    have hP := xP_keep hP hk
    have he : o_X2_narrowCount f2 p0 = (0, (o_X0_quarters false f2 p0).2) := by (rw [o_X2_narrowCount, if_pos c_3]) <;> rfl
    refine W.widen (k := 1) (n := 6) (by omega) (by omega) ?_
    refine vx_ret ?_
    exact W.iret (v := ((o_X0_quarters false f2 p0).2)) hx hb hr (fun t ht hW => ⟨⟨_, (), rfl, ⟨(by (rw [he]) <;> rfl), (by (rw [he]) <;> rfl)⟩, trivial⟩, hS.F ht⟩) hS.2.2 dX2_narrowCount_8
theorem cl_X2_narrowFind_1 : ∀ w ∈ [.fieldLink RX2 25 "Edgefloats" "narrow" "LEdgefloats$Row;", .methodLink RX2 102 yX0_find, .instanceMethod yX0_find, .selects RX0 yX0_find yX0_find, .initialized RX0, .code yX0_find cX0_find 6 (some .int), .fieldLink RX0 15 "Edgefloats$Row" "cells" "[J", .static yX2_checkCell, .initialized RX2, .code yX2_checkCell cX2_checkCell 1 none, .classLink RX2 148 "java/lang/IndexOutOfBoundsException", .initialized "java/lang/IndexOutOfBoundsException"], w ∈ wsX2_narrowFind := fun _ h => (List.mem_cons_of_mem _ (List.mem_append_left _ (List.mem_append_left _ (List.mem_append_left _ h))))
theorem cl_X2_narrowFind_2 : ∀ w ∈ wsX20, w ∈ wsX2_narrowFind := fun _ h => (List.mem_cons_of_mem _ (List.mem_append_left _ (List.mem_append_left _ (List.mem_append_right _ h))))
theorem cl_X2_narrowFind_3 : ∀ w ∈ wsX00, w ∈ wsX2_narrowFind := fun _ h => (List.mem_cons_of_mem _ (List.mem_append_left _ (List.mem_append_right _ h)))
theorem cl_X2_narrowFind_4 : ∀ w ∈ (vx_atS RX2 152 "java/lang/IndexOutOfBoundsException" ["java/lang/RuntimeException", "java/lang/Exception"]).filter goodWord, w ∈ wsX2_narrowFind := fun _ h => (List.mem_cons_of_mem _ (List.mem_append_right _ h))
set_option maxRecDepth 20000 in
theorem ggX2_narrowFind_X0_find : GoodIn wsX2_narrowFind wsX0_find := goodIn_sub (List.forall_mem_cons.mpr ⟨(cl_X2_narrowFind_1 _ (List.mem_of_getElem? (i := 5) rfl)), fun w h => (List.mem_append.mp h).elim ((fun w h => (List.mem_append.mp h).elim ((List.forall_mem_cons.mpr ⟨(cl_X2_narrowFind_1 _ (List.mem_of_getElem? (i := 6) rfl)), List.forall_mem_cons.mpr ⟨(cl_X2_narrowFind_1 _ (List.mem_of_getElem? (i := 7) rfl)), List.forall_mem_cons.mpr ⟨(cl_X2_narrowFind_1 _ (List.mem_of_getElem? (i := 8) rfl)), List.forall_mem_cons.mpr ⟨(cl_X2_narrowFind_1 _ (List.mem_of_getElem? (i := 9) rfl)), List.forall_mem_cons.mpr ⟨(cl_X2_narrowFind_1 _ (List.mem_of_getElem? (i := 10) rfl)), List.forall_mem_cons.mpr ⟨(cl_X2_narrowFind_1 _ (List.mem_of_getElem? (i := 11) rfl)), fun _ h => absurd h List.not_mem_nil⟩⟩⟩⟩⟩⟩) w) ((cl_X2_narrowFind_3) w)) w) ((cl_X2_narrowFind_4) w)⟩) (by decide +kernel)
set_option maxRecDepth 20000 in
theorem gX2_narrowFind_X0_find : GoodIn wsX2_narrowFind (wsV RX2 102 RX0 yX0_find wsX0_find) := goodIn_app (goodIn_sub (List.forall_mem_cons.mpr ⟨(cl_X2_narrowFind_1 _ (List.mem_of_getElem? (i := 1) rfl)), List.forall_mem_cons.mpr ⟨(cl_X2_narrowFind_1 _ (List.mem_of_getElem? (i := 2) rfl)), List.forall_mem_cons.mpr ⟨(cl_X2_narrowFind_1 _ (List.mem_of_getElem? (i := 3) rfl)), List.forall_mem_cons.mpr ⟨(cl_X2_narrowFind_1 _ (List.mem_of_getElem? (i := 4) rfl)), fun _ h => absurd h List.not_mem_nil⟩⟩⟩⟩) (by decide +kernel)) ggX2_narrowFind_X0_find
noncomputable def dz_p13_42 : List (Nat × Instr × Nat) := [(0, (.aload_n 0, 1)), (1, (.getfield 25, 3)), (4, (.iload_n 1, 1)), (5, (.iload_n 2, 1)), (6, (.invokevirtual 102, 3)), (9, (.ireturn, 1))]
theorem dy_p13_42 : dz_ok cX2_narrowFind dz_p13_42 = true := by decide +kernel
theorem dX2_narrowFind_0 : decode cX2_narrowFind 0 = .ok (.aload_n 0, 1) := dz_at (i := 0) dy_p13_42 rfl
theorem dX2_narrowFind_1 : decode cX2_narrowFind 1 = .ok (.getfield 25, 3) := dz_at (i := 1) dy_p13_42 rfl
theorem dX2_narrowFind_4 : decode cX2_narrowFind 4 = .ok (.iload_n 1, 1) := dz_at (i := 2) dy_p13_42 rfl
theorem dX2_narrowFind_5 : decode cX2_narrowFind 5 = .ok (.iload_n 2, 1) := dz_at (i := 3) dy_p13_42 rfl
theorem dX2_narrowFind_6 : decode cX2_narrowFind 6 = .ok (.invokevirtual 102, 3) := dz_at (i := 4) dy_p13_42 rfl
theorem dX2_narrowFind_9 : decode cX2_narrowFind 9 = .ok (.ireturn, 1) := dz_at (i := 5) dy_p13_42 rfl
noncomputable def o_X2_narrowFind (f2 : Nat → Int64) (p0 : Int32) (p1 : Bool) : Int32 × Int32 :=
  if (o_X0_find f2 p0 p1).1 = 0 then (0, (o_X0_find f2 p0 p1).2)
  else ((o_X0_find f2 p0 p1).1, 0)
set_option maxHeartbeats 4000000 in
set_option maxRecDepth 100000 in
theorem k_X2_narrowFind (l : Launch) (hfl : l.flags = flags0) (dC : Nat → ClassId) (dI : Nat → Nat → Nat) (cy : ClassId) (h0 : Nat) (h1 : Nat) (hw1 : Nat) (hc1 : Nat) (hb1 : Nat) (h2 : Nat) (hw2 : Nat) (hc2 : Nat) (hb2 : Nat) (a1 : Int32) (r1 : Int32) (f1 : Nat → Int64) (g1 : Nat → Int64) (a2 : Int32) (r2 : Int32) (f2 : Nat → Int64) (g2 : Nat → Int64) (kn : Int32) (sz : Nat) (N : Nat) (p0 : Int32) (p1 : Bool) : vx_Met l yX2_narrowFind wsX2_narrowFind ({ frames := 8, cells := 1, slots := 6, locals := 145 }) (va_Pc [.ref h0, .int p0, .int (b2i p1)] (xM (dC, dI) xCl [(h0, eE h1 h2 kn), (h1, eR hw1 hc1 hb1 a1 r1), (hw1, eW true), (hc1, eA cy f1), (hb1, eA cy g1), (h2, eR hw2 hc2 hb2 a2 r2), (hw2, eW false), (hc2, eA cy f2), (hb2, eA cy g2)] [(cy, .long)] sz N)) (va_Qi (fun (r : Int32) (_ : Unit) => (o_X2_narrowFind f2 p0 p1).1 = 0 ∧ r = (o_X2_narrowFind f2 p0 p1).2) (fun _ _ => True) (aN sz)) (vx_X (fun _ : Unit => ¬ (o_X2_narrowFind f2 p0 p1).1 = 0) (fun E _ _ => E = xE (o_X2_narrowFind f2 p0 p1).1) (aN sz)) 1 6 (aN sz) := by
  refine vx_ofW (cc := cX2_narrowFind) (maxL := 3) (ret := (some .int)) (by decide +kernel) rfl ?_
  intro p e s m args below meth c s₁ B hml hno hv
  obtain ⟨rfl, hsz, hP, hK, hD0, hN, hG⟩ := hv
  have hx := B.exec
  have hb := B.bytes
  have hr := B.returns
  have hts := atoms_spec (ws := wsX2_narrowFind) B.pre
  have hown : s.vm.findClass RX2 = some m.cls := findClass_of_methodNamed B.named
  have hlocks := B.notSynchronized
  subst hsz
  have hA : ∀ q : Nat, s.heap.size ≤ q → aN s.heap.size q := fun _ h => h
  have hD := hD0
  have hAN : ∀ q, aN s.heap.size q → N ≤ q := fun q h => Nat.le_trans hN h
  have hS : va_S (aN s.heap.size) s.heap s.heap [] := va_S.rf
  have hP : va_P (dC, dI) xCl [(h0, eE h1 h2 kn), (h1, eR hw1 hc1 hb1 a1 r1), (hw1, eW true), (hc1, eA cy f1), (hb1, eA cy g1), (h2, eR hw2 hc2 hb2 a2 r2), (hw2, eW false), (hc2, eA cy f2), (hb2, eA cy g2)] s.heap := hP
  have hl := lv_entry ([.ref h0, .int p0, .int (b2i p1)]) (n := 3) (Nat.le_of_ble_eq_true rfl)
  rw [lg_entry_eq]
  generalize (lg_sl ([.ref h0, .int p0, .int (b2i p1)]) ++ List.replicate (3 - (lg_sl ([.ref h0, .int p0, .int (b2i p1)])).length) Slot.unset).toArray = ls at hl ⊢
  have hl : lv_has ls 3 [(0, .ref h0), (1, .int p0), (2, .int (b2i p1))] := hl
  refine lv_aload_n hx hb dX2_narrowFind_0 rfl (lv_at hl 0 rfl) ?_
  refine va_get (D := (dC, dI)) (ci := 4) (v := .ref h2) (C := RX2) (T := TX2) (N := 3) hx hb hts (by decide +kernel) hown hK hP 0 rfl rfl 1 (by decide +kernel) (hts (.fieldLink RX2 25 "Edgefloats" "narrow" "LEdgefloats$Row;") (by decide +kernel)) (fun _ h9 => h9) rfl dX2_narrowFind_1 ?_
  refine lv_iload_n hx hb dX2_narrowFind_4 rfl (lv_at hl 1 rfl) ?_
  refine lv_iload_n hx hb dX2_narrowFind_5 rfl (lv_at hl 2 rfl) ?_
  have hPc := hP.sub (ws' := [(h2, eR hw2 hc2 hb2 a2 r2), (hw2, eW false), (hc2, eA cy f2), (hb2, eA cy g2)]) [5, 6, 7, 8] rfl
  have hDc := hD.sub (ws' := [(h2, eR hw2 hc2 hb2 a2 r2), (hw2, eW false), (hc2, eA cy f2), (hb2, eA cy g2)]) [5, 6, 7, 8] (by decide +kernel) rfl
  have hKc := hK.sub (tys' := [(cy, .long)]) [0] rfl
  refine vx_calli (vx_runV (As := [.int p0, .int (b2i p1)]) (rest := []) ⟨hx, hb, hml, hown, hts⟩ (k_X0_find l hfl dC dI cy h2 hw2 hc2 hb2 false a2 r2 f2 g2 s.heap.size N p0 p1) (cwV 2 hts gX2_narrowFind_X0_find rfl rfl rfl (by decide +kernel) ⟨Nat.le_of_ble_eq_true rfl, Nat.le_of_ble_eq_true rfl⟩) (xM.preV hKc hPc hDc (fun _ h => h) (Nat.le_trans hN hS.1) (hG.kept hS hAN) (ci := 2) (q0 := 0) rfl rfl) rfl rfl hl.1 rfl (lv_room (Nat.le_of_ble_eq_true rfl)) dX2_narrowFind_6 ⟨Nat.le_of_ble_eq_true rfl, Nat.le_of_ble_eq_true rfl⟩) hS xA_old (fun q h => hA q (Nat.le_trans hS.1 h)) xA_old (fun E ce q9 u9 t H locs ht hvm hpx hbx hz hk hS hce hcv hcl => ?_) (fun r_1 u t H locs ht hvm hw hB hz hk hS => ?_)
  · have c_2 : ¬ (o_X0_find f2 p0 p1).1 = 0 := hpx
    have hbe := hbx
    have hP := xP_keep hP hk
    have he : o_X2_narrowFind f2 p0 p1 = ((o_X0_find f2 p0 p1).1, 0) := by (rw [o_X2_narrowFind, if_neg c_2]) <;> rfl
    exact vx_out (fun x hx => (hno x hx).elim) hlocks hce hcv hcl (fun t ht hvm => ⟨(), by rw [he]; exact c_2, by rw [he]; exact hbe, hS.F ht⟩) hS.2.2 (by omega) (by omega)
  · skip
    obtain ⟨c_3, hw⟩ := hw
    have c_3 : (o_X0_find f2 p0 p1).1 = 0 := c_3
    replace hw : r_1 = (o_X0_find f2 p0 p1).2 := hw
    subst r_1
    have hP := xP_keep hP hk
    have he : o_X2_narrowFind f2 p0 p1 = (0, (o_X0_find f2 p0 p1).2) := by (rw [o_X2_narrowFind, if_pos c_3]) <;> rfl
    refine W.widen (k := 1) (n := 6) (by omega) (by omega) ?_
    refine vx_ret ?_
    exact W.iret (v := ((o_X0_find f2 p0 p1).2)) hx hb hr (fun t ht hW => ⟨⟨_, (), rfl, ⟨(by (rw [he]) <;> rfl), (by (rw [he]) <;> rfl)⟩, trivial⟩, hS.F ht⟩) hS.2.2 dX2_narrowFind_9
theorem cl_X2_narrowHas_1 : ∀ w ∈ [.fieldLink RX2 25 "Edgefloats" "narrow" "LEdgefloats$Row;", .methodLink RX2 106 yX0_has, .instanceMethod yX0_has, .selects RX0 yX0_has yX0_has, .initialized RX0, .code yX0_has cX0_has 5 (some .boolean), .fieldLink RX0 9 "Edgefloats$Row" "width" "LEdgefloats$Width;", .fieldLink RX0 15 "Edgefloats$Row" "cells" "[J", .static yX2_checkChoice, .initialized RX2, .code yX2_checkChoice cX2_checkChoice 2 none, .classLink RX2 155 "java/lang/IllegalArgumentException", .initialized "java/lang/IllegalArgumentException", .methodLink RX0 59 yX1_known, .instanceMethod yX1_known, .selects RX1 yX1_known yX1_known, .initialized RX1, .code yX1_known cX1_known 4 (some .long), .fieldLink RX1 18 "Edgefloats$Width" "exponentOnes" "I", .fieldLink RX1 9 "Edgefloats$Width" "fractionDigits" "I", .fieldLink RX1 25 "Edgefloats$Width" "signOne" "J"], w ∈ wsX2_narrowHas := fun _ h => (List.mem_cons_of_mem _ (List.mem_append_left _ (List.mem_append_left _ (List.mem_append_left _ (List.mem_append_left _ h)))))
theorem cl_X2_narrowHas_2 : ∀ w ∈ wsX20, w ∈ wsX2_narrowHas := fun _ h => (List.mem_cons_of_mem _ (List.mem_append_left _ (List.mem_append_left _ (List.mem_append_left _ (List.mem_append_right _ h)))))
theorem cl_X2_narrowHas_3 : ∀ w ∈ wsX00, w ∈ wsX2_narrowHas := fun _ h => (List.mem_cons_of_mem _ (List.mem_append_left _ (List.mem_append_left _ (List.mem_append_right _ h))))
theorem cl_X2_narrowHas_4 : ∀ w ∈ wsX10, w ∈ wsX2_narrowHas := fun _ h => (List.mem_cons_of_mem _ (List.mem_append_left _ (List.mem_append_right _ h)))
theorem cl_X2_narrowHas_5 : ∀ w ∈ (vx_atS RX2 159 "java/lang/IllegalArgumentException" ["java/lang/RuntimeException", "java/lang/Exception"]).filter goodWord, w ∈ wsX2_narrowHas := fun _ h => (List.mem_cons_of_mem _ (List.mem_append_right _ h))
set_option maxRecDepth 20000 in
theorem ggX2_narrowHas_X0_has : GoodIn wsX2_narrowHas wsX0_has := goodIn_sub (List.forall_mem_cons.mpr ⟨(cl_X2_narrowHas_1 _ (List.mem_of_getElem? (i := 5) rfl)), fun w h => (List.mem_append.mp h).elim ((fun w h => (List.mem_append.mp h).elim ((fun w h => (List.mem_append.mp h).elim ((List.forall_mem_cons.mpr ⟨(cl_X2_narrowHas_1 _ (List.mem_of_getElem? (i := 6) rfl)), List.forall_mem_cons.mpr ⟨(cl_X2_narrowHas_1 _ (List.mem_of_getElem? (i := 7) rfl)), List.forall_mem_cons.mpr ⟨(cl_X2_narrowHas_1 _ (List.mem_of_getElem? (i := 8) rfl)), List.forall_mem_cons.mpr ⟨(cl_X2_narrowHas_1 _ (List.mem_of_getElem? (i := 9) rfl)), List.forall_mem_cons.mpr ⟨(cl_X2_narrowHas_1 _ (List.mem_of_getElem? (i := 10) rfl)), List.forall_mem_cons.mpr ⟨(cl_X2_narrowHas_1 _ (List.mem_of_getElem? (i := 11) rfl)), List.forall_mem_cons.mpr ⟨(cl_X2_narrowHas_1 _ (List.mem_of_getElem? (i := 12) rfl)), List.forall_mem_cons.mpr ⟨(cl_X2_narrowHas_1 _ (List.mem_of_getElem? (i := 13) rfl)), List.forall_mem_cons.mpr ⟨(cl_X2_narrowHas_1 _ (List.mem_of_getElem? (i := 14) rfl)), List.forall_mem_cons.mpr ⟨(cl_X2_narrowHas_1 _ (List.mem_of_getElem? (i := 15) rfl)), List.forall_mem_cons.mpr ⟨(cl_X2_narrowHas_1 _ (List.mem_of_getElem? (i := 16) rfl)), List.forall_mem_cons.mpr ⟨(cl_X2_narrowHas_1 _ (List.mem_of_getElem? (i := 17) rfl)), List.forall_mem_cons.mpr ⟨(cl_X2_narrowHas_1 _ (List.mem_of_getElem? (i := 18) rfl)), List.forall_mem_cons.mpr ⟨(cl_X2_narrowHas_1 _ (List.mem_of_getElem? (i := 19) rfl)), List.forall_mem_cons.mpr ⟨(cl_X2_narrowHas_1 _ (List.mem_of_getElem? (i := 20) rfl)), fun _ h => absurd h List.not_mem_nil⟩⟩⟩⟩⟩⟩⟩⟩⟩⟩⟩⟩⟩⟩⟩) w) ((cl_X2_narrowHas_3) w)) w) ((cl_X2_narrowHas_4) w)) w) ((cl_X2_narrowHas_5) w)⟩) (by decide +kernel)
set_option maxRecDepth 20000 in
theorem gX2_narrowHas_X0_has : GoodIn wsX2_narrowHas (wsV RX2 106 RX0 yX0_has wsX0_has) := goodIn_app (goodIn_sub (List.forall_mem_cons.mpr ⟨(cl_X2_narrowHas_1 _ (List.mem_of_getElem? (i := 1) rfl)), List.forall_mem_cons.mpr ⟨(cl_X2_narrowHas_1 _ (List.mem_of_getElem? (i := 2) rfl)), List.forall_mem_cons.mpr ⟨(cl_X2_narrowHas_1 _ (List.mem_of_getElem? (i := 3) rfl)), List.forall_mem_cons.mpr ⟨(cl_X2_narrowHas_1 _ (List.mem_of_getElem? (i := 4) rfl)), fun _ h => absurd h List.not_mem_nil⟩⟩⟩⟩) (by decide +kernel)) ggX2_narrowHas_X0_has
noncomputable def dz_p13_43 : List (Nat × Instr × Nat) := [(0, (.aload_n 0, 1)), (1, (.getfield 25, 3)), (4, (.iload_n 1, 1)), (5, (.invokevirtual 106, 3)), (8, (.ireturn, 1))]
theorem dy_p13_43 : dz_ok cX2_narrowHas dz_p13_43 = true := by decide +kernel
theorem dX2_narrowHas_0 : decode cX2_narrowHas 0 = .ok (.aload_n 0, 1) := dz_at (i := 0) dy_p13_43 rfl
theorem dX2_narrowHas_1 : decode cX2_narrowHas 1 = .ok (.getfield 25, 3) := dz_at (i := 1) dy_p13_43 rfl
theorem dX2_narrowHas_4 : decode cX2_narrowHas 4 = .ok (.iload_n 1, 1) := dz_at (i := 2) dy_p13_43 rfl
theorem dX2_narrowHas_5 : decode cX2_narrowHas 5 = .ok (.invokevirtual 106, 3) := dz_at (i := 3) dy_p13_43 rfl
theorem dX2_narrowHas_8 : decode cX2_narrowHas 8 = .ok (.ireturn, 1) := dz_at (i := 4) dy_p13_43 rfl
noncomputable def o_X2_narrowHas (f2 : Nat → Int64) (p0 : Int32) : Int32 × Bool :=
  if (o_X0_has false f2 p0).1 = 0 then (0, (o_X0_has false f2 p0).2)
  else ((o_X0_has false f2 p0).1, false)
set_option maxHeartbeats 4000000 in
set_option maxRecDepth 100000 in
theorem k_X2_narrowHas (l : Launch) (hfl : l.flags = flags0) (dC : Nat → ClassId) (dI : Nat → Nat → Nat) (cy : ClassId) (h0 : Nat) (h1 : Nat) (hw1 : Nat) (hc1 : Nat) (hb1 : Nat) (h2 : Nat) (hw2 : Nat) (hc2 : Nat) (hb2 : Nat) (a1 : Int32) (r1 : Int32) (f1 : Nat → Int64) (g1 : Nat → Int64) (a2 : Int32) (r2 : Int32) (f2 : Nat → Int64) (g2 : Nat → Int64) (kn : Int32) (sz : Nat) (N : Nat) (p0 : Int32) : vx_Met l yX2_narrowHas wsX2_narrowHas ({ frames := 8, cells := 1, slots := 6, locals := 145 }) (va_Pc [.ref h0, .int p0] (xM (dC, dI) xCl [(h0, eE h1 h2 kn), (h1, eR hw1 hc1 hb1 a1 r1), (hw1, eW true), (hc1, eA cy f1), (hb1, eA cy g1), (h2, eR hw2 hc2 hb2 a2 r2), (hw2, eW false), (hc2, eA cy f2), (hb2, eA cy g2)] [(cy, .long)] sz N)) (va_Qi (fun (r : Int32) (_ : Unit) => (o_X2_narrowHas f2 p0).1 = 0 ∧ r = b2i ((o_X2_narrowHas f2 p0).2)) (fun _ _ => True) (aN sz)) (vx_X (fun _ : Unit => ¬ (o_X2_narrowHas f2 p0).1 = 0) (fun E _ _ => E = xE (o_X2_narrowHas f2 p0).1) (aN sz)) 1 6 (aN sz) := by
  refine vx_ofW (cc := cX2_narrowHas) (maxL := 2) (ret := (some .boolean)) (by decide +kernel) rfl ?_
  intro p e s m args below meth c s₁ B hml hno hv
  obtain ⟨rfl, hsz, hP, hK, hD0, hN, hG⟩ := hv
  have hx := B.exec
  have hb := B.bytes
  have hr := B.returns
  have hts := atoms_spec (ws := wsX2_narrowHas) B.pre
  have hown : s.vm.findClass RX2 = some m.cls := findClass_of_methodNamed B.named
  have hlocks := B.notSynchronized
  subst hsz
  have hA : ∀ q : Nat, s.heap.size ≤ q → aN s.heap.size q := fun _ h => h
  have hD := hD0
  have hAN : ∀ q, aN s.heap.size q → N ≤ q := fun q h => Nat.le_trans hN h
  have hS : va_S (aN s.heap.size) s.heap s.heap [] := va_S.rf
  have hP : va_P (dC, dI) xCl [(h0, eE h1 h2 kn), (h1, eR hw1 hc1 hb1 a1 r1), (hw1, eW true), (hc1, eA cy f1), (hb1, eA cy g1), (h2, eR hw2 hc2 hb2 a2 r2), (hw2, eW false), (hc2, eA cy f2), (hb2, eA cy g2)] s.heap := hP
  have hl := lv_entry ([.ref h0, .int p0]) (n := 2) (Nat.le_of_ble_eq_true rfl)
  rw [lg_entry_eq]
  generalize (lg_sl ([.ref h0, .int p0]) ++ List.replicate (2 - (lg_sl ([.ref h0, .int p0])).length) Slot.unset).toArray = ls at hl ⊢
  have hl : lv_has ls 2 [(0, .ref h0), (1, .int p0)] := hl
  refine lv_aload_n hx hb dX2_narrowHas_0 rfl (lv_at hl 0 rfl) ?_
  refine va_get (D := (dC, dI)) (ci := 4) (v := .ref h2) (C := RX2) (T := TX2) (N := 3) hx hb hts (by decide +kernel) hown hK hP 0 rfl rfl 1 (by decide +kernel) (hts (.fieldLink RX2 25 "Edgefloats" "narrow" "LEdgefloats$Row;") (by decide +kernel)) (fun _ h9 => h9) rfl dX2_narrowHas_1 ?_
  refine lv_iload_n hx hb dX2_narrowHas_4 rfl (lv_at hl 1 rfl) ?_
  have hPc := hP.sub (ws' := [(h2, eR hw2 hc2 hb2 a2 r2), (hw2, eW false), (hc2, eA cy f2), (hb2, eA cy g2)]) [5, 6, 7, 8] rfl
  have hDc := hD.sub (ws' := [(h2, eR hw2 hc2 hb2 a2 r2), (hw2, eW false), (hc2, eA cy f2), (hb2, eA cy g2)]) [5, 6, 7, 8] (by decide +kernel) rfl
  have hKc := hK.sub (tys' := [(cy, .long)]) [0] rfl
  refine vx_calli (vx_runV (As := [.int p0]) (rest := []) ⟨hx, hb, hml, hown, hts⟩ (k_X0_has l hfl dC dI cy h2 hw2 hc2 hb2 false a2 r2 f2 g2 s.heap.size N p0) (cwV 1 hts gX2_narrowHas_X0_has rfl rfl rfl (by decide +kernel) ⟨Nat.le_of_ble_eq_true rfl, Nat.le_of_ble_eq_true rfl⟩) (xM.preV hKc hPc hDc (fun _ h => h) (Nat.le_trans hN hS.1) (hG.kept hS hAN) (ci := 2) (q0 := 0) rfl rfl) rfl rfl hl.1 rfl (lv_room (Nat.le_of_ble_eq_true rfl)) dX2_narrowHas_5 ⟨Nat.le_of_ble_eq_true rfl, Nat.le_of_ble_eq_true rfl⟩) hS xA_old (fun q h => hA q (Nat.le_trans hS.1 h)) xA_old (fun E ce q9 u9 t H locs ht hvm hpx hbx hz hk hS hce hcv hcl => ?_) (fun r_1 u t H locs ht hvm hw hB hz hk hS => ?_)
  · have c_2 : ¬ (o_X0_has false f2 p0).1 = 0 := hpx
    have hbe := hbx
    have hP := xP_keep hP hk
    have he : o_X2_narrowHas f2 p0 = ((o_X0_has false f2 p0).1, false) := by (rw [o_X2_narrowHas, if_neg c_2]) <;> rfl
    exact vx_out (fun x hx => (hno x hx).elim) hlocks hce hcv hcl (fun t ht hvm => ⟨(), by rw [he]; exact c_2, by rw [he]; exact hbe, hS.F ht⟩) hS.2.2 (by omega) (by omega)
  · skip
    obtain ⟨c_3, hw⟩ := hw
    have c_3 : (o_X0_has false f2 p0).1 = 0 := c_3
    replace hw : r_1 = b2i ((o_X0_has false f2 p0).2) := hw
    subst r_1
    have hP := xP_keep hP hk
    have he : o_X2_narrowHas f2 p0 = (0, (o_X0_has false f2 p0).2) := by (rw [o_X2_narrowHas, if_pos c_3]) <;> rfl
    refine W.widen (k := 1) (n := 6) (by omega) (by omega) ?_
    refine vx_ret ?_
    exact W.zret (v := (b2i ((o_X0_has false f2 p0).2))) (ty := .boolean) hx hb hr (b2i_nar _) (fun t ht hW => ⟨⟨_, (), rfl, ⟨(by (rw [he]) <;> rfl), (by (rw [he]) <;> rfl)⟩, trivial⟩, hS.F ht⟩) hS.2.2 dX2_narrowHas_8
