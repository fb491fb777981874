
theorem xm_lt {p : Int32} {n : Nat} (h : vp_in p n) : p.toNatClampNeg < n := Nat.not_le.mp (fun z => h (Or.inr z))
noncomputable def okF (w : Bool) (f : Nat → Int64) : Prop := ∀ k, k < 8 → okN w (f k)
theorem okF_true (f : Nat → Int64) : okF true f := fun _ _ h => by cases h

noncomputable def dz_p09_1 : List (Nat × Instr × Nat) := [(0, (.iload_n 0, 1)), (1, (.iload_n 1, 1)), (2, (.if_icmp .lt 12, 3)), (5, (.iload_n 0, 1)), (6, (.iload_n 2, 1)), (7, (.if_icmp .gt 7, 3)), (10, (.iconst 1, 1)), (11, (.goto 4, 3)), (14, (.iconst 0, 1)), (15, (.ireturn, 1))]
theorem dy_p09_1 : dz_ok cX5_isIn dz_p09_1 = true := by decide +kernel
theorem dX5_isIn_0 : decode cX5_isIn 0 = .ok (.iload_n 0, 1) := dz_at (i := 0) dy_p09_1 rfl
theorem dX5_isIn_1 : decode cX5_isIn 1 = .ok (.iload_n 1, 1) := dz_at (i := 1) dy_p09_1 rfl
theorem dX5_isIn_2 : decode cX5_isIn 2 = .ok (.if_icmp .lt 12, 3) := dz_at (i := 2) dy_p09_1 rfl
theorem dX5_isIn_5 : decode cX5_isIn 5 = .ok (.iload_n 0, 1) := dz_at (i := 3) dy_p09_1 rfl
theorem dX5_isIn_6 : decode cX5_isIn 6 = .ok (.iload_n 2, 1) := dz_at (i := 4) dy_p09_1 rfl
theorem dX5_isIn_7 : decode cX5_isIn 7 = .ok (.if_icmp .gt 7, 3) := dz_at (i := 5) dy_p09_1 rfl
theorem dX5_isIn_10 : decode cX5_isIn 10 = .ok (.iconst 1, 1) := dz_at (i := 6) dy_p09_1 rfl
theorem dX5_isIn_11 : decode cX5_isIn 11 = .ok (.goto 4, 3) := dz_at (i := 7) dy_p09_1 rfl
theorem dX5_isIn_14 : decode cX5_isIn 14 = .ok (.iconst 0, 1) := dz_at (i := 8) dy_p09_1 rfl
theorem dX5_isIn_15 : decode cX5_isIn 15 = .ok (.ireturn, 1) := dz_at (i := 9) dy_p09_1 rfl
noncomputable def o_X5_isIn  (p0 : Int32) (p1 : Int32) (p2 : Int32) : Bool :=
  if p0 < p1 then false
  else if p2 < p0 then false
  else true
set_option maxHeartbeats 4000000 in
set_option maxRecDepth 100000 in
theorem k_X5_isIn (l : Launch) (dC : Nat → ClassId) (dI : Nat → Nat → Nat)  (sz : Nat) (p0 : Int32) (p1 : Int32) (p2 : Int32) : Met l yX5_isIn wsX5_isIn ({ frames := 0, cells := 0, slots := 0, locals := 0 }) (va_Pc [.int p0, .int p1, .int p2] (xB (dC, dI) xCl [] [] sz)) (va_Qi (fun (r : Int32) (_ : Unit) => r = b2i (o_X5_isIn p0 p1 p2)) (fun _ _ => True) (aN sz)) 0 0 (aN sz) := by
  refine Met.ofW (cc := cX5_isIn) (maxL := 3) (ret := (some .boolean)) (by decide +kernel) rfl ?_
  intro p e s m args below meth c s₁ B hml hv
  obtain ⟨rfl, hsz, hP, hK⟩ := hv
  have hx := B.exec
  have hb := B.bytes
  have hr := B.returns
  have hts := atoms_spec (ws := wsX5_isIn) B.pre
  have hown : s.vm.findClass RX5 = some m.cls := findClass_of_methodNamed B.named
  have hlocks := B.notSynchronized
  subst hsz
  have hA : ∀ q : Nat, s.heap.size ≤ q → aN s.heap.size q := fun _ h => h
  have hS : va_S (aN s.heap.size) s.heap s.heap [] := va_S.rf
  have hP : va_P (dC, dI) xCl [] s.heap := hP
  have hl := lv_entry ([.int p0, .int p1, .int p2]) (n := 3) (Nat.le_of_ble_eq_true rfl)
  rw [lg_entry_eq]
  generalize (lg_sl ([.int p0, .int p1, .int p2]) ++ List.replicate (3 - (lg_sl ([.int p0, .int p1, .int p2])).length) Slot.unset).toArray = ls at hl ⊢
  have hl : lv_has ls 3 [(0, .int p0), (1, .int p1), (2, .int p2)] := hl
  refine lv_iload_n hx hb dX5_isIn_0 rfl (lv_at hl 0 rfl) ?_
  refine lv_iload_n hx hb dX5_isIn_1 rfl (lv_at hl 1 rfl) ?_
  refine lv_icmp_lt (tgt := 14) hx hb dX5_isIn_2 (by decide +kernel) (fun c_1 => ?_) (fun c_1 => ?_)
  · skip
    refine lv_iconst (v := 0) hx hb dX5_isIn_14 (by decide +kernel) ?_
    have he : o_X5_isIn p0 p1 p2 = false := by (rw [o_X5_isIn, if_pos c_1]) <;> rfl
    refine W.widen (k := 0) (n := 0) (by omega) (by omega) ?_
    exact W.zret (v := 0) (ty := .boolean) hx hb hr rfl (fun t ht hW => ⟨⟨_, (), rfl, (by (rw [he]) <;> rfl), trivial⟩, hS.F ht⟩) hS.2.2 dX5_isIn_15
  · skip
    refine lv_iload_n hx hb dX5_isIn_5 rfl (lv_at hl 0 rfl) ?_
    refine lv_iload_n hx hb dX5_isIn_6 rfl (lv_at hl 2 rfl) ?_
    refine lv_icmp_gt (tgt := 14) hx hb dX5_isIn_7 (by decide +kernel) (fun c_2 => ?_) (fun c_2 => ?_)
    · skip
      refine lv_iconst (v := 0) hx hb dX5_isIn_14 (by decide +kernel) ?_
      have he : o_X5_isIn p0 p1 p2 = false := by (rw [o_X5_isIn, if_neg c_1, if_pos c_2]) <;> rfl
      refine W.widen (k := 0) (n := 0) (by omega) (by omega) ?_
      exact W.zret (v := 0) (ty := .boolean) hx hb hr rfl (fun t ht hW => ⟨⟨_, (), rfl, (by (rw [he]) <;> rfl), trivial⟩, hS.F ht⟩) hS.2.2 dX5_isIn_15
    · skip
      refine lv_iconst (v := 1) hx hb dX5_isIn_10 (by decide +kernel) ?_
      refine lv_goto (tgt := 15) hx hb dX5_isIn_11 (by decide +kernel) ?_
      have he : o_X5_isIn p0 p1 p2 = true := by (rw [o_X5_isIn, if_neg c_1, if_neg c_2]) <;> rfl
      refine W.widen (k := 0) (n := 0) (by omega) (by omega) ?_
      exact W.zret (v := 1) (ty := .boolean) hx hb hr rfl (fun t ht hW => ⟨⟨_, (), rfl, (by (rw [he]) <;> rfl), trivial⟩, hS.F ht⟩) hS.2.2 dX5_isIn_15
set_option maxRecDepth 20000 in
theorem ggX5_isNo_X5_isIn : GoodIn wsX5_isNo wsX5_isIn := goodIn_r _ [4] (by decide +kernel) (by decide +kernel)
theorem cl_X5_isNo_1 : ∀ w ∈ [.methodLink RX5 31 yX5_isIn, .static yX5_isIn, .initialized RX5, .code yX5_isIn cX5_isIn 3 (some .boolean)], w ∈ wsX5_isNo := fun _ h => (List.mem_cons_of_mem _ h)
set_option maxRecDepth 20000 in
theorem gX5_isNo_X5_isIn : GoodIn wsX5_isNo (va_wsS RX5 31 yX5_isIn wsX5_isIn) := goodIn_app (goodIn_sub (List.forall_mem_cons.mpr ⟨(cl_X5_isNo_1 _ (List.mem_of_getElem? (i := 0) rfl)), List.forall_mem_cons.mpr ⟨(cl_X5_isNo_1 _ (List.mem_of_getElem? (i := 1) rfl)), List.forall_mem_cons.mpr ⟨(cl_X5_isNo_1 _ (List.mem_of_getElem? (i := 2) rfl)), fun _ h => absurd h List.not_mem_nil⟩⟩⟩) (by decide +kernel)) ggX5_isNo_X5_isIn
noncomputable def dz_p09_2 : List (Nat × Instr × Nat) := [(0, (.iload_n 0, 1)), (1, (.iconst 0, 1)), (2, (.bipush 7, 2)), (4, (.invokestatic 31, 3)), (7, (.ifCond .ne 7, 3)), (10, (.iconst 1, 1)), (11, (.goto 4, 3)), (14, (.iconst 0, 1)), (15, (.ireturn, 1))]
theorem dy_p09_2 : dz_ok cX5_isNo dz_p09_2 = true := by decide +kernel
theorem dX5_isNo_0 : decode cX5_isNo 0 = .ok (.iload_n 0, 1) := dz_at (i := 0) dy_p09_2 rfl
theorem dX5_isNo_1 : decode cX5_isNo 1 = .ok (.iconst 0, 1) := dz_at (i := 1) dy_p09_2 rfl
theorem dX5_isNo_2 : decode cX5_isNo 2 = .ok (.bipush 7, 2) := dz_at (i := 2) dy_p09_2 rfl
theorem dX5_isNo_4 : decode cX5_isNo 4 = .ok (.invokestatic 31, 3) := dz_at (i := 3) dy_p09_2 rfl
theorem dX5_isNo_7 : decode cX5_isNo 7 = .ok (.ifCond .ne 7, 3) := dz_at (i := 4) dy_p09_2 rfl
theorem dX5_isNo_10 : decode cX5_isNo 10 = .ok (.iconst 1, 1) := dz_at (i := 5) dy_p09_2 rfl
theorem dX5_isNo_11 : decode cX5_isNo 11 = .ok (.goto 4, 3) := dz_at (i := 6) dy_p09_2 rfl
theorem dX5_isNo_14 : decode cX5_isNo 14 = .ok (.iconst 0, 1) := dz_at (i := 7) dy_p09_2 rfl
theorem dX5_isNo_15 : decode cX5_isNo 15 = .ok (.ireturn, 1) := dz_at (i := 8) dy_p09_2 rfl
noncomputable def o_X5_isNo  (p0 : Int32) : Bool :=
  if (o_X5_isIn p0 0 7) = true then false
  else true
set_option maxHeartbeats 4000000 in
set_option maxRecDepth 100000 in
theorem k_X5_isNo (l : Launch) (dC : Nat → ClassId) (dI : Nat → Nat → Nat)  (sz : Nat) (p0 : Int32) : Met l yX5_isNo wsX5_isNo ({ frames := 1, cells := 0, slots := 0, locals := 22 }) (va_Pc [.int p0] (xB (dC, dI) xCl [] [] sz)) (va_Qi (fun (r : Int32) (_ : Unit) => r = b2i (o_X5_isNo p0)) (fun _ _ => True) (aN sz)) 0 0 (aN sz) := by
  refine Met.ofW (cc := cX5_isNo) (maxL := 1) (ret := (some .boolean)) (by decide +kernel) rfl ?_
  intro p e s m args below meth c s₁ B hml hv
  obtain ⟨rfl, hsz, hP, hK⟩ := hv
  have hx := B.exec
  have hb := B.bytes
  have hr := B.returns
  have hts := atoms_spec (ws := wsX5_isNo) B.pre
  have hown : s.vm.findClass RX5 = some m.cls := findClass_of_methodNamed B.named
  have hlocks := B.notSynchronized
  subst hsz
  have hA : ∀ q : Nat, s.heap.size ≤ q → aN s.heap.size q := fun _ h => h
  have hS : va_S (aN s.heap.size) s.heap s.heap [] := va_S.rf
  have hP : va_P (dC, dI) xCl [] s.heap := hP
  have hl := lv_entry ([.int p0]) (n := 1) (Nat.le_of_ble_eq_true rfl)
  rw [lg_entry_eq]
  generalize (lg_sl ([.int p0]) ++ List.replicate (1 - (lg_sl ([.int p0])).length) Slot.unset).toArray = ls at hl ⊢
  have hl : lv_has ls 1 [(0, .int p0)] := hl
  refine lv_iload_n hx hb dX5_isNo_0 rfl (lv_at hl 0 rfl) ?_
  refine lv_iconst (v := 0) hx hb dX5_isNo_1 (by decide +kernel) ?_
  refine lv_bipush (v := 7) hx hb dX5_isNo_2 (by decide +kernel) ?_
  have hPc := xP_nil (D := (dC, dI)) (cl := xCl) (H := s.heap)
  have hKc := hK.sub (tys' := []) [] rfl
  refine va_calli (va_runS (As := [.int p0, .int 0, .int 7]) (rest := []) ⟨hx, hb, hml, hown, hts⟩ (k_X5_isIn l dC dI s.heap.size p0 0 7) (va_cwS 3 hts gX5_isNo_X5_isIn rfl rfl rfl (by decide +kernel) ⟨Nat.le_of_ble_eq_true rfl, Nat.le_of_ble_eq_true rfl⟩) (xB.preS hKc hPc) rfl rfl hl.1 rfl (lv_room (Nat.le_of_ble_eq_true rfl)) dX5_isNo_4 ⟨Nat.le_of_ble_eq_true rfl, Nat.le_of_ble_eq_true rfl⟩) hS xA_old (fun q h => hA q (Nat.le_trans hS.1 h)) (fun r_1 u t H locs ht hvm hw hB hz hk hS => ?_)
  replace hw : r_1 = b2i (o_X5_isIn p0 0 7) := hw
  subst r_1
  have hP := xP_keep hP hk
  refine xz_ne (tgt := 14) hx hb dX5_isNo_7 (by decide +kernel) (fun c_2 => ?_) (fun c_2 => ?_)
  · skip
    refine lv_iconst (v := 0) hx hb dX5_isNo_14 (by decide +kernel) ?_
    have he : o_X5_isNo p0 = false := by (rw [o_X5_isNo, if_pos c_2]) <;> rfl
    refine W.widen (k := 0) (n := 0) (by omega) (by omega) ?_
    exact W.zret (v := 0) (ty := .boolean) hx hb hr rfl (fun t ht hW => ⟨⟨_, (), rfl, (by (rw [he]) <;> rfl), trivial⟩, hS.F ht⟩) hS.2.2 dX5_isNo_15
  · skip
    refine lv_iconst (v := 1) hx hb dX5_isNo_10 (by decide +kernel) ?_
    refine lv_goto (tgt := 15) hx hb dX5_isNo_11 (by decide +kernel) ?_
    have he : o_X5_isNo p0 = true := by (rw [o_X5_isNo, if_neg c_2]) <;> rfl
    refine W.widen (k := 0) (n := 0) (by omega) (by omega) ?_
    exact W.zret (v := 1) (ty := .boolean) hx hb hr rfl (fun t ht hW => ⟨⟨_, (), rfl, (by (rw [he]) <;> rfl), trivial⟩, hS.F ht⟩) hS.2.2 dX5_isNo_15
theorem cl_X5_areNo_1 : ∀ w ∈ [.methodLink RX5 35 yX5_isNo, .static yX5_isNo, .initialized RX5, .code yX5_isNo cX5_isNo 1 (some .boolean), .methodLink RX5 31 yX5_isIn, .static yX5_isIn, .code yX5_isIn cX5_isIn 3 (some .boolean)], w ∈ wsX5_areNo := fun _ h => (List.mem_cons_of_mem _ h)
set_option maxRecDepth 20000 in
theorem ggX5_areNo_X5_isNo : GoodIn wsX5_areNo wsX5_isNo := goodIn_sub (List.forall_mem_cons.mpr ⟨(cl_X5_areNo_1 _ (List.mem_of_getElem? (i := 3) rfl)), List.forall_mem_cons.mpr ⟨(cl_X5_areNo_1 _ (List.mem_of_getElem? (i := 4) rfl)), List.forall_mem_cons.mpr ⟨(cl_X5_areNo_1 _ (List.mem_of_getElem? (i := 5) rfl)), List.forall_mem_cons.mpr ⟨(cl_X5_areNo_1 _ (List.mem_of_getElem? (i := 2) rfl)), List.forall_mem_cons.mpr ⟨(cl_X5_areNo_1 _ (List.mem_of_getElem? (i := 6) rfl)), fun _ h => absurd h List.not_mem_nil⟩⟩⟩⟩⟩) (by decide +kernel)
set_option maxRecDepth 20000 in
theorem gX5_areNo_X5_isNo : GoodIn wsX5_areNo (va_wsS RX5 35 yX5_isNo wsX5_isNo) := goodIn_app (goodIn_sub (List.forall_mem_cons.mpr ⟨(cl_X5_areNo_1 _ (List.mem_of_getElem? (i := 0) rfl)), List.forall_mem_cons.mpr ⟨(cl_X5_areNo_1 _ (List.mem_of_getElem? (i := 1) rfl)), List.forall_mem_cons.mpr ⟨(cl_X5_areNo_1 _ (List.mem_of_getElem? (i := 2) rfl)), fun _ h => absurd h List.not_mem_nil⟩⟩⟩) (by decide +kernel)) ggX5_areNo_X5_isNo
noncomputable def dz_p09_3 : List (Nat × Instr × Nat) := [(0, (.iload_n 0, 1)), (1, (.invokestatic 35, 3)), (4, (.ifCond .ne 10, 3)), (7, (.iload_n 1, 1)), (8, (.invokestatic 35, 3)), (11, (.ifCond .eq 7, 3)), (14, (.iconst 1, 1)), (15, (.goto 4, 3)), (18, (.iconst 0, 1)), (19, (.ireturn, 1))]
theorem dy_p09_3 : dz_ok cX5_areNo dz_p09_3 = true := by decide +kernel
theorem dX5_areNo_0 : decode cX5_areNo 0 = .ok (.iload_n 0, 1) := dz_at (i := 0) dy_p09_3 rfl
theorem dX5_areNo_1 : decode cX5_areNo 1 = .ok (.invokestatic 35, 3) := dz_at (i := 1) dy_p09_3 rfl
theorem dX5_areNo_4 : decode cX5_areNo 4 = .ok (.ifCond .ne 10, 3) := dz_at (i := 2) dy_p09_3 rfl
theorem dX5_areNo_7 : decode cX5_areNo 7 = .ok (.iload_n 1, 1) := dz_at (i := 3) dy_p09_3 rfl
theorem dX5_areNo_8 : decode cX5_areNo 8 = .ok (.invokestatic 35, 3) := dz_at (i := 4) dy_p09_3 rfl
theorem dX5_areNo_11 : decode cX5_areNo 11 = .ok (.ifCond .eq 7, 3) := dz_at (i := 5) dy_p09_3 rfl
theorem dX5_areNo_14 : decode cX5_areNo 14 = .ok (.iconst 1, 1) := dz_at (i := 6) dy_p09_3 rfl
theorem dX5_areNo_15 : decode cX5_areNo 15 = .ok (.goto 4, 3) := dz_at (i := 7) dy_p09_3 rfl
theorem dX5_areNo_18 : decode cX5_areNo 18 = .ok (.iconst 0, 1) := dz_at (i := 8) dy_p09_3 rfl
theorem dX5_areNo_19 : decode cX5_areNo 19 = .ok (.ireturn, 1) := dz_at (i := 9) dy_p09_3 rfl
noncomputable def o_X5_areNo  (p0 : Int32) (p1 : Int32) : Bool :=
  if (o_X5_isNo p0) = true then true
  else if (o_X5_isNo p1) = true then true
  else false
set_option maxHeartbeats 4000000 in
set_option maxRecDepth 100000 in
theorem k_X5_areNo (l : Launch) (dC : Nat → ClassId) (dI : Nat → Nat → Nat)  (sz : Nat) (p0 : Int32) (p1 : Int32) : Met l yX5_areNo wsX5_areNo ({ frames := 2, cells := 0, slots := 0, locals := 42 }) (va_Pc [.int p0, .int p1] (xB (dC, dI) xCl [] [] sz)) (va_Qi (fun (r : Int32) (_ : Unit) => r = b2i (o_X5_areNo p0 p1)) (fun _ _ => True) (aN sz)) 0 0 (aN sz) := by
  refine Met.ofW (cc := cX5_areNo) (maxL := 2) (ret := (some .boolean)) (by decide +kernel) rfl ?_
  intro p e s m args below meth c s₁ B hml hv
  obtain ⟨rfl, hsz, hP, hK⟩ := hv
  have hx := B.exec
  have hb := B.bytes
  have hr := B.returns
  have hts := atoms_spec (ws := wsX5_areNo) B.pre
  have hown : s.vm.findClass RX5 = some m.cls := findClass_of_methodNamed B.named
  have hlocks := B.notSynchronized
  subst hsz
  have hA : ∀ q : Nat, s.heap.size ≤ q → aN s.heap.size q := fun _ h => h
  have hS : va_S (aN s.heap.size) s.heap s.heap [] := va_S.rf
  have hP : va_P (dC, dI) xCl [] s.heap := hP
  have hl := lv_entry ([.int p0, .int p1]) (n := 2) (Nat.le_of_ble_eq_true rfl)
  rw [lg_entry_eq]
  generalize (lg_sl ([.int p0, .int p1]) ++ List.replicate (2 - (lg_sl ([.int p0, .int p1])).length) Slot.unset).toArray = ls at hl ⊢
  have hl : lv_has ls 2 [(0, .int p0), (1, .int p1)] := hl
  refine lv_iload_n hx hb dX5_areNo_0 rfl (lv_at hl 0 rfl) ?_
  have hPc := xP_nil (D := (dC, dI)) (cl := xCl) (H := s.heap)
  have hKc := hK.sub (tys' := []) [] rfl
  refine va_calli (va_runS (As := [.int p0]) (rest := []) ⟨hx, hb, hml, hown, hts⟩ (k_X5_isNo l dC dI s.heap.size p0) (va_cwS 1 hts gX5_areNo_X5_isNo rfl rfl rfl (by decide +kernel) ⟨Nat.le_of_ble_eq_true rfl, Nat.le_of_ble_eq_true rfl⟩) (xB.preS hKc hPc) rfl rfl hl.1 rfl (lv_room (Nat.le_of_ble_eq_true rfl)) dX5_areNo_1 ⟨Nat.le_of_ble_eq_true rfl, Nat.le_of_ble_eq_true rfl⟩) hS xA_old (fun q h => hA q (Nat.le_trans hS.1 h)) (fun r_1 u t H locs ht hvm hw hB hz hk hS => ?_)
  replace hw : r_1 = b2i (o_X5_isNo p0) := hw
  subst r_1
  have hP := xP_keep hP hk
  refine xz_ne (tgt := 14) hx hb dX5_areNo_4 (by decide +kernel) (fun c_2 => ?_) (fun c_2 => ?_)
  · skip
    refine lv_iconst (v := 1) hx hb dX5_areNo_14 (by decide +kernel) ?_
    refine lv_goto (tgt := 19) hx hb dX5_areNo_15 (by decide +kernel) ?_
    have he : o_X5_areNo p0 p1 = true := by (rw [o_X5_areNo, if_pos c_2]) <;> rfl
    refine W.widen (k := 0) (n := 0) (by omega) (by omega) ?_
    exact W.zret (v := 1) (ty := .boolean) hx hb hr rfl (fun t ht hW => ⟨⟨_, (), rfl, (by (rw [he]) <;> rfl), trivial⟩, hS.F ht⟩) hS.2.2 dX5_areNo_19
  · skip
    refine lv_iload_n hx hb dX5_areNo_7 rfl (lv_at hl 1 rfl) ?_
    have hPc := xP_nil (D := (dC, dI)) (cl := xCl) (H := H)
    have hKc := hK.sub (tys' := []) [] rfl
    refine va_calli (va_runS (As := [.int p1]) (rest := []) ⟨hx, hb, hml, hown, hts⟩ (k_X5_isNo l dC dI H.size p1) (va_cwS 1 hts gX5_areNo_X5_isNo rfl rfl rfl (by decide +kernel) ⟨Nat.le_of_ble_eq_true rfl, Nat.le_of_ble_eq_true rfl⟩) (xB.preS hKc hPc) rfl rfl hl.1 rfl (lv_room (Nat.le_of_ble_eq_true rfl)) dX5_areNo_8 ⟨Nat.le_of_ble_eq_true rfl, Nat.le_of_ble_eq_true rfl⟩) hS xA_old (fun q h => hA q (Nat.le_trans hS.1 h)) (fun r_3 u t H locs ht hvm hw hB hz hk hS => ?_)
    replace hw : r_3 = b2i (o_X5_isNo p1) := hw
    subst r_3
    have hP := xP_keep hP hk
    refine xz_eq (tgt := 18) hx hb dX5_areNo_11 (by decide +kernel) (fun c_4 => ?_) (fun c_4 => ?_)
    · skip
      refine lv_iconst (v := 0) hx hb dX5_areNo_18 (by decide +kernel) ?_
      have he : o_X5_areNo p0 p1 = false := by (rw [o_X5_areNo, if_neg c_2, if_neg c_4]) <;> rfl
      refine W.widen (k := 0) (n := 0) (by omega) (by omega) ?_
      exact W.zret (v := 0) (ty := .boolean) hx hb hr rfl (fun t ht hW => ⟨⟨_, (), rfl, (by (rw [he]) <;> rfl), trivial⟩, hS.F ht⟩) hS.2.2 dX5_areNo_19
    · skip
      refine lv_iconst (v := 1) hx hb dX5_areNo_14 (by decide +kernel) ?_
      refine lv_goto (tgt := 19) hx hb dX5_areNo_15 (by decide +kernel) ?_
      have he : o_X5_areNo p0 p1 = true := by (rw [o_X5_areNo, if_neg c_2, if_pos c_4]) <;> rfl
      refine W.widen (k := 0) (n := 0) (by omega) (by omega) ?_
      exact W.zret (v := 1) (ty := .boolean) hx hb hr rfl (fun t ht hW => ⟨⟨_, (), rfl, (by (rw [he]) <;> rfl), trivial⟩, hS.F ht⟩) hS.2.2 dX5_areNo_19
noncomputable def dz_p09_4 : List (Nat × Instr × Nat) := [(0, (.iload_n 0, 1)), (1, (.ifCond .eq 7, 3)), (4, (.iconst 1, 1)), (5, (.goto 4, 3)), (8, (.iconst 0, 1)), (9, (.ireturn, 1))]
theorem dy_p09_4 : dz_ok cX5_one dz_p09_4 = true := by decide +kernel
theorem dX5_one_0 : decode cX5_one 0 = .ok (.iload_n 0, 1) := dz_at (i := 0) dy_p09_4 rfl
theorem dX5_one_1 : decode cX5_one 1 = .ok (.ifCond .eq 7, 3) := dz_at (i := 1) dy_p09_4 rfl
theorem dX5_one_4 : decode cX5_one 4 = .ok (.iconst 1, 1) := dz_at (i := 2) dy_p09_4 rfl
theorem dX5_one_5 : decode cX5_one 5 = .ok (.goto 4, 3) := dz_at (i := 3) dy_p09_4 rfl
theorem dX5_one_8 : decode cX5_one 8 = .ok (.iconst 0, 1) := dz_at (i := 4) dy_p09_4 rfl
theorem dX5_one_9 : decode cX5_one 9 = .ok (.ireturn, 1) := dz_at (i := 5) dy_p09_4 rfl
noncomputable def o_X5_one  (p0 : Bool) : Int32 :=
  if p0 = true then 1
  else 0
set_option maxHeartbeats 4000000 in
set_option maxRecDepth 100000 in
theorem k_X5_one (l : Launch) (dC : Nat → ClassId) (dI : Nat → Nat → Nat)  (sz : Nat) (p0 : Bool) : Met l yX5_one wsX5_one ({ frames := 0, cells := 0, slots := 0, locals := 0 }) (va_Pc [.int (b2i p0)] (xB (dC, dI) xCl [] [] sz)) (va_Qi (fun (r : Int32) (_ : Unit) => r = (o_X5_one p0)) (fun _ _ => True) (aN sz)) 0 0 (aN sz) := by
  refine Met.ofW (cc := cX5_one) (maxL := 1) (ret := (some .int)) (by decide +kernel) rfl ?_
  intro p e s m args below meth c s₁ B hml hv
  obtain ⟨rfl, hsz, hP, hK⟩ := hv
  have hx := B.exec
  have hb := B.bytes
  have hr := B.returns
  have hts := atoms_spec (ws := wsX5_one) B.pre
  have hown : s.vm.findClass RX5 = some m.cls := findClass_of_methodNamed B.named
  have hlocks := B.notSynchronized
  subst hsz
  have hA : ∀ q : Nat, s.heap.size ≤ q → aN s.heap.size q := fun _ h => h
  have hS : va_S (aN s.heap.size) s.heap s.heap [] := va_S.rf
  have hP : va_P (dC, dI) xCl [] s.heap := hP
  have hl := lv_entry ([.int (b2i p0)]) (n := 1) (Nat.le_of_ble_eq_true rfl)
  rw [lg_entry_eq]
  generalize (lg_sl ([.int (b2i p0)]) ++ List.replicate (1 - (lg_sl ([.int (b2i p0)])).length) Slot.unset).toArray = ls at hl ⊢
  have hl : lv_has ls 1 [(0, .int (b2i p0))] := hl
  refine lv_iload_n hx hb dX5_one_0 rfl (lv_at hl 0 rfl) ?_
  refine xz_eq (tgt := 8) hx hb dX5_one_1 (by decide +kernel) (fun c_1 => ?_) (fun c_1 => ?_)
  · skip
    refine lv_iconst (v := 0) hx hb dX5_one_8 (by decide +kernel) ?_
    have he : o_X5_one p0 = 0 := by (rw [o_X5_one, if_neg c_1]) <;> rfl
    refine W.widen (k := 0) (n := 0) (by omega) (by omega) ?_
    exact W.iret (v := 0) hx hb hr (fun t ht hW => ⟨⟨_, (), rfl, (by (rw [he]) <;> rfl), trivial⟩, hS.F ht⟩) hS.2.2 dX5_one_9
  · skip
    refine lv_iconst (v := 1) hx hb dX5_one_4 (by decide +kernel) ?_
    refine lv_goto (tgt := 9) hx hb dX5_one_5 (by decide +kernel) ?_
    have he : o_X5_one p0 = 1 := by (rw [o_X5_one, if_pos c_1]) <;> rfl
    refine W.widen (k := 0) (n := 0) (by omega) (by omega) ?_
    exact W.iret (v := 1) hx hb hr (fun t ht hW => ⟨⟨_, (), rfl, (by (rw [he]) <;> rfl), trivial⟩, hS.F ht⟩) hS.2.2 dX5_one_9
noncomputable def dz_p09_5 : List (Nat × Instr × Nat) := [(0, (.lload_n 0, 1)), (1, (.ldc2_w 200, 3)), (4, (.lmul, 1)), (5, (.lload_n 2, 1)), (6, (.ladd, 1)), (7, (.lreturn, 1))]
theorem dy_p09_5 : dz_ok cX5_add dz_p09_5 = true := by decide +kernel
theorem dX5_add_0 : decode cX5_add 0 = .ok (.lload_n 0, 1) := dz_at (i := 0) dy_p09_5 rfl
theorem dX5_add_1 : decode cX5_add 1 = .ok (.ldc2_w 200, 3) := dz_at (i := 1) dy_p09_5 rfl
theorem dX5_add_4 : decode cX5_add 4 = .ok (.lmul, 1) := dz_at (i := 2) dy_p09_5 rfl
theorem dX5_add_5 : decode cX5_add 5 = .ok (.lload_n 2, 1) := dz_at (i := 3) dy_p09_5 rfl
theorem dX5_add_6 : decode cX5_add 6 = .ok (.ladd, 1) := dz_at (i := 4) dy_p09_5 rfl
theorem dX5_add_7 : decode cX5_add 7 = .ok (.lreturn, 1) := dz_at (i := 5) dy_p09_5 rfl
noncomputable def o_X5_add  (p0 : Int64) (p1 : Int64) : Int64 :=
  ((p0 * 31) + p1)
set_option maxHeartbeats 4000000 in
set_option maxRecDepth 100000 in
theorem k_X5_add (l : Launch) (dC : Nat → ClassId) (dI : Nat → Nat → Nat)  (sz : Nat) (p0 : Int64) (p1 : Int64) : Met l yX5_add wsX5_add ({ frames := 0, cells := 0, slots := 0, locals := 0 }) (va_Pc [.long p0, .long p1] (xB (dC, dI) xCl [] [] sz)) (va_Ql (fun (r : Int64) (_ : Unit) => r = (o_X5_add p0 p1)) (fun _ _ => True) (aN sz)) 0 0 (aN sz) := by
  refine Met.ofW (cc := cX5_add) (maxL := 4) (ret := (some .long)) (by decide +kernel) rfl ?_
  intro p e s m args below meth c s₁ B hml hv
  obtain ⟨rfl, hsz, hP, hK⟩ := hv
  have hx := B.exec
  have hb := B.bytes
  have hr := B.returns
  have hts := atoms_spec (ws := wsX5_add) B.pre
  have hown : s.vm.findClass RX5 = some m.cls := findClass_of_methodNamed B.named
  have hlocks := B.notSynchronized
  subst hsz
  have hA : ∀ q : Nat, s.heap.size ≤ q → aN s.heap.size q := fun _ h => h
  have hS : va_S (aN s.heap.size) s.heap s.heap [] := va_S.rf
  have hP : va_P (dC, dI) xCl [] s.heap := hP
  have hl := lv_entry ([.long p0, .long p1]) (n := 4) (Nat.le_of_ble_eq_true rfl)
  rw [lg_entry_eq]
  generalize (lg_sl ([.long p0, .long p1]) ++ List.replicate (4 - (lg_sl ([.long p0, .long p1])).length) Slot.unset).toArray = ls at hl ⊢
  have hl : lv_has ls 4 [(0, .long p0), (2, .long p1)] := hl
  refine lv_lload_n hx hb dX5_add_0 rfl (lv_at hl 0 rfl) ?_
  refine lv_ldc2 (own := RX5) (index := 200) (v := 31) hx hb hown (hts (.constantLong RX5 200 (31)) (by decide +kernel)) dX5_add_1 ?_
  refine lv_lmul hx hb dX5_add_4 ?_
  refine lv_lload_n hx hb dX5_add_5 rfl (lv_at hl 1 rfl) ?_
  refine lv_ladd hx hb dX5_add_6 ?_
  have he : o_X5_add p0 p1 = ((p0 * 31) + p1) := by (rw [o_X5_add]) <;> rfl
  refine W.widen (k := 0) (n := 0) (by omega) (by omega) ?_
  exact W.lret (v := ((p0 * 31) + p1)) hx hb hr (fun t ht hW => ⟨⟨_, (), rfl, (by (rw [he]) <;> rfl), trivial⟩, hS.F ht⟩) hS.2.2 dX5_add_7
noncomputable def dz_p09_6 : List (Nat × Instr × Nat) := [(0, (.aload_n 0, 1)), (1, (.getfield 27, 3)), (4, (.ireturn, 1))]
theorem dy_p09_6 : dz_ok cX5_thrown dz_p09_6 = true := by decide +kernel
theorem dX5_thrown_0 : decode cX5_thrown 0 = .ok (.aload_n 0, 1) := dz_at (i := 0) dy_p09_6 rfl
theorem dX5_thrown_1 : decode cX5_thrown 1 = .ok (.getfield 27, 3) := dz_at (i := 1) dy_p09_6 rfl
theorem dX5_thrown_4 : decode cX5_thrown 4 = .ok (.ireturn, 1) := dz_at (i := 2) dy_p09_6 rfl
noncomputable def o_X5_thrown (th : Int32)  : Int32 :=
  th
set_option maxHeartbeats 4000000 in
set_option maxRecDepth 100000 in
theorem k_X5_thrown (l : Launch) (dC : Nat → ClassId) (dI : Nat → Nat → Nat) (h0 : Nat) (h1 : Nat) (h2 : Nat) (th : Int32) (rf : Int32) (kn : Int32) (sz : Nat)  : Met l yX5_thrown wsX5_thrown ({ frames := 0, cells := 0, slots := 0, locals := 0 }) (va_Pc [.ref h0] (xB (dC, dI) xCl [(h0, eM h1 h2 th rf kn)] [] sz)) (va_Qi (fun (r : Int32) (_ : Unit) => r = (o_X5_thrown th)) (fun _ _ => True) (aN sz)) 0 0 (aN sz) := by
  refine Met.ofW (cc := cX5_thrown) (maxL := 1) (ret := (some .int)) (by decide +kernel) rfl ?_
  intro p e s m args below meth c s₁ B hml hv
  obtain ⟨rfl, hsz, hP, hK⟩ := hv
  have hx := B.exec
  have hb := B.bytes
  have hr := B.returns
  have hts := atoms_spec (ws := wsX5_thrown) B.pre
  have hown : s.vm.findClass RX5 = some m.cls := findClass_of_methodNamed B.named
  have hlocks := B.notSynchronized
  subst hsz
  have hA : ∀ q : Nat, s.heap.size ≤ q → aN s.heap.size q := fun _ h => h
  have hS : va_S (aN s.heap.size) s.heap s.heap [] := va_S.rf
  have hP : va_P (dC, dI) xCl [(h0, eM h1 h2 th rf kn)] s.heap := hP
  have hl := lv_entry ([.ref h0]) (n := 1) (Nat.le_of_ble_eq_true rfl)
  rw [lg_entry_eq]
  generalize (lg_sl ([.ref h0]) ++ List.replicate (1 - (lg_sl ([.ref h0])).length) Slot.unset).toArray = ls at hl ⊢
  have hl : lv_has ls 1 [(0, .ref h0)] := hl
  refine lv_aload_n hx hb dX5_thrown_0 rfl (lv_at hl 0 rfl) ?_
  refine va_get (D := (dC, dI)) (ci := 7) (v := .int th) (C := RX5) (T := TX5) (N := 5) hx hb hts (by decide +kernel) hown hK hP 0 rfl rfl 2 (by decide +kernel) (hts (.fieldLink RX5 27 "EdgefloatsModel" "thrown" "I") (by decide +kernel)) (fun _ h9 => h9) rfl dX5_thrown_1 ?_
  have he : o_X5_thrown th = th := by (rw [o_X5_thrown]) <;> rfl
  refine W.widen (k := 0) (n := 0) (by omega) (by omega) ?_
  exact W.iret (v := th) hx hb hr (fun t ht hW => ⟨⟨_, (), rfl, (by (rw [he]) <;> rfl), trivial⟩, hS.F ht⟩) hS.2.2 dX5_thrown_4
noncomputable def dz_p09_7 : List (Nat × Instr × Nat) := [(0, (.aload_n 0, 1)), (1, (.iload_n 1, 1)), (2, (.ifCond .eq 7, 3)), (5, (.iconst 1, 1)), (6, (.goto 12, 3)), (9, (.iload_n 2, 1)), (10, (.ifCond .eq 7, 3)), (13, (.iconst 2, 1)), (14, (.goto 4, 3)), (17, (.iconst 0, 1)), (18, (.putfield 27, 3)), (21, (.aload_n 0, 1)), (22, (.getfield 27, 3)), (25, (.ifCond .le 7, 3)), (28, (.iconst 1, 1)), (29, (.goto 4, 3)), (32, (.iconst 0, 1)), (33, (.ireturn, 1))]
theorem dy_p09_7 : dz_ok cX5_fails dz_p09_7 = true := by decide +kernel
theorem dX5_fails_0 : decode cX5_fails 0 = .ok (.aload_n 0, 1) := dz_at (i := 0) dy_p09_7 rfl
theorem dX5_fails_1 : decode cX5_fails 1 = .ok (.iload_n 1, 1) := dz_at (i := 1) dy_p09_7 rfl
theorem dX5_fails_2 : decode cX5_fails 2 = .ok (.ifCond .eq 7, 3) := dz_at (i := 2) dy_p09_7 rfl
theorem dX5_fails_5 : decode cX5_fails 5 = .ok (.iconst 1, 1) := dz_at (i := 3) dy_p09_7 rfl
theorem dX5_fails_6 : decode cX5_fails 6 = .ok (.goto 12, 3) := dz_at (i := 4) dy_p09_7 rfl
theorem dX5_fails_9 : decode cX5_fails 9 = .ok (.iload_n 2, 1) := dz_at (i := 5) dy_p09_7 rfl
theorem dX5_fails_10 : decode cX5_fails 10 = .ok (.ifCond .eq 7, 3) := dz_at (i := 6) dy_p09_7 rfl
theorem dX5_fails_13 : decode cX5_fails 13 = .ok (.iconst 2, 1) := dz_at (i := 7) dy_p09_7 rfl
theorem dX5_fails_14 : decode cX5_fails 14 = .ok (.goto 4, 3) := dz_at (i := 8) dy_p09_7 rfl
theorem dX5_fails_17 : decode cX5_fails 17 = .ok (.iconst 0, 1) := dz_at (i := 9) dy_p09_7 rfl
theorem dX5_fails_18 : decode cX5_fails 18 = .ok (.putfield 27, 3) := dz_at (i := 10) dy_p09_7 rfl
theorem dX5_fails_21 : decode cX5_fails 21 = .ok (.aload_n 0, 1) := dz_at (i := 11) dy_p09_7 rfl
theorem dX5_fails_22 : decode cX5_fails 22 = .ok (.getfield 27, 3) := dz_at (i := 12) dy_p09_7 rfl
theorem dX5_fails_25 : decode cX5_fails 25 = .ok (.ifCond .le 7, 3) := dz_at (i := 13) dy_p09_7 rfl
theorem dX5_fails_28 : decode cX5_fails 28 = .ok (.iconst 1, 1) := dz_at (i := 14) dy_p09_7 rfl
theorem dX5_fails_29 : decode cX5_fails 29 = .ok (.goto 4, 3) := dz_at (i := 15) dy_p09_7 rfl
theorem dX5_fails_32 : decode cX5_fails 32 = .ok (.iconst 0, 1) := dz_at (i := 16) dy_p09_7 rfl
theorem dX5_fails_33 : decode cX5_fails 33 = .ok (.ireturn, 1) := dz_at (i := 17) dy_p09_7 rfl
noncomputable def o_X5_fails  (p0 : Bool) (p1 : Bool) : Bool × Int32 :=
  if p0 = true then (true, 1)
  else if p1 = true then (true, 2)
  else (false, 0)
set_option maxHeartbeats 4000000 in
set_option maxRecDepth 100000 in
theorem k_X5_fails (l : Launch) (dC : Nat → ClassId) (dI : Nat → Nat → Nat) (h0 : Nat) (h1 : Nat) (h2 : Nat) (th : Int32) (rf : Int32) (kn : Int32) (sz : Nat) (N : Nat) (p0 : Bool) (p1 : Bool) : Met l yX5_fails wsX5_fails ({ frames := 0, cells := 0, slots := 0, locals := 0 }) (va_Pc [.ref h0, .int (b2i p0), .int (b2i p1)] (xM (dC, dI) xCl [(h0, eM h1 h2 th rf kn)] [] sz N)) (va_Qi (fun (r : Int32) (_ : Unit) => r = b2i ((o_X5_fails p0 p1).1)) (fun _ t => xW (dC, dI) xCl [(h0, eM h1 h2 (o_X5_fails p0 p1).2 rf kn)] (va_A [(h0, eM h1 h2 th rf kn)] sz) t) (va_A [(h0, eM h1 h2 th rf kn)] sz)) 0 0 (va_A [(h0, eM h1 h2 th rf kn)] sz) := by
  refine Met.ofW (cc := cX5_fails) (maxL := 3) (ret := (some .boolean)) (by decide +kernel) rfl ?_
  intro p e s m args below meth c s₁ B hml hv
  obtain ⟨rfl, hsz, hP, hK, hD0, hN, hG⟩ := hv
  have hx := B.exec
  have hb := B.bytes
  have hr := B.returns
  have hts := atoms_spec (ws := wsX5_fails) B.pre
  have hown : s.vm.findClass RX5 = some m.cls := findClass_of_methodNamed B.named
  have hlocks := B.notSynchronized
  subst hsz
  have hAN : ∀ q, va_A [(h0, eM h1 h2 th rf kn)] s.heap.size q → N ≤ q := xA_N hD0 hN
  have hD := hD0.self (sz := s.heap.size)
  generalize hAe : va_A [(h0, eM h1 h2 th rf kn)] s.heap.size = A at hD hAN ⊢
  have hA : ∀ q : Nat, s.heap.size ≤ q → A q := fun q h => by rw [← hAe]; exact Or.inr h
  have hS : va_S A s.heap s.heap [] := va_S.rf
  have hP : va_P (dC, dI) xCl [(h0, eM h1 h2 th rf kn)] s.heap := hP
  have hl := lv_entry ([.ref h0, .int (b2i p0), .int (b2i p1)]) (n := 3) (Nat.le_of_ble_eq_true rfl)
  rw [lg_entry_eq]
  generalize (lg_sl ([.ref h0, .int (b2i p0), .int (b2i p1)]) ++ List.replicate (3 - (lg_sl ([.ref h0, .int (b2i p0), .int (b2i p1)])).length) Slot.unset).toArray = ls at hl ⊢
  have hl : lv_has ls 3 [(0, .ref h0), (1, .int (b2i p0)), (2, .int (b2i p1))] := hl
  refine lv_aload_n hx hb dX5_fails_0 rfl (lv_at hl 0 rfl) ?_
  refine lv_iload_n hx hb dX5_fails_1 rfl (lv_at hl 1 rfl) ?_
  refine xz_eq (tgt := 9) hx hb dX5_fails_2 (by decide +kernel) (fun c_1 => ?_) (fun c_1 => ?_)
  · skip
    refine lv_iload_n hx hb dX5_fails_9 rfl (lv_at hl 2 rfl) ?_
    refine xz_eq (tgt := 17) hx hb dX5_fails_10 (by decide +kernel) (fun c_2 => ?_) (fun c_2 => ?_)
    · skip
      refine lv_iconst (v := 0) hx hb dX5_fails_17 (by decide +kernel) ?_
      refine va_put (D := (dC, dI)) (ci := 7) (v := .int 0) (ty := .int) (C := RX5) (T := TX5) (N := 5) hx hb hts (by decide +kernel) tyX5 tyX5_ok nmX5 hown hK hP hD hS 0 rfl rfl 2 (by decide +kernel) (hts (.fieldLink RX5 27 "EdgefloatsModel" "thrown" "I") (by decide +kernel)) (fun _ h9 => h9) rfl (by decide +kernel) rfl rfl (Nat.le_of_ble_eq_true rfl) dX5_fails_18 (fun H locs hP hD hS => ?_)
      have hP : va_P (dC, dI) xCl [(h0, eM h1 h2 0 rf kn)] H := hP
      have hD : va_D A [(h0, eM h1 h2 0 rf kn)] := hD
      refine lv_aload_n hx hb dX5_fails_21 rfl (lv_at hl 0 rfl) ?_
      refine va_get (D := (dC, dI)) (ci := 7) (v := .int 0) (C := RX5) (T := TX5) (N := 5) hx hb hts (by decide +kernel) hown hK hP 0 rfl rfl 2 (by decide +kernel) (hts (.fieldLink RX5 27 "EdgefloatsModel" "thrown" "I") (by decide +kernel)) (fun _ h9 => h9) rfl dX5_fails_22 ?_
      refine lv_if_le (tgt := 32) hx hb dX5_fails_25 (by decide +kernel) (fun _ => ?_) (fun c9 => absurd c9 (by decide +kernel))
      refine lv_iconst (v := 0) hx hb dX5_fails_32 (by decide +kernel) ?_
      have he : o_X5_fails p0 p1 = (false, 0) := by (rw [o_X5_fails, if_neg c_1, if_neg c_2]) <;> rfl
      refine W.widen (k := 0) (n := 0) (by omega) (by omega) ?_
      exact W.zret (v := 0) (ty := .boolean) hx hb hr rfl (fun t ht hW => ⟨⟨_, (), rfl, (by (rw [he]) <;> rfl), (by rw [he]; exact ⟨by rw [ht]; exact hP, hD⟩)⟩, hS.F ht⟩) hS.2.2 dX5_fails_33
    · skip
      refine lv_iconst (v := 2) hx hb dX5_fails_13 (by decide +kernel) ?_
      refine lv_goto (tgt := 18) hx hb dX5_fails_14 (by decide +kernel) ?_
      refine va_put (D := (dC, dI)) (ci := 7) (v := .int 2) (ty := .int) (C := RX5) (T := TX5) (N := 5) hx hb hts (by decide +kernel) tyX5 tyX5_ok nmX5 hown hK hP hD hS 0 rfl rfl 2 (by decide +kernel) (hts (.fieldLink RX5 27 "EdgefloatsModel" "thrown" "I") (by decide +kernel)) (fun _ h9 => h9) rfl (by decide +kernel) rfl rfl (Nat.le_of_ble_eq_true rfl) dX5_fails_18 (fun H locs hP hD hS => ?_)
      have hP : va_P (dC, dI) xCl [(h0, eM h1 h2 2 rf kn)] H := hP
      have hD : va_D A [(h0, eM h1 h2 2 rf kn)] := hD
      refine lv_aload_n hx hb dX5_fails_21 rfl (lv_at hl 0 rfl) ?_
      refine va_get (D := (dC, dI)) (ci := 7) (v := .int 2) (C := RX5) (T := TX5) (N := 5) hx hb hts (by decide +kernel) hown hK hP 0 rfl rfl 2 (by decide +kernel) (hts (.fieldLink RX5 27 "EdgefloatsModel" "thrown" "I") (by decide +kernel)) (fun _ h9 => h9) rfl dX5_fails_22 ?_
      refine lv_if_le (tgt := 32) hx hb dX5_fails_25 (by decide +kernel) (fun c9 => absurd c9 (by decide +kernel)) (fun _ => ?_)
      refine lv_iconst (v := 1) hx hb dX5_fails_28 (by decide +kernel) ?_
      refine lv_goto (tgt := 33) hx hb dX5_fails_29 (by decide +kernel) ?_
      have he : o_X5_fails p0 p1 = (true, 2) := by (rw [o_X5_fails, if_neg c_1, if_pos c_2]) <;> rfl
      refine W.widen (k := 0) (n := 0) (by omega) (by omega) ?_
      exact W.zret (v := 1) (ty := .boolean) hx hb hr rfl (fun t ht hW => ⟨⟨_, (), rfl, (by (rw [he]) <;> rfl), (by rw [he]; exact ⟨by rw [ht]; exact hP, hD⟩)⟩, hS.F ht⟩) hS.2.2 dX5_fails_33
  · skip
    refine lv_iconst (v := 1) hx hb dX5_fails_5 (by decide +kernel) ?_
    refine lv_goto (tgt := 18) hx hb dX5_fails_6 (by decide +kernel) ?_
    refine va_put (D := (dC, dI)) (ci := 7) (v := .int 1) (ty := .int) (C := RX5) (T := TX5) (N := 5) hx hb hts (by decide +kernel) tyX5 tyX5_ok nmX5 hown hK hP hD hS 0 rfl rfl 2 (by decide +kernel) (hts (.fieldLink RX5 27 "EdgefloatsModel" "thrown" "I") (by decide +kernel)) (fun _ h9 => h9) rfl (by decide +kernel) rfl rfl (Nat.le_of_ble_eq_true rfl) dX5_fails_18 (fun H locs hP hD hS => ?_)
    have hP : va_P (dC, dI) xCl [(h0, eM h1 h2 1 rf kn)] H := hP
    have hD : va_D A [(h0, eM h1 h2 1 rf kn)] := hD
    refine lv_aload_n hx hb dX5_fails_21 rfl (lv_at hl 0 rfl) ?_
    refine va_get (D := (dC, dI)) (ci := 7) (v := .int 1) (C := RX5) (T := TX5) (N := 5) hx hb hts (by decide +kernel) hown hK hP 0 rfl rfl 2 (by decide +kernel) (hts (.fieldLink RX5 27 "EdgefloatsModel" "thrown" "I") (by decide +kernel)) (fun _ h9 => h9) rfl dX5_fails_22 ?_
    refine lv_if_le (tgt := 32) hx hb dX5_fails_25 (by decide +kernel) (fun c9 => absurd c9 (by decide +kernel)) (fun _ => ?_)
    refine lv_iconst (v := 1) hx hb dX5_fails_28 (by decide +kernel) ?_
    refine lv_goto (tgt := 33) hx hb dX5_fails_29 (by decide +kernel) ?_
    have he : o_X5_fails p0 p1 = (true, 1) := by (rw [o_X5_fails, if_pos c_1]) <;> rfl
    refine W.widen (k := 0) (n := 0) (by omega) (by omega) ?_
    exact W.zret (v := 1) (ty := .boolean) hx hb hr rfl (fun t ht hW => ⟨⟨_, (), rfl, (by (rw [he]) <;> rfl), (by rw [he]; exact ⟨by rw [ht]; exact hP, hD⟩)⟩, hS.F ht⟩) hS.2.2 dX5_fails_33
noncomputable def dz_p09_8 : List (Nat × Instr × Nat) := [(0, (.aload_n 0, 1)), (1, (.dup, 1)), (2, (.getfield 39, 3)), (5, (.iconst 1, 1)), (6, (.iadd, 1)), (7, (.putfield 39, 3)), (10, (.bipush (-9), 2)), (12, (.ireturn, 1))]
theorem dy_p09_8 : dz_ok cX5_refuse dz_p09_8 = true := by decide +kernel
theorem dX5_refuse_0 : decode cX5_refuse 0 = .ok (.aload_n 0, 1) := dz_at (i := 0) dy_p09_8 rfl
theorem dX5_refuse_1 : decode cX5_refuse 1 = .ok (.dup, 1) := dz_at (i := 1) dy_p09_8 rfl
theorem dX5_refuse_2 : decode cX5_refuse 2 = .ok (.getfield 39, 3) := dz_at (i := 2) dy_p09_8 rfl
theorem dX5_refuse_5 : decode cX5_refuse 5 = .ok (.iconst 1, 1) := dz_at (i := 3) dy_p09_8 rfl
theorem dX5_refuse_6 : decode cX5_refuse 6 = .ok (.iadd, 1) := dz_at (i := 4) dy_p09_8 rfl
theorem dX5_refuse_7 : decode cX5_refuse 7 = .ok (.putfield 39, 3) := dz_at (i := 5) dy_p09_8 rfl
theorem dX5_refuse_10 : decode cX5_refuse 10 = .ok (.bipush (-9), 2) := dz_at (i := 6) dy_p09_8 rfl
theorem dX5_refuse_12 : decode cX5_refuse 12 = .ok (.ireturn, 1) := dz_at (i := 7) dy_p09_8 rfl
noncomputable def o_X5_refuse (rf : Int32)  : Int32 × Int32 :=
  ((-9), (rf + 1))
set_option maxHeartbeats 4000000 in
set_option maxRecDepth 100000 in
theorem k_X5_refuse (l : Launch) (dC : Nat → ClassId) (dI : Nat → Nat → Nat) (h0 : Nat) (h1 : Nat) (h2 : Nat) (th : Int32) (rf : Int32) (kn : Int32) (sz : Nat) (N : Nat)  : Met l yX5_refuse wsX5_refuse ({ frames := 0, cells := 0, slots := 0, locals := 0 }) (va_Pc [.ref h0] (xM (dC, dI) xCl [(h0, eM h1 h2 th rf kn)] [] sz N)) (va_Qi (fun (r : Int32) (_ : Unit) => r = (o_X5_refuse rf).1) (fun _ t => xW (dC, dI) xCl [(h0, eM h1 h2 th (o_X5_refuse rf).2 kn)] (va_A [(h0, eM h1 h2 th rf kn)] sz) t) (va_A [(h0, eM h1 h2 th rf kn)] sz)) 0 0 (va_A [(h0, eM h1 h2 th rf kn)] sz) := by
  refine Met.ofW (cc := cX5_refuse) (maxL := 1) (ret := (some .int)) (by decide +kernel) rfl ?_
  intro p e s m args below meth c s₁ B hml hv
  obtain ⟨rfl, hsz, hP, hK, hD0, hN, hG⟩ := hv
  have hx := B.exec
  have hb := B.bytes
  have hr := B.returns
  have hts := atoms_spec (ws := wsX5_refuse) B.pre
  have hown : s.vm.findClass RX5 = some m.cls := findClass_of_methodNamed B.named
  have hlocks := B.notSynchronized
  subst hsz
  have hAN : ∀ q, va_A [(h0, eM h1 h2 th rf kn)] s.heap.size q → N ≤ q := xA_N hD0 hN
  have hD := hD0.self (sz := s.heap.size)
  generalize hAe : va_A [(h0, eM h1 h2 th rf kn)] s.heap.size = A at hD hAN ⊢
  have hA : ∀ q : Nat, s.heap.size ≤ q → A q := fun q h => by rw [← hAe]; exact Or.inr h
  have hS : va_S A s.heap s.heap [] := va_S.rf
  have hP : va_P (dC, dI) xCl [(h0, eM h1 h2 th rf kn)] s.heap := hP
  have hl := lv_entry ([.ref h0]) (n := 1) (Nat.le_of_ble_eq_true rfl)
  rw [lg_entry_eq]
  generalize (lg_sl ([.ref h0]) ++ List.replicate (1 - (lg_sl ([.ref h0])).length) Slot.unset).toArray = ls at hl ⊢
  have hl : lv_has ls 1 [(0, .ref h0)] := hl
  refine lv_aload_n hx hb dX5_refuse_0 rfl (lv_at hl 0 rfl) ?_
  refine lv_dup hx hb dX5_refuse_1 rfl ?_
  refine va_get (D := (dC, dI)) (ci := 7) (v := .int rf) (C := RX5) (T := TX5) (N := 5) hx hb hts (by decide +kernel) hown hK hP 0 rfl rfl 3 (by decide +kernel) (hts (.fieldLink RX5 39 "EdgefloatsModel" "refused" "I") (by decide +kernel)) (fun _ h9 => h9) rfl dX5_refuse_2 ?_
  refine lv_iconst (v := 1) hx hb dX5_refuse_5 (by decide +kernel) ?_
  refine lv_iadd hx hb dX5_refuse_6 ?_
  refine va_put (D := (dC, dI)) (ci := 7) (v := .int (rf + 1)) (ty := .int) (C := RX5) (T := TX5) (N := 5) hx hb hts (by decide +kernel) tyX5 tyX5_ok nmX5 hown hK hP hD hS 0 rfl rfl 3 (by decide +kernel) (hts (.fieldLink RX5 39 "EdgefloatsModel" "refused" "I") (by decide +kernel)) (fun _ h9 => h9) rfl (by decide +kernel) rfl rfl (Nat.le_of_ble_eq_true rfl) dX5_refuse_7 (fun H locs hP hD hS => ?_)
  have hP : va_P (dC, dI) xCl [(h0, eM h1 h2 th (rf + 1) kn)] H := hP
  have hD : va_D A [(h0, eM h1 h2 th (rf + 1) kn)] := hD
  refine lv_bipush (v := (-9)) hx hb dX5_refuse_10 (by decide +kernel) ?_
  have he : o_X5_refuse rf = ((-9), (rf + 1)) := by (rw [o_X5_refuse]) <;> rfl
  refine W.widen (k := 0) (n := 0) (by omega) (by omega) ?_
  exact W.iret (v := (-9)) hx hb hr (fun t ht hW => ⟨⟨_, (), rfl, (by (rw [he]) <;> rfl), (by rw [he]; exact ⟨by rw [ht]; exact hP, hD⟩)⟩, hS.F ht⟩) hS.2.2 dX5_refuse_12
noncomputable def dz_p09_9 : List (Nat × Instr × Nat) := [(0, (.aload_n 0, 1)), (1, (.iconst 0, 1)), (2, (.putfield 27, 3)), (5, (.aload_n 0, 1)), (6, (.dup, 1)), (7, (.getfield 194, 3)), (10, (.iconst 1, 1)), (11, (.iadd, 1)), (12, (.putfield 194, 3)), (15, (.aload_n 0, 1)), (16, (.getfield 194, 3)), (19, (.ireturn, 1))]
theorem dy_p09_9 : dz_ok cX5_knock dz_p09_9 = true := by decide +kernel
theorem dX5_knock_0 : decode cX5_knock 0 = .ok (.aload_n 0, 1) := dz_at (i := 0) dy_p09_9 rfl
theorem dX5_knock_1 : decode cX5_knock 1 = .ok (.iconst 0, 1) := dz_at (i := 1) dy_p09_9 rfl
theorem dX5_knock_2 : decode cX5_knock 2 = .ok (.putfield 27, 3) := dz_at (i := 2) dy_p09_9 rfl
theorem dX5_knock_5 : decode cX5_knock 5 = .ok (.aload_n 0, 1) := dz_at (i := 3) dy_p09_9 rfl
theorem dX5_knock_6 : decode cX5_knock 6 = .ok (.dup, 1) := dz_at (i := 4) dy_p09_9 rfl
theorem dX5_knock_7 : decode cX5_knock 7 = .ok (.getfield 194, 3) := dz_at (i := 5) dy_p09_9 rfl
theorem dX5_knock_10 : decode cX5_knock 10 = .ok (.iconst 1, 1) := dz_at (i := 6) dy_p09_9 rfl
theorem dX5_knock_11 : decode cX5_knock 11 = .ok (.iadd, 1) := dz_at (i := 7) dy_p09_9 rfl
theorem dX5_knock_12 : decode cX5_knock 12 = .ok (.putfield 194, 3) := dz_at (i := 8) dy_p09_9 rfl
theorem dX5_knock_15 : decode cX5_knock 15 = .ok (.aload_n 0, 1) := dz_at (i := 9) dy_p09_9 rfl
theorem dX5_knock_16 : decode cX5_knock 16 = .ok (.getfield 194, 3) := dz_at (i := 10) dy_p09_9 rfl
theorem dX5_knock_19 : decode cX5_knock 19 = .ok (.ireturn, 1) := dz_at (i := 11) dy_p09_9 rfl
noncomputable def o_X5_knock (kn : Int32)  : Int32 × Int32 × Int32 :=
  ((kn + 1), 0, (kn + 1))
set_option maxHeartbeats 4000000 in
set_option maxRecDepth 100000 in
theorem k_X5_knock (l : Launch) (dC : Nat → ClassId) (dI : Nat → Nat → Nat) (h0 : Nat) (h1 : Nat) (h2 : Nat) (th : Int32) (rf : Int32) (kn : Int32) (sz : Nat) (N : Nat)  : Met l yX5_knock wsX5_knock ({ frames := 0, cells := 0, slots := 0, locals := 0 }) (va_Pc [.ref h0] (xM (dC, dI) xCl [(h0, eM h1 h2 th rf kn)] [] sz N)) (va_Qi (fun (r : Int32) (_ : Unit) => r = (o_X5_knock kn).1) (fun _ t => xW (dC, dI) xCl [(h0, eM h1 h2 (o_X5_knock kn).2.1 rf (o_X5_knock kn).2.2)] (va_A [(h0, eM h1 h2 th rf kn)] sz) t) (va_A [(h0, eM h1 h2 th rf kn)] sz)) 0 0 (va_A [(h0, eM h1 h2 th rf kn)] sz) := by
  refine Met.ofW (cc := cX5_knock) (maxL := 1) (ret := (some .int)) (by decide +kernel) rfl ?_
  intro p e s m args below meth c s₁ B hml hv
  obtain ⟨rfl, hsz, hP, hK, hD0, hN, hG⟩ := hv
  have hx := B.exec
  have hb := B.bytes
  have hr := B.returns
  have hts := atoms_spec (ws := wsX5_knock) B.pre
  have hown : s.vm.findClass RX5 = some m.cls := findClass_of_methodNamed B.named
  have hlocks := B.notSynchronized
  subst hsz
  have hAN : ∀ q, va_A [(h0, eM h1 h2 th rf kn)] s.heap.size q → N ≤ q := xA_N hD0 hN
  have hD := hD0.self (sz := s.heap.size)
  generalize hAe : va_A [(h0, eM h1 h2 th rf kn)] s.heap.size = A at hD hAN ⊢
  have hA : ∀ q : Nat, s.heap.size ≤ q → A q := fun q h => by rw [← hAe]; exact Or.inr h
  have hS : va_S A s.heap s.heap [] := va_S.rf
  have hP : va_P (dC, dI) xCl [(h0, eM h1 h2 th rf kn)] s.heap := hP
  have hl := lv_entry ([.ref h0]) (n := 1) (Nat.le_of_ble_eq_true rfl)
  rw [lg_entry_eq]
  generalize (lg_sl ([.ref h0]) ++ List.replicate (1 - (lg_sl ([.ref h0])).length) Slot.unset).toArray = ls at hl ⊢
  have hl : lv_has ls 1 [(0, .ref h0)] := hl
  refine lv_aload_n hx hb dX5_knock_0 rfl (lv_at hl 0 rfl) ?_
  refine lv_iconst (v := 0) hx hb dX5_knock_1 (by decide +kernel) ?_
  refine va_put (D := (dC, dI)) (ci := 7) (v := .int 0) (ty := .int) (C := RX5) (T := TX5) (N := 5) hx hb hts (by decide +kernel) tyX5 tyX5_ok nmX5 hown hK hP hD hS 0 rfl rfl 2 (by decide +kernel) (hts (.fieldLink RX5 27 "EdgefloatsModel" "thrown" "I") (by decide +kernel)) (fun _ h9 => h9) rfl (by decide +kernel) rfl rfl (Nat.le_of_ble_eq_true rfl) dX5_knock_2 (fun H locs hP hD hS => ?_)
  have hP : va_P (dC, dI) xCl [(h0, eM h1 h2 0 rf kn)] H := hP
  have hD : va_D A [(h0, eM h1 h2 0 rf kn)] := hD
  refine lv_aload_n hx hb dX5_knock_5 rfl (lv_at hl 0 rfl) ?_
  refine lv_dup hx hb dX5_knock_6 rfl ?_
  refine va_get (D := (dC, dI)) (ci := 7) (v := .int kn) (C := RX5) (T := TX5) (N := 5) hx hb hts (by decide +kernel) hown hK hP 0 rfl rfl 4 (by decide +kernel) (hts (.fieldLink RX5 194 "EdgefloatsModel" "knocks" "I") (by decide +kernel)) (fun _ h9 => h9) rfl dX5_knock_7 ?_
  refine lv_iconst (v := 1) hx hb dX5_knock_10 (by decide +kernel) ?_
  refine lv_iadd hx hb dX5_knock_11 ?_
  refine va_put (D := (dC, dI)) (ci := 7) (v := .int (kn + 1)) (ty := .int) (C := RX5) (T := TX5) (N := 5) hx hb hts (by decide +kernel) tyX5 tyX5_ok nmX5 hown hK hP hD hS 0 rfl rfl 4 (by decide +kernel) (hts (.fieldLink RX5 194 "EdgefloatsModel" "knocks" "I") (by decide +kernel)) (fun _ h9 => h9) rfl (by decide +kernel) rfl rfl (Nat.le_of_ble_eq_true rfl) dX5_knock_12 (fun H locs hP hD hS => ?_)
  have hP : va_P (dC, dI) xCl [(h0, eM h1 h2 0 rf (kn + 1))] H := hP
  have hD : va_D A [(h0, eM h1 h2 0 rf (kn + 1))] := hD
  refine lv_aload_n hx hb dX5_knock_15 rfl (lv_at hl 0 rfl) ?_
  refine va_get (D := (dC, dI)) (ci := 7) (v := .int (kn + 1)) (C := RX5) (T := TX5) (N := 5) hx hb hts (by decide +kernel) hown hK hP 0 rfl rfl 4 (by decide +kernel) (hts (.fieldLink RX5 194 "EdgefloatsModel" "knocks" "I") (by decide +kernel)) (fun _ h9 => h9) rfl dX5_knock_16 ?_
  have he : o_X5_knock kn = ((kn + 1), 0, (kn + 1)) := by (rw [o_X5_knock]) <;> rfl
  refine W.widen (k := 0) (n := 0) (by omega) (by omega) ?_
  exact W.iret (v := (kn + 1)) hx hb hr (fun t ht hW => ⟨⟨_, (), rfl, (by (rw [he]) <;> rfl), (by rw [he]; exact ⟨by rw [ht]; exact hP, hD⟩)⟩, hS.F ht⟩) hS.2.2 dX5_knock_19
noncomputable def dz_p09_10 : List (Nat × Instr × Nat) := [(0, (.aload_n 0, 1)), (1, (.iconst 0, 1)), (2, (.putfield 27, 3)), (5, (.iconst 1, 1)), (6, (.ireturn, 1))]
theorem dy_p09_10 : dz_ok cX5_isSound dz_p09_10 = true := by decide +kernel
theorem dX5_isSound_0 : decode cX5_isSound 0 = .ok (.aload_n 0, 1) := dz_at (i := 0) dy_p09_10 rfl
theorem dX5_isSound_1 : decode cX5_isSound 1 = .ok (.iconst 0, 1) := dz_at (i := 1) dy_p09_10 rfl
theorem dX5_isSound_2 : decode cX5_isSound 2 = .ok (.putfield 27, 3) := dz_at (i := 2) dy_p09_10 rfl
theorem dX5_isSound_5 : decode cX5_isSound 5 = .ok (.iconst 1, 1) := dz_at (i := 3) dy_p09_10 rfl
theorem dX5_isSound_6 : decode cX5_isSound 6 = .ok (.ireturn, 1) := dz_at (i := 4) dy_p09_10 rfl
noncomputable def o_X5_isSound   : Bool × Int32 :=
  (true, 0)
set_option maxHeartbeats 4000000 in
set_option maxRecDepth 100000 in
theorem k_X5_isSound (l : Launch) (dC : Nat → ClassId) (dI : Nat → Nat → Nat) (h0 : Nat) (h1 : Nat) (h2 : Nat) (th : Int32) (rf : Int32) (kn : Int32) (sz : Nat) (N : Nat)  : Met l yX5_isSound wsX5_isSound ({ frames := 0, cells := 0, slots := 0, locals := 0 }) (va_Pc [.ref h0] (xM (dC, dI) xCl [(h0, eM h1 h2 th rf kn)] [] sz N)) (va_Qi (fun (r : Int32) (_ : Unit) => r = b2i ((o_X5_isSound ).1)) (fun _ t => xW (dC, dI) xCl [(h0, eM h1 h2 (o_X5_isSound ).2 rf kn)] (va_A [(h0, eM h1 h2 th rf kn)] sz) t) (va_A [(h0, eM h1 h2 th rf kn)] sz)) 0 0 (va_A [(h0, eM h1 h2 th rf kn)] sz) := by
  refine Met.ofW (cc := cX5_isSound) (maxL := 1) (ret := (some .boolean)) (by decide +kernel) rfl ?_
  intro p e s m args below meth c s₁ B hml hv
  obtain ⟨rfl, hsz, hP, hK, hD0, hN, hG⟩ := hv
  have hx := B.exec
  have hb := B.bytes
  have hr := B.returns
  have hts := atoms_spec (ws := wsX5_isSound) B.pre
  have hown : s.vm.findClass RX5 = some m.cls := findClass_of_methodNamed B.named
  have hlocks := B.notSynchronized
  subst hsz
  have hAN : ∀ q, va_A [(h0, eM h1 h2 th rf kn)] s.heap.size q → N ≤ q := xA_N hD0 hN
  have hD := hD0.self (sz := s.heap.size)
  generalize hAe : va_A [(h0, eM h1 h2 th rf kn)] s.heap.size = A at hD hAN ⊢
  have hA : ∀ q : Nat, s.heap.size ≤ q → A q := fun q h => by rw [← hAe]; exact Or.inr h
  have hS : va_S A s.heap s.heap [] := va_S.rf
  have hP : va_P (dC, dI) xCl [(h0, eM h1 h2 th rf kn)] s.heap := hP
  have hl := lv_entry ([.ref h0]) (n := 1) (Nat.le_of_ble_eq_true rfl)
  rw [lg_entry_eq]
  generalize (lg_sl ([.ref h0]) ++ List.replicate (1 - (lg_sl ([.ref h0])).length) Slot.unset).toArray = ls at hl ⊢
  have hl : lv_has ls 1 [(0, .ref h0)] := hl
  refine lv_aload_n hx hb dX5_isSound_0 rfl (lv_at hl 0 rfl) ?_
  refine lv_iconst (v := 0) hx hb dX5_isSound_1 (by decide +kernel) ?_
  refine va_put (D := (dC, dI)) (ci := 7) (v := .int 0) (ty := .int) (C := RX5) (T := TX5) (N := 5) hx hb hts (by decide +kernel) tyX5 tyX5_ok nmX5 hown hK hP hD hS 0 rfl rfl 2 (by decide +kernel) (hts (.fieldLink RX5 27 "EdgefloatsModel" "thrown" "I") (by decide +kernel)) (fun _ h9 => h9) rfl (by decide +kernel) rfl rfl (Nat.le_of_ble_eq_true rfl) dX5_isSound_2 (fun H locs hP hD hS => ?_)
  have hP : va_P (dC, dI) xCl [(h0, eM h1 h2 0 rf kn)] H := hP
  have hD : va_D A [(h0, eM h1 h2 0 rf kn)] := hD
  refine lv_iconst (v := 1) hx hb dX5_isSound_5 (by decide +kernel) ?_
  have he : o_X5_isSound  = (true, 0) := by (rw [o_X5_isSound]) <;> rfl
  refine W.widen (k := 0) (n := 0) (by omega) (by omega) ?_
  exact W.zret (v := 1) (ty := .boolean) hx hb hr rfl (fun t ht hW => ⟨⟨_, (), rfl, (by (rw [he]) <;> rfl), (by rw [he]; exact ⟨by rw [ht]; exact hP, hD⟩)⟩, hS.F ht⟩) hS.2.2 dX5_isSound_6

theorem xm_isIn {p : Int32} (h : o_X5_isIn p 0 7 = true) : vp_in p 8 := by
  rw [o_X5_isIn] at h
  by_cases c1 : p < 0
  · rw [if_pos c1] at h
    cases h
  · rw [if_neg c1] at h
    by_cases c2 : 7 < p
    · rw [if_pos c2] at h
      cases h
    · have a1 : ¬ p.toInt < (0 : Int32).toInt := fun z => c1 (Int32.lt_iff_toInt_lt.mpr z)
      have a2 : ¬ (7 : Int32).toInt < p.toInt := fun z => c2 (Int32.lt_iff_toInt_lt.mpr z)
      have z0 : (0 : Int32).toInt = 0 := by decide
      have z7 : (7 : Int32).toInt = 7 := by decide
      exact vp_in_iff.mpr ⟨by omega, by omega⟩
theorem xm_isNo {p : Int32} (h : ¬ o_X5_isNo p = true) : vp_in p 8 := by
  rw [o_X5_isNo] at h
  by_cases c : o_X5_isIn p 0 7 = true
  · exact xm_isIn c
  · rw [if_neg c] at h
    exact absurd rfl h
theorem xm_areNo1 {p q : Int32} (h : ¬ o_X5_areNo p q = true) : vp_in p 8 := by
  rw [o_X5_areNo] at h
  by_cases c : o_X5_isNo p = true
  · rw [if_pos c] at h
    exact absurd rfl h
  · exact xm_isNo c
theorem xm_areNo2 {p q : Int32} (h : ¬ o_X5_areNo p q = true) : vp_in q 8 := by
  rw [o_X5_areNo] at h
  by_cases c : o_X5_isNo p = true
  · rw [if_pos c] at h
    exact absurd rfl h
  · rw [if_neg c] at h
    by_cases c2 : o_X5_isNo q = true
    · rw [if_pos c2] at h
      exact absurd rfl h
    · exact xm_isNo c2
theorem xm_fails {b b2 : Bool} (h : ¬ (o_X5_fails b b2).1 = true) : ¬ b = true := by
  intro c
  apply h
  rw [o_X5_fails, if_pos c]

theorem cl_X5_other_1 : ∀ w ∈ [.methodLink RX5 35 yX5_isNo, .static yX5_isNo, .initialized RX5, .code yX5_isNo cX5_isNo 1 (some .boolean), .methodLink RX5 31 yX5_isIn, .static yX5_isIn, .code yX5_isIn cX5_isIn 3 (some .boolean), .methodLink RX5 42 yX5_fails, .instanceMethod yX5_fails, .selects RX5 yX5_fails yX5_fails, .code yX5_fails cX5_fails 3 (some .boolean), .fieldLink RX5 27 "EdgefloatsModel" "thrown" "I"], w ∈ wsX5_other := fun _ h => (List.mem_cons_of_mem _ (List.mem_append_left _ h))
theorem cl_X5_other_2 : ∀ w ∈ wsX50, w ∈ wsX5_other := fun _ h => (List.mem_cons_of_mem _ (List.mem_append_right _ h))
set_option maxRecDepth 20000 in
theorem ggX5_other_X5_isNo : GoodIn wsX5_other wsX5_isNo := goodIn_sub (List.forall_mem_cons.mpr ⟨(cl_X5_other_1 _ (List.mem_of_getElem? (i := 3) rfl)), List.forall_mem_cons.mpr ⟨(cl_X5_other_1 _ (List.mem_of_getElem? (i := 4) rfl)), List.forall_mem_cons.mpr ⟨(cl_X5_other_1 _ (List.mem_of_getElem? (i := 5) rfl)), List.forall_mem_cons.mpr ⟨(cl_X5_other_1 _ (List.mem_of_getElem? (i := 2) rfl)), List.forall_mem_cons.mpr ⟨(cl_X5_other_1 _ (List.mem_of_getElem? (i := 6) rfl)), fun _ h => absurd h List.not_mem_nil⟩⟩⟩⟩⟩) (by decide +kernel)
set_option maxRecDepth 20000 in
theorem gX5_other_X5_isNo : GoodIn wsX5_other (va_wsS RX5 35 yX5_isNo wsX5_isNo) := goodIn_app (goodIn_sub (List.forall_mem_cons.mpr ⟨(cl_X5_other_1 _ (List.mem_of_getElem? (i := 0) rfl)), List.forall_mem_cons.mpr ⟨(cl_X5_other_1 _ (List.mem_of_getElem? (i := 1) rfl)), List.forall_mem_cons.mpr ⟨(cl_X5_other_1 _ (List.mem_of_getElem? (i := 2) rfl)), fun _ h => absurd h List.not_mem_nil⟩⟩⟩) (by decide +kernel)) ggX5_other_X5_isNo
set_option maxRecDepth 20000 in
theorem ggX5_other_X5_isIn : GoodIn wsX5_other wsX5_isIn := goodIn_r _ [7] (by decide +kernel) (by decide +kernel)
set_option maxRecDepth 20000 in
theorem gX5_other_X5_isIn : GoodIn wsX5_other (va_wsS RX5 31 yX5_isIn wsX5_isIn) := goodIn_app (goodIn_sub (List.forall_mem_cons.mpr ⟨(cl_X5_other_1 _ (List.mem_of_getElem? (i := 4) rfl)), List.forall_mem_cons.mpr ⟨(cl_X5_other_1 _ (List.mem_of_getElem? (i := 5) rfl)), List.forall_mem_cons.mpr ⟨(cl_X5_other_1 _ (List.mem_of_getElem? (i := 2) rfl)), fun _ h => absurd h List.not_mem_nil⟩⟩⟩) (by decide +kernel)) ggX5_other_X5_isIn
set_option maxRecDepth 20000 in
theorem ggX5_other_X5_fails : GoodIn wsX5_other wsX5_fails := goodIn_sub (List.forall_mem_cons.mpr ⟨(cl_X5_other_1 _ (List.mem_of_getElem? (i := 10) rfl)), fun w h => (List.mem_append.mp h).elim ((List.forall_mem_cons.mpr ⟨(cl_X5_other_1 _ (List.mem_of_getElem? (i := 11) rfl)), fun _ h => absurd h List.not_mem_nil⟩) w) ((cl_X5_other_2) w)⟩) (by decide +kernel)
set_option maxRecDepth 20000 in
theorem gX5_other_X5_fails : GoodIn wsX5_other (wsV RX5 42 RX5 yX5_fails wsX5_fails) := goodIn_app (goodIn_sub (List.forall_mem_cons.mpr ⟨(cl_X5_other_1 _ (List.mem_of_getElem? (i := 7) rfl)), List.forall_mem_cons.mpr ⟨(cl_X5_other_1 _ (List.mem_of_getElem? (i := 8) rfl)), List.forall_mem_cons.mpr ⟨(cl_X5_other_1 _ (List.mem_of_getElem? (i := 9) rfl)), List.forall_mem_cons.mpr ⟨(cl_X5_other_1 _ (List.mem_of_getElem? (i := 2) rfl)), fun _ h => absurd h List.not_mem_nil⟩⟩⟩⟩) (by decide +kernel)) ggX5_other_X5_fails
noncomputable def dz_p09_11 : List (Nat × Instr × Nat) := [(0, (.aload_n 0, 1)), (1, (.iload_n 1, 1)), (2, (.invokestatic 35, 3)), (5, (.iload_n 2, 1)), (6, (.iconst 0, 1)), (7, (.iconst 3, 1)), (8, (.invokestatic 31, 3)), (11, (.ifCond .ne 7, 3)), (14, (.iconst 1, 1)), (15, (.goto 4, 3)), (18, (.iconst 0, 1)), (19, (.invokevirtual 42, 3)), (22, (.ifCond .eq 3, 3)), (25, (.iconst 0, 1)), (26, (.ireturn, 1))]
theorem dy_p09_11 : dz_ok cX5_other dz_p09_11 = true := by decide +kernel
theorem dX5_other_0 : decode cX5_other 0 = .ok (.aload_n 0, 1) := dz_at (i := 0) dy_p09_11 rfl
theorem dX5_other_1 : decode cX5_other 1 = .ok (.iload_n 1, 1) := dz_at (i := 1) dy_p09_11 rfl
theorem dX5_other_2 : decode cX5_other 2 = .ok (.invokestatic 35, 3) := dz_at (i := 2) dy_p09_11 rfl
theorem dX5_other_5 : decode cX5_other 5 = .ok (.iload_n 2, 1) := dz_at (i := 3) dy_p09_11 rfl
theorem dX5_other_6 : decode cX5_other 6 = .ok (.iconst 0, 1) := dz_at (i := 4) dy_p09_11 rfl
theorem dX5_other_7 : decode cX5_other 7 = .ok (.iconst 3, 1) := dz_at (i := 5) dy_p09_11 rfl
theorem dX5_other_8 : decode cX5_other 8 = .ok (.invokestatic 31, 3) := dz_at (i := 6) dy_p09_11 rfl
theorem dX5_other_11 : decode cX5_other 11 = .ok (.ifCond .ne 7, 3) := dz_at (i := 7) dy_p09_11 rfl
theorem dX5_other_14 : decode cX5_other 14 = .ok (.iconst 1, 1) := dz_at (i := 8) dy_p09_11 rfl
theorem dX5_other_15 : decode cX5_other 15 = .ok (.goto 4, 3) := dz_at (i := 9) dy_p09_11 rfl
theorem dX5_other_18 : decode cX5_other 18 = .ok (.iconst 0, 1) := dz_at (i := 10) dy_p09_11 rfl
theorem dX5_other_19 : decode cX5_other 19 = .ok (.invokevirtual 42, 3) := dz_at (i := 11) dy_p09_11 rfl
theorem dX5_other_22 : decode cX5_other 22 = .ok (.ifCond .eq 3, 3) := dz_at (i := 12) dy_p09_11 rfl
theorem dX5_other_25 : decode cX5_other 25 = .ok (.iconst 0, 1) := dz_at (i := 13) dy_p09_11 rfl
theorem dX5_other_26 : decode cX5_other 26 = .ok (.ireturn, 1) := dz_at (i := 14) dy_p09_11 rfl
noncomputable def o_X5_other  (p0 : Int32) (p1 : Int32) : Bool × Int32 :=
  if (o_X5_isIn p1 0 3) = true then (if (o_X5_fails (o_X5_isNo p0) false).1 = true then (false, (o_X5_fails (o_X5_isNo p0) false).2)
    else (false, (o_X5_fails (o_X5_isNo p0) false).2))
  else if (o_X5_fails (o_X5_isNo p0) true).1 = true then (false, (o_X5_fails (o_X5_isNo p0) true).2)
  else (false, (o_X5_fails (o_X5_isNo p0) true).2)
set_option maxHeartbeats 4000000 in
set_option maxRecDepth 100000 in
theorem k_X5_other (l : Launch) (dC : Nat → ClassId) (dI : Nat → Nat → Nat) (h0 : Nat) (h1 : Nat) (h2 : Nat) (th : Int32) (rf : Int32) (kn : Int32) (sz : Nat) (N : Nat) (p0 : Int32) (p1 : Int32) : Met l yX5_other wsX5_other ({ frames := 2, cells := 0, slots := 0, locals := 42 }) (va_Pc [.ref h0, .int p0, .int p1] (xM (dC, dI) xCl [(h0, eM h1 h2 th rf kn)] [] sz N)) (va_Qi (fun (r : Int32) (_ : Unit) => r = b2i ((o_X5_other p0 p1).1)) (fun _ t => xW (dC, dI) xCl [(h0, eM h1 h2 (o_X5_other p0 p1).2 rf kn)] (va_A [(h0, eM h1 h2 th rf kn)] sz) t) (va_A [(h0, eM h1 h2 th rf kn)] sz)) 0 0 (va_A [(h0, eM h1 h2 th rf kn)] sz) := by
  refine Met.ofW (cc := cX5_other) (maxL := 3) (ret := (some .boolean)) (by decide +kernel) rfl ?_
  intro p e s m args below meth c s₁ B hml hv
  obtain ⟨rfl, hsz, hP, hK, hD0, hN, hG⟩ := hv
  have hx := B.exec
  have hb := B.bytes
  have hr := B.returns
  have hts := atoms_spec (ws := wsX5_other) B.pre
  have hown : s.vm.findClass RX5 = some m.cls := findClass_of_methodNamed B.named
  have hlocks := B.notSynchronized
  subst hsz
  have hAN : ∀ q, va_A [(h0, eM h1 h2 th rf kn)] s.heap.size q → N ≤ q := xA_N hD0 hN
  have hD := hD0.self (sz := s.heap.size)
  generalize hAe : va_A [(h0, eM h1 h2 th rf kn)] s.heap.size = A at hD hAN ⊢
  have hA : ∀ q : Nat, s.heap.size ≤ q → A q := fun q h => by rw [← hAe]; exact Or.inr h
  have hS : va_S A s.heap s.heap [] := va_S.rf
  have hP : va_P (dC, dI) xCl [(h0, eM h1 h2 th rf kn)] s.heap := hP
  have hl := lv_entry ([.ref h0, .int p0, .int p1]) (n := 3) (Nat.le_of_ble_eq_true rfl)
  rw [lg_entry_eq]
  generalize (lg_sl ([.ref h0, .int p0, .int p1]) ++ List.replicate (3 - (lg_sl ([.ref h0, .int p0, .int p1])).length) Slot.unset).toArray = ls at hl ⊢
  have hl : lv_has ls 3 [(0, .ref h0), (1, .int p0), (2, .int p1)] := hl
  refine lv_aload_n hx hb dX5_other_0 rfl (lv_at hl 0 rfl) ?_
  refine lv_iload_n hx hb dX5_other_1 rfl (lv_at hl 1 rfl) ?_
  have hPc := hP.sub (ws' := []) [] rfl
  have hKc := hK.sub (tys' := []) [] rfl
  refine va_calli (va_runS (As := [.int p0]) (rest := [.ref h0]) ⟨hx, hb, hml, hown, hts⟩ (k_X5_isNo l dC dI s.heap.size p0) (va_cwS 1 hts gX5_other_X5_isNo rfl rfl rfl (by decide +kernel) ⟨Nat.le_of_ble_eq_true rfl, Nat.le_of_ble_eq_true rfl⟩) (xB.preS hKc hPc) rfl rfl hl.1 rfl (lv_room (Nat.le_of_ble_eq_true rfl)) dX5_other_2 ⟨Nat.le_of_ble_eq_true rfl, Nat.le_of_ble_eq_true rfl⟩) hS xA_old (fun q h => hA q (Nat.le_trans hS.1 h)) (fun r_1 u t H locs ht hvm hw hB hz hk hS => ?_)
  replace hw : r_1 = b2i (o_X5_isNo p0) := hw
  subst r_1
  have hP := xP_keep hP hk
  refine lv_iload_n hx hb dX5_other_5 rfl (lv_at hl 2 rfl) ?_
  refine lv_iconst (v := 0) hx hb dX5_other_6 (by decide +kernel) ?_
  refine lv_iconst (v := 3) hx hb dX5_other_7 (by decide +kernel) ?_
  have hPc := hP.sub (ws' := []) [] rfl
  have hKc := hK.sub (tys' := []) [] rfl
  refine va_calli (va_runS (As := [.int p1, .int 0, .int 3]) (rest := [.int (b2i (o_X5_isNo p0)), .ref h0]) ⟨hx, hb, hml, hown, hts⟩ (k_X5_isIn l dC dI H.size p1 0 3) (va_cwS 3 hts gX5_other_X5_isIn rfl rfl rfl (by decide +kernel) ⟨Nat.le_of_ble_eq_true rfl, Nat.le_of_ble_eq_true rfl⟩) (xB.preS hKc hPc) rfl rfl hl.1 rfl (lv_room (Nat.le_of_ble_eq_true rfl)) dX5_other_8 ⟨Nat.le_of_ble_eq_true rfl, Nat.le_of_ble_eq_true rfl⟩) hS xA_old (fun q h => hA q (Nat.le_trans hS.1 h)) (fun r_2 u t H locs ht hvm hw hB hz hk hS => ?_)
  replace hw : r_2 = b2i (o_X5_isIn p1 0 3) := hw
  subst r_2
  have hP := xP_keep hP hk
  refine xz_ne (tgt := 18) hx hb dX5_other_11 (by decide +kernel) (fun c_3 => ?_) (fun c_3 => ?_)
  · skip
    refine lv_iconst (v := 0) hx hb dX5_other_18 (by decide +kernel) ?_
    have hPc := hP.sub (ws' := [(h0, eM h1 h2 th rf kn)]) [0] rfl
    have hDc := hD.sub (ws' := [(h0, eM h1 h2 th rf kn)]) [0] (by decide +kernel) rfl
    have hKc := hK.sub (tys' := []) [] rfl
    have hFc := va_free (wc := [(h0, eM h1 h2 th rf kn)]) hD hS hA [0] rfl
    refine va_calli (va_runV (As := [.int (b2i (o_X5_isNo p0)), .int 0]) (rest := []) ⟨hx, hb, hml, hown, hts⟩ (k_X5_fails l dC dI h0 h1 h2 th rf kn H.size N (o_X5_isNo p0) false) (cwV 2 hts gX5_other_X5_fails rfl rfl rfl (by decide +kernel) ⟨Nat.le_of_ble_eq_true rfl, Nat.le_of_ble_eq_true rfl⟩) (xM.preV hKc hPc hDc hAN (Nat.le_trans hN hS.1) (hG.kept hS hAN) (ci := 7) (q0 := 0) rfl rfl) rfl rfl hl.1 rfl (lv_room (Nat.le_of_ble_eq_true rfl)) dX5_other_19 ⟨Nat.le_of_ble_eq_true rfl, Nat.le_of_ble_eq_true rfl⟩) hS (fun q _ h => hFc q h) hFc (fun r_4 u t H locs ht hvm hw hB hz hk hS => ?_)
    replace hw : r_4 = b2i ((o_X5_fails (o_X5_isNo p0) false).1) := hw
    subst r_4
    obtain ⟨hP1, hD1⟩ := hB
    rw [ht] at hP1
    obtain ⟨hP, hD⟩ := va_join (wr := []) (w1 := [(h0, eM h1 h2 (o_X5_fails (o_X5_isNo p0) false).2 rf kn)]) hP hD [0] [] rfl rfl (by decide +kernel) (by decide +kernel) hk hFc hP1 hD1
    have hP := hP.sub (ws' := [(h0, eM h1 h2 (o_X5_fails (o_X5_isNo p0) false).2 rf kn)]) [0] rfl
    have hD := hD.sub (ws' := [(h0, eM h1 h2 (o_X5_fails (o_X5_isNo p0) false).2 rf kn)]) [0] (by decide +kernel) rfl
    refine xz_eq (tgt := 25) hx hb dX5_other_22 (by decide +kernel) (fun c_5 => ?_) (fun c_5 => ?_)
    · skip
      refine lv_iconst (v := 0) hx hb dX5_other_25 (by decide +kernel) ?_
      have he : o_X5_other p0 p1 = (false, (o_X5_fails (o_X5_isNo p0) false).2) := by (rw [o_X5_other, if_pos c_3, if_neg c_5]) <;> rfl
      refine W.widen (k := 0) (n := 0) (by omega) (by omega) ?_
      exact W.zret (v := 0) (ty := .boolean) hx hb hr rfl (fun t ht hW => ⟨⟨_, (), rfl, (by (rw [he]) <;> rfl), (by rw [he]; exact ⟨by rw [ht]; exact hP, hD⟩)⟩, hS.F ht⟩) hS.2.2 dX5_other_26
    · skip
      refine lv_iconst (v := 0) hx hb dX5_other_25 (by decide +kernel) ?_
      have he : o_X5_other p0 p1 = (false, (o_X5_fails (o_X5_isNo p0) false).2) := by (rw [o_X5_other, if_pos c_3, if_pos c_5]) <;> rfl
      refine W.widen (k := 0) (n := 0) (by omega) (by omega) ?_
      exact W.zret (v := 0) (ty := .boolean) hx hb hr rfl (fun t ht hW => ⟨⟨_, (), rfl, (by (rw [he]) <;> rfl), (by rw [he]; exact ⟨by rw [ht]; exact hP, hD⟩)⟩, hS.F ht⟩) hS.2.2 dX5_other_26
  · skip
    refine lv_iconst (v := 1) hx hb dX5_other_14 (by decide +kernel) ?_
    refine lv_goto (tgt := 19) hx hb dX5_other_15 (by decide +kernel) ?_
    have hPc := hP.sub (ws' := [(h0, eM h1 h2 th rf kn)]) [0] rfl
    have hDc := hD.sub (ws' := [(h0, eM h1 h2 th rf kn)]) [0] (by decide +kernel) rfl
    have hKc := hK.sub (tys' := []) [] rfl
    have hFc := va_free (wc := [(h0, eM h1 h2 th rf kn)]) hD hS hA [0] rfl
    refine va_calli (va_runV (As := [.int (b2i (o_X5_isNo p0)), .int 1]) (rest := []) ⟨hx, hb, hml, hown, hts⟩ (k_X5_fails l dC dI h0 h1 h2 th rf kn H.size N (o_X5_isNo p0) true) (cwV 2 hts gX5_other_X5_fails rfl rfl rfl (by decide +kernel) ⟨Nat.le_of_ble_eq_true rfl, Nat.le_of_ble_eq_true rfl⟩) (xM.preV hKc hPc hDc hAN (Nat.le_trans hN hS.1) (hG.kept hS hAN) (ci := 7) (q0 := 0) rfl rfl) rfl rfl hl.1 rfl (lv_room (Nat.le_of_ble_eq_true rfl)) dX5_other_19 ⟨Nat.le_of_ble_eq_true rfl, Nat.le_of_ble_eq_true rfl⟩) hS (fun q _ h => hFc q h) hFc (fun r_6 u t H locs ht hvm hw hB hz hk hS => ?_)
    replace hw : r_6 = b2i ((o_X5_fails (o_X5_isNo p0) true).1) := hw
    subst r_6
    obtain ⟨hP1, hD1⟩ := hB
    rw [ht] at hP1
    obtain ⟨hP, hD⟩ := va_join (wr := []) (w1 := [(h0, eM h1 h2 (o_X5_fails (o_X5_isNo p0) true).2 rf kn)]) hP hD [0] [] rfl rfl (by decide +kernel) (by decide +kernel) hk hFc hP1 hD1
    have hP := hP.sub (ws' := [(h0, eM h1 h2 (o_X5_fails (o_X5_isNo p0) true).2 rf kn)]) [0] rfl
    have hD := hD.sub (ws' := [(h0, eM h1 h2 (o_X5_fails (o_X5_isNo p0) true).2 rf kn)]) [0] (by decide +kernel) rfl
    refine xz_eq (tgt := 25) hx hb dX5_other_22 (by decide +kernel) (fun c_7 => ?_) (fun c_7 => ?_)
    · skip
      refine lv_iconst (v := 0) hx hb dX5_other_25 (by decide +kernel) ?_
      have he : o_X5_other p0 p1 = (false, (o_X5_fails (o_X5_isNo p0) true).2) := by (rw [o_X5_other, if_neg c_3, if_neg c_7]) <;> rfl
      refine W.widen (k := 0) (n := 0) (by omega) (by omega) ?_
      exact W.zret (v := 0) (ty := .boolean) hx hb hr rfl (fun t ht hW => ⟨⟨_, (), rfl, (by (rw [he]) <;> rfl), (by rw [he]; exact ⟨by rw [ht]; exact hP, hD⟩)⟩, hS.F ht⟩) hS.2.2 dX5_other_26
    · skip
      refine lv_iconst (v := 0) hx hb dX5_other_25 (by decide +kernel) ?_
      have he : o_X5_other p0 p1 = (false, (o_X5_fails (o_X5_isNo p0) true).2) := by (rw [o_X5_other, if_neg c_3, if_pos c_7]) <;> rfl
      refine W.widen (k := 0) (n := 0) (by omega) (by omega) ?_
      exact W.zret (v := 0) (ty := .boolean) hx hb hr rfl (fun t ht hW => ⟨⟨_, (), rfl, (by (rw [he]) <;> rfl), (by rw [he]; exact ⟨by rw [ht]; exact hP, hD⟩)⟩, hS.F ht⟩) hS.2.2 dX5_other_26
theorem cl_X5_put_1 : ∀ w ∈ wsX5_put_r1, w ∈ wsX5_put := fun _ h => (List.mem_cons_of_mem _ (List.mem_append_left _ (List.mem_append_left _ (List.mem_append_left _ h))))
theorem cl_X5_put_2 : ∀ w ∈ wsX5_put_r2, w ∈ wsX5_put := fun _ h => (List.mem_cons_of_mem _ (List.mem_append_left _ (List.mem_append_left _ (List.mem_append_right _ h))))
theorem cl_X5_put_3 : ∀ w ∈ wsX50, w ∈ wsX5_put := fun _ h => (List.mem_cons_of_mem _ (List.mem_append_left _ (List.mem_append_right _ h)))
theorem cl_X5_put_4 : ∀ w ∈ wsX40, w ∈ wsX5_put := fun _ h => (List.mem_cons_of_mem _ (List.mem_append_right _ h))
set_option maxRecDepth 20000 in
theorem ggX5_put_X5_isNo : GoodIn wsX5_put wsX5_isNo := goodIn_sub (List.forall_mem_cons.mpr ⟨(cl_X5_put_1 _ (List.mem_of_getElem? (i := 3) rfl)), List.forall_mem_cons.mpr ⟨(cl_X5_put_1 _ (List.mem_of_getElem? (i := 4) rfl)), List.forall_mem_cons.mpr ⟨(cl_X5_put_1 _ (List.mem_of_getElem? (i := 5) rfl)), List.forall_mem_cons.mpr ⟨(cl_X5_put_1 _ (List.mem_of_getElem? (i := 2) rfl)), List.forall_mem_cons.mpr ⟨(cl_X5_put_1 _ (List.mem_of_getElem? (i := 6) rfl)), fun _ h => absurd h List.not_mem_nil⟩⟩⟩⟩⟩) (by decide +kernel)
set_option maxRecDepth 20000 in
theorem gX5_put_X5_isNo : GoodIn wsX5_put (va_wsS RX5 35 yX5_isNo wsX5_isNo) := goodIn_app (goodIn_sub (List.forall_mem_cons.mpr ⟨(cl_X5_put_1 _ (List.mem_of_getElem? (i := 0) rfl)), List.forall_mem_cons.mpr ⟨(cl_X5_put_1 _ (List.mem_of_getElem? (i := 1) rfl)), List.forall_mem_cons.mpr ⟨(cl_X5_put_1 _ (List.mem_of_getElem? (i := 2) rfl)), fun _ h => absurd h List.not_mem_nil⟩⟩⟩) (by decide +kernel)) ggX5_put_X5_isNo
set_option maxRecDepth 20000 in
theorem ggX5_put_X5_fails : GoodIn wsX5_put wsX5_fails := goodIn_sub (List.forall_mem_cons.mpr ⟨(cl_X5_put_1 _ (List.mem_of_getElem? (i := 10) rfl)), fun w h => (List.mem_append.mp h).elim ((List.forall_mem_cons.mpr ⟨(cl_X5_put_1 _ (List.mem_of_getElem? (i := 11) rfl)), fun _ h => absurd h List.not_mem_nil⟩) w) ((cl_X5_put_3) w)⟩) (by decide +kernel)
set_option maxRecDepth 20000 in
theorem gX5_put_X5_fails : GoodIn wsX5_put (wsV RX5 42 RX5 yX5_fails wsX5_fails) := goodIn_app (goodIn_sub (List.forall_mem_cons.mpr ⟨(cl_X5_put_1 _ (List.mem_of_getElem? (i := 7) rfl)), List.forall_mem_cons.mpr ⟨(cl_X5_put_1 _ (List.mem_of_getElem? (i := 8) rfl)), List.forall_mem_cons.mpr ⟨(cl_X5_put_1 _ (List.mem_of_getElem? (i := 9) rfl)), List.forall_mem_cons.mpr ⟨(cl_X5_put_1 _ (List.mem_of_getElem? (i := 2) rfl)), fun _ h => absurd h List.not_mem_nil⟩⟩⟩⟩) (by decide +kernel)) ggX5_put_X5_fails
set_option maxRecDepth 20000 in
theorem ggX5_put_X4_isSpoiled : GoodIn wsX5_put wsX4_isSpoiled := goodIn_sub (List.forall_mem_cons.mpr ⟨(cl_X5_put_1 _ (List.mem_of_getElem? (i := 16) rfl)), fun w h => (List.mem_append.mp h).elim ((List.forall_mem_cons.mpr ⟨(cl_X5_put_1 _ (List.mem_of_getElem? (i := 17) rfl)), List.forall_mem_cons.mpr ⟨(cl_X5_put_1 _ (List.mem_of_getElem? (i := 18) rfl)), List.forall_mem_cons.mpr ⟨(cl_X5_put_1 _ (List.mem_of_getElem? (i := 19) rfl)), List.forall_mem_cons.mpr ⟨(cl_X5_put_1 _ (List.mem_of_getElem? (i := 15) rfl)), List.forall_mem_cons.mpr ⟨(cl_X5_put_1 _ (List.mem_of_getElem? (i := 20) rfl)), List.forall_mem_cons.mpr ⟨(cl_X5_put_1 _ (List.mem_of_getElem? (i := 21) rfl)), List.forall_mem_cons.mpr ⟨(cl_X5_put_1 _ (List.mem_of_getElem? (i := 22) rfl)), List.forall_mem_cons.mpr ⟨(cl_X5_put_1 _ (List.mem_of_getElem? (i := 23) rfl)), List.forall_mem_cons.mpr ⟨(cl_X5_put_2 _ (List.mem_of_getElem? (i := 0) rfl)), List.forall_mem_cons.mpr ⟨(cl_X5_put_2 _ (List.mem_of_getElem? (i := 1) rfl)), List.forall_mem_cons.mpr ⟨(cl_X5_put_2 _ (List.mem_of_getElem? (i := 2) rfl)), List.forall_mem_cons.mpr ⟨(cl_X5_put_2 _ (List.mem_of_getElem? (i := 3) rfl)), List.forall_mem_cons.mpr ⟨(cl_X5_put_2 _ (List.mem_of_getElem? (i := 4) rfl)), List.forall_mem_cons.mpr ⟨(cl_X5_put_2 _ (List.mem_of_getElem? (i := 5) rfl)), List.forall_mem_cons.mpr ⟨(cl_X5_put_2 _ (List.mem_of_getElem? (i := 6) rfl)), List.forall_mem_cons.mpr ⟨(cl_X5_put_2 _ (List.mem_of_getElem? (i := 7) rfl)), fun _ h => absurd h List.not_mem_nil⟩⟩⟩⟩⟩⟩⟩⟩⟩⟩⟩⟩⟩⟩⟩⟩) w) ((cl_X5_put_4) w)⟩) (by decide +kernel)
set_option maxRecDepth 20000 in
theorem gX5_put_X4_isSpoiled : GoodIn wsX5_put (wsV RX5 46 RX4 yX4_isSpoiled wsX4_isSpoiled) := goodIn_app (goodIn_sub (List.forall_mem_cons.mpr ⟨(cl_X5_put_1 _ (List.mem_of_getElem? (i := 12) rfl)), List.forall_mem_cons.mpr ⟨(cl_X5_put_1 _ (List.mem_of_getElem? (i := 13) rfl)), List.forall_mem_cons.mpr ⟨(cl_X5_put_1 _ (List.mem_of_getElem? (i := 14) rfl)), List.forall_mem_cons.mpr ⟨(cl_X5_put_1 _ (List.mem_of_getElem? (i := 15) rfl)), fun _ h => absurd h List.not_mem_nil⟩⟩⟩⟩) (by decide +kernel)) ggX5_put_X4_isSpoiled
set_option maxRecDepth 20000 in
theorem ggX5_put_X5_refuse : GoodIn wsX5_put wsX5_refuse := goodIn_sub (List.forall_mem_cons.mpr ⟨(cl_X5_put_2 _ (List.mem_of_getElem? (i := 11) rfl)), fun w h => (List.mem_append.mp h).elim ((List.forall_mem_cons.mpr ⟨(cl_X5_put_2 _ (List.mem_of_getElem? (i := 12) rfl)), fun _ h => absurd h List.not_mem_nil⟩) w) ((cl_X5_put_3) w)⟩) (by decide +kernel)
set_option maxRecDepth 20000 in
theorem gX5_put_X5_refuse : GoodIn wsX5_put (wsV RX5 50 RX5 yX5_refuse wsX5_refuse) := goodIn_app (goodIn_sub (List.forall_mem_cons.mpr ⟨(cl_X5_put_2 _ (List.mem_of_getElem? (i := 8) rfl)), List.forall_mem_cons.mpr ⟨(cl_X5_put_2 _ (List.mem_of_getElem? (i := 9) rfl)), List.forall_mem_cons.mpr ⟨(cl_X5_put_2 _ (List.mem_of_getElem? (i := 10) rfl)), List.forall_mem_cons.mpr ⟨(cl_X5_put_1 _ (List.mem_of_getElem? (i := 2) rfl)), fun _ h => absurd h List.not_mem_nil⟩⟩⟩⟩) (by decide +kernel)) ggX5_put_X5_refuse
set_option maxRecDepth 20000 in
theorem ggX5_put_X4_come : GoodIn wsX5_put wsX4_come := goodIn_sub (List.forall_mem_cons.mpr ⟨(cl_X5_put_2 _ (List.mem_of_getElem? (i := 16) rfl)), fun w h => (List.mem_append.mp h).elim ((List.forall_mem_cons.mpr ⟨(cl_X5_put_2 _ (List.mem_of_getElem? (i := 17) rfl)), List.forall_mem_cons.mpr ⟨(cl_X5_put_2 _ (List.mem_of_getElem? (i := 18) rfl)), fun _ h => absurd h List.not_mem_nil⟩⟩) w) ((cl_X5_put_4) w)⟩) (by decide +kernel)
set_option maxRecDepth 20000 in
theorem gX5_put_X4_come : GoodIn wsX5_put (wsV RX5 54 RX4 yX4_come wsX4_come) := goodIn_app (goodIn_sub (List.forall_mem_cons.mpr ⟨(cl_X5_put_2 _ (List.mem_of_getElem? (i := 13) rfl)), List.forall_mem_cons.mpr ⟨(cl_X5_put_2 _ (List.mem_of_getElem? (i := 14) rfl)), List.forall_mem_cons.mpr ⟨(cl_X5_put_2 _ (List.mem_of_getElem? (i := 15) rfl)), List.forall_mem_cons.mpr ⟨(cl_X5_put_1 _ (List.mem_of_getElem? (i := 15) rfl)), fun _ h => absurd h List.not_mem_nil⟩⟩⟩⟩) (by decide +kernel)) ggX5_put_X4_come
noncomputable def dz_p09_12 : List (Nat × Instr × Nat) := [(0, (.aload_n 0, 1)), (1, (.iload_n 2, 1)), (2, (.invokestatic 35, 3)), (5, (.iconst 0, 1)), (6, (.invokevirtual 42, 3)), (9, (.ifCond .eq 7, 3)), (12, (.iconst 0, 1)), (13, (.goto 24, 3)), (16, (.aload_n 1, 1)), (17, (.lload_n 3, 1)), (18, (.invokevirtual 46, 3)), (21, (.ifCond .eq 10, 3)), (24, (.aload_n 0, 1)), (25, (.invokevirtual 50, 3)), (28, (.goto 9, 3)), (31, (.aload_n 1, 1)), (32, (.iload_n 2, 1)), (33, (.lload_n 3, 1)), (34, (.invokevirtual 54, 3)), (37, (.ireturn, 1))]
theorem dy_p09_12 : dz_ok cX5_put dz_p09_12 = true := by decide +kernel
theorem dX5_put_0 : decode cX5_put 0 = .ok (.aload_n 0, 1) := dz_at (i := 0) dy_p09_12 rfl
theorem dX5_put_1 : decode cX5_put 1 = .ok (.iload_n 2, 1) := dz_at (i := 1) dy_p09_12 rfl
theorem dX5_put_2 : decode cX5_put 2 = .ok (.invokestatic 35, 3) := dz_at (i := 2) dy_p09_12 rfl
theorem dX5_put_5 : decode cX5_put 5 = .ok (.iconst 0, 1) := dz_at (i := 3) dy_p09_12 rfl
theorem dX5_put_6 : decode cX5_put 6 = .ok (.invokevirtual 42, 3) := dz_at (i := 4) dy_p09_12 rfl
theorem dX5_put_9 : decode cX5_put 9 = .ok (.ifCond .eq 7, 3) := dz_at (i := 5) dy_p09_12 rfl
theorem dX5_put_12 : decode cX5_put 12 = .ok (.iconst 0, 1) := dz_at (i := 6) dy_p09_12 rfl
theorem dX5_put_13 : decode cX5_put 13 = .ok (.goto 24, 3) := dz_at (i := 7) dy_p09_12 rfl
theorem dX5_put_16 : decode cX5_put 16 = .ok (.aload_n 1, 1) := dz_at (i := 8) dy_p09_12 rfl
theorem dX5_put_17 : decode cX5_put 17 = .ok (.lload_n 3, 1) := dz_at (i := 9) dy_p09_12 rfl
theorem dX5_put_18 : decode cX5_put 18 = .ok (.invokevirtual 46, 3) := dz_at (i := 10) dy_p09_12 rfl
theorem dX5_put_21 : decode cX5_put 21 = .ok (.ifCond .eq 10, 3) := dz_at (i := 11) dy_p09_12 rfl
theorem dX5_put_24 : decode cX5_put 24 = .ok (.aload_n 0, 1) := dz_at (i := 12) dy_p09_12 rfl
theorem dX5_put_25 : decode cX5_put 25 = .ok (.invokevirtual 50, 3) := dz_at (i := 13) dy_p09_12 rfl
theorem dX5_put_28 : decode cX5_put 28 = .ok (.goto 9, 3) := dz_at (i := 14) dy_p09_12 rfl
theorem dX5_put_31 : decode cX5_put 31 = .ok (.aload_n 1, 1) := dz_at (i := 15) dy_p09_12 rfl
theorem dX5_put_32 : decode cX5_put 32 = .ok (.iload_n 2, 1) := dz_at (i := 16) dy_p09_12 rfl
theorem dX5_put_33 : decode cX5_put 33 = .ok (.lload_n 3, 1) := dz_at (i := 17) dy_p09_12 rfl
theorem dX5_put_34 : decode cX5_put 34 = .ok (.invokevirtual 54, 3) := dz_at (i := 18) dy_p09_12 rfl
theorem dX5_put_37 : decode cX5_put 37 = .ok (.ireturn, 1) := dz_at (i := 19) dy_p09_12 rfl
noncomputable def o_X5_put (w : Bool) (a : Int32) (f : Nat → Int64) (rf : Int32) (p1 : Int32) (p2 : Int64) : Int32 × Int32 × (Nat → Int64) × Int32 × Int32 :=
  if (o_X5_fails (o_X5_isNo p1) false).1 = true then (0, a, f, (o_X5_fails (o_X5_isNo p1) false).2, rf)
  else if (o_X4_isSpoiled w p2) = true then ((o_X5_refuse rf).1, a, f, (o_X5_fails (o_X5_isNo p1) false).2, (o_X5_refuse rf).2)
  else ((o_X4_come a f p1 p2).1, (o_X4_come a f p1 p2).2.1, (o_X4_come a f p1 p2).2.2, (o_X5_fails (o_X5_isNo p1) false).2, rf)
set_option maxHeartbeats 4000000 in
set_option maxRecDepth 100000 in
theorem k_X5_put (l : Launch) (dC : Nat → ClassId) (dI : Nat → Nat → Nat) (cy : ClassId) (h0 : Nat) (h1 : Nat) (h2 : Nat) (ro : Nat) (hc : Nat) (w : Bool) (a : Int32) (f : Nat → Int64) (th : Int32) (rf : Int32) (kn : Int32) (sz : Nat) (N : Nat) (p1 : Int32) (p2 : Int64) : Met l yX5_put wsX5_put ({ frames := 3, cells := 0, slots := 0, locals := 64 }) (va_Pc [.ref h0, .ref ro, .int p1, .long p2] (xM (dC, dI) xCl [(h0, eM h1 h2 th rf kn), (ro, eMR w hc a), (hc, eA cy f)] [(cy, .long)] sz N)) (va_Qi (fun (r : Int32) (_ : Unit) => r = (o_X5_put w a f rf p1 p2).1) (fun _ t => xW (dC, dI) xCl [(h0, eM h1 h2 (o_X5_put w a f rf p1 p2).2.2.2.1 (o_X5_put w a f rf p1 p2).2.2.2.2 kn), (ro, eMR w hc (o_X5_put w a f rf p1 p2).2.1), (hc, eA cy (o_X5_put w a f rf p1 p2).2.2.1)] (va_A [(h0, eM h1 h2 th rf kn), (ro, eMR w hc a), (hc, eA cy f)] sz) t) (va_A [(h0, eM h1 h2 th rf kn), (ro, eMR w hc a), (hc, eA cy f)] sz)) 0 0 (va_A [(h0, eM h1 h2 th rf kn), (ro, eMR w hc a), (hc, eA cy f)] sz) := by
  refine Met.ofW (cc := cX5_put) (maxL := 5) (ret := (some .int)) (by decide +kernel) rfl ?_
  intro p e s m args below meth c s₁ B hml hv
  obtain ⟨rfl, hsz, hP, hK, hD0, hN, hG⟩ := hv
  have hx := B.exec
  have hb := B.bytes
  have hr := B.returns
  have hts := atoms_spec (ws := wsX5_put) B.pre
  have hown : s.vm.findClass RX5 = some m.cls := findClass_of_methodNamed B.named
  have hlocks := B.notSynchronized
  subst hsz
  have hAN : ∀ q, va_A [(h0, eM h1 h2 th rf kn), (ro, eMR w hc a), (hc, eA cy f)] s.heap.size q → N ≤ q := xA_N hD0 hN
  have hD := hD0.self (sz := s.heap.size)
  generalize hAe : va_A [(h0, eM h1 h2 th rf kn), (ro, eMR w hc a), (hc, eA cy f)] s.heap.size = A at hD hAN ⊢
  have hA : ∀ q : Nat, s.heap.size ≤ q → A q := fun q h => by rw [← hAe]; exact Or.inr h
  have hS : va_S A s.heap s.heap [] := va_S.rf
  have hP : va_P (dC, dI) xCl [(h0, eM h1 h2 th rf kn), (ro, eMR w hc a), (hc, eA cy f)] s.heap := hP
  have hl := lv_entry ([.ref h0, .ref ro, .int p1, .long p2]) (n := 5) (Nat.le_of_ble_eq_true rfl)
  rw [lg_entry_eq]
  generalize (lg_sl ([.ref h0, .ref ro, .int p1, .long p2]) ++ List.replicate (5 - (lg_sl ([.ref h0, .ref ro, .int p1, .long p2])).length) Slot.unset).toArray = ls at hl ⊢
  have hl : lv_has ls 5 [(0, .ref h0), (1, .ref ro), (2, .int p1), (3, .long p2)] := hl
  refine lv_aload_n hx hb dX5_put_0 rfl (lv_at hl 0 rfl) ?_
  refine lv_iload_n hx hb dX5_put_1 rfl (lv_at hl 2 rfl) ?_
  have hPc := hP.sub (ws' := []) [] rfl
  have hKc := hK.sub (tys' := []) [] rfl
  refine va_calli (va_runS (As := [.int p1]) (rest := [.ref h0]) ⟨hx, hb, hml, hown, hts⟩ (k_X5_isNo l dC dI s.heap.size p1) (va_cwS 1 hts gX5_put_X5_isNo rfl rfl rfl (by decide +kernel) ⟨Nat.le_of_ble_eq_true rfl, Nat.le_of_ble_eq_true rfl⟩) (xB.preS hKc hPc) rfl rfl hl.1 rfl (lv_room (Nat.le_of_ble_eq_true rfl)) dX5_put_2 ⟨Nat.le_of_ble_eq_true rfl, Nat.le_of_ble_eq_true rfl⟩) hS xA_old (fun q h => hA q (Nat.le_trans hS.1 h)) (fun r_1 u t H locs ht hvm hw hB hz hk hS => ?_)
  replace hw : r_1 = b2i (o_X5_isNo p1) := hw
  subst r_1
  have hP := xP_keep hP hk
  refine lv_iconst (v := 0) hx hb dX5_put_5 (by decide +kernel) ?_
  have hPc := hP.sub (ws' := [(h0, eM h1 h2 th rf kn)]) [0] rfl
  have hDc := hD.sub (ws' := [(h0, eM h1 h2 th rf kn)]) [0] (by decide +kernel) rfl
  have hKc := hK.sub (tys' := []) [] rfl
  have hFc := va_free (wc := [(h0, eM h1 h2 th rf kn)]) hD hS hA [0] rfl
  refine va_calli (va_runV (As := [.int (b2i (o_X5_isNo p1)), .int 0]) (rest := []) ⟨hx, hb, hml, hown, hts⟩ (k_X5_fails l dC dI h0 h1 h2 th rf kn H.size N (o_X5_isNo p1) false) (cwV 2 hts gX5_put_X5_fails rfl rfl rfl (by decide +kernel) ⟨Nat.le_of_ble_eq_true rfl, Nat.le_of_ble_eq_true rfl⟩) (xM.preV hKc hPc hDc hAN (Nat.le_trans hN hS.1) (hG.kept hS hAN) (ci := 7) (q0 := 0) rfl rfl) rfl rfl hl.1 rfl (lv_room (Nat.le_of_ble_eq_true rfl)) dX5_put_6 ⟨Nat.le_of_ble_eq_true rfl, Nat.le_of_ble_eq_true rfl⟩) hS (fun q _ h => hFc q h) hFc (fun r_2 u t H locs ht hvm hw hB hz hk hS => ?_)
  replace hw : r_2 = b2i ((o_X5_fails (o_X5_isNo p1) false).1) := hw
  subst r_2
  obtain ⟨hP1, hD1⟩ := hB
  rw [ht] at hP1
  obtain ⟨hP, hD⟩ := va_join (wr := [(ro, eMR w hc a), (hc, eA cy f)]) (w1 := [(h0, eM h1 h2 (o_X5_fails (o_X5_isNo p1) false).2 rf kn)]) hP hD [0] [1, 2] rfl rfl (by decide +kernel) (by decide +kernel) hk hFc hP1 hD1
  have hP := hP.sub (ws' := [(h0, eM h1 h2 (o_X5_fails (o_X5_isNo p1) false).2 rf kn), (ro, eMR w hc a), (hc, eA cy f)]) [2, 0, 1] rfl
  have hD := hD.sub (ws' := [(h0, eM h1 h2 (o_X5_fails (o_X5_isNo p1) false).2 rf kn), (ro, eMR w hc a), (hc, eA cy f)]) [2, 0, 1] (by decide +kernel) rfl
  refine xz_eq (tgt := 16) hx hb dX5_put_9 (by decide +kernel) (fun c_3 => ?_) (fun c_3 => ?_)
  · skip
    refine lv_aload_n hx hb dX5_put_16 rfl (lv_at hl 1 rfl) ?_
    refine lv_lload_n hx hb dX5_put_17 rfl (lv_at hl 3 rfl) ?_
    have hPc := hP.sub (ws' := [(ro, eMR w hc a), (hc, eA cy f)]) [1, 2] rfl
    have hKc := hK.sub (tys' := [(cy, .long)]) [0] rfl
    refine va_calli (va_runV (As := [.long p2]) (rest := []) ⟨hx, hb, hml, hown, hts⟩ (k_X4_isSpoiled l dC dI cy ro hc w a f H.size p2) (cwV 1 hts gX5_put_X4_isSpoiled rfl rfl rfl (by decide +kernel) ⟨Nat.le_of_ble_eq_true rfl, Nat.le_of_ble_eq_true rfl⟩) (xB.preV hKc hPc (ci := 6) (q0 := 0) rfl rfl) rfl rfl hl.1 rfl (lv_room (Nat.le_of_ble_eq_true rfl)) dX5_put_18 ⟨Nat.le_of_ble_eq_true rfl, Nat.le_of_ble_eq_true rfl⟩) hS xA_old (fun q h => hA q (Nat.le_trans hS.1 h)) (fun r_4 u t H locs ht hvm hw hB hz hk hS => ?_)
    replace hw : r_4 = b2i (o_X4_isSpoiled w p2) := hw
    subst r_4
    have hP := xP_keep hP hk
    refine xz_eq (tgt := 31) hx hb dX5_put_21 (by decide +kernel) (fun c_5 => ?_) (fun c_5 => ?_)
    · skip
      refine lv_aload_n hx hb dX5_put_31 rfl (lv_at hl 1 rfl) ?_
      refine lv_iload_n hx hb dX5_put_32 rfl (lv_at hl 2 rfl) ?_
      refine lv_lload_n hx hb dX5_put_33 rfl (lv_at hl 3 rfl) ?_
      have hPc := hP.sub (ws' := [(ro, eMR w hc a), (hc, eA cy f)]) [1, 2] rfl
      have hDc := hD.sub (ws' := [(ro, eMR w hc a), (hc, eA cy f)]) [1, 2] (by decide +kernel) rfl
      have hKc := hK.sub (tys' := [(cy, .long)]) [0] rfl
      have hFc := va_free (wc := [(ro, eMR w hc a), (hc, eA cy f)]) hD hS hA [1, 2] rfl
      refine va_calli (va_runV (As := [.int p1, .long p2]) (rest := []) ⟨hx, hb, hml, hown, hts⟩ (k_X4_come l dC dI cy ro hc w a f H.size N p1 p2 (xm_isNo (xm_fails c_3))) (cwV 2 hts gX5_put_X4_come rfl rfl rfl (by decide +kernel) ⟨Nat.le_of_ble_eq_true rfl, Nat.le_of_ble_eq_true rfl⟩) (xM.preV hKc hPc hDc hAN (Nat.le_trans hN hS.1) (hG.kept hS hAN) (ci := 6) (q0 := 0) rfl rfl) rfl rfl hl.1 rfl (lv_room (Nat.le_of_ble_eq_true rfl)) dX5_put_34 ⟨Nat.le_of_ble_eq_true rfl, Nat.le_of_ble_eq_true rfl⟩) hS (fun q _ h => hFc q h) hFc (fun r_6 u t H locs ht hvm hw hB hz hk hS => ?_)
      replace hw : r_6 = (o_X4_come a f p1 p2).1 := hw
      subst r_6
      obtain ⟨hP1, hD1⟩ := hB
      rw [ht] at hP1
      obtain ⟨hP, hD⟩ := va_join (wr := [(h0, eM h1 h2 (o_X5_fails (o_X5_isNo p1) false).2 rf kn)]) (w1 := [(ro, eMR w hc (o_X4_come a f p1 p2).2.1), (hc, eA cy (o_X4_come a f p1 p2).2.2)]) hP hD [1, 2] [0] rfl rfl (by decide +kernel) (by decide +kernel) hk hFc hP1 hD1
      have hP := hP.sub (ws' := [(h0, eM h1 h2 (o_X5_fails (o_X5_isNo p1) false).2 rf kn), (ro, eMR w hc (o_X4_come a f p1 p2).2.1), (hc, eA cy (o_X4_come a f p1 p2).2.2)]) [0, 1, 2] rfl
      have hD := hD.sub (ws' := [(h0, eM h1 h2 (o_X5_fails (o_X5_isNo p1) false).2 rf kn), (ro, eMR w hc (o_X4_come a f p1 p2).2.1), (hc, eA cy (o_X4_come a f p1 p2).2.2)]) [0, 1, 2] (by decide +kernel) rfl
      have he : o_X5_put w a f rf p1 p2 = ((o_X4_come a f p1 p2).1, (o_X4_come a f p1 p2).2.1, (o_X4_come a f p1 p2).2.2, (o_X5_fails (o_X5_isNo p1) false).2, rf) := by (rw [o_X5_put, if_neg c_3, if_neg c_5]) <;> rfl
      refine W.widen (k := 0) (n := 0) (by omega) (by omega) ?_
      exact W.iret (v := ((o_X4_come a f p1 p2).1)) hx hb hr (fun t ht hW => ⟨⟨_, (), rfl, (by (rw [he]) <;> rfl), (by rw [he]; exact ⟨by rw [ht]; exact hP, hD⟩)⟩, hS.F ht⟩) hS.2.2 dX5_put_37
    · skip
      refine lv_aload_n hx hb dX5_put_24 rfl (lv_at hl 0 rfl) ?_
      have hPc := hP.sub (ws' := [(h0, eM h1 h2 (o_X5_fails (o_X5_isNo p1) false).2 rf kn)]) [0] rfl
      have hDc := hD.sub (ws' := [(h0, eM h1 h2 (o_X5_fails (o_X5_isNo p1) false).2 rf kn)]) [0] (by decide +kernel) rfl
      have hKc := hK.sub (tys' := []) [] rfl
      have hFc := va_free (wc := [(h0, eM h1 h2 (o_X5_fails (o_X5_isNo p1) false).2 rf kn)]) hD hS hA [0] rfl
      refine va_calli (va_runV (As := []) (rest := []) ⟨hx, hb, hml, hown, hts⟩ (k_X5_refuse l dC dI h0 h1 h2 ((o_X5_fails (o_X5_isNo p1) false).2) rf kn H.size N) (cwV 0 hts gX5_put_X5_refuse rfl rfl rfl (by decide +kernel) ⟨Nat.le_of_ble_eq_true rfl, Nat.le_of_ble_eq_true rfl⟩) (xM.preV hKc hPc hDc hAN (Nat.le_trans hN hS.1) (hG.kept hS hAN) (ci := 7) (q0 := 0) rfl rfl) rfl rfl hl.1 rfl (lv_room (Nat.le_of_ble_eq_true rfl)) dX5_put_25 ⟨Nat.le_of_ble_eq_true rfl, Nat.le_of_ble_eq_true rfl⟩) hS (fun q _ h => hFc q h) hFc (fun r_7 u t H locs ht hvm hw hB hz hk hS => ?_)
      replace hw : r_7 = (o_X5_refuse rf).1 := hw
      subst r_7
      obtain ⟨hP1, hD1⟩ := hB
      rw [ht] at hP1
      obtain ⟨hP, hD⟩ := va_join (wr := [(ro, eMR w hc a), (hc, eA cy f)]) (w1 := [(h0, eM h1 h2 (o_X5_fails (o_X5_isNo p1) false).2 (o_X5_refuse rf).2 kn)]) hP hD [0] [1, 2] rfl rfl (by decide +kernel) (by decide +kernel) hk hFc hP1 hD1
      have hP := hP.sub (ws' := [(h0, eM h1 h2 (o_X5_fails (o_X5_isNo p1) false).2 (o_X5_refuse rf).2 kn), (ro, eMR w hc a), (hc, eA cy f)]) [2, 0, 1] rfl
      have hD := hD.sub (ws' := [(h0, eM h1 h2 (o_X5_fails (o_X5_isNo p1) false).2 (o_X5_refuse rf).2 kn), (ro, eMR w hc a), (hc, eA cy f)]) [2, 0, 1] (by decide +kernel) rfl
      refine lv_goto (tgt := 37) hx hb dX5_put_28 (by decide +kernel) ?_
      have he : o_X5_put w a f rf p1 p2 = ((o_X5_refuse rf).1, a, f, (o_X5_fails (o_X5_isNo p1) false).2, (o_X5_refuse rf).2) := by (rw [o_X5_put, if_neg c_3, if_pos c_5]) <;> rfl
      refine W.widen (k := 0) (n := 0) (by omega) (by omega) ?_
      exact W.iret (v := ((o_X5_refuse rf).1)) hx hb hr (fun t ht hW => ⟨⟨_, (), rfl, (by (rw [he]) <;> rfl), (by rw [he]; exact ⟨by rw [ht]; exact hP, hD⟩)⟩, hS.F ht⟩) hS.2.2 dX5_put_37
  · skip
    refine lv_iconst (v := 0) hx hb dX5_put_12 (by decide +kernel) ?_
    refine lv_goto (tgt := 37) hx hb dX5_put_13 (by decide +kernel) ?_
    have he : o_X5_put w a f rf p1 p2 = (0, a, f, (o_X5_fails (o_X5_isNo p1) false).2, rf) := by (rw [o_X5_put, if_pos c_3]) <;> rfl
    refine W.widen (k := 0) (n := 0) (by omega) (by omega) ?_
    exact W.iret (v := 0) hx hb hr (fun t ht hW => ⟨⟨_, (), rfl, (by (rw [he]) <;> rfl), (by rw [he]; exact ⟨by rw [ht]; exact hP, hD⟩)⟩, hS.F ht⟩) hS.2.2 dX5_put_37
theorem cl_X5_quarters_1 : ∀ w ∈ wsX5_quarters_r1, w ∈ wsX5_quarters := fun _ h => (List.mem_cons_of_mem _ (List.mem_append_left _ (List.mem_append_left _ (List.mem_append_left _ h))))
theorem cl_X5_quarters_2 : ∀ w ∈ wsX5_quarters_r2, w ∈ wsX5_quarters := fun _ h => (List.mem_cons_of_mem _ (List.mem_append_left _ (List.mem_append_left _ (List.mem_append_right _ h))))
theorem cl_X5_quarters_3 : ∀ w ∈ wsX40, w ∈ wsX5_quarters := fun _ h => (List.mem_cons_of_mem _ (List.mem_append_left _ (List.mem_append_right _ h)))
theorem cl_X5_quarters_4 : ∀ w ∈ wsX50, w ∈ wsX5_quarters := fun _ h => (List.mem_cons_of_mem _ (List.mem_append_right _ h))
set_option maxRecDepth 20000 in
theorem ggX5_quarters_X5_isNo : GoodIn wsX5_quarters wsX5_isNo := goodIn_sub (List.forall_mem_cons.mpr ⟨(cl_X5_quarters_1 _ (List.mem_of_getElem? (i := 4) rfl)), List.forall_mem_cons.mpr ⟨(cl_X5_quarters_1 _ (List.mem_of_getElem? (i := 5) rfl)), List.forall_mem_cons.mpr ⟨(cl_X5_quarters_1 _ (List.mem_of_getElem? (i := 6) rfl)), List.forall_mem_cons.mpr ⟨(cl_X5_quarters_1 _ (List.mem_of_getElem? (i := 3) rfl)), List.forall_mem_cons.mpr ⟨(cl_X5_quarters_1 _ (List.mem_of_getElem? (i := 7) rfl)), fun _ h => absurd h List.not_mem_nil⟩⟩⟩⟩⟩) (by decide +kernel)
set_option maxRecDepth 20000 in
theorem gX5_quarters_X5_isNo : GoodIn wsX5_quarters (va_wsS RX5 35 yX5_isNo wsX5_isNo) := goodIn_app (goodIn_sub (List.forall_mem_cons.mpr ⟨(cl_X5_quarters_1 _ (List.mem_of_getElem? (i := 1) rfl)), List.forall_mem_cons.mpr ⟨(cl_X5_quarters_1 _ (List.mem_of_getElem? (i := 2) rfl)), List.forall_mem_cons.mpr ⟨(cl_X5_quarters_1 _ (List.mem_of_getElem? (i := 3) rfl)), fun _ h => absurd h List.not_mem_nil⟩⟩⟩) (by decide +kernel)) ggX5_quarters_X5_isNo
set_option maxRecDepth 20000 in
theorem ggX5_quarters_X5_fails : GoodIn wsX5_quarters wsX5_fails := goodIn_sub (List.forall_mem_cons.mpr ⟨(cl_X5_quarters_1 _ (List.mem_of_getElem? (i := 11) rfl)), fun w h => (List.mem_append.mp h).elim ((List.forall_mem_cons.mpr ⟨(cl_X5_quarters_1 _ (List.mem_of_getElem? (i := 12) rfl)), fun _ h => absurd h List.not_mem_nil⟩) w) ((cl_X5_quarters_4) w)⟩) (by decide +kernel)
set_option maxRecDepth 20000 in
theorem gX5_quarters_X5_fails : GoodIn wsX5_quarters (wsV RX5 42 RX5 yX5_fails wsX5_fails) := goodIn_app (goodIn_sub (List.forall_mem_cons.mpr ⟨(cl_X5_quarters_1 _ (List.mem_of_getElem? (i := 8) rfl)), List.forall_mem_cons.mpr ⟨(cl_X5_quarters_1 _ (List.mem_of_getElem? (i := 9) rfl)), List.forall_mem_cons.mpr ⟨(cl_X5_quarters_1 _ (List.mem_of_getElem? (i := 10) rfl)), List.forall_mem_cons.mpr ⟨(cl_X5_quarters_1 _ (List.mem_of_getElem? (i := 3) rfl)), fun _ h => absurd h List.not_mem_nil⟩⟩⟩⟩) (by decide +kernel)) ggX5_quarters_X5_fails
set_option maxRecDepth 20000 in
theorem ggX5_quarters_X4_made : GoodIn wsX5_quarters wsX4_made := goodIn_sub (List.forall_mem_cons.mpr ⟨(cl_X5_quarters_1 _ (List.mem_of_getElem? (i := 17) rfl)), fun w h => (List.mem_append.mp h).elim ((List.forall_mem_cons.mpr ⟨(cl_X5_quarters_1 _ (List.mem_of_getElem? (i := 18) rfl)), List.forall_mem_cons.mpr ⟨(cl_X5_quarters_1 _ (List.mem_of_getElem? (i := 19) rfl)), List.forall_mem_cons.mpr ⟨(cl_X5_quarters_1 _ (List.mem_of_getElem? (i := 20) rfl)), List.forall_mem_cons.mpr ⟨(cl_X5_quarters_1 _ (List.mem_of_getElem? (i := 21) rfl)), List.forall_mem_cons.mpr ⟨(cl_X5_quarters_1 _ (List.mem_of_getElem? (i := 22) rfl)), List.forall_mem_cons.mpr ⟨(cl_X5_quarters_1 _ (List.mem_of_getElem? (i := 23) rfl)), List.forall_mem_cons.mpr ⟨(cl_X5_quarters_2 _ (List.mem_of_getElem? (i := 0) rfl)), List.forall_mem_cons.mpr ⟨(cl_X5_quarters_1 _ (List.mem_of_getElem? (i := 16) rfl)), List.forall_mem_cons.mpr ⟨(cl_X5_quarters_2 _ (List.mem_of_getElem? (i := 1) rfl)), fun _ h => absurd h List.not_mem_nil⟩⟩⟩⟩⟩⟩⟩⟩⟩) w) ((cl_X5_quarters_3) w)⟩) (by decide +kernel)
set_option maxRecDepth 20000 in
theorem gX5_quarters_X4_made : GoodIn wsX5_quarters (wsV RX5 62 RX4 yX4_made wsX4_made) := goodIn_app (goodIn_sub (List.forall_mem_cons.mpr ⟨(cl_X5_quarters_1 _ (List.mem_of_getElem? (i := 13) rfl)), List.forall_mem_cons.mpr ⟨(cl_X5_quarters_1 _ (List.mem_of_getElem? (i := 14) rfl)), List.forall_mem_cons.mpr ⟨(cl_X5_quarters_1 _ (List.mem_of_getElem? (i := 15) rfl)), List.forall_mem_cons.mpr ⟨(cl_X5_quarters_1 _ (List.mem_of_getElem? (i := 16) rfl)), fun _ h => absurd h List.not_mem_nil⟩⟩⟩⟩) (by decide +kernel)) ggX5_quarters_X4_made
set_option maxRecDepth 20000 in
theorem ggX5_quarters_X4_come : GoodIn wsX5_quarters wsX4_come := goodIn_sub (List.forall_mem_cons.mpr ⟨(cl_X5_quarters_2 _ (List.mem_of_getElem? (i := 5) rfl)), fun w h => (List.mem_append.mp h).elim ((List.forall_mem_cons.mpr ⟨(cl_X5_quarters_2 _ (List.mem_of_getElem? (i := 6) rfl)), List.forall_mem_cons.mpr ⟨(cl_X5_quarters_2 _ (List.mem_of_getElem? (i := 7) rfl)), fun _ h => absurd h List.not_mem_nil⟩⟩) w) ((cl_X5_quarters_3) w)⟩) (by decide +kernel)
set_option maxRecDepth 20000 in
theorem gX5_quarters_X4_come : GoodIn wsX5_quarters (wsV RX5 54 RX4 yX4_come wsX4_come) := goodIn_app (goodIn_sub (List.forall_mem_cons.mpr ⟨(cl_X5_quarters_2 _ (List.mem_of_getElem? (i := 2) rfl)), List.forall_mem_cons.mpr ⟨(cl_X5_quarters_2 _ (List.mem_of_getElem? (i := 3) rfl)), List.forall_mem_cons.mpr ⟨(cl_X5_quarters_2 _ (List.mem_of_getElem? (i := 4) rfl)), List.forall_mem_cons.mpr ⟨(cl_X5_quarters_1 _ (List.mem_of_getElem? (i := 16) rfl)), fun _ h => absurd h List.not_mem_nil⟩⟩⟩⟩) (by decide +kernel)) ggX5_quarters_X4_come
noncomputable def dz_p09_13 : List (Nat × Instr × Nat) := [(0, (.aload_n 0, 1)), (1, (.iload_n 2, 1)), (2, (.invokestatic 35, 3)), (5, (.iload_n 3, 1)), (6, (.i2l, 1)), (7, (.aload_n 1, 1)), (8, (.getfield 58, 3)), (11, (.lcmp, 1)), (12, (.ifCond .gt 14, 3)), (15, (.iload_n 3, 1)), (16, (.i2l, 1)), (17, (.aload_n 1, 1)), (18, (.getfield 58, 3)), (21, (.lneg, 1)), (22, (.lcmp, 1)), (23, (.ifCond .ge 7, 3)), (26, (.iconst 1, 1)), (27, (.goto 4, 3)), (30, (.iconst 0, 1)), (31, (.invokevirtual 42, 3)), (34, (.ifCond .eq 7, 3)), (37, (.iconst 0, 1)), (38, (.goto 14, 3)), (41, (.aload_n 1, 1)), (42, (.iload_n 2, 1)), (43, (.aload_n 1, 1)), (44, (.iload_n 3, 1)), (45, (.i2l, 1)), (46, (.invokevirtual 62, 3)), (49, (.invokevirtual 54, 3)), (52, (.ireturn, 1))]
theorem dy_p09_13 : dz_ok cX5_quarters dz_p09_13 = true := by decide +kernel
theorem dX5_quarters_0 : decode cX5_quarters 0 = .ok (.aload_n 0, 1) := dz_at (i := 0) dy_p09_13 rfl
theorem dX5_quarters_1 : decode cX5_quarters 1 = .ok (.iload_n 2, 1) := dz_at (i := 1) dy_p09_13 rfl
theorem dX5_quarters_2 : decode cX5_quarters 2 = .ok (.invokestatic 35, 3) := dz_at (i := 2) dy_p09_13 rfl
theorem dX5_quarters_5 : decode cX5_quarters 5 = .ok (.iload_n 3, 1) := dz_at (i := 3) dy_p09_13 rfl
theorem dX5_quarters_6 : decode cX5_quarters 6 = .ok (.i2l, 1) := dz_at (i := 4) dy_p09_13 rfl
theorem dX5_quarters_7 : decode cX5_quarters 7 = .ok (.aload_n 1, 1) := dz_at (i := 5) dy_p09_13 rfl
theorem dX5_quarters_8 : decode cX5_quarters 8 = .ok (.getfield 58, 3) := dz_at (i := 6) dy_p09_13 rfl
theorem dX5_quarters_11 : decode cX5_quarters 11 = .ok (.lcmp, 1) := dz_at (i := 7) dy_p09_13 rfl
theorem dX5_quarters_12 : decode cX5_quarters 12 = .ok (.ifCond .gt 14, 3) := dz_at (i := 8) dy_p09_13 rfl
theorem dX5_quarters_15 : decode cX5_quarters 15 = .ok (.iload_n 3, 1) := dz_at (i := 9) dy_p09_13 rfl
theorem dX5_quarters_16 : decode cX5_quarters 16 = .ok (.i2l, 1) := dz_at (i := 10) dy_p09_13 rfl
theorem dX5_quarters_17 : decode cX5_quarters 17 = .ok (.aload_n 1, 1) := dz_at (i := 11) dy_p09_13 rfl
theorem dX5_quarters_18 : decode cX5_quarters 18 = .ok (.getfield 58, 3) := dz_at (i := 12) dy_p09_13 rfl
theorem dX5_quarters_21 : decode cX5_quarters 21 = .ok (.lneg, 1) := dz_at (i := 13) dy_p09_13 rfl
theorem dX5_quarters_22 : decode cX5_quarters 22 = .ok (.lcmp, 1) := dz_at (i := 14) dy_p09_13 rfl
theorem dX5_quarters_23 : decode cX5_quarters 23 = .ok (.ifCond .ge 7, 3) := dz_at (i := 15) dy_p09_13 rfl
theorem dX5_quarters_26 : decode cX5_quarters 26 = .ok (.iconst 1, 1) := dz_at (i := 16) dy_p09_13 rfl
theorem dX5_quarters_27 : decode cX5_quarters 27 = .ok (.goto 4, 3) := dz_at (i := 17) dy_p09_13 rfl
theorem dX5_quarters_30 : decode cX5_quarters 30 = .ok (.iconst 0, 1) := dz_at (i := 18) dy_p09_13 rfl
theorem dX5_quarters_31 : decode cX5_quarters 31 = .ok (.invokevirtual 42, 3) := dz_at (i := 19) dy_p09_13 rfl
theorem dX5_quarters_34 : decode cX5_quarters 34 = .ok (.ifCond .eq 7, 3) := dz_at (i := 20) dy_p09_13 rfl
theorem dX5_quarters_37 : decode cX5_quarters 37 = .ok (.iconst 0, 1) := dz_at (i := 21) dy_p09_13 rfl
theorem dX5_quarters_38 : decode cX5_quarters 38 = .ok (.goto 14, 3) := dz_at (i := 22) dy_p09_13 rfl
theorem dX5_quarters_41 : decode cX5_quarters 41 = .ok (.aload_n 1, 1) := dz_at (i := 23) dy_p09_13 rfl
theorem dX5_quarters_42 : decode cX5_quarters 42 = .ok (.iload_n 2, 1) := dz_at (i := 24) dy_p09_13 rfl
theorem dX5_quarters_43 : decode cX5_quarters 43 = .ok (.aload_n 1, 1) := dz_at (i := 25) dy_p09_13 rfl
theorem dX5_quarters_44 : decode cX5_quarters 44 = .ok (.iload_n 3, 1) := dz_at (i := 26) dy_p09_13 rfl
theorem dX5_quarters_45 : decode cX5_quarters 45 = .ok (.i2l, 1) := dz_at (i := 27) dy_p09_13 rfl
theorem dX5_quarters_46 : decode cX5_quarters 46 = .ok (.invokevirtual 62, 3) := dz_at (i := 28) dy_p09_13 rfl
theorem dX5_quarters_49 : decode cX5_quarters 49 = .ok (.invokevirtual 54, 3) := dz_at (i := 29) dy_p09_13 rfl
theorem dX5_quarters_52 : decode cX5_quarters 52 = .ok (.ireturn, 1) := dz_at (i := 30) dy_p09_13 rfl
noncomputable def o_X5_quarters (w : Bool) (a : Int32) (f : Nat → Int64) (p1 : Int32) (p2 : Int32) : Int32 × Int32 × (Nat → Int64) × Int32 :=
  if (mMo w) < p2.toInt64 then (if (o_X5_fails (o_X5_isNo p1) true).1 = true then (0, a, f, (o_X5_fails (o_X5_isNo p1) true).2)
    else ((o_X4_come a f p1 (o_X4_made w p2.toInt64)).1, (o_X4_come a f p1 (o_X4_made w p2.toInt64)).2.1, (o_X4_come a f p1 (o_X4_made w p2.toInt64)).2.2, (o_X5_fails (o_X5_isNo p1) true).2))
  else if (-(mMo w)) ≤ p2.toInt64 then (if (o_X5_fails (o_X5_isNo p1) false).1 = true then (0, a, f, (o_X5_fails (o_X5_isNo p1) false).2)
    else ((o_X4_come a f p1 (o_X4_made w p2.toInt64)).1, (o_X4_come a f p1 (o_X4_made w p2.toInt64)).2.1, (o_X4_come a f p1 (o_X4_made w p2.toInt64)).2.2, (o_X5_fails (o_X5_isNo p1) false).2))
  else if (o_X5_fails (o_X5_isNo p1) true).1 = true then (0, a, f, (o_X5_fails (o_X5_isNo p1) true).2)
  else ((o_X4_come a f p1 (o_X4_made w p2.toInt64)).1, (o_X4_come a f p1 (o_X4_made w p2.toInt64)).2.1, (o_X4_come a f p1 (o_X4_made w p2.toInt64)).2.2, (o_X5_fails (o_X5_isNo p1) true).2)
set_option maxHeartbeats 4000000 in
set_option maxRecDepth 100000 in
theorem k_X5_quarters (l : Launch) (dC : Nat → ClassId) (dI : Nat → Nat → Nat) (cy : ClassId) (h0 : Nat) (h1 : Nat) (h2 : Nat) (ro : Nat) (hc : Nat) (w : Bool) (a : Int32) (f : Nat → Int64) (th : Int32) (rf : Int32) (kn : Int32) (sz : Nat) (N : Nat) (p1 : Int32) (p2 : Int32) : Met l yX5_quarters wsX5_quarters ({ frames := 2, cells := 0, slots := 0, locals := 46 }) (va_Pc [.ref h0, .ref ro, .int p1, .int p2] (xM (dC, dI) xCl [(h0, eM h1 h2 th rf kn), (ro, eMR w hc a), (hc, eA cy f)] [(cy, .long)] sz N)) (va_Qi (fun (r : Int32) (_ : Unit) => r = (o_X5_quarters w a f p1 p2).1) (fun _ t => xW (dC, dI) xCl [(h0, eM h1 h2 (o_X5_quarters w a f p1 p2).2.2.2 rf kn), (ro, eMR w hc (o_X5_quarters w a f p1 p2).2.1), (hc, eA cy (o_X5_quarters w a f p1 p2).2.2.1)] (va_A [(h0, eM h1 h2 th rf kn), (ro, eMR w hc a), (hc, eA cy f)] sz) t) (va_A [(h0, eM h1 h2 th rf kn), (ro, eMR w hc a), (hc, eA cy f)] sz)) 0 0 (va_A [(h0, eM h1 h2 th rf kn), (ro, eMR w hc a), (hc, eA cy f)] sz) := by
  refine Met.ofW (cc := cX5_quarters) (maxL := 4) (ret := (some .int)) (by decide +kernel) rfl ?_
  intro p e s m args below meth c s₁ B hml hv
  obtain ⟨rfl, hsz, hP, hK, hD0, hN, hG⟩ := hv
  have hx := B.exec
  have hb := B.bytes
  have hr := B.returns
  have hts := atoms_spec (ws := wsX5_quarters) B.pre
  have hown : s.vm.findClass RX5 = some m.cls := findClass_of_methodNamed B.named
  have hlocks := B.notSynchronized
  subst hsz
  have hAN : ∀ q, va_A [(h0, eM h1 h2 th rf kn), (ro, eMR w hc a), (hc, eA cy f)] s.heap.size q → N ≤ q := xA_N hD0 hN
  have hD := hD0.self (sz := s.heap.size)
  generalize hAe : va_A [(h0, eM h1 h2 th rf kn), (ro, eMR w hc a), (hc, eA cy f)] s.heap.size = A at hD hAN ⊢
  have hA : ∀ q : Nat, s.heap.size ≤ q → A q := fun q h => by rw [← hAe]; exact Or.inr h
  have hS : va_S A s.heap s.heap [] := va_S.rf
  have hP : va_P (dC, dI) xCl [(h0, eM h1 h2 th rf kn), (ro, eMR w hc a), (hc, eA cy f)] s.heap := hP
  have hl := lv_entry ([.ref h0, .ref ro, .int p1, .int p2]) (n := 4) (Nat.le_of_ble_eq_true rfl)
  rw [lg_entry_eq]
  generalize (lg_sl ([.ref h0, .ref ro, .int p1, .int p2]) ++ List.replicate (4 - (lg_sl ([.ref h0, .ref ro, .int p1, .int p2])).length) Slot.unset).toArray = ls at hl ⊢
  have hl : lv_has ls 4 [(0, .ref h0), (1, .ref ro), (2, .int p1), (3, .int p2)] := hl
  refine lv_aload_n hx hb dX5_quarters_0 rfl (lv_at hl 0 rfl) ?_
  refine lv_iload_n hx hb dX5_quarters_1 rfl (lv_at hl 2 rfl) ?_
  have hPc := hP.sub (ws' := []) [] rfl
  have hKc := hK.sub (tys' := []) [] rfl
  refine va_calli (va_runS (As := [.int p1]) (rest := [.ref h0]) ⟨hx, hb, hml, hown, hts⟩ (k_X5_isNo l dC dI s.heap.size p1) (va_cwS 1 hts gX5_quarters_X5_isNo rfl rfl rfl (by decide +kernel) ⟨Nat.le_of_ble_eq_true rfl, Nat.le_of_ble_eq_true rfl⟩) (xB.preS hKc hPc) rfl rfl hl.1 rfl (lv_room (Nat.le_of_ble_eq_true rfl)) dX5_quarters_2 ⟨Nat.le_of_ble_eq_true rfl, Nat.le_of_ble_eq_true rfl⟩) hS xA_old (fun q h => hA q (Nat.le_trans hS.1 h)) (fun r_1 u t H locs ht hvm hw hB hz hk hS => ?_)
  replace hw : r_1 = b2i (o_X5_isNo p1) := hw
  subst r_1
  have hP := xP_keep hP hk
  refine lv_iload_n hx hb dX5_quarters_5 rfl (lv_at hl 3 rfl) ?_
  refine lv_i2l (v := p2.toInt64) hx hb dX5_quarters_6 rfl ?_
  refine lv_aload_n hx hb dX5_quarters_7 rfl (lv_at hl 1 rfl) ?_
  refine va_get (D := (dC, dI)) (ci := 6) (v := .long (mMo w)) (C := RX4) (T := TX4) (N := 5) hx hb hts (by decide +kernel) hown hK hP 1 rfl rfl 2 (by decide +kernel) (hts (.fieldLink RX5 58 "EdgefloatsModel$Row" "most" "J") (by decide +kernel)) (fun _ h9 => h9) rfl dX5_quarters_8 ?_
  refine xc_gt (tgt := 26) hx hb dX5_quarters_11 dX5_quarters_12 (by decide +kernel) (fun c_2 => ?_) (fun c_2 => ?_)
  · skip
    refine lv_iconst (v := 1) hx hb dX5_quarters_26 (by decide +kernel) ?_
    refine lv_goto (tgt := 31) hx hb dX5_quarters_27 (by decide +kernel) ?_
    have hPc := hP.sub (ws' := [(h0, eM h1 h2 th rf kn)]) [0] rfl
    have hDc := hD.sub (ws' := [(h0, eM h1 h2 th rf kn)]) [0] (by decide +kernel) rfl
    have hKc := hK.sub (tys' := []) [] rfl
    have hFc := va_free (wc := [(h0, eM h1 h2 th rf kn)]) hD hS hA [0] rfl
    refine va_calli (va_runV (As := [.int (b2i (o_X5_isNo p1)), .int 1]) (rest := []) ⟨hx, hb, hml, hown, hts⟩ (k_X5_fails l dC dI h0 h1 h2 th rf kn H.size N (o_X5_isNo p1) true) (cwV 2 hts gX5_quarters_X5_fails rfl rfl rfl (by decide +kernel) ⟨Nat.le_of_ble_eq_true rfl, Nat.le_of_ble_eq_true rfl⟩) (xM.preV hKc hPc hDc hAN (Nat.le_trans hN hS.1) (hG.kept hS hAN) (ci := 7) (q0 := 0) rfl rfl) rfl rfl hl.1 rfl (lv_room (Nat.le_of_ble_eq_true rfl)) dX5_quarters_31 ⟨Nat.le_of_ble_eq_true rfl, Nat.le_of_ble_eq_true rfl⟩) hS (fun q _ h => hFc q h) hFc (fun r_3 u t H locs ht hvm hw hB hz hk hS => ?_)
    replace hw : r_3 = b2i ((o_X5_fails (o_X5_isNo p1) true).1) := hw
    subst r_3
    obtain ⟨hP1, hD1⟩ := hB
    rw [ht] at hP1
    obtain ⟨hP, hD⟩ := va_join (wr := [(ro, eMR w hc a), (hc, eA cy f)]) (w1 := [(h0, eM h1 h2 (o_X5_fails (o_X5_isNo p1) true).2 rf kn)]) hP hD [0] [1, 2] rfl rfl (by decide +kernel) (by decide +kernel) hk hFc hP1 hD1
    have hP := hP.sub (ws' := [(h0, eM h1 h2 (o_X5_fails (o_X5_isNo p1) true).2 rf kn), (ro, eMR w hc a), (hc, eA cy f)]) [2, 0, 1] rfl
    have hD := hD.sub (ws' := [(h0, eM h1 h2 (o_X5_fails (o_X5_isNo p1) true).2 rf kn), (ro, eMR w hc a), (hc, eA cy f)]) [2, 0, 1] (by decide +kernel) rfl
    refine xz_eq (tgt := 41) hx hb dX5_quarters_34 (by decide +kernel) (fun c_4 => ?_) (fun c_4 => ?_)
    · skip
      refine lv_aload_n hx hb dX5_quarters_41 rfl (lv_at hl 1 rfl) ?_
      refine lv_iload_n hx hb dX5_quarters_42 rfl (lv_at hl 2 rfl) ?_
      refine lv_aload_n hx hb dX5_quarters_43 rfl (lv_at hl 1 rfl) ?_
      refine lv_iload_n hx hb dX5_quarters_44 rfl (lv_at hl 3 rfl) ?_
      refine lv_i2l (v := p2.toInt64) hx hb dX5_quarters_45 rfl ?_
      have hPc := hP.sub (ws' := [(ro, eMR w hc a), (hc, eA cy f)]) [1, 2] rfl
      have hKc := hK.sub (tys' := [(cy, .long)]) [0] rfl
      refine va_calll (va_runV (As := [.long p2.toInt64]) (rest := [.int p1, .ref ro]) ⟨hx, hb, hml, hown, hts⟩ (k_X4_made l dC dI cy ro hc w a f H.size p2.toInt64 (xm_i64r _)) (cwV 1 hts gX5_quarters_X4_made rfl rfl rfl (by decide +kernel) ⟨Nat.le_of_ble_eq_true rfl, Nat.le_of_ble_eq_true rfl⟩) (xB.preV hKc hPc (ci := 6) (q0 := 0) rfl rfl) rfl rfl hl.1 rfl (lv_room (Nat.le_of_ble_eq_true rfl)) dX5_quarters_46 ⟨Nat.le_of_ble_eq_true rfl, Nat.le_of_ble_eq_true rfl⟩) hS xA_old (fun q h => hA q (Nat.le_trans hS.1 h)) (fun r_5 u t H locs ht hvm hw hB hz hk hS => ?_)
      replace hw : r_5 = (o_X4_made w p2.toInt64) := hw
      subst r_5
      have hP := xP_keep hP hk
      have hPc := hP.sub (ws' := [(ro, eMR w hc a), (hc, eA cy f)]) [1, 2] rfl
      have hDc := hD.sub (ws' := [(ro, eMR w hc a), (hc, eA cy f)]) [1, 2] (by decide +kernel) rfl
      have hKc := hK.sub (tys' := [(cy, .long)]) [0] rfl
      have hFc := va_free (wc := [(ro, eMR w hc a), (hc, eA cy f)]) hD hS hA [1, 2] rfl
      refine va_calli (va_runV (As := [.int p1, .long (o_X4_made w p2.toInt64)]) (rest := []) ⟨hx, hb, hml, hown, hts⟩ (k_X4_come l dC dI cy ro hc w a f H.size N p1 (o_X4_made w p2.toInt64) (xm_isNo (xm_fails c_4))) (cwV 2 hts gX5_quarters_X4_come rfl rfl rfl (by decide +kernel) ⟨Nat.le_of_ble_eq_true rfl, Nat.le_of_ble_eq_true rfl⟩) (xM.preV hKc hPc hDc hAN (Nat.le_trans hN hS.1) (hG.kept hS hAN) (ci := 6) (q0 := 0) rfl rfl) rfl rfl hl.1 rfl (lv_room (Nat.le_of_ble_eq_true rfl)) dX5_quarters_49 ⟨Nat.le_of_ble_eq_true rfl, Nat.le_of_ble_eq_true rfl⟩) hS (fun q _ h => hFc q h) hFc (fun r_6 u t H locs ht hvm hw hB hz hk hS => ?_)
      replace hw : r_6 = (o_X4_come a f p1 (o_X4_made w p2.toInt64)).1 := hw
      subst r_6
      obtain ⟨hP1, hD1⟩ := hB
      rw [ht] at hP1
      obtain ⟨hP, hD⟩ := va_join (wr := [(h0, eM h1 h2 (o_X5_fails (o_X5_isNo p1) true).2 rf kn)]) (w1 := [(ro, eMR w hc (o_X4_come a f p1 (o_X4_made w p2.toInt64)).2.1), (hc, eA cy (o_X4_come a f p1 (o_X4_made w p2.toInt64)).2.2)]) hP hD [1, 2] [0] rfl rfl (by decide +kernel) (by decide +kernel) hk hFc hP1 hD1
      have hP := hP.sub (ws' := [(h0, eM h1 h2 (o_X5_fails (o_X5_isNo p1) true).2 rf kn), (ro, eMR w hc (o_X4_come a f p1 (o_X4_made w p2.toInt64)).2.1), (hc, eA cy (o_X4_come a f p1 (o_X4_made w p2.toInt64)).2.2)]) [0, 1, 2] rfl
      have hD := hD.sub (ws' := [(h0, eM h1 h2 (o_X5_fails (o_X5_isNo p1) true).2 rf kn), (ro, eMR w hc (o_X4_come a f p1 (o_X4_made w p2.toInt64)).2.1), (hc, eA cy (o_X4_come a f p1 (o_X4_made w p2.toInt64)).2.2)]) [0, 1, 2] (by decide +kernel) rfl
      have he : o_X5_quarters w a f p1 p2 = ((o_X4_come a f p1 (o_X4_made w p2.toInt64)).1, (o_X4_come a f p1 (o_X4_made w p2.toInt64)).2.1, (o_X4_come a f p1 (o_X4_made w p2.toInt64)).2.2, (o_X5_fails (o_X5_isNo p1) true).2) := by (rw [o_X5_quarters, if_pos c_2, if_neg c_4]) <;> rfl
      refine W.widen (k := 0) (n := 0) (by omega) (by omega) ?_
      exact W.iret (v := ((o_X4_come a f p1 (o_X4_made w p2.toInt64)).1)) hx hb hr (fun t ht hW => ⟨⟨_, (), rfl, (by (rw [he]) <;> rfl), (by rw [he]; exact ⟨by rw [ht]; exact hP, hD⟩)⟩, hS.F ht⟩) hS.2.2 dX5_quarters_52
    · skip
      refine lv_iconst (v := 0) hx hb dX5_quarters_37 (by decide +kernel) ?_
      refine lv_goto (tgt := 52) hx hb dX5_quarters_38 (by decide +kernel) ?_
      have he : o_X5_quarters w a f p1 p2 = (0, a, f, (o_X5_fails (o_X5_isNo p1) true).2) := by (rw [o_X5_quarters, if_pos c_2, if_pos c_4]) <;> rfl
      refine W.widen (k := 0) (n := 0) (by omega) (by omega) ?_
      exact W.iret (v := 0) hx hb hr (fun t ht hW => ⟨⟨_, (), rfl, (by (rw [he]) <;> rfl), (by rw [he]; exact ⟨by rw [ht]; exact hP, hD⟩)⟩, hS.F ht⟩) hS.2.2 dX5_quarters_52
  · skip
    refine lv_iload_n hx hb dX5_quarters_15 rfl (lv_at hl 3 rfl) ?_
    refine lv_i2l (v := p2.toInt64) hx hb dX5_quarters_16 rfl ?_
    refine lv_aload_n hx hb dX5_quarters_17 rfl (lv_at hl 1 rfl) ?_
    refine va_get (D := (dC, dI)) (ci := 6) (v := .long (mMo w)) (C := RX4) (T := TX4) (N := 5) hx hb hts (by decide +kernel) hown hK hP 1 rfl rfl 2 (by decide +kernel) (hts (.fieldLink RX5 58 "EdgefloatsModel$Row" "most" "J") (by decide +kernel)) (fun _ h9 => h9) rfl dX5_quarters_18 ?_
    refine lv_lneg hx hb dX5_quarters_21 ?_
    refine xc_ge (tgt := 30) hx hb dX5_quarters_22 dX5_quarters_23 (by decide +kernel) (fun c_7 => ?_) (fun c_7 => ?_)
    · skip
      refine lv_iconst (v := 0) hx hb dX5_quarters_30 (by decide +kernel) ?_
      have hPc := hP.sub (ws' := [(h0, eM h1 h2 th rf kn)]) [0] rfl
      have hDc := hD.sub (ws' := [(h0, eM h1 h2 th rf kn)]) [0] (by decide +kernel) rfl
      have hKc := hK.sub (tys' := []) [] rfl
      have hFc := va_free (wc := [(h0, eM h1 h2 th rf kn)]) hD hS hA [0] rfl
      refine va_calli (va_runV (As := [.int (b2i (o_X5_isNo p1)), .int 0]) (rest := []) ⟨hx, hb, hml, hown, hts⟩ (k_X5_fails l dC dI h0 h1 h2 th rf kn H.size N (o_X5_isNo p1) false) (cwV 2 hts gX5_quarters_X5_fails rfl rfl rfl (by decide +kernel) ⟨Nat.le_of_ble_eq_true rfl, Nat.le_of_ble_eq_true rfl⟩) (xM.preV hKc hPc hDc hAN (Nat.le_trans hN hS.1) (hG.kept hS hAN) (ci := 7) (q0 := 0) rfl rfl) rfl rfl hl.1 rfl (lv_room (Nat.le_of_ble_eq_true rfl)) dX5_quarters_31 ⟨Nat.le_of_ble_eq_true rfl, Nat.le_of_ble_eq_true rfl⟩) hS (fun q _ h => hFc q h) hFc (fun r_8 u t H locs ht hvm hw hB hz hk hS => ?_)
      replace hw : r_8 = b2i ((o_X5_fails (o_X5_isNo p1) false).1) := hw
      subst r_8
      obtain ⟨hP1, hD1⟩ := hB
      rw [ht] at hP1
      obtain ⟨hP, hD⟩ := va_join (wr := [(ro, eMR w hc a), (hc, eA cy f)]) (w1 := [(h0, eM h1 h2 (o_X5_fails (o_X5_isNo p1) false).2 rf kn)]) hP hD [0] [1, 2] rfl rfl (by decide +kernel) (by decide +kernel) hk hFc hP1 hD1
      have hP := hP.sub (ws' := [(h0, eM h1 h2 (o_X5_fails (o_X5_isNo p1) false).2 rf kn), (ro, eMR w hc a), (hc, eA cy f)]) [2, 0, 1] rfl
      have hD := hD.sub (ws' := [(h0, eM h1 h2 (o_X5_fails (o_X5_isNo p1) false).2 rf kn), (ro, eMR w hc a), (hc, eA cy f)]) [2, 0, 1] (by decide +kernel) rfl
      refine xz_eq (tgt := 41) hx hb dX5_quarters_34 (by decide +kernel) (fun c_9 => ?_) (fun c_9 => ?_)
      · skip
        refine lv_aload_n hx hb dX5_quarters_41 rfl (lv_at hl 1 rfl) ?_
        refine lv_iload_n hx hb dX5_quarters_42 rfl (lv_at hl 2 rfl) ?_
        refine lv_aload_n hx hb dX5_quarters_43 rfl (lv_at hl 1 rfl) ?_
        refine lv_iload_n hx hb dX5_quarters_44 rfl (lv_at hl 3 rfl) ?_
        refine lv_i2l (v := p2.toInt64) hx hb dX5_quarters_45 rfl ?_
        have hPc := hP.sub (ws' := [(ro, eMR w hc a), (hc, eA cy f)]) [1, 2] rfl
        have hKc := hK.sub (tys' := [(cy, .long)]) [0] rfl
        refine va_calll (va_runV (As := [.long p2.toInt64]) (rest := [.int p1, .ref ro]) ⟨hx, hb, hml, hown, hts⟩ (k_X4_made l dC dI cy ro hc w a f H.size p2.toInt64 (xm_i64r _)) (cwV 1 hts gX5_quarters_X4_made rfl rfl rfl (by decide +kernel) ⟨Nat.le_of_ble_eq_true rfl, Nat.le_of_ble_eq_true rfl⟩) (xB.preV hKc hPc (ci := 6) (q0 := 0) rfl rfl) rfl rfl hl.1 rfl (lv_room (Nat.le_of_ble_eq_true rfl)) dX5_quarters_46 ⟨Nat.le_of_ble_eq_true rfl, Nat.le_of_ble_eq_true rfl⟩) hS xA_old (fun q h => hA q (Nat.le_trans hS.1 h)) (fun r_10 u t H locs ht hvm hw hB hz hk hS => ?_)
        replace hw : r_10 = (o_X4_made w p2.toInt64) := hw
        subst r_10
        have hP := xP_keep hP hk
        have hPc := hP.sub (ws' := [(ro, eMR w hc a), (hc, eA cy f)]) [1, 2] rfl
        have hDc := hD.sub (ws' := [(ro, eMR w hc a), (hc, eA cy f)]) [1, 2] (by decide +kernel) rfl
        have hKc := hK.sub (tys' := [(cy, .long)]) [0] rfl
        have hFc := va_free (wc := [(ro, eMR w hc a), (hc, eA cy f)]) hD hS hA [1, 2] rfl
        refine va_calli (va_runV (As := [.int p1, .long (o_X4_made w p2.toInt64)]) (rest := []) ⟨hx, hb, hml, hown, hts⟩ (k_X4_come l dC dI cy ro hc w a f H.size N p1 (o_X4_made w p2.toInt64) (xm_isNo (xm_fails c_9))) (cwV 2 hts gX5_quarters_X4_come rfl rfl rfl (by decide +kernel) ⟨Nat.le_of_ble_eq_true rfl, Nat.le_of_ble_eq_true rfl⟩) (xM.preV hKc hPc hDc hAN (Nat.le_trans hN hS.1) (hG.kept hS hAN) (ci := 6) (q0 := 0) rfl rfl) rfl rfl hl.1 rfl (lv_room (Nat.le_of_ble_eq_true rfl)) dX5_quarters_49 ⟨Nat.le_of_ble_eq_true rfl, Nat.le_of_ble_eq_true rfl⟩) hS (fun q _ h => hFc q h) hFc (fun r_11 u t H locs ht hvm hw hB hz hk hS => ?_)
        replace hw : r_11 = (o_X4_come a f p1 (o_X4_made w p2.toInt64)).1 := hw
        subst r_11
        obtain ⟨hP1, hD1⟩ := hB
        rw [ht] at hP1
        obtain ⟨hP, hD⟩ := va_join (wr := [(h0, eM h1 h2 (o_X5_fails (o_X5_isNo p1) false).2 rf kn)]) (w1 := [(ro, eMR w hc (o_X4_come a f p1 (o_X4_made w p2.toInt64)).2.1), (hc, eA cy (o_X4_come a f p1 (o_X4_made w p2.toInt64)).2.2)]) hP hD [1, 2] [0] rfl rfl (by decide +kernel) (by decide +kernel) hk hFc hP1 hD1
        have hP := hP.sub (ws' := [(h0, eM h1 h2 (o_X5_fails (o_X5_isNo p1) false).2 rf kn), (ro, eMR w hc (o_X4_come a f p1 (o_X4_made w p2.toInt64)).2.1), (hc, eA cy (o_X4_come a f p1 (o_X4_made w p2.toInt64)).2.2)]) [0, 1, 2] rfl
        have hD := hD.sub (ws' := [(h0, eM h1 h2 (o_X5_fails (o_X5_isNo p1) false).2 rf kn), (ro, eMR w hc (o_X4_come a f p1 (o_X4_made w p2.toInt64)).2.1), (hc, eA cy (o_X4_come a f p1 (o_X4_made w p2.toInt64)).2.2)]) [0, 1, 2] (by decide +kernel) rfl
        have he : o_X5_quarters w a f p1 p2 = ((o_X4_come a f p1 (o_X4_made w p2.toInt64)).1, (o_X4_come a f p1 (o_X4_made w p2.toInt64)).2.1, (o_X4_come a f p1 (o_X4_made w p2.toInt64)).2.2, (o_X5_fails (o_X5_isNo p1) false).2) := by (rw [o_X5_quarters, if_neg c_2, if_pos c_7, if_neg c_9]) <;> rfl
        refine W.widen (k := 0) (n := 0) (by omega) (by omega) ?_
        exact W.iret (v := ((o_X4_come a f p1 (o_X4_made w p2.toInt64)).1)) hx hb hr (fun t ht hW => ⟨⟨_, (), rfl, (by (rw [he]) <;> rfl), (by rw [he]; exact ⟨by rw [ht]; exact hP, hD⟩)⟩, hS.F ht⟩) hS.2.2 dX5_quarters_52
      · skip
        refine lv_iconst (v := 0) hx hb dX5_quarters_37 (by decide +kernel) ?_
        refine lv_goto (tgt := 52) hx hb dX5_quarters_38 (by decide +kernel) ?_
        have he : o_X5_quarters w a f p1 p2 = (0, a, f, (o_X5_fails (o_X5_isNo p1) false).2) := by (rw [o_X5_quarters, if_neg c_2, if_pos c_7, if_pos c_9]) <;> rfl
        refine W.widen (k := 0) (n := 0) (by omega) (by omega) ?_
        exact W.iret (v := 0) hx hb hr (fun t ht hW => ⟨⟨_, (), rfl, (by (rw [he]) <;> rfl), (by rw [he]; exact ⟨by rw [ht]; exact hP, hD⟩)⟩, hS.F ht⟩) hS.2.2 dX5_quarters_52
    · skip
      refine lv_iconst (v := 1) hx hb dX5_quarters_26 (by decide +kernel) ?_
      refine lv_goto (tgt := 31) hx hb dX5_quarters_27 (by decide +kernel) ?_
      have hPc := hP.sub (ws' := [(h0, eM h1 h2 th rf kn)]) [0] rfl
      have hDc := hD.sub (ws' := [(h0, eM h1 h2 th rf kn)]) [0] (by decide +kernel) rfl
      have hKc := hK.sub (tys' := []) [] rfl
      have hFc := va_free (wc := [(h0, eM h1 h2 th rf kn)]) hD hS hA [0] rfl
      refine va_calli (va_runV (As := [.int (b2i (o_X5_isNo p1)), .int 1]) (rest := []) ⟨hx, hb, hml, hown, hts⟩ (k_X5_fails l dC dI h0 h1 h2 th rf kn H.size N (o_X5_isNo p1) true) (cwV 2 hts gX5_quarters_X5_fails rfl rfl rfl (by decide +kernel) ⟨Nat.le_of_ble_eq_true rfl, Nat.le_of_ble_eq_true rfl⟩) (xM.preV hKc hPc hDc hAN (Nat.le_trans hN hS.1) (hG.kept hS hAN) (ci := 7) (q0 := 0) rfl rfl) rfl rfl hl.1 rfl (lv_room (Nat.le_of_ble_eq_true rfl)) dX5_quarters_31 ⟨Nat.le_of_ble_eq_true rfl, Nat.le_of_ble_eq_true rfl⟩) hS (fun q _ h => hFc q h) hFc (fun r_12 u t H locs ht hvm hw hB hz hk hS => ?_)
      replace hw : r_12 = b2i ((o_X5_fails (o_X5_isNo p1) true).1) := hw
      subst r_12
      obtain ⟨hP1, hD1⟩ := hB
      rw [ht] at hP1
      obtain ⟨hP, hD⟩ := va_join (wr := [(ro, eMR w hc a), (hc, eA cy f)]) (w1 := [(h0, eM h1 h2 (o_X5_fails (o_X5_isNo p1) true).2 rf kn)]) hP hD [0] [1, 2] rfl rfl (by decide +kernel) (by decide +kernel) hk hFc hP1 hD1
      have hP := hP.sub (ws' := [(h0, eM h1 h2 (o_X5_fails (o_X5_isNo p1) true).2 rf kn), (ro, eMR w hc a), (hc, eA cy f)]) [2, 0, 1] rfl
      have hD := hD.sub (ws' := [(h0, eM h1 h2 (o_X5_fails (o_X5_isNo p1) true).2 rf kn), (ro, eMR w hc a), (hc, eA cy f)]) [2, 0, 1] (by decide +kernel) rfl
      refine xz_eq (tgt := 41) hx hb dX5_quarters_34 (by decide +kernel) (fun c_13 => ?_) (fun c_13 => ?_)
      · skip
        refine lv_aload_n hx hb dX5_quarters_41 rfl (lv_at hl 1 rfl) ?_
        refine lv_iload_n hx hb dX5_quarters_42 rfl (lv_at hl 2 rfl) ?_
        refine lv_aload_n hx hb dX5_quarters_43 rfl (lv_at hl 1 rfl) ?_
        refine lv_iload_n hx hb dX5_quarters_44 rfl (lv_at hl 3 rfl) ?_
        refine lv_i2l (v := p2.toInt64) hx hb dX5_quarters_45 rfl ?_
        have hPc := hP.sub (ws' := [(ro, eMR w hc a), (hc, eA cy f)]) [1, 2] rfl
        have hKc := hK.sub (tys' := [(cy, .long)]) [0] rfl
        refine va_calll (va_runV (As := [.long p2.toInt64]) (rest := [.int p1, .ref ro]) ⟨hx, hb, hml, hown, hts⟩ (k_X4_made l dC dI cy ro hc w a f H.size p2.toInt64 (xm_i64r _)) (cwV 1 hts gX5_quarters_X4_made rfl rfl rfl (by decide +kernel) ⟨Nat.le_of_ble_eq_true rfl, Nat.le_of_ble_eq_true rfl⟩) (xB.preV hKc hPc (ci := 6) (q0 := 0) rfl rfl) rfl rfl hl.1 rfl (lv_room (Nat.le_of_ble_eq_true rfl)) dX5_quarters_46 ⟨Nat.le_of_ble_eq_true rfl, Nat.le_of_ble_eq_true rfl⟩) hS xA_old (fun q h => hA q (Nat.le_trans hS.1 h)) (fun r_14 u t H locs ht hvm hw hB hz hk hS => ?_)
        replace hw : r_14 = (o_X4_made w p2.toInt64) := hw
        subst r_14
        have hP := xP_keep hP hk
        have hPc := hP.sub (ws' := [(ro, eMR w hc a), (hc, eA cy f)]) [1, 2] rfl
        have hDc := hD.sub (ws' := [(ro, eMR w hc a), (hc, eA cy f)]) [1, 2] (by decide +kernel) rfl
        have hKc := hK.sub (tys' := [(cy, .long)]) [0] rfl
        have hFc := va_free (wc := [(ro, eMR w hc a), (hc, eA cy f)]) hD hS hA [1, 2] rfl
        refine va_calli (va_runV (As := [.int p1, .long (o_X4_made w p2.toInt64)]) (rest := []) ⟨hx, hb, hml, hown, hts⟩ (k_X4_come l dC dI cy ro hc w a f H.size N p1 (o_X4_made w p2.toInt64) (xm_isNo (xm_fails c_13))) (cwV 2 hts gX5_quarters_X4_come rfl rfl rfl (by decide +kernel) ⟨Nat.le_of_ble_eq_true rfl, Nat.le_of_ble_eq_true rfl⟩) (xM.preV hKc hPc hDc hAN (Nat.le_trans hN hS.1) (hG.kept hS hAN) (ci := 6) (q0 := 0) rfl rfl) rfl rfl hl.1 rfl (lv_room (Nat.le_of_ble_eq_true rfl)) dX5_quarters_49 ⟨Nat.le_of_ble_eq_true rfl, Nat.le_of_ble_eq_true rfl⟩) hS (fun q _ h => hFc q h) hFc (fun r_15 u t H locs ht hvm hw hB hz hk hS => ?_)
        replace hw : r_15 = (o_X4_come a f p1 (o_X4_made w p2.toInt64)).1 := hw
        subst r_15
        obtain ⟨hP1, hD1⟩ := hB
        rw [ht] at hP1
        obtain ⟨hP, hD⟩ := va_join (wr := [(h0, eM h1 h2 (o_X5_fails (o_X5_isNo p1) true).2 rf kn)]) (w1 := [(ro, eMR w hc (o_X4_come a f p1 (o_X4_made w p2.toInt64)).2.1), (hc, eA cy (o_X4_come a f p1 (o_X4_made w p2.toInt64)).2.2)]) hP hD [1, 2] [0] rfl rfl (by decide +kernel) (by decide +kernel) hk hFc hP1 hD1
        have hP := hP.sub (ws' := [(h0, eM h1 h2 (o_X5_fails (o_X5_isNo p1) true).2 rf kn), (ro, eMR w hc (o_X4_come a f p1 (o_X4_made w p2.toInt64)).2.1), (hc, eA cy (o_X4_come a f p1 (o_X4_made w p2.toInt64)).2.2)]) [0, 1, 2] rfl
        have hD := hD.sub (ws' := [(h0, eM h1 h2 (o_X5_fails (o_X5_isNo p1) true).2 rf kn), (ro, eMR w hc (o_X4_come a f p1 (o_X4_made w p2.toInt64)).2.1), (hc, eA cy (o_X4_come a f p1 (o_X4_made w p2.toInt64)).2.2)]) [0, 1, 2] (by decide +kernel) rfl
        have he : o_X5_quarters w a f p1 p2 = ((o_X4_come a f p1 (o_X4_made w p2.toInt64)).1, (o_X4_come a f p1 (o_X4_made w p2.toInt64)).2.1, (o_X4_come a f p1 (o_X4_made w p2.toInt64)).2.2, (o_X5_fails (o_X5_isNo p1) true).2) := by (rw [o_X5_quarters, if_neg c_2, if_neg c_7, if_neg c_13]) <;> rfl
        refine W.widen (k := 0) (n := 0) (by omega) (by omega) ?_
        exact W.iret (v := ((o_X4_come a f p1 (o_X4_made w p2.toInt64)).1)) hx hb hr (fun t ht hW => ⟨⟨_, (), rfl, (by (rw [he]) <;> rfl), (by rw [he]; exact ⟨by rw [ht]; exact hP, hD⟩)⟩, hS.F ht⟩) hS.2.2 dX5_quarters_52
      · skip
        refine lv_iconst (v := 0) hx hb dX5_quarters_37 (by decide +kernel) ?_
        refine lv_goto (tgt := 52) hx hb dX5_quarters_38 (by decide +kernel) ?_
        have he : o_X5_quarters w a f p1 p2 = (0, a, f, (o_X5_fails (o_X5_isNo p1) true).2) := by (rw [o_X5_quarters, if_neg c_2, if_neg c_7, if_pos c_13]) <;> rfl
        refine W.widen (k := 0) (n := 0) (by omega) (by omega) ?_
        exact W.iret (v := 0) hx hb hr (fun t ht hW => ⟨⟨_, (), rfl, (by (rw [he]) <;> rfl), (by rw [he]; exact ⟨by rw [ht]; exact hP, hD⟩)⟩, hS.F ht⟩) hS.2.2 dX5_quarters_52
theorem cl_X5_known_1 : ∀ w ∈ wsX5_known_r1, w ∈ wsX5_known := fun _ h => (List.mem_cons_of_mem _ (List.mem_append_left _ (List.mem_append_left _ (List.mem_append_left _ h))))
theorem cl_X5_known_2 : ∀ w ∈ wsX5_known_r2, w ∈ wsX5_known := fun _ h => (List.mem_cons_of_mem _ (List.mem_append_left _ (List.mem_append_left _ (List.mem_append_right _ h))))
theorem cl_X5_known_3 : ∀ w ∈ wsX50, w ∈ wsX5_known := fun _ h => (List.mem_cons_of_mem _ (List.mem_append_left _ (List.mem_append_right _ h)))
theorem cl_X5_known_4 : ∀ w ∈ wsX40, w ∈ wsX5_known := fun _ h => (List.mem_cons_of_mem _ (List.mem_append_right _ h))
set_option maxRecDepth 20000 in
theorem ggX5_known_X5_isNo : GoodIn wsX5_known wsX5_isNo := goodIn_sub (List.forall_mem_cons.mpr ⟨(cl_X5_known_1 _ (List.mem_of_getElem? (i := 3) rfl)), List.forall_mem_cons.mpr ⟨(cl_X5_known_1 _ (List.mem_of_getElem? (i := 4) rfl)), List.forall_mem_cons.mpr ⟨(cl_X5_known_1 _ (List.mem_of_getElem? (i := 5) rfl)), List.forall_mem_cons.mpr ⟨(cl_X5_known_1 _ (List.mem_of_getElem? (i := 2) rfl)), List.forall_mem_cons.mpr ⟨(cl_X5_known_1 _ (List.mem_of_getElem? (i := 6) rfl)), fun _ h => absurd h List.not_mem_nil⟩⟩⟩⟩⟩) (by decide +kernel)
set_option maxRecDepth 20000 in
theorem gX5_known_X5_isNo : GoodIn wsX5_known (va_wsS RX5 35 yX5_isNo wsX5_isNo) := goodIn_app (goodIn_sub (List.forall_mem_cons.mpr ⟨(cl_X5_known_1 _ (List.mem_of_getElem? (i := 0) rfl)), List.forall_mem_cons.mpr ⟨(cl_X5_known_1 _ (List.mem_of_getElem? (i := 1) rfl)), List.forall_mem_cons.mpr ⟨(cl_X5_known_1 _ (List.mem_of_getElem? (i := 2) rfl)), fun _ h => absurd h List.not_mem_nil⟩⟩⟩) (by decide +kernel)) ggX5_known_X5_isNo
set_option maxRecDepth 20000 in
theorem ggX5_known_X5_isIn : GoodIn wsX5_known wsX5_isIn := goodIn_r _ [7] (by decide +kernel) (by decide +kernel)
set_option maxRecDepth 20000 in
theorem gX5_known_X5_isIn : GoodIn wsX5_known (va_wsS RX5 31 yX5_isIn wsX5_isIn) := goodIn_app (goodIn_sub (List.forall_mem_cons.mpr ⟨(cl_X5_known_1 _ (List.mem_of_getElem? (i := 4) rfl)), List.forall_mem_cons.mpr ⟨(cl_X5_known_1 _ (List.mem_of_getElem? (i := 5) rfl)), List.forall_mem_cons.mpr ⟨(cl_X5_known_1 _ (List.mem_of_getElem? (i := 2) rfl)), fun _ h => absurd h List.not_mem_nil⟩⟩⟩) (by decide +kernel)) ggX5_known_X5_isIn
set_option maxRecDepth 20000 in
theorem ggX5_known_X5_fails : GoodIn wsX5_known wsX5_fails := goodIn_sub (List.forall_mem_cons.mpr ⟨(cl_X5_known_1 _ (List.mem_of_getElem? (i := 10) rfl)), fun w h => (List.mem_append.mp h).elim ((List.forall_mem_cons.mpr ⟨(cl_X5_known_1 _ (List.mem_of_getElem? (i := 11) rfl)), fun _ h => absurd h List.not_mem_nil⟩) w) ((cl_X5_known_3) w)⟩) (by decide +kernel)
set_option maxRecDepth 20000 in
theorem gX5_known_X5_fails : GoodIn wsX5_known (wsV RX5 42 RX5 yX5_fails wsX5_fails) := goodIn_app (goodIn_sub (List.forall_mem_cons.mpr ⟨(cl_X5_known_1 _ (List.mem_of_getElem? (i := 7) rfl)), List.forall_mem_cons.mpr ⟨(cl_X5_known_1 _ (List.mem_of_getElem? (i := 8) rfl)), List.forall_mem_cons.mpr ⟨(cl_X5_known_1 _ (List.mem_of_getElem? (i := 9) rfl)), List.forall_mem_cons.mpr ⟨(cl_X5_known_1 _ (List.mem_of_getElem? (i := 2) rfl)), fun _ h => absurd h List.not_mem_nil⟩⟩⟩⟩) (by decide +kernel)) ggX5_known_X5_fails
set_option maxRecDepth 20000 in
theorem ggX5_known_X4_known : GoodIn wsX5_known wsX4_known := goodIn_sub (List.forall_mem_cons.mpr ⟨(cl_X5_known_1 _ (List.mem_of_getElem? (i := 16) rfl)), fun w h => (List.mem_append.mp h).elim ((List.forall_mem_cons.mpr ⟨(cl_X5_known_1 _ (List.mem_of_getElem? (i := 17) rfl)), List.forall_mem_cons.mpr ⟨(cl_X5_known_1 _ (List.mem_of_getElem? (i := 18) rfl)), List.forall_mem_cons.mpr ⟨(cl_X5_known_1 _ (List.mem_of_getElem? (i := 19) rfl)), List.forall_mem_cons.mpr ⟨(cl_X5_known_1 _ (List.mem_of_getElem? (i := 20) rfl)), List.forall_mem_cons.mpr ⟨(cl_X5_known_1 _ (List.mem_of_getElem? (i := 15) rfl)), List.forall_mem_cons.mpr ⟨(cl_X5_known_1 _ (List.mem_of_getElem? (i := 21) rfl)), List.forall_mem_cons.mpr ⟨(cl_X5_known_1 _ (List.mem_of_getElem? (i := 22) rfl)), List.forall_mem_cons.mpr ⟨(cl_X5_known_1 _ (List.mem_of_getElem? (i := 23) rfl)), List.forall_mem_cons.mpr ⟨(cl_X5_known_2 _ (List.mem_of_getElem? (i := 0) rfl)), List.forall_mem_cons.mpr ⟨(cl_X5_known_2 _ (List.mem_of_getElem? (i := 1) rfl)), List.forall_mem_cons.mpr ⟨(cl_X5_known_2 _ (List.mem_of_getElem? (i := 2) rfl)), fun _ h => absurd h List.not_mem_nil⟩⟩⟩⟩⟩⟩⟩⟩⟩⟩⟩) w) ((cl_X5_known_4) w)⟩) (by decide +kernel)
set_option maxRecDepth 20000 in
theorem gX5_known_X4_known : GoodIn wsX5_known (wsV RX5 66 RX4 yX4_known wsX4_known) := goodIn_app (goodIn_sub (List.forall_mem_cons.mpr ⟨(cl_X5_known_1 _ (List.mem_of_getElem? (i := 12) rfl)), List.forall_mem_cons.mpr ⟨(cl_X5_known_1 _ (List.mem_of_getElem? (i := 13) rfl)), List.forall_mem_cons.mpr ⟨(cl_X5_known_1 _ (List.mem_of_getElem? (i := 14) rfl)), List.forall_mem_cons.mpr ⟨(cl_X5_known_1 _ (List.mem_of_getElem? (i := 15) rfl)), fun _ h => absurd h List.not_mem_nil⟩⟩⟩⟩) (by decide +kernel)) ggX5_known_X4_known
set_option maxRecDepth 20000 in
theorem ggX5_known_X4_come : GoodIn wsX5_known wsX4_come := goodIn_sub (List.forall_mem_cons.mpr ⟨(cl_X5_known_2 _ (List.mem_of_getElem? (i := 6) rfl)), fun w h => (List.mem_append.mp h).elim ((List.forall_mem_cons.mpr ⟨(cl_X5_known_2 _ (List.mem_of_getElem? (i := 7) rfl)), List.forall_mem_cons.mpr ⟨(cl_X5_known_2 _ (List.mem_of_getElem? (i := 8) rfl)), fun _ h => absurd h List.not_mem_nil⟩⟩) w) ((cl_X5_known_4) w)⟩) (by decide +kernel)
set_option maxRecDepth 20000 in
theorem gX5_known_X4_come : GoodIn wsX5_known (wsV RX5 54 RX4 yX4_come wsX4_come) := goodIn_app (goodIn_sub (List.forall_mem_cons.mpr ⟨(cl_X5_known_2 _ (List.mem_of_getElem? (i := 3) rfl)), List.forall_mem_cons.mpr ⟨(cl_X5_known_2 _ (List.mem_of_getElem? (i := 4) rfl)), List.forall_mem_cons.mpr ⟨(cl_X5_known_2 _ (List.mem_of_getElem? (i := 5) rfl)), List.forall_mem_cons.mpr ⟨(cl_X5_known_1 _ (List.mem_of_getElem? (i := 15) rfl)), fun _ h => absurd h List.not_mem_nil⟩⟩⟩⟩) (by decide +kernel)) ggX5_known_X4_come
noncomputable def dz_p09_14 : List (Nat × Instr × Nat) := [(0, (.aload_n 0, 1)), (1, (.iload_n 2, 1)), (2, (.invokestatic 35, 3)), (5, (.iload_n 3, 1)), (6, (.iconst 0, 1)), (7, (.bipush 6, 2)), (9, (.invokestatic 31, 3)), (12, (.ifCond .ne 7, 3)), (15, (.iconst 1, 1)), (16, (.goto 4, 3)), (19, (.iconst 0, 1)), (20, (.invokevirtual 42, 3)), (23, (.ifCond .eq 7, 3)), (26, (.iconst 0, 1)), (27, (.goto 13, 3)), (30, (.aload_n 1, 1)), (31, (.iload_n 2, 1)), (32, (.aload_n 1, 1)), (33, (.iload_n 3, 1)), (34, (.invokevirtual 66, 3)), (37, (.invokevirtual 54, 3)), (40, (.ireturn, 1))]
theorem dy_p09_14 : dz_ok cX5_known dz_p09_14 = true := by decide +kernel
theorem dX5_known_0 : decode cX5_known 0 = .ok (.aload_n 0, 1) := dz_at (i := 0) dy_p09_14 rfl
theorem dX5_known_1 : decode cX5_known 1 = .ok (.iload_n 2, 1) := dz_at (i := 1) dy_p09_14 rfl
theorem dX5_known_2 : decode cX5_known 2 = .ok (.invokestatic 35, 3) := dz_at (i := 2) dy_p09_14 rfl
theorem dX5_known_5 : decode cX5_known 5 = .ok (.iload_n 3, 1) := dz_at (i := 3) dy_p09_14 rfl
theorem dX5_known_6 : decode cX5_known 6 = .ok (.iconst 0, 1) := dz_at (i := 4) dy_p09_14 rfl
theorem dX5_known_7 : decode cX5_known 7 = .ok (.bipush 6, 2) := dz_at (i := 5) dy_p09_14 rfl
theorem dX5_known_9 : decode cX5_known 9 = .ok (.invokestatic 31, 3) := dz_at (i := 6) dy_p09_14 rfl
theorem dX5_known_12 : decode cX5_known 12 = .ok (.ifCond .ne 7, 3) := dz_at (i := 7) dy_p09_14 rfl
theorem dX5_known_15 : decode cX5_known 15 = .ok (.iconst 1, 1) := dz_at (i := 8) dy_p09_14 rfl
theorem dX5_known_16 : decode cX5_known 16 = .ok (.goto 4, 3) := dz_at (i := 9) dy_p09_14 rfl
theorem dX5_known_19 : decode cX5_known 19 = .ok (.iconst 0, 1) := dz_at (i := 10) dy_p09_14 rfl
theorem dX5_known_20 : decode cX5_known 20 = .ok (.invokevirtual 42, 3) := dz_at (i := 11) dy_p09_14 rfl
theorem dX5_known_23 : decode cX5_known 23 = .ok (.ifCond .eq 7, 3) := dz_at (i := 12) dy_p09_14 rfl
theorem dX5_known_26 : decode cX5_known 26 = .ok (.iconst 0, 1) := dz_at (i := 13) dy_p09_14 rfl
theorem dX5_known_27 : decode cX5_known 27 = .ok (.goto 13, 3) := dz_at (i := 14) dy_p09_14 rfl
theorem dX5_known_30 : decode cX5_known 30 = .ok (.aload_n 1, 1) := dz_at (i := 15) dy_p09_14 rfl
theorem dX5_known_31 : decode cX5_known 31 = .ok (.iload_n 2, 1) := dz_at (i := 16) dy_p09_14 rfl
theorem dX5_known_32 : decode cX5_known 32 = .ok (.aload_n 1, 1) := dz_at (i := 17) dy_p09_14 rfl
theorem dX5_known_33 : decode cX5_known 33 = .ok (.iload_n 3, 1) := dz_at (i := 18) dy_p09_14 rfl
theorem dX5_known_34 : decode cX5_known 34 = .ok (.invokevirtual 66, 3) := dz_at (i := 19) dy_p09_14 rfl
theorem dX5_known_37 : decode cX5_known 37 = .ok (.invokevirtual 54, 3) := dz_at (i := 20) dy_p09_14 rfl
theorem dX5_known_40 : decode cX5_known 40 = .ok (.ireturn, 1) := dz_at (i := 21) dy_p09_14 rfl
noncomputable def o_X5_known (w : Bool) (a : Int32) (f : Nat → Int64) (p1 : Int32) (p2 : Int32) : Int32 × Int32 × (Nat → Int64) × Int32 :=
  if (o_X5_isIn p2 0 6) = true then (if (o_X5_fails (o_X5_isNo p1) false).1 = true then (0, a, f, (o_X5_fails (o_X5_isNo p1) false).2)
    else ((o_X4_come a f p1 (o_X4_known w p2)).1, (o_X4_come a f p1 (o_X4_known w p2)).2.1, (o_X4_come a f p1 (o_X4_known w p2)).2.2, (o_X5_fails (o_X5_isNo p1) false).2))
  else if (o_X5_fails (o_X5_isNo p1) true).1 = true then (0, a, f, (o_X5_fails (o_X5_isNo p1) true).2)
  else ((o_X4_come a f p1 (o_X4_known w p2)).1, (o_X4_come a f p1 (o_X4_known w p2)).2.1, (o_X4_come a f p1 (o_X4_known w p2)).2.2, (o_X5_fails (o_X5_isNo p1) true).2)
set_option maxHeartbeats 4000000 in
set_option maxRecDepth 100000 in
theorem k_X5_known (l : Launch) (dC : Nat → ClassId) (dI : Nat → Nat → Nat) (cy : ClassId) (h0 : Nat) (h1 : Nat) (h2 : Nat) (ro : Nat) (hc : Nat) (w : Bool) (a : Int32) (f : Nat → Int64) (th : Int32) (rf : Int32) (kn : Int32) (sz : Nat) (N : Nat) (p1 : Int32) (p2 : Int32) : Met l yX5_known wsX5_known ({ frames := 2, cells := 0, slots := 0, locals := 42 }) (va_Pc [.ref h0, .ref ro, .int p1, .int p2] (xM (dC, dI) xCl [(h0, eM h1 h2 th rf kn), (ro, eMR w hc a), (hc, eA cy f)] [(cy, .long)] sz N)) (va_Qi (fun (r : Int32) (_ : Unit) => r = (o_X5_known w a f p1 p2).1) (fun _ t => xW (dC, dI) xCl [(h0, eM h1 h2 (o_X5_known w a f p1 p2).2.2.2 rf kn), (ro, eMR w hc (o_X5_known w a f p1 p2).2.1), (hc, eA cy (o_X5_known w a f p1 p2).2.2.1)] (va_A [(h0, eM h1 h2 th rf kn), (ro, eMR w hc a), (hc, eA cy f)] sz) t) (va_A [(h0, eM h1 h2 th rf kn), (ro, eMR w hc a), (hc, eA cy f)] sz)) 0 0 (va_A [(h0, eM h1 h2 th rf kn), (ro, eMR w hc a), (hc, eA cy f)] sz) := by
  refine Met.ofW (cc := cX5_known) (maxL := 4) (ret := (some .int)) (by decide +kernel) rfl ?_
  intro p e s m args below meth c s₁ B hml hv
  obtain ⟨rfl, hsz, hP, hK, hD0, hN, hG⟩ := hv
  have hx := B.exec
  have hb := B.bytes
  have hr := B.returns
  have hts := atoms_spec (ws := wsX5_known) B.pre
  have hown : s.vm.findClass RX5 = some m.cls := findClass_of_methodNamed B.named
  have hlocks := B.notSynchronized
  subst hsz
  have hAN : ∀ q, va_A [(h0, eM h1 h2 th rf kn), (ro, eMR w hc a), (hc, eA cy f)] s.heap.size q → N ≤ q := xA_N hD0 hN
  have hD := hD0.self (sz := s.heap.size)
  generalize hAe : va_A [(h0, eM h1 h2 th rf kn), (ro, eMR w hc a), (hc, eA cy f)] s.heap.size = A at hD hAN ⊢
  have hA : ∀ q : Nat, s.heap.size ≤ q → A q := fun q h => by rw [← hAe]; exact Or.inr h
  have hS : va_S A s.heap s.heap [] := va_S.rf
  have hP : va_P (dC, dI) xCl [(h0, eM h1 h2 th rf kn), (ro, eMR w hc a), (hc, eA cy f)] s.heap := hP
  have hl := lv_entry ([.ref h0, .ref ro, .int p1, .int p2]) (n := 4) (Nat.le_of_ble_eq_true rfl)
  rw [lg_entry_eq]
  generalize (lg_sl ([.ref h0, .ref ro, .int p1, .int p2]) ++ List.replicate (4 - (lg_sl ([.ref h0, .ref ro, .int p1, .int p2])).length) Slot.unset).toArray = ls at hl ⊢
  have hl : lv_has ls 4 [(0, .ref h0), (1, .ref ro), (2, .int p1), (3, .int p2)] := hl
  refine lv_aload_n hx hb dX5_known_0 rfl (lv_at hl 0 rfl) ?_
  refine lv_iload_n hx hb dX5_known_1 rfl (lv_at hl 2 rfl) ?_
  have hPc := hP.sub (ws' := []) [] rfl
  have hKc := hK.sub (tys' := []) [] rfl
  refine va_calli (va_runS (As := [.int p1]) (rest := [.ref h0]) ⟨hx, hb, hml, hown, hts⟩ (k_X5_isNo l dC dI s.heap.size p1) (va_cwS 1 hts gX5_known_X5_isNo rfl rfl rfl (by decide +kernel) ⟨Nat.le_of_ble_eq_true rfl, Nat.le_of_ble_eq_true rfl⟩) (xB.preS hKc hPc) rfl rfl hl.1 rfl (lv_room (Nat.le_of_ble_eq_true rfl)) dX5_known_2 ⟨Nat.le_of_ble_eq_true rfl, Nat.le_of_ble_eq_true rfl⟩) hS xA_old (fun q h => hA q (Nat.le_trans hS.1 h)) (fun r_1 u t H locs ht hvm hw hB hz hk hS => ?_)
  replace hw : r_1 = b2i (o_X5_isNo p1) := hw
  subst r_1
  have hP := xP_keep hP hk
  refine lv_iload_n hx hb dX5_known_5 rfl (lv_at hl 3 rfl) ?_
  refine lv_iconst (v := 0) hx hb dX5_known_6 (by decide +kernel) ?_
  refine lv_bipush (v := 6) hx hb dX5_known_7 (by decide +kernel) ?_
  have hPc := hP.sub (ws' := []) [] rfl
  have hKc := hK.sub (tys' := []) [] rfl
  refine va_calli (va_runS (As := [.int p2, .int 0, .int 6]) (rest := [.int (b2i (o_X5_isNo p1)), .ref h0]) ⟨hx, hb, hml, hown, hts⟩ (k_X5_isIn l dC dI H.size p2 0 6) (va_cwS 3 hts gX5_known_X5_isIn rfl rfl rfl (by decide +kernel) ⟨Nat.le_of_ble_eq_true rfl, Nat.le_of_ble_eq_true rfl⟩) (xB.preS hKc hPc) rfl rfl hl.1 rfl (lv_room (Nat.le_of_ble_eq_true rfl)) dX5_known_9 ⟨Nat.le_of_ble_eq_true rfl, Nat.le_of_ble_eq_true rfl⟩) hS xA_old (fun q h => hA q (Nat.le_trans hS.1 h)) (fun r_2 u t H locs ht hvm hw hB hz hk hS => ?_)
  replace hw : r_2 = b2i (o_X5_isIn p2 0 6) := hw
  subst r_2
  have hP := xP_keep hP hk
  refine xz_ne (tgt := 19) hx hb dX5_known_12 (by decide +kernel) (fun c_3 => ?_) (fun c_3 => ?_)
  · skip
    refine lv_iconst (v := 0) hx hb dX5_known_19 (by decide +kernel) ?_
    have hPc := hP.sub (ws' := [(h0, eM h1 h2 th rf kn)]) [0] rfl
    have hDc := hD.sub (ws' := [(h0, eM h1 h2 th rf kn)]) [0] (by decide +kernel) rfl
    have hKc := hK.sub (tys' := []) [] rfl
    have hFc := va_free (wc := [(h0, eM h1 h2 th rf kn)]) hD hS hA [0] rfl
    refine va_calli (va_runV (As := [.int (b2i (o_X5_isNo p1)), .int 0]) (rest := []) ⟨hx, hb, hml, hown, hts⟩ (k_X5_fails l dC dI h0 h1 h2 th rf kn H.size N (o_X5_isNo p1) false) (cwV 2 hts gX5_known_X5_fails rfl rfl rfl (by decide +kernel) ⟨Nat.le_of_ble_eq_true rfl, Nat.le_of_ble_eq_true rfl⟩) (xM.preV hKc hPc hDc hAN (Nat.le_trans hN hS.1) (hG.kept hS hAN) (ci := 7) (q0 := 0) rfl rfl) rfl rfl hl.1 rfl (lv_room (Nat.le_of_ble_eq_true rfl)) dX5_known_20 ⟨Nat.le_of_ble_eq_true rfl, Nat.le_of_ble_eq_true rfl⟩) hS (fun q _ h => hFc q h) hFc (fun r_4 u t H locs ht hvm hw hB hz hk hS => ?_)
    replace hw : r_4 = b2i ((o_X5_fails (o_X5_isNo p1) false).1) := hw
    subst r_4
    obtain ⟨hP1, hD1⟩ := hB
    rw [ht] at hP1
    obtain ⟨hP, hD⟩ := va_join (wr := [(ro, eMR w hc a), (hc, eA cy f)]) (w1 := [(h0, eM h1 h2 (o_X5_fails (o_X5_isNo p1) false).2 rf kn)]) hP hD [0] [1, 2] rfl rfl (by decide +kernel) (by decide +kernel) hk hFc hP1 hD1
    have hP := hP.sub (ws' := [(h0, eM h1 h2 (o_X5_fails (o_X5_isNo p1) false).2 rf kn), (ro, eMR w hc a), (hc, eA cy f)]) [2, 0, 1] rfl
    have hD := hD.sub (ws' := [(h0, eM h1 h2 (o_X5_fails (o_X5_isNo p1) false).2 rf kn), (ro, eMR w hc a), (hc, eA cy f)]) [2, 0, 1] (by decide +kernel) rfl
    refine xz_eq (tgt := 30) hx hb dX5_known_23 (by decide +kernel) (fun c_5 => ?_) (fun c_5 => ?_)
    · skip
      refine lv_aload_n hx hb dX5_known_30 rfl (lv_at hl 1 rfl) ?_
      refine lv_iload_n hx hb dX5_known_31 rfl (lv_at hl 2 rfl) ?_
      refine lv_aload_n hx hb dX5_known_32 rfl (lv_at hl 1 rfl) ?_
      refine lv_iload_n hx hb dX5_known_33 rfl (lv_at hl 3 rfl) ?_
      have hPc := hP.sub (ws' := [(ro, eMR w hc a), (hc, eA cy f)]) [1, 2] rfl
      have hKc := hK.sub (tys' := [(cy, .long)]) [0] rfl
      refine va_calll (va_runV (As := [.int p2]) (rest := [.int p1, .ref ro]) ⟨hx, hb, hml, hown, hts⟩ (k_X4_known l dC dI cy ro hc w a f H.size p2) (cwV 1 hts gX5_known_X4_known rfl rfl rfl (by decide +kernel) ⟨Nat.le_of_ble_eq_true rfl, Nat.le_of_ble_eq_true rfl⟩) (xB.preV hKc hPc (ci := 6) (q0 := 0) rfl rfl) rfl rfl hl.1 rfl (lv_room (Nat.le_of_ble_eq_true rfl)) dX5_known_34 ⟨Nat.le_of_ble_eq_true rfl, Nat.le_of_ble_eq_true rfl⟩) hS xA_old (fun q h => hA q (Nat.le_trans hS.1 h)) (fun r_6 u t H locs ht hvm hw hB hz hk hS => ?_)
      replace hw : r_6 = (o_X4_known w p2) := hw
      subst r_6
      have hP := xP_keep hP hk
      have hPc := hP.sub (ws' := [(ro, eMR w hc a), (hc, eA cy f)]) [1, 2] rfl
      have hDc := hD.sub (ws' := [(ro, eMR w hc a), (hc, eA cy f)]) [1, 2] (by decide +kernel) rfl
      have hKc := hK.sub (tys' := [(cy, .long)]) [0] rfl
      have hFc := va_free (wc := [(ro, eMR w hc a), (hc, eA cy f)]) hD hS hA [1, 2] rfl
      refine va_calli (va_runV (As := [.int p1, .long (o_X4_known w p2)]) (rest := []) ⟨hx, hb, hml, hown, hts⟩ (k_X4_come l dC dI cy ro hc w a f H.size N p1 (o_X4_known w p2) (xm_isNo (xm_fails c_5))) (cwV 2 hts gX5_known_X4_come rfl rfl rfl (by decide +kernel) ⟨Nat.le_of_ble_eq_true rfl, Nat.le_of_ble_eq_true rfl⟩) (xM.preV hKc hPc hDc hAN (Nat.le_trans hN hS.1) (hG.kept hS hAN) (ci := 6) (q0 := 0) rfl rfl) rfl rfl hl.1 rfl (lv_room (Nat.le_of_ble_eq_true rfl)) dX5_known_37 ⟨Nat.le_of_ble_eq_true rfl, Nat.le_of_ble_eq_true rfl⟩) hS (fun q _ h => hFc q h) hFc (fun r_7 u t H locs ht hvm hw hB hz hk hS => ?_)
      replace hw : r_7 = (o_X4_come a f p1 (o_X4_known w p2)).1 := hw
      subst r_7
      obtain ⟨hP1, hD1⟩ := hB
      rw [ht] at hP1
      obtain ⟨hP, hD⟩ := va_join (wr := [(h0, eM h1 h2 (o_X5_fails (o_X5_isNo p1) false).2 rf kn)]) (w1 := [(ro, eMR w hc (o_X4_come a f p1 (o_X4_known w p2)).2.1), (hc, eA cy (o_X4_come a f p1 (o_X4_known w p2)).2.2)]) hP hD [1, 2] [0] rfl rfl (by decide +kernel) (by decide +kernel) hk hFc hP1 hD1
      have hP := hP.sub (ws' := [(h0, eM h1 h2 (o_X5_fails (o_X5_isNo p1) false).2 rf kn), (ro, eMR w hc (o_X4_come a f p1 (o_X4_known w p2)).2.1), (hc, eA cy (o_X4_come a f p1 (o_X4_known w p2)).2.2)]) [0, 1, 2] rfl
      have hD := hD.sub (ws' := [(h0, eM h1 h2 (o_X5_fails (o_X5_isNo p1) false).2 rf kn), (ro, eMR w hc (o_X4_come a f p1 (o_X4_known w p2)).2.1), (hc, eA cy (o_X4_come a f p1 (o_X4_known w p2)).2.2)]) [0, 1, 2] (by decide +kernel) rfl
      have he : o_X5_known w a f p1 p2 = ((o_X4_come a f p1 (o_X4_known w p2)).1, (o_X4_come a f p1 (o_X4_known w p2)).2.1, (o_X4_come a f p1 (o_X4_known w p2)).2.2, (o_X5_fails (o_X5_isNo p1) false).2) := by (rw [o_X5_known, if_pos c_3, if_neg c_5]) <;> rfl
      refine W.widen (k := 0) (n := 0) (by omega) (by omega) ?_
      exact W.iret (v := ((o_X4_come a f p1 (o_X4_known w p2)).1)) hx hb hr (fun t ht hW => ⟨⟨_, (), rfl, (by (rw [he]) <;> rfl), (by rw [he]; exact ⟨by rw [ht]; exact hP, hD⟩)⟩, hS.F ht⟩) hS.2.2 dX5_known_40
    · skip
      refine lv_iconst (v := 0) hx hb dX5_known_26 (by decide +kernel) ?_
      refine lv_goto (tgt := 40) hx hb dX5_known_27 (by decide +kernel) ?_
      have he : o_X5_known w a f p1 p2 = (0, a, f, (o_X5_fails (o_X5_isNo p1) false).2) := by (rw [o_X5_known, if_pos c_3, if_pos c_5]) <;> rfl
      refine W.widen (k := 0) (n := 0) (by omega) (by omega) ?_
      exact W.iret (v := 0) hx hb hr (fun t ht hW => ⟨⟨_, (), rfl, (by (rw [he]) <;> rfl), (by rw [he]; exact ⟨by rw [ht]; exact hP, hD⟩)⟩, hS.F ht⟩) hS.2.2 dX5_known_40
  · skip
    refine lv_iconst (v := 1) hx hb dX5_known_15 (by decide +kernel) ?_
    refine lv_goto (tgt := 20) hx hb dX5_known_16 (by decide +kernel) ?_
    have hPc := hP.sub (ws' := [(h0, eM h1 h2 th rf kn)]) [0] rfl
    have hDc := hD.sub (ws' := [(h0, eM h1 h2 th rf kn)]) [0] (by decide +kernel) rfl
    have hKc := hK.sub (tys' := []) [] rfl
    have hFc := va_free (wc := [(h0, eM h1 h2 th rf kn)]) hD hS hA [0] rfl
    refine va_calli (va_runV (As := [.int (b2i (o_X5_isNo p1)), .int 1]) (rest := []) ⟨hx, hb, hml, hown, hts⟩ (k_X5_fails l dC dI h0 h1 h2 th rf kn H.size N (o_X5_isNo p1) true) (cwV 2 hts gX5_known_X5_fails rfl rfl rfl (by decide +kernel) ⟨Nat.le_of_ble_eq_true rfl, Nat.le_of_ble_eq_true rfl⟩) (xM.preV hKc hPc hDc hAN (Nat.le_trans hN hS.1) (hG.kept hS hAN) (ci := 7) (q0 := 0) rfl rfl) rfl rfl hl.1 rfl (lv_room (Nat.le_of_ble_eq_true rfl)) dX5_known_20 ⟨Nat.le_of_ble_eq_true rfl, Nat.le_of_ble_eq_true rfl⟩) hS (fun q _ h => hFc q h) hFc (fun r_8 u t H locs ht hvm hw hB hz hk hS => ?_)
    replace hw : r_8 = b2i ((o_X5_fails (o_X5_isNo p1) true).1) := hw
    subst r_8
    obtain ⟨hP1, hD1⟩ := hB
    rw [ht] at hP1
    obtain ⟨hP, hD⟩ := va_join (wr := [(ro, eMR w hc a), (hc, eA cy f)]) (w1 := [(h0, eM h1 h2 (o_X5_fails (o_X5_isNo p1) true).2 rf kn)]) hP hD [0] [1, 2] rfl rfl (by decide +kernel) (by decide +kernel) hk hFc hP1 hD1
    have hP := hP.sub (ws' := [(h0, eM h1 h2 (o_X5_fails (o_X5_isNo p1) true).2 rf kn), (ro, eMR w hc a), (hc, eA cy f)]) [2, 0, 1] rfl
    have hD := hD.sub (ws' := [(h0, eM h1 h2 (o_X5_fails (o_X5_isNo p1) true).2 rf kn), (ro, eMR w hc a), (hc, eA cy f)]) [2, 0, 1] (by decide +kernel) rfl
    refine xz_eq (tgt := 30) hx hb dX5_known_23 (by decide +kernel) (fun c_9 => ?_) (fun c_9 => ?_)
    · skip
      refine lv_aload_n hx hb dX5_known_30 rfl (lv_at hl 1 rfl) ?_
      refine lv_iload_n hx hb dX5_known_31 rfl (lv_at hl 2 rfl) ?_
      refine lv_aload_n hx hb dX5_known_32 rfl (lv_at hl 1 rfl) ?_
      refine lv_iload_n hx hb dX5_known_33 rfl (lv_at hl 3 rfl) ?_
      have hPc := hP.sub (ws' := [(ro, eMR w hc a), (hc, eA cy f)]) [1, 2] rfl
      have hKc := hK.sub (tys' := [(cy, .long)]) [0] rfl
      refine va_calll (va_runV (As := [.int p2]) (rest := [.int p1, .ref ro]) ⟨hx, hb, hml, hown, hts⟩ (k_X4_known l dC dI cy ro hc w a f H.size p2) (cwV 1 hts gX5_known_X4_known rfl rfl rfl (by decide +kernel) ⟨Nat.le_of_ble_eq_true rfl, Nat.le_of_ble_eq_true rfl⟩) (xB.preV hKc hPc (ci := 6) (q0 := 0) rfl rfl) rfl rfl hl.1 rfl (lv_room (Nat.le_of_ble_eq_true rfl)) dX5_known_34 ⟨Nat.le_of_ble_eq_true rfl, Nat.le_of_ble_eq_true rfl⟩) hS xA_old (fun q h => hA q (Nat.le_trans hS.1 h)) (fun r_10 u t H locs ht hvm hw hB hz hk hS => ?_)
      replace hw : r_10 = (o_X4_known w p2) := hw
      subst r_10
      have hP := xP_keep hP hk
      have hPc := hP.sub (ws' := [(ro, eMR w hc a), (hc, eA cy f)]) [1, 2] rfl
      have hDc := hD.sub (ws' := [(ro, eMR w hc a), (hc, eA cy f)]) [1, 2] (by decide +kernel) rfl
      have hKc := hK.sub (tys' := [(cy, .long)]) [0] rfl
      have hFc := va_free (wc := [(ro, eMR w hc a), (hc, eA cy f)]) hD hS hA [1, 2] rfl
      refine va_calli (va_runV (As := [.int p1, .long (o_X4_known w p2)]) (rest := []) ⟨hx, hb, hml, hown, hts⟩ (k_X4_come l dC dI cy ro hc w a f H.size N p1 (o_X4_known w p2) (xm_isNo (xm_fails c_9))) (cwV 2 hts gX5_known_X4_come rfl rfl rfl (by decide +kernel) ⟨Nat.le_of_ble_eq_true rfl, Nat.le_of_ble_eq_true rfl⟩) (xM.preV hKc hPc hDc hAN (Nat.le_trans hN hS.1) (hG.kept hS hAN) (ci := 6) (q0 := 0) rfl rfl) rfl rfl hl.1 rfl (lv_room (Nat.le_of_ble_eq_true rfl)) dX5_known_37 ⟨Nat.le_of_ble_eq_true rfl, Nat.le_of_ble_eq_true rfl⟩) hS (fun q _ h => hFc q h) hFc (fun r_11 u t H locs ht hvm hw hB hz hk hS => ?_)
      replace hw : r_11 = (o_X4_come a f p1 (o_X4_known w p2)).1 := hw
      subst r_11
      obtain ⟨hP1, hD1⟩ := hB
      rw [ht] at hP1
      obtain ⟨hP, hD⟩ := va_join (wr := [(h0, eM h1 h2 (o_X5_fails (o_X5_isNo p1) true).2 rf kn)]) (w1 := [(ro, eMR w hc (o_X4_come a f p1 (o_X4_known w p2)).2.1), (hc, eA cy (o_X4_come a f p1 (o_X4_known w p2)).2.2)]) hP hD [1, 2] [0] rfl rfl (by decide +kernel) (by decide +kernel) hk hFc hP1 hD1
      have hP := hP.sub (ws' := [(h0, eM h1 h2 (o_X5_fails (o_X5_isNo p1) true).2 rf kn), (ro, eMR w hc (o_X4_come a f p1 (o_X4_known w p2)).2.1), (hc, eA cy (o_X4_come a f p1 (o_X4_known w p2)).2.2)]) [0, 1, 2] rfl
      have hD := hD.sub (ws' := [(h0, eM h1 h2 (o_X5_fails (o_X5_isNo p1) true).2 rf kn), (ro, eMR w hc (o_X4_come a f p1 (o_X4_known w p2)).2.1), (hc, eA cy (o_X4_come a f p1 (o_X4_known w p2)).2.2)]) [0, 1, 2] (by decide +kernel) rfl
      have he : o_X5_known w a f p1 p2 = ((o_X4_come a f p1 (o_X4_known w p2)).1, (o_X4_come a f p1 (o_X4_known w p2)).2.1, (o_X4_come a f p1 (o_X4_known w p2)).2.2, (o_X5_fails (o_X5_isNo p1) true).2) := by (rw [o_X5_known, if_neg c_3, if_neg c_9]) <;> rfl
      refine W.widen (k := 0) (n := 0) (by omega) (by omega) ?_
      exact W.iret (v := ((o_X4_come a f p1 (o_X4_known w p2)).1)) hx hb hr (fun t ht hW => ⟨⟨_, (), rfl, (by (rw [he]) <;> rfl), (by rw [he]; exact ⟨by rw [ht]; exact hP, hD⟩)⟩, hS.F ht⟩) hS.2.2 dX5_known_40
    · skip
      refine lv_iconst (v := 0) hx hb dX5_known_26 (by decide +kernel) ?_
      refine lv_goto (tgt := 40) hx hb dX5_known_27 (by decide +kernel) ?_
      have he : o_X5_known w a f p1 p2 = (0, a, f, (o_X5_fails (o_X5_isNo p1) true).2) := by (rw [o_X5_known, if_neg c_3, if_pos c_9]) <;> rfl
      refine W.widen (k := 0) (n := 0) (by omega) (by omega) ?_
      exact W.iret (v := 0) hx hb hr (fun t ht hW => ⟨⟨_, (), rfl, (by (rw [he]) <;> rfl), (by rw [he]; exact ⟨by rw [ht]; exact hP, hD⟩)⟩, hS.F ht⟩) hS.2.2 dX5_known_40
theorem cl_X5_copy_1 : ∀ w ∈ [.fieldLink RX5 74 "EdgefloatsModel$Row" "cells" "[J", .methodLink RX5 70 yX5_areNo, .static yX5_areNo, .initialized RX5, .code yX5_areNo cX5_areNo 2 (some .boolean), .methodLink RX5 35 yX5_isNo, .static yX5_isNo, .code yX5_isNo cX5_isNo 1 (some .boolean), .methodLink RX5 31 yX5_isIn, .static yX5_isIn, .code yX5_isIn cX5_isIn 3 (some .boolean), .methodLink RX5 42 yX5_fails, .instanceMethod yX5_fails, .selects RX5 yX5_fails yX5_fails, .code yX5_fails cX5_fails 3 (some .boolean), .fieldLink RX5 27 "EdgefloatsModel" "thrown" "I", .methodLink RX5 54 yX4_come, .instanceMethod yX4_come, .selects RX4 yX4_come yX4_come, .initialized RX4, .code yX4_come cX4_come 5 (some .int), .fieldLink RX4 70 "EdgefloatsModel$Row" "acts" "I", .fieldLink RX4 9 "EdgefloatsModel$Row" "cells" "[J"], w ∈ wsX5_copy := fun _ h => (List.mem_cons_of_mem _ (List.mem_append_left _ (List.mem_append_left _ h)))
theorem cl_X5_copy_2 : ∀ w ∈ wsX40, w ∈ wsX5_copy := fun _ h => (List.mem_cons_of_mem _ (List.mem_append_left _ (List.mem_append_right _ h)))
theorem cl_X5_copy_3 : ∀ w ∈ wsX50, w ∈ wsX5_copy := fun _ h => (List.mem_cons_of_mem _ (List.mem_append_right _ h))
set_option maxRecDepth 20000 in
theorem ggX5_copy_X5_areNo : GoodIn wsX5_copy wsX5_areNo := goodIn_sub (List.forall_mem_cons.mpr ⟨(cl_X5_copy_1 _ (List.mem_of_getElem? (i := 4) rfl)), List.forall_mem_cons.mpr ⟨(cl_X5_copy_1 _ (List.mem_of_getElem? (i := 5) rfl)), List.forall_mem_cons.mpr ⟨(cl_X5_copy_1 _ (List.mem_of_getElem? (i := 6) rfl)), List.forall_mem_cons.mpr ⟨(cl_X5_copy_1 _ (List.mem_of_getElem? (i := 3) rfl)), List.forall_mem_cons.mpr ⟨(cl_X5_copy_1 _ (List.mem_of_getElem? (i := 7) rfl)), List.forall_mem_cons.mpr ⟨(cl_X5_copy_1 _ (List.mem_of_getElem? (i := 8) rfl)), List.forall_mem_cons.mpr ⟨(cl_X5_copy_1 _ (List.mem_of_getElem? (i := 9) rfl)), List.forall_mem_cons.mpr ⟨(cl_X5_copy_1 _ (List.mem_of_getElem? (i := 10) rfl)), fun _ h => absurd h List.not_mem_nil⟩⟩⟩⟩⟩⟩⟩⟩) (by decide +kernel)
set_option maxRecDepth 20000 in
theorem gX5_copy_X5_areNo : GoodIn wsX5_copy (va_wsS RX5 70 yX5_areNo wsX5_areNo) := goodIn_app (goodIn_sub (List.forall_mem_cons.mpr ⟨(cl_X5_copy_1 _ (List.mem_of_getElem? (i := 1) rfl)), List.forall_mem_cons.mpr ⟨(cl_X5_copy_1 _ (List.mem_of_getElem? (i := 2) rfl)), List.forall_mem_cons.mpr ⟨(cl_X5_copy_1 _ (List.mem_of_getElem? (i := 3) rfl)), fun _ h => absurd h List.not_mem_nil⟩⟩⟩) (by decide +kernel)) ggX5_copy_X5_areNo
set_option maxRecDepth 20000 in
theorem ggX5_copy_X5_fails : GoodIn wsX5_copy wsX5_fails := goodIn_sub (List.forall_mem_cons.mpr ⟨(cl_X5_copy_1 _ (List.mem_of_getElem? (i := 14) rfl)), fun w h => (List.mem_append.mp h).elim ((List.forall_mem_cons.mpr ⟨(cl_X5_copy_1 _ (List.mem_of_getElem? (i := 15) rfl)), fun _ h => absurd h List.not_mem_nil⟩) w) ((cl_X5_copy_3) w)⟩) (by decide +kernel)
set_option maxRecDepth 20000 in
theorem gX5_copy_X5_fails : GoodIn wsX5_copy (wsV RX5 42 RX5 yX5_fails wsX5_fails) := goodIn_app (goodIn_sub (List.forall_mem_cons.mpr ⟨(cl_X5_copy_1 _ (List.mem_of_getElem? (i := 11) rfl)), List.forall_mem_cons.mpr ⟨(cl_X5_copy_1 _ (List.mem_of_getElem? (i := 12) rfl)), List.forall_mem_cons.mpr ⟨(cl_X5_copy_1 _ (List.mem_of_getElem? (i := 13) rfl)), List.forall_mem_cons.mpr ⟨(cl_X5_copy_1 _ (List.mem_of_getElem? (i := 3) rfl)), fun _ h => absurd h List.not_mem_nil⟩⟩⟩⟩) (by decide +kernel)) ggX5_copy_X5_fails
set_option maxRecDepth 20000 in
theorem ggX5_copy_X4_come : GoodIn wsX5_copy wsX4_come := goodIn_sub (List.forall_mem_cons.mpr ⟨(cl_X5_copy_1 _ (List.mem_of_getElem? (i := 20) rfl)), fun w h => (List.mem_append.mp h).elim ((List.forall_mem_cons.mpr ⟨(cl_X5_copy_1 _ (List.mem_of_getElem? (i := 21) rfl)), List.forall_mem_cons.mpr ⟨(cl_X5_copy_1 _ (List.mem_of_getElem? (i := 22) rfl)), fun _ h => absurd h List.not_mem_nil⟩⟩) w) ((cl_X5_copy_2) w)⟩) (by decide +kernel)
set_option maxRecDepth 20000 in
theorem gX5_copy_X4_come : GoodIn wsX5_copy (wsV RX5 54 RX4 yX4_come wsX4_come) := goodIn_app (goodIn_sub (List.forall_mem_cons.mpr ⟨(cl_X5_copy_1 _ (List.mem_of_getElem? (i := 16) rfl)), List.forall_mem_cons.mpr ⟨(cl_X5_copy_1 _ (List.mem_of_getElem? (i := 17) rfl)), List.forall_mem_cons.mpr ⟨(cl_X5_copy_1 _ (List.mem_of_getElem? (i := 18) rfl)), List.forall_mem_cons.mpr ⟨(cl_X5_copy_1 _ (List.mem_of_getElem? (i := 19) rfl)), fun _ h => absurd h List.not_mem_nil⟩⟩⟩⟩) (by decide +kernel)) ggX5_copy_X4_come
noncomputable def dz_p09_15 : List (Nat × Instr × Nat) := [(0, (.aload_n 0, 1)), (1, (.iload_n 2, 1)), (2, (.iload_n 3, 1)), (3, (.invokestatic 70, 3)), (6, (.iconst 0, 1)), (7, (.invokevirtual 42, 3)), (10, (.ifCond .eq 7, 3)), (13, (.iconst 0, 1)), (14, (.goto 14, 3)), (17, (.aload_n 1, 1)), (18, (.iload_n 3, 1)), (19, (.aload_n 1, 1)), (20, (.getfield 74, 3)), (23, (.iload_n 2, 1)), (24, (.laload, 1)), (25, (.invokevirtual 54, 3)), (28, (.ireturn, 1))]
theorem dy_p09_15 : dz_ok cX5_copy dz_p09_15 = true := by decide +kernel
theorem dX5_copy_0 : decode cX5_copy 0 = .ok (.aload_n 0, 1) := dz_at (i := 0) dy_p09_15 rfl
theorem dX5_copy_1 : decode cX5_copy 1 = .ok (.iload_n 2, 1) := dz_at (i := 1) dy_p09_15 rfl
theorem dX5_copy_2 : decode cX5_copy 2 = .ok (.iload_n 3, 1) := dz_at (i := 2) dy_p09_15 rfl
theorem dX5_copy_3 : decode cX5_copy 3 = .ok (.invokestatic 70, 3) := dz_at (i := 3) dy_p09_15 rfl
theorem dX5_copy_6 : decode cX5_copy 6 = .ok (.iconst 0, 1) := dz_at (i := 4) dy_p09_15 rfl
theorem dX5_copy_7 : decode cX5_copy 7 = .ok (.invokevirtual 42, 3) := dz_at (i := 5) dy_p09_15 rfl
theorem dX5_copy_10 : decode cX5_copy 10 = .ok (.ifCond .eq 7, 3) := dz_at (i := 6) dy_p09_15 rfl
theorem dX5_copy_13 : decode cX5_copy 13 = .ok (.iconst 0, 1) := dz_at (i := 7) dy_p09_15 rfl
theorem dX5_copy_14 : decode cX5_copy 14 = .ok (.goto 14, 3) := dz_at (i := 8) dy_p09_15 rfl
theorem dX5_copy_17 : decode cX5_copy 17 = .ok (.aload_n 1, 1) := dz_at (i := 9) dy_p09_15 rfl
theorem dX5_copy_18 : decode cX5_copy 18 = .ok (.iload_n 3, 1) := dz_at (i := 10) dy_p09_15 rfl
theorem dX5_copy_19 : decode cX5_copy 19 = .ok (.aload_n 1, 1) := dz_at (i := 11) dy_p09_15 rfl
theorem dX5_copy_20 : decode cX5_copy 20 = .ok (.getfield 74, 3) := dz_at (i := 12) dy_p09_15 rfl
theorem dX5_copy_23 : decode cX5_copy 23 = .ok (.iload_n 2, 1) := dz_at (i := 13) dy_p09_15 rfl
theorem dX5_copy_24 : decode cX5_copy 24 = .ok (.laload, 1) := dz_at (i := 14) dy_p09_15 rfl
theorem dX5_copy_25 : decode cX5_copy 25 = .ok (.invokevirtual 54, 3) := dz_at (i := 15) dy_p09_15 rfl
theorem dX5_copy_28 : decode cX5_copy 28 = .ok (.ireturn, 1) := dz_at (i := 16) dy_p09_15 rfl
noncomputable def o_X5_copy (a : Int32) (f : Nat → Int64) (p1 : Int32) (p2 : Int32) : Int32 × Int32 × (Nat → Int64) × Int32 :=
  if (o_X5_fails (o_X5_areNo p1 p2) false).1 = true then (0, a, f, (o_X5_fails (o_X5_areNo p1 p2) false).2)
  else ((o_X4_come a f p2 (f p1.toNatClampNeg)).1, (o_X4_come a f p2 (f p1.toNatClampNeg)).2.1, (o_X4_come a f p2 (f p1.toNatClampNeg)).2.2, (o_X5_fails (o_X5_areNo p1 p2) false).2)
set_option maxHeartbeats 4000000 in
set_option maxRecDepth 100000 in
theorem k_X5_copy (l : Launch) (dC : Nat → ClassId) (dI : Nat → Nat → Nat) (cy : ClassId) (h0 : Nat) (h1 : Nat) (h2 : Nat) (ro : Nat) (hc : Nat) (w : Bool) (a : Int32) (f : Nat → Int64) (th : Int32) (rf : Int32) (kn : Int32) (sz : Nat) (N : Nat) (p1 : Int32) (p2 : Int32) : Met l yX5_copy wsX5_copy ({ frames := 3, cells := 0, slots := 0, locals := 63 }) (va_Pc [.ref h0, .ref ro, .int p1, .int p2] (xM (dC, dI) xCl [(h0, eM h1 h2 th rf kn), (ro, eMR w hc a), (hc, eA cy f)] [(cy, .long)] sz N)) (va_Qi (fun (r : Int32) (_ : Unit) => r = (o_X5_copy a f p1 p2).1) (fun _ t => xW (dC, dI) xCl [(h0, eM h1 h2 (o_X5_copy a f p1 p2).2.2.2 rf kn), (ro, eMR w hc (o_X5_copy a f p1 p2).2.1), (hc, eA cy (o_X5_copy a f p1 p2).2.2.1)] (va_A [(h0, eM h1 h2 th rf kn), (ro, eMR w hc a), (hc, eA cy f)] sz) t) (va_A [(h0, eM h1 h2 th rf kn), (ro, eMR w hc a), (hc, eA cy f)] sz)) 0 0 (va_A [(h0, eM h1 h2 th rf kn), (ro, eMR w hc a), (hc, eA cy f)] sz) := by
  refine Met.ofW (cc := cX5_copy) (maxL := 4) (ret := (some .int)) (by decide +kernel) rfl ?_
  intro p e s m args below meth c s₁ B hml hv
  obtain ⟨rfl, hsz, hP, hK, hD0, hN, hG⟩ := hv
  have hx := B.exec
  have hb := B.bytes
  have hr := B.returns
  have hts := atoms_spec (ws := wsX5_copy) B.pre
  have hown : s.vm.findClass RX5 = some m.cls := findClass_of_methodNamed B.named
  have hlocks := B.notSynchronized
  subst hsz
  have hAN : ∀ q, va_A [(h0, eM h1 h2 th rf kn), (ro, eMR w hc a), (hc, eA cy f)] s.heap.size q → N ≤ q := xA_N hD0 hN
  have hD := hD0.self (sz := s.heap.size)
  generalize hAe : va_A [(h0, eM h1 h2 th rf kn), (ro, eMR w hc a), (hc, eA cy f)] s.heap.size = A at hD hAN ⊢
  have hA : ∀ q : Nat, s.heap.size ≤ q → A q := fun q h => by rw [← hAe]; exact Or.inr h
  have hS : va_S A s.heap s.heap [] := va_S.rf
  have hP : va_P (dC, dI) xCl [(h0, eM h1 h2 th rf kn), (ro, eMR w hc a), (hc, eA cy f)] s.heap := hP
  have hl := lv_entry ([.ref h0, .ref ro, .int p1, .int p2]) (n := 4) (Nat.le_of_ble_eq_true rfl)
  rw [lg_entry_eq]
  generalize (lg_sl ([.ref h0, .ref ro, .int p1, .int p2]) ++ List.replicate (4 - (lg_sl ([.ref h0, .ref ro, .int p1, .int p2])).length) Slot.unset).toArray = ls at hl ⊢
  have hl : lv_has ls 4 [(0, .ref h0), (1, .ref ro), (2, .int p1), (3, .int p2)] := hl
  refine lv_aload_n hx hb dX5_copy_0 rfl (lv_at hl 0 rfl) ?_
  refine lv_iload_n hx hb dX5_copy_1 rfl (lv_at hl 2 rfl) ?_
  refine lv_iload_n hx hb dX5_copy_2 rfl (lv_at hl 3 rfl) ?_
  have hPc := hP.sub (ws' := []) [] rfl
  have hKc := hK.sub (tys' := []) [] rfl
  refine va_calli (va_runS (As := [.int p1, .int p2]) (rest := [.ref h0]) ⟨hx, hb, hml, hown, hts⟩ (k_X5_areNo l dC dI s.heap.size p1 p2) (va_cwS 2 hts gX5_copy_X5_areNo rfl rfl rfl (by decide +kernel) ⟨Nat.le_of_ble_eq_true rfl, Nat.le_of_ble_eq_true rfl⟩) (xB.preS hKc hPc) rfl rfl hl.1 rfl (lv_room (Nat.le_of_ble_eq_true rfl)) dX5_copy_3 ⟨Nat.le_of_ble_eq_true rfl, Nat.le_of_ble_eq_true rfl⟩) hS xA_old (fun q h => hA q (Nat.le_trans hS.1 h)) (fun r_1 u t H locs ht hvm hw hB hz hk hS => ?_)
  replace hw : r_1 = b2i (o_X5_areNo p1 p2) := hw
  subst r_1
  have hP := xP_keep hP hk
  refine lv_iconst (v := 0) hx hb dX5_copy_6 (by decide +kernel) ?_
  have hPc := hP.sub (ws' := [(h0, eM h1 h2 th rf kn)]) [0] rfl
  have hDc := hD.sub (ws' := [(h0, eM h1 h2 th rf kn)]) [0] (by decide +kernel) rfl
  have hKc := hK.sub (tys' := []) [] rfl
  have hFc := va_free (wc := [(h0, eM h1 h2 th rf kn)]) hD hS hA [0] rfl
  refine va_calli (va_runV (As := [.int (b2i (o_X5_areNo p1 p2)), .int 0]) (rest := []) ⟨hx, hb, hml, hown, hts⟩ (k_X5_fails l dC dI h0 h1 h2 th rf kn H.size N (o_X5_areNo p1 p2) false) (cwV 2 hts gX5_copy_X5_fails rfl rfl rfl (by decide +kernel) ⟨Nat.le_of_ble_eq_true rfl, Nat.le_of_ble_eq_true rfl⟩) (xM.preV hKc hPc hDc hAN (Nat.le_trans hN hS.1) (hG.kept hS hAN) (ci := 7) (q0 := 0) rfl rfl) rfl rfl hl.1 rfl (lv_room (Nat.le_of_ble_eq_true rfl)) dX5_copy_7 ⟨Nat.le_of_ble_eq_true rfl, Nat.le_of_ble_eq_true rfl⟩) hS (fun q _ h => hFc q h) hFc (fun r_2 u t H locs ht hvm hw hB hz hk hS => ?_)
  replace hw : r_2 = b2i ((o_X5_fails (o_X5_areNo p1 p2) false).1) := hw
  subst r_2
  obtain ⟨hP1, hD1⟩ := hB
  rw [ht] at hP1
  obtain ⟨hP, hD⟩ := va_join (wr := [(ro, eMR w hc a), (hc, eA cy f)]) (w1 := [(h0, eM h1 h2 (o_X5_fails (o_X5_areNo p1 p2) false).2 rf kn)]) hP hD [0] [1, 2] rfl rfl (by decide +kernel) (by decide +kernel) hk hFc hP1 hD1
  have hP := hP.sub (ws' := [(h0, eM h1 h2 (o_X5_fails (o_X5_areNo p1 p2) false).2 rf kn), (ro, eMR w hc a), (hc, eA cy f)]) [2, 0, 1] rfl
  have hD := hD.sub (ws' := [(h0, eM h1 h2 (o_X5_fails (o_X5_areNo p1 p2) false).2 rf kn), (ro, eMR w hc a), (hc, eA cy f)]) [2, 0, 1] (by decide +kernel) rfl
  refine xz_eq (tgt := 17) hx hb dX5_copy_10 (by decide +kernel) (fun c_3 => ?_) (fun c_3 => ?_)
  · skip
    refine lv_aload_n hx hb dX5_copy_17 rfl (lv_at hl 1 rfl) ?_
    refine lv_iload_n hx hb dX5_copy_18 rfl (lv_at hl 3 rfl) ?_
    refine lv_aload_n hx hb dX5_copy_19 rfl (lv_at hl 1 rfl) ?_
    refine va_get (D := (dC, dI)) (ci := 6) (v := .ref hc) (C := RX4) (T := TX4) (N := 5) hx hb hts (by decide +kernel) hown hK hP 1 rfl rfl 3 (by decide +kernel) (hts (.fieldLink RX5 74 "EdgefloatsModel$Row" "cells" "[J") (by decide +kernel)) (fun _ h9 => h9) rfl dX5_copy_20 ?_
    refine lv_iload_n hx hb dX5_copy_23 rfl (lv_at hl 2 rfl) ?_
    refine xa_lald hx hb hK hP 2 0 (f := f) rfl rfl (k := p1.toNatClampNeg) (xm_areNo1 (xm_fails c_3)) rfl dX5_copy_24 ?_
    have hPc := hP.sub (ws' := [(ro, eMR w hc a), (hc, eA cy f)]) [1, 2] rfl
    have hDc := hD.sub (ws' := [(ro, eMR w hc a), (hc, eA cy f)]) [1, 2] (by decide +kernel) rfl
    have hKc := hK.sub (tys' := [(cy, .long)]) [0] rfl
    have hFc := va_free (wc := [(ro, eMR w hc a), (hc, eA cy f)]) hD hS hA [1, 2] rfl
    refine va_calli (va_runV (As := [.int p2, .long (f p1.toNatClampNeg)]) (rest := []) ⟨hx, hb, hml, hown, hts⟩ (k_X4_come l dC dI cy ro hc w a f H.size N p2 (f p1.toNatClampNeg) (xm_areNo2 (xm_fails c_3))) (cwV 2 hts gX5_copy_X4_come rfl rfl rfl (by decide +kernel) ⟨Nat.le_of_ble_eq_true rfl, Nat.le_of_ble_eq_true rfl⟩) (xM.preV hKc hPc hDc hAN (Nat.le_trans hN hS.1) (hG.kept hS hAN) (ci := 6) (q0 := 0) rfl rfl) rfl rfl hl.1 rfl (lv_room (Nat.le_of_ble_eq_true rfl)) dX5_copy_25 ⟨Nat.le_of_ble_eq_true rfl, Nat.le_of_ble_eq_true rfl⟩) hS (fun q _ h => hFc q h) hFc (fun r_4 u t H locs ht hvm hw hB hz hk hS => ?_)
    replace hw : r_4 = (o_X4_come a f p2 (f p1.toNatClampNeg)).1 := hw
    subst r_4
    obtain ⟨hP1, hD1⟩ := hB
    rw [ht] at hP1
    obtain ⟨hP, hD⟩ := va_join (wr := [(h0, eM h1 h2 (o_X5_fails (o_X5_areNo p1 p2) false).2 rf kn)]) (w1 := [(ro, eMR w hc (o_X4_come a f p2 (f p1.toNatClampNeg)).2.1), (hc, eA cy (o_X4_come a f p2 (f p1.toNatClampNeg)).2.2)]) hP hD [1, 2] [0] rfl rfl (by decide +kernel) (by decide +kernel) hk hFc hP1 hD1
    have hP := hP.sub (ws' := [(h0, eM h1 h2 (o_X5_fails (o_X5_areNo p1 p2) false).2 rf kn), (ro, eMR w hc (o_X4_come a f p2 (f p1.toNatClampNeg)).2.1), (hc, eA cy (o_X4_come a f p2 (f p1.toNatClampNeg)).2.2)]) [0, 1, 2] rfl
    have hD := hD.sub (ws' := [(h0, eM h1 h2 (o_X5_fails (o_X5_areNo p1 p2) false).2 rf kn), (ro, eMR w hc (o_X4_come a f p2 (f p1.toNatClampNeg)).2.1), (hc, eA cy (o_X4_come a f p2 (f p1.toNatClampNeg)).2.2)]) [0, 1, 2] (by decide +kernel) rfl
    have he : o_X5_copy a f p1 p2 = ((o_X4_come a f p2 (f p1.toNatClampNeg)).1, (o_X4_come a f p2 (f p1.toNatClampNeg)).2.1, (o_X4_come a f p2 (f p1.toNatClampNeg)).2.2, (o_X5_fails (o_X5_areNo p1 p2) false).2) := by (rw [o_X5_copy, if_neg c_3]) <;> rfl
    refine W.widen (k := 0) (n := 0) (by omega) (by omega) ?_
    exact W.iret (v := ((o_X4_come a f p2 (f p1.toNatClampNeg)).1)) hx hb hr (fun t ht hW => ⟨⟨_, (), rfl, (by (rw [he]) <;> rfl), (by rw [he]; exact ⟨by rw [ht]; exact hP, hD⟩)⟩, hS.F ht⟩) hS.2.2 dX5_copy_28
  · skip
    refine lv_iconst (v := 0) hx hb dX5_copy_13 (by decide +kernel) ?_
    refine lv_goto (tgt := 28) hx hb dX5_copy_14 (by decide +kernel) ?_
    have he : o_X5_copy a f p1 p2 = (0, a, f, (o_X5_fails (o_X5_areNo p1 p2) false).2) := by (rw [o_X5_copy, if_pos c_3]) <;> rfl
    refine W.widen (k := 0) (n := 0) (by omega) (by omega) ?_
    exact W.iret (v := 0) hx hb hr (fun t ht hW => ⟨⟨_, (), rfl, (by (rw [he]) <;> rfl), (by rw [he]; exact ⟨by rw [ht]; exact hP, hD⟩)⟩, hS.F ht⟩) hS.2.2 dX5_copy_28
theorem cl_X5_swap_1 : ∀ w ∈ wsX5_swap_r1, w ∈ wsX5_swap := fun _ h => (List.mem_cons_of_mem _ (List.mem_append_left _ (List.mem_append_left _ (List.mem_append_left _ h))))
theorem cl_X5_swap_2 : ∀ w ∈ wsX5_swap_r2, w ∈ wsX5_swap := fun _ h => (List.mem_cons_of_mem _ (List.mem_append_left _ (List.mem_append_left _ (List.mem_append_right _ h))))
theorem cl_X5_swap_3 : ∀ w ∈ wsX50, w ∈ wsX5_swap := fun _ h => (List.mem_cons_of_mem _ (List.mem_append_left _ (List.mem_append_right _ h)))
theorem cl_X5_swap_4 : ∀ w ∈ wsX40, w ∈ wsX5_swap := fun _ h => (List.mem_cons_of_mem _ (List.mem_append_right _ h))
set_option maxRecDepth 20000 in
theorem ggX5_swap_X5_areNo : GoodIn wsX5_swap wsX5_areNo := goodIn_sub (List.forall_mem_cons.mpr ⟨(cl_X5_swap_1 _ (List.mem_of_getElem? (i := 3) rfl)), List.forall_mem_cons.mpr ⟨(cl_X5_swap_1 _ (List.mem_of_getElem? (i := 4) rfl)), List.forall_mem_cons.mpr ⟨(cl_X5_swap_1 _ (List.mem_of_getElem? (i := 5) rfl)), List.forall_mem_cons.mpr ⟨(cl_X5_swap_1 _ (List.mem_of_getElem? (i := 2) rfl)), List.forall_mem_cons.mpr ⟨(cl_X5_swap_1 _ (List.mem_of_getElem? (i := 6) rfl)), List.forall_mem_cons.mpr ⟨(cl_X5_swap_1 _ (List.mem_of_getElem? (i := 7) rfl)), List.forall_mem_cons.mpr ⟨(cl_X5_swap_1 _ (List.mem_of_getElem? (i := 8) rfl)), List.forall_mem_cons.mpr ⟨(cl_X5_swap_1 _ (List.mem_of_getElem? (i := 9) rfl)), fun _ h => absurd h List.not_mem_nil⟩⟩⟩⟩⟩⟩⟩⟩) (by decide +kernel)
set_option maxRecDepth 20000 in
theorem gX5_swap_X5_areNo : GoodIn wsX5_swap (va_wsS RX5 70 yX5_areNo wsX5_areNo) := goodIn_app (goodIn_sub (List.forall_mem_cons.mpr ⟨(cl_X5_swap_1 _ (List.mem_of_getElem? (i := 0) rfl)), List.forall_mem_cons.mpr ⟨(cl_X5_swap_1 _ (List.mem_of_getElem? (i := 1) rfl)), List.forall_mem_cons.mpr ⟨(cl_X5_swap_1 _ (List.mem_of_getElem? (i := 2) rfl)), fun _ h => absurd h List.not_mem_nil⟩⟩⟩) (by decide +kernel)) ggX5_swap_X5_areNo
set_option maxRecDepth 20000 in
theorem ggX5_swap_X5_fails : GoodIn wsX5_swap wsX5_fails := goodIn_sub (List.forall_mem_cons.mpr ⟨(cl_X5_swap_1 _ (List.mem_of_getElem? (i := 13) rfl)), fun w h => (List.mem_append.mp h).elim ((List.forall_mem_cons.mpr ⟨(cl_X5_swap_1 _ (List.mem_of_getElem? (i := 14) rfl)), fun _ h => absurd h List.not_mem_nil⟩) w) ((cl_X5_swap_3) w)⟩) (by decide +kernel)
set_option maxRecDepth 20000 in
theorem gX5_swap_X5_fails : GoodIn wsX5_swap (wsV RX5 42 RX5 yX5_fails wsX5_fails) := goodIn_app (goodIn_sub (List.forall_mem_cons.mpr ⟨(cl_X5_swap_1 _ (List.mem_of_getElem? (i := 10) rfl)), List.forall_mem_cons.mpr ⟨(cl_X5_swap_1 _ (List.mem_of_getElem? (i := 11) rfl)), List.forall_mem_cons.mpr ⟨(cl_X5_swap_1 _ (List.mem_of_getElem? (i := 12) rfl)), List.forall_mem_cons.mpr ⟨(cl_X5_swap_1 _ (List.mem_of_getElem? (i := 2) rfl)), fun _ h => absurd h List.not_mem_nil⟩⟩⟩⟩) (by decide +kernel)) ggX5_swap_X5_fails
set_option maxRecDepth 20000 in
theorem ggX5_swap_X4_swap : GoodIn wsX5_swap wsX4_swap := goodIn_sub (List.forall_mem_cons.mpr ⟨(cl_X5_swap_1 _ (List.mem_of_getElem? (i := 19) rfl)), fun w h => (List.mem_append.mp h).elim ((List.forall_mem_cons.mpr ⟨(cl_X5_swap_1 _ (List.mem_of_getElem? (i := 20) rfl)), List.forall_mem_cons.mpr ⟨(cl_X5_swap_1 _ (List.mem_of_getElem? (i := 21) rfl)), List.forall_mem_cons.mpr ⟨(cl_X5_swap_1 _ (List.mem_of_getElem? (i := 22) rfl)), List.forall_mem_cons.mpr ⟨(cl_X5_swap_1 _ (List.mem_of_getElem? (i := 23) rfl)), List.forall_mem_cons.mpr ⟨(cl_X5_swap_1 _ (List.mem_of_getElem? (i := 18) rfl)), List.forall_mem_cons.mpr ⟨(cl_X5_swap_2 _ (List.mem_of_getElem? (i := 0) rfl)), List.forall_mem_cons.mpr ⟨(cl_X5_swap_2 _ (List.mem_of_getElem? (i := 1) rfl)), fun _ h => absurd h List.not_mem_nil⟩⟩⟩⟩⟩⟩⟩) w) ((cl_X5_swap_4) w)⟩) (by decide +kernel)
set_option maxRecDepth 20000 in
theorem gX5_swap_X4_swap : GoodIn wsX5_swap (wsV RX5 78 RX4 yX4_swap wsX4_swap) := goodIn_app (goodIn_sub (List.forall_mem_cons.mpr ⟨(cl_X5_swap_1 _ (List.mem_of_getElem? (i := 15) rfl)), List.forall_mem_cons.mpr ⟨(cl_X5_swap_1 _ (List.mem_of_getElem? (i := 16) rfl)), List.forall_mem_cons.mpr ⟨(cl_X5_swap_1 _ (List.mem_of_getElem? (i := 17) rfl)), List.forall_mem_cons.mpr ⟨(cl_X5_swap_1 _ (List.mem_of_getElem? (i := 18) rfl)), fun _ h => absurd h List.not_mem_nil⟩⟩⟩⟩) (by decide +kernel)) ggX5_swap_X4_swap
noncomputable def dz_p09_16 : List (Nat × Instr × Nat) := [(0, (.aload_n 0, 1)), (1, (.iload_n 2, 1)), (2, (.iload_n 3, 1)), (3, (.invokestatic 70, 3)), (6, (.iconst 0, 1)), (7, (.invokevirtual 42, 3)), (10, (.ifCond .eq 7, 3)), (13, (.iconst 0, 1)), (14, (.goto 9, 3)), (17, (.aload_n 1, 1)), (18, (.iload_n 2, 1)), (19, (.iload_n 3, 1)), (20, (.invokevirtual 78, 3)), (23, (.ireturn, 1))]
theorem dy_p09_16 : dz_ok cX5_swap dz_p09_16 = true := by decide +kernel
theorem dX5_swap_0 : decode cX5_swap 0 = .ok (.aload_n 0, 1) := dz_at (i := 0) dy_p09_16 rfl
theorem dX5_swap_1 : decode cX5_swap 1 = .ok (.iload_n 2, 1) := dz_at (i := 1) dy_p09_16 rfl
theorem dX5_swap_2 : decode cX5_swap 2 = .ok (.iload_n 3, 1) := dz_at (i := 2) dy_p09_16 rfl
theorem dX5_swap_3 : decode cX5_swap 3 = .ok (.invokestatic 70, 3) := dz_at (i := 3) dy_p09_16 rfl
theorem dX5_swap_6 : decode cX5_swap 6 = .ok (.iconst 0, 1) := dz_at (i := 4) dy_p09_16 rfl
theorem dX5_swap_7 : decode cX5_swap 7 = .ok (.invokevirtual 42, 3) := dz_at (i := 5) dy_p09_16 rfl
theorem dX5_swap_10 : decode cX5_swap 10 = .ok (.ifCond .eq 7, 3) := dz_at (i := 6) dy_p09_16 rfl
theorem dX5_swap_13 : decode cX5_swap 13 = .ok (.iconst 0, 1) := dz_at (i := 7) dy_p09_16 rfl
theorem dX5_swap_14 : decode cX5_swap 14 = .ok (.goto 9, 3) := dz_at (i := 8) dy_p09_16 rfl
theorem dX5_swap_17 : decode cX5_swap 17 = .ok (.aload_n 1, 1) := dz_at (i := 9) dy_p09_16 rfl
theorem dX5_swap_18 : decode cX5_swap 18 = .ok (.iload_n 2, 1) := dz_at (i := 10) dy_p09_16 rfl
theorem dX5_swap_19 : decode cX5_swap 19 = .ok (.iload_n 3, 1) := dz_at (i := 11) dy_p09_16 rfl
theorem dX5_swap_20 : decode cX5_swap 20 = .ok (.invokevirtual 78, 3) := dz_at (i := 12) dy_p09_16 rfl
theorem dX5_swap_23 : decode cX5_swap 23 = .ok (.ireturn, 1) := dz_at (i := 13) dy_p09_16 rfl
noncomputable def o_X5_swap (a : Int32) (f : Nat → Int64) (p1 : Int32) (p2 : Int32) : Int32 × Int32 × (Nat → Int64) × Int32 :=
  if (o_X5_fails (o_X5_areNo p1 p2) false).1 = true then (0, a, f, (o_X5_fails (o_X5_areNo p1 p2) false).2)
  else ((o_X4_swap a f p1 p2).1, (o_X4_swap a f p1 p2).2.1, (o_X4_swap a f p1 p2).2.2, (o_X5_fails (o_X5_areNo p1 p2) false).2)
set_option maxHeartbeats 4000000 in
set_option maxRecDepth 100000 in
theorem k_X5_swap (l : Launch) (dC : Nat → ClassId) (dI : Nat → Nat → Nat) (cy : ClassId) (h0 : Nat) (h1 : Nat) (h2 : Nat) (ro : Nat) (hc : Nat) (w : Bool) (a : Int32) (f : Nat → Int64) (th : Int32) (rf : Int32) (kn : Int32) (sz : Nat) (N : Nat) (p1 : Int32) (p2 : Int32) : Met l yX5_swap wsX5_swap ({ frames := 3, cells := 0, slots := 0, locals := 63 }) (va_Pc [.ref h0, .ref ro, .int p1, .int p2] (xM (dC, dI) xCl [(h0, eM h1 h2 th rf kn), (ro, eMR w hc a), (hc, eA cy f)] [(cy, .long)] sz N)) (va_Qi (fun (r : Int32) (_ : Unit) => r = (o_X5_swap a f p1 p2).1) (fun _ t => xW (dC, dI) xCl [(h0, eM h1 h2 (o_X5_swap a f p1 p2).2.2.2 rf kn), (ro, eMR w hc (o_X5_swap a f p1 p2).2.1), (hc, eA cy (o_X5_swap a f p1 p2).2.2.1)] (va_A [(h0, eM h1 h2 th rf kn), (ro, eMR w hc a), (hc, eA cy f)] sz) t) (va_A [(h0, eM h1 h2 th rf kn), (ro, eMR w hc a), (hc, eA cy f)] sz)) 0 0 (va_A [(h0, eM h1 h2 th rf kn), (ro, eMR w hc a), (hc, eA cy f)] sz) := by
  refine Met.ofW (cc := cX5_swap) (maxL := 4) (ret := (some .int)) (by decide +kernel) rfl ?_
  intro p e s m args below meth c s₁ B hml hv
  obtain ⟨rfl, hsz, hP, hK, hD0, hN, hG⟩ := hv
  have hx := B.exec
  have hb := B.bytes
  have hr := B.returns
  have hts := atoms_spec (ws := wsX5_swap) B.pre
  have hown : s.vm.findClass RX5 = some m.cls := findClass_of_methodNamed B.named
  have hlocks := B.notSynchronized
  subst hsz
  have hAN : ∀ q, va_A [(h0, eM h1 h2 th rf kn), (ro, eMR w hc a), (hc, eA cy f)] s.heap.size q → N ≤ q := xA_N hD0 hN
  have hD := hD0.self (sz := s.heap.size)
  generalize hAe : va_A [(h0, eM h1 h2 th rf kn), (ro, eMR w hc a), (hc, eA cy f)] s.heap.size = A at hD hAN ⊢
  have hA : ∀ q : Nat, s.heap.size ≤ q → A q := fun q h => by rw [← hAe]; exact Or.inr h
  have hS : va_S A s.heap s.heap [] := va_S.rf
  have hP : va_P (dC, dI) xCl [(h0, eM h1 h2 th rf kn), (ro, eMR w hc a), (hc, eA cy f)] s.heap := hP
  have hl := lv_entry ([.ref h0, .ref ro, .int p1, .int p2]) (n := 4) (Nat.le_of_ble_eq_true rfl)
  rw [lg_entry_eq]
  generalize (lg_sl ([.ref h0, .ref ro, .int p1, .int p2]) ++ List.replicate (4 - (lg_sl ([.ref h0, .ref ro, .int p1, .int p2])).length) Slot.unset).toArray = ls at hl ⊢
  have hl : lv_has ls 4 [(0, .ref h0), (1, .ref ro), (2, .int p1), (3, .int p2)] := hl
  refine lv_aload_n hx hb dX5_swap_0 rfl (lv_at hl 0 rfl) ?_
  refine lv_iload_n hx hb dX5_swap_1 rfl (lv_at hl 2 rfl) ?_
  refine lv_iload_n hx hb dX5_swap_2 rfl (lv_at hl 3 rfl) ?_
  have hPc := hP.sub (ws' := []) [] rfl
  have hKc := hK.sub (tys' := []) [] rfl
  refine va_calli (va_runS (As := [.int p1, .int p2]) (rest := [.ref h0]) ⟨hx, hb, hml, hown, hts⟩ (k_X5_areNo l dC dI s.heap.size p1 p2) (va_cwS 2 hts gX5_swap_X5_areNo rfl rfl rfl (by decide +kernel) ⟨Nat.le_of_ble_eq_true rfl, Nat.le_of_ble_eq_true rfl⟩) (xB.preS hKc hPc) rfl rfl hl.1 rfl (lv_room (Nat.le_of_ble_eq_true rfl)) dX5_swap_3 ⟨Nat.le_of_ble_eq_true rfl, Nat.le_of_ble_eq_true rfl⟩) hS xA_old (fun q h => hA q (Nat.le_trans hS.1 h)) (fun r_1 u t H locs ht hvm hw hB hz hk hS => ?_)
  replace hw : r_1 = b2i (o_X5_areNo p1 p2) := hw
  subst r_1
  have hP := xP_keep hP hk
  refine lv_iconst (v := 0) hx hb dX5_swap_6 (by decide +kernel) ?_
  have hPc := hP.sub (ws' := [(h0, eM h1 h2 th rf kn)]) [0] rfl
  have hDc := hD.sub (ws' := [(h0, eM h1 h2 th rf kn)]) [0] (by decide +kernel) rfl
  have hKc := hK.sub (tys' := []) [] rfl
  have hFc := va_free (wc := [(h0, eM h1 h2 th rf kn)]) hD hS hA [0] rfl
  refine va_calli (va_runV (As := [.int (b2i (o_X5_areNo p1 p2)), .int 0]) (rest := []) ⟨hx, hb, hml, hown, hts⟩ (k_X5_fails l dC dI h0 h1 h2 th rf kn H.size N (o_X5_areNo p1 p2) false) (cwV 2 hts gX5_swap_X5_fails rfl rfl rfl (by decide +kernel) ⟨Nat.le_of_ble_eq_true rfl, Nat.le_of_ble_eq_true rfl⟩) (xM.preV hKc hPc hDc hAN (Nat.le_trans hN hS.1) (hG.kept hS hAN) (ci := 7) (q0 := 0) rfl rfl) rfl rfl hl.1 rfl (lv_room (Nat.le_of_ble_eq_true rfl)) dX5_swap_7 ⟨Nat.le_of_ble_eq_true rfl, Nat.le_of_ble_eq_true rfl⟩) hS (fun q _ h => hFc q h) hFc (fun r_2 u t H locs ht hvm hw hB hz hk hS => ?_)
  replace hw : r_2 = b2i ((o_X5_fails (o_X5_areNo p1 p2) false).1) := hw
  subst r_2
  obtain ⟨hP1, hD1⟩ := hB
  rw [ht] at hP1
  obtain ⟨hP, hD⟩ := va_join (wr := [(ro, eMR w hc a), (hc, eA cy f)]) (w1 := [(h0, eM h1 h2 (o_X5_fails (o_X5_areNo p1 p2) false).2 rf kn)]) hP hD [0] [1, 2] rfl rfl (by decide +kernel) (by decide +kernel) hk hFc hP1 hD1
  have hP := hP.sub (ws' := [(h0, eM h1 h2 (o_X5_fails (o_X5_areNo p1 p2) false).2 rf kn), (ro, eMR w hc a), (hc, eA cy f)]) [2, 0, 1] rfl
  have hD := hD.sub (ws' := [(h0, eM h1 h2 (o_X5_fails (o_X5_areNo p1 p2) false).2 rf kn), (ro, eMR w hc a), (hc, eA cy f)]) [2, 0, 1] (by decide +kernel) rfl
  refine xz_eq (tgt := 17) hx hb dX5_swap_10 (by decide +kernel) (fun c_3 => ?_) (fun c_3 => ?_)
  · skip
    refine lv_aload_n hx hb dX5_swap_17 rfl (lv_at hl 1 rfl) ?_
    refine lv_iload_n hx hb dX5_swap_18 rfl (lv_at hl 2 rfl) ?_
    refine lv_iload_n hx hb dX5_swap_19 rfl (lv_at hl 3 rfl) ?_
    have hPc := hP.sub (ws' := [(ro, eMR w hc a), (hc, eA cy f)]) [1, 2] rfl
    have hDc := hD.sub (ws' := [(ro, eMR w hc a), (hc, eA cy f)]) [1, 2] (by decide +kernel) rfl
    have hKc := hK.sub (tys' := [(cy, .long)]) [0] rfl
    have hFc := va_free (wc := [(ro, eMR w hc a), (hc, eA cy f)]) hD hS hA [1, 2] rfl
    refine va_calli (va_runV (As := [.int p1, .int p2]) (rest := []) ⟨hx, hb, hml, hown, hts⟩ (k_X4_swap l dC dI cy ro hc w a f H.size N p1 p2 (xm_areNo1 (xm_fails c_3)) (xm_areNo2 (xm_fails c_3))) (cwV 2 hts gX5_swap_X4_swap rfl rfl rfl (by decide +kernel) ⟨Nat.le_of_ble_eq_true rfl, Nat.le_of_ble_eq_true rfl⟩) (xM.preV hKc hPc hDc hAN (Nat.le_trans hN hS.1) (hG.kept hS hAN) (ci := 6) (q0 := 0) rfl rfl) rfl rfl hl.1 rfl (lv_room (Nat.le_of_ble_eq_true rfl)) dX5_swap_20 ⟨Nat.le_of_ble_eq_true rfl, Nat.le_of_ble_eq_true rfl⟩) hS (fun q _ h => hFc q h) hFc (fun r_4 u t H locs ht hvm hw hB hz hk hS => ?_)
    replace hw : r_4 = (o_X4_swap a f p1 p2).1 := hw
    subst r_4
    obtain ⟨hP1, hD1⟩ := hB
    rw [ht] at hP1
    obtain ⟨hP, hD⟩ := va_join (wr := [(h0, eM h1 h2 (o_X5_fails (o_X5_areNo p1 p2) false).2 rf kn)]) (w1 := [(ro, eMR w hc (o_X4_swap a f p1 p2).2.1), (hc, eA cy (o_X4_swap a f p1 p2).2.2)]) hP hD [1, 2] [0] rfl rfl (by decide +kernel) (by decide +kernel) hk hFc hP1 hD1
    have hP := hP.sub (ws' := [(h0, eM h1 h2 (o_X5_fails (o_X5_areNo p1 p2) false).2 rf kn), (ro, eMR w hc (o_X4_swap a f p1 p2).2.1), (hc, eA cy (o_X4_swap a f p1 p2).2.2)]) [0, 1, 2] rfl
    have hD := hD.sub (ws' := [(h0, eM h1 h2 (o_X5_fails (o_X5_areNo p1 p2) false).2 rf kn), (ro, eMR w hc (o_X4_swap a f p1 p2).2.1), (hc, eA cy (o_X4_swap a f p1 p2).2.2)]) [0, 1, 2] (by decide +kernel) rfl
    have he : o_X5_swap a f p1 p2 = ((o_X4_swap a f p1 p2).1, (o_X4_swap a f p1 p2).2.1, (o_X4_swap a f p1 p2).2.2, (o_X5_fails (o_X5_areNo p1 p2) false).2) := by (rw [o_X5_swap, if_neg c_3]) <;> rfl
    refine W.widen (k := 0) (n := 0) (by omega) (by omega) ?_
    exact W.iret (v := ((o_X4_swap a f p1 p2).1)) hx hb hr (fun t ht hW => ⟨⟨_, (), rfl, (by (rw [he]) <;> rfl), (by rw [he]; exact ⟨by rw [ht]; exact hP, hD⟩)⟩, hS.F ht⟩) hS.2.2 dX5_swap_23
  · skip
    refine lv_iconst (v := 0) hx hb dX5_swap_13 (by decide +kernel) ?_
    refine lv_goto (tgt := 23) hx hb dX5_swap_14 (by decide +kernel) ?_
    have he : o_X5_swap a f p1 p2 = (0, a, f, (o_X5_fails (o_X5_areNo p1 p2) false).2) := by (rw [o_X5_swap, if_pos c_3]) <;> rfl
    refine W.widen (k := 0) (n := 0) (by omega) (by omega) ?_
    exact W.iret (v := 0) hx hb hr (fun t ht hW => ⟨⟨_, (), rfl, (by (rw [he]) <;> rfl), (by rw [he]; exact ⟨by rw [ht]; exact hP, hD⟩)⟩, hS.F ht⟩) hS.2.2 dX5_swap_23
theorem cl_X5_choose_1 : ∀ w ∈ wsX5_choose_r1, w ∈ wsX5_choose := fun _ h => (List.mem_cons_of_mem _ (List.mem_append_left _ (List.mem_append_left _ (List.mem_append_left _ h))))
theorem cl_X5_choose_2 : ∀ w ∈ wsX5_choose_r2, w ∈ wsX5_choose := fun _ h => (List.mem_cons_of_mem _ (List.mem_append_left _ (List.mem_append_left _ (List.mem_append_right _ h))))
theorem cl_X5_choose_3 : ∀ w ∈ wsX40, w ∈ wsX5_choose := fun _ h => (List.mem_cons_of_mem _ (List.mem_append_left _ (List.mem_append_right _ h)))
theorem cl_X5_choose_4 : ∀ w ∈ wsX50, w ∈ wsX5_choose := fun _ h => (List.mem_cons_of_mem _ (List.mem_append_right _ h))
set_option maxRecDepth 20000 in
theorem ggX5_choose_X5_areNo : GoodIn wsX5_choose wsX5_areNo := goodIn_sub (List.forall_mem_cons.mpr ⟨(cl_X5_choose_1 _ (List.mem_of_getElem? (i := 4) rfl)), List.forall_mem_cons.mpr ⟨(cl_X5_choose_1 _ (List.mem_of_getElem? (i := 5) rfl)), List.forall_mem_cons.mpr ⟨(cl_X5_choose_1 _ (List.mem_of_getElem? (i := 6) rfl)), List.forall_mem_cons.mpr ⟨(cl_X5_choose_1 _ (List.mem_of_getElem? (i := 3) rfl)), List.forall_mem_cons.mpr ⟨(cl_X5_choose_1 _ (List.mem_of_getElem? (i := 7) rfl)), List.forall_mem_cons.mpr ⟨(cl_X5_choose_1 _ (List.mem_of_getElem? (i := 8) rfl)), List.forall_mem_cons.mpr ⟨(cl_X5_choose_1 _ (List.mem_of_getElem? (i := 9) rfl)), List.forall_mem_cons.mpr ⟨(cl_X5_choose_1 _ (List.mem_of_getElem? (i := 10) rfl)), fun _ h => absurd h List.not_mem_nil⟩⟩⟩⟩⟩⟩⟩⟩) (by decide +kernel)
set_option maxRecDepth 20000 in
theorem gX5_choose_X5_areNo : GoodIn wsX5_choose (va_wsS RX5 70 yX5_areNo wsX5_areNo) := goodIn_app (goodIn_sub (List.forall_mem_cons.mpr ⟨(cl_X5_choose_1 _ (List.mem_of_getElem? (i := 1) rfl)), List.forall_mem_cons.mpr ⟨(cl_X5_choose_1 _ (List.mem_of_getElem? (i := 2) rfl)), List.forall_mem_cons.mpr ⟨(cl_X5_choose_1 _ (List.mem_of_getElem? (i := 3) rfl)), fun _ h => absurd h List.not_mem_nil⟩⟩⟩) (by decide +kernel)) ggX5_choose_X5_areNo
set_option maxRecDepth 20000 in
theorem ggX5_choose_X5_isNo : GoodIn wsX5_choose wsX5_isNo := goodIn_sub (List.forall_mem_cons.mpr ⟨(cl_X5_choose_1 _ (List.mem_of_getElem? (i := 7) rfl)), List.forall_mem_cons.mpr ⟨(cl_X5_choose_1 _ (List.mem_of_getElem? (i := 8) rfl)), List.forall_mem_cons.mpr ⟨(cl_X5_choose_1 _ (List.mem_of_getElem? (i := 9) rfl)), List.forall_mem_cons.mpr ⟨(cl_X5_choose_1 _ (List.mem_of_getElem? (i := 3) rfl)), List.forall_mem_cons.mpr ⟨(cl_X5_choose_1 _ (List.mem_of_getElem? (i := 10) rfl)), fun _ h => absurd h List.not_mem_nil⟩⟩⟩⟩⟩) (by decide +kernel)
set_option maxRecDepth 20000 in
theorem gX5_choose_X5_isNo : GoodIn wsX5_choose (va_wsS RX5 35 yX5_isNo wsX5_isNo) := goodIn_app (goodIn_sub (List.forall_mem_cons.mpr ⟨(cl_X5_choose_1 _ (List.mem_of_getElem? (i := 5) rfl)), List.forall_mem_cons.mpr ⟨(cl_X5_choose_1 _ (List.mem_of_getElem? (i := 6) rfl)), List.forall_mem_cons.mpr ⟨(cl_X5_choose_1 _ (List.mem_of_getElem? (i := 3) rfl)), fun _ h => absurd h List.not_mem_nil⟩⟩⟩) (by decide +kernel)) ggX5_choose_X5_isNo
set_option maxRecDepth 20000 in
theorem ggX5_choose_X5_fails : GoodIn wsX5_choose wsX5_fails := goodIn_sub (List.forall_mem_cons.mpr ⟨(cl_X5_choose_1 _ (List.mem_of_getElem? (i := 14) rfl)), fun w h => (List.mem_append.mp h).elim ((List.forall_mem_cons.mpr ⟨(cl_X5_choose_1 _ (List.mem_of_getElem? (i := 15) rfl)), fun _ h => absurd h List.not_mem_nil⟩) w) ((cl_X5_choose_4) w)⟩) (by decide +kernel)
set_option maxRecDepth 20000 in
theorem gX5_choose_X5_fails : GoodIn wsX5_choose (wsV RX5 42 RX5 yX5_fails wsX5_fails) := goodIn_app (goodIn_sub (List.forall_mem_cons.mpr ⟨(cl_X5_choose_1 _ (List.mem_of_getElem? (i := 11) rfl)), List.forall_mem_cons.mpr ⟨(cl_X5_choose_1 _ (List.mem_of_getElem? (i := 12) rfl)), List.forall_mem_cons.mpr ⟨(cl_X5_choose_1 _ (List.mem_of_getElem? (i := 13) rfl)), List.forall_mem_cons.mpr ⟨(cl_X5_choose_1 _ (List.mem_of_getElem? (i := 3) rfl)), fun _ h => absurd h List.not_mem_nil⟩⟩⟩⟩) (by decide +kernel)) ggX5_choose_X5_fails
set_option maxRecDepth 20000 in
theorem ggX5_choose_X4_order : GoodIn wsX5_choose wsX4_order := goodIn_sub (List.forall_mem_cons.mpr ⟨(cl_X5_choose_1 _ (List.mem_of_getElem? (i := 20) rfl)), fun w h => (List.mem_append.mp h).elim ((List.forall_mem_cons.mpr ⟨(cl_X5_choose_1 _ (List.mem_of_getElem? (i := 21) rfl)), List.forall_mem_cons.mpr ⟨(cl_X5_choose_1 _ (List.mem_of_getElem? (i := 22) rfl)), List.forall_mem_cons.mpr ⟨(cl_X5_choose_1 _ (List.mem_of_getElem? (i := 23) rfl)), List.forall_mem_cons.mpr ⟨(cl_X5_choose_1 _ (List.mem_of_getElem? (i := 19) rfl)), List.forall_mem_cons.mpr ⟨(cl_X5_choose_2 _ (List.mem_of_getElem? (i := 0) rfl)), List.forall_mem_cons.mpr ⟨(cl_X5_choose_2 _ (List.mem_of_getElem? (i := 1) rfl)), List.forall_mem_cons.mpr ⟨(cl_X5_choose_2 _ (List.mem_of_getElem? (i := 2) rfl)), List.forall_mem_cons.mpr ⟨(cl_X5_choose_2 _ (List.mem_of_getElem? (i := 3) rfl)), List.forall_mem_cons.mpr ⟨(cl_X5_choose_2 _ (List.mem_of_getElem? (i := 4) rfl)), List.forall_mem_cons.mpr ⟨(cl_X5_choose_2 _ (List.mem_of_getElem? (i := 5) rfl)), List.forall_mem_cons.mpr ⟨(cl_X5_choose_2 _ (List.mem_of_getElem? (i := 6) rfl)), List.forall_mem_cons.mpr ⟨(cl_X5_choose_2 _ (List.mem_of_getElem? (i := 7) rfl)), List.forall_mem_cons.mpr ⟨(cl_X5_choose_2 _ (List.mem_of_getElem? (i := 8) rfl)), List.forall_mem_cons.mpr ⟨(cl_X5_choose_2 _ (List.mem_of_getElem? (i := 9) rfl)), List.forall_mem_cons.mpr ⟨(cl_X5_choose_2 _ (List.mem_of_getElem? (i := 10) rfl)), List.forall_mem_cons.mpr ⟨(cl_X5_choose_2 _ (List.mem_of_getElem? (i := 11) rfl)), List.forall_mem_cons.mpr ⟨(cl_X5_choose_2 _ (List.mem_of_getElem? (i := 12) rfl)), List.forall_mem_cons.mpr ⟨(cl_X5_choose_2 _ (List.mem_of_getElem? (i := 13) rfl)), List.forall_mem_cons.mpr ⟨(cl_X5_choose_2 _ (List.mem_of_getElem? (i := 14) rfl)), List.forall_mem_cons.mpr ⟨(cl_X5_choose_2 _ (List.mem_of_getElem? (i := 15) rfl)), fun _ h => absurd h List.not_mem_nil⟩⟩⟩⟩⟩⟩⟩⟩⟩⟩⟩⟩⟩⟩⟩⟩⟩⟩⟩⟩) w) ((cl_X5_choose_3) w)⟩) (by decide +kernel)
set_option maxRecDepth 20000 in
theorem gX5_choose_X4_order : GoodIn wsX5_choose (wsV RX5 82 RX4 yX4_order wsX4_order) := goodIn_app (goodIn_sub (List.forall_mem_cons.mpr ⟨(cl_X5_choose_1 _ (List.mem_of_getElem? (i := 16) rfl)), List.forall_mem_cons.mpr ⟨(cl_X5_choose_1 _ (List.mem_of_getElem? (i := 17) rfl)), List.forall_mem_cons.mpr ⟨(cl_X5_choose_1 _ (List.mem_of_getElem? (i := 18) rfl)), List.forall_mem_cons.mpr ⟨(cl_X5_choose_1 _ (List.mem_of_getElem? (i := 19) rfl)), fun _ h => absurd h List.not_mem_nil⟩⟩⟩⟩) (by decide +kernel)) ggX5_choose_X4_order
set_option maxRecDepth 20000 in
theorem ggX5_choose_X4_come : GoodIn wsX5_choose wsX4_come := goodIn_sub (List.forall_mem_cons.mpr ⟨(cl_X5_choose_2 _ (List.mem_of_getElem? (i := 19) rfl)), fun w h => (List.mem_append.mp h).elim ((List.forall_mem_cons.mpr ⟨(cl_X5_choose_2 _ (List.mem_of_getElem? (i := 20) rfl)), List.forall_mem_cons.mpr ⟨(cl_X5_choose_2 _ (List.mem_of_getElem? (i := 21) rfl)), fun _ h => absurd h List.not_mem_nil⟩⟩) w) ((cl_X5_choose_3) w)⟩) (by decide +kernel)
set_option maxRecDepth 20000 in
theorem gX5_choose_X4_come : GoodIn wsX5_choose (wsV RX5 54 RX4 yX4_come wsX4_come) := goodIn_app (goodIn_sub (List.forall_mem_cons.mpr ⟨(cl_X5_choose_2 _ (List.mem_of_getElem? (i := 16) rfl)), List.forall_mem_cons.mpr ⟨(cl_X5_choose_2 _ (List.mem_of_getElem? (i := 17) rfl)), List.forall_mem_cons.mpr ⟨(cl_X5_choose_2 _ (List.mem_of_getElem? (i := 18) rfl)), List.forall_mem_cons.mpr ⟨(cl_X5_choose_1 _ (List.mem_of_getElem? (i := 19) rfl)), fun _ h => absurd h List.not_mem_nil⟩⟩⟩⟩) (by decide +kernel)) ggX5_choose_X4_come
noncomputable def dz_p09_17 : List (Nat × Instr × Nat) := [(0, (.aload_n 0, 1)), (1, (.iload_n 2, 1)), (2, (.iload_n 3, 1)), (3, (.invokestatic 70, 3)), (6, (.ifCond .ne 11, 3)), (9, (.iload 4, 2)), (11, (.invokestatic 35, 3)), (14, (.ifCond .eq 7, 3)), (17, (.iconst 1, 1)), (18, (.goto 4, 3)), (21, (.iconst 0, 1)), (22, (.iconst 0, 1)), (23, (.invokevirtual 42, 3)), (26, (.ifCond .eq 5, 3)), (29, (.iconst 0, 1)), (30, (.ireturn, 1)), (31, (.aload_n 1, 1)), (32, (.aload_n 1, 1)), (33, (.getfield 74, 3)), (36, (.iload_n 2, 1)), (37, (.laload, 1)), (38, (.aload_n 1, 1)), (39, (.getfield 74, 3)), (42, (.iload_n 3, 1)), (43, (.laload, 1)), (44, (.invokevirtual 82, 3)), (47, (.iload 5, 2)), (49, (.if_icmp .ne 7, 3)), (52, (.iconst 1, 1)), (53, (.goto 4, 3)), (56, (.iconst 0, 1)), (57, (.istore 6, 2)), (59, (.aload_n 1, 1)), (60, (.iload 4, 2)), (62, (.aload_n 1, 1)), (63, (.getfield 74, 3)), (66, (.iload 6, 2)), (68, (.ifCond .eq 7, 3)), (71, (.iload_n 2, 1)), (72, (.goto 4, 3))]
theorem dy_p09_17 : dz_ok cX5_choose dz_p09_17 = true := by decide +kernel
theorem dX5_choose_0 : decode cX5_choose 0 = .ok (.aload_n 0, 1) := dz_at (i := 0) dy_p09_17 rfl
theorem dX5_choose_1 : decode cX5_choose 1 = .ok (.iload_n 2, 1) := dz_at (i := 1) dy_p09_17 rfl
theorem dX5_choose_2 : decode cX5_choose 2 = .ok (.iload_n 3, 1) := dz_at (i := 2) dy_p09_17 rfl
theorem dX5_choose_3 : decode cX5_choose 3 = .ok (.invokestatic 70, 3) := dz_at (i := 3) dy_p09_17 rfl
theorem dX5_choose_6 : decode cX5_choose 6 = .ok (.ifCond .ne 11, 3) := dz_at (i := 4) dy_p09_17 rfl
theorem dX5_choose_9 : decode cX5_choose 9 = .ok (.iload 4, 2) := dz_at (i := 5) dy_p09_17 rfl
theorem dX5_choose_11 : decode cX5_choose 11 = .ok (.invokestatic 35, 3) := dz_at (i := 6) dy_p09_17 rfl
theorem dX5_choose_14 : decode cX5_choose 14 = .ok (.ifCond .eq 7, 3) := dz_at (i := 7) dy_p09_17 rfl
theorem dX5_choose_17 : decode cX5_choose 17 = .ok (.iconst 1, 1) := dz_at (i := 8) dy_p09_17 rfl
theorem dX5_choose_18 : decode cX5_choose 18 = .ok (.goto 4, 3) := dz_at (i := 9) dy_p09_17 rfl
theorem dX5_choose_21 : decode cX5_choose 21 = .ok (.iconst 0, 1) := dz_at (i := 10) dy_p09_17 rfl
theorem dX5_choose_22 : decode cX5_choose 22 = .ok (.iconst 0, 1) := dz_at (i := 11) dy_p09_17 rfl
theorem dX5_choose_23 : decode cX5_choose 23 = .ok (.invokevirtual 42, 3) := dz_at (i := 12) dy_p09_17 rfl
theorem dX5_choose_26 : decode cX5_choose 26 = .ok (.ifCond .eq 5, 3) := dz_at (i := 13) dy_p09_17 rfl
theorem dX5_choose_29 : decode cX5_choose 29 = .ok (.iconst 0, 1) := dz_at (i := 14) dy_p09_17 rfl
theorem dX5_choose_30 : decode cX5_choose 30 = .ok (.ireturn, 1) := dz_at (i := 15) dy_p09_17 rfl
theorem dX5_choose_31 : decode cX5_choose 31 = .ok (.aload_n 1, 1) := dz_at (i := 16) dy_p09_17 rfl
theorem dX5_choose_32 : decode cX5_choose 32 = .ok (.aload_n 1, 1) := dz_at (i := 17) dy_p09_17 rfl
theorem dX5_choose_33 : decode cX5_choose 33 = .ok (.getfield 74, 3) := dz_at (i := 18) dy_p09_17 rfl
theorem dX5_choose_36 : decode cX5_choose 36 = .ok (.iload_n 2, 1) := dz_at (i := 19) dy_p09_17 rfl
theorem dX5_choose_37 : decode cX5_choose 37 = .ok (.laload, 1) := dz_at (i := 20) dy_p09_17 rfl
theorem dX5_choose_38 : decode cX5_choose 38 = .ok (.aload_n 1, 1) := dz_at (i := 21) dy_p09_17 rfl
theorem dX5_choose_39 : decode cX5_choose 39 = .ok (.getfield 74, 3) := dz_at (i := 22) dy_p09_17 rfl
theorem dX5_choose_42 : decode cX5_choose 42 = .ok (.iload_n 3, 1) := dz_at (i := 23) dy_p09_17 rfl
theorem dX5_choose_43 : decode cX5_choose 43 = .ok (.laload, 1) := dz_at (i := 24) dy_p09_17 rfl
theorem dX5_choose_44 : decode cX5_choose 44 = .ok (.invokevirtual 82, 3) := dz_at (i := 25) dy_p09_17 rfl
theorem dX5_choose_47 : decode cX5_choose 47 = .ok (.iload 5, 2) := dz_at (i := 26) dy_p09_17 rfl
theorem dX5_choose_49 : decode cX5_choose 49 = .ok (.if_icmp .ne 7, 3) := dz_at (i := 27) dy_p09_17 rfl
theorem dX5_choose_52 : decode cX5_choose 52 = .ok (.iconst 1, 1) := dz_at (i := 28) dy_p09_17 rfl
theorem dX5_choose_53 : decode cX5_choose 53 = .ok (.goto 4, 3) := dz_at (i := 29) dy_p09_17 rfl
theorem dX5_choose_56 : decode cX5_choose 56 = .ok (.iconst 0, 1) := dz_at (i := 30) dy_p09_17 rfl
theorem dX5_choose_57 : decode cX5_choose 57 = .ok (.istore 6, 2) := dz_at (i := 31) dy_p09_17 rfl
theorem dX5_choose_59 : decode cX5_choose 59 = .ok (.aload_n 1, 1) := dz_at (i := 32) dy_p09_17 rfl
theorem dX5_choose_60 : decode cX5_choose 60 = .ok (.iload 4, 2) := dz_at (i := 33) dy_p09_17 rfl
theorem dX5_choose_62 : decode cX5_choose 62 = .ok (.aload_n 1, 1) := dz_at (i := 34) dy_p09_17 rfl
theorem dX5_choose_63 : decode cX5_choose 63 = .ok (.getfield 74, 3) := dz_at (i := 35) dy_p09_17 rfl
theorem dX5_choose_66 : decode cX5_choose 66 = .ok (.iload 6, 2) := dz_at (i := 36) dy_p09_17 rfl
theorem dX5_choose_68 : decode cX5_choose 68 = .ok (.ifCond .eq 7, 3) := dz_at (i := 37) dy_p09_17 rfl
theorem dX5_choose_71 : decode cX5_choose 71 = .ok (.iload_n 2, 1) := dz_at (i := 38) dy_p09_17 rfl
theorem dX5_choose_72 : decode cX5_choose 72 = .ok (.goto 4, 3) := dz_at (i := 39) dy_p09_17 rfl
noncomputable def dz_p09_18 : List (Nat × Instr × Nat) := [(75, (.iload_n 3, 1)), (76, (.laload, 1)), (77, (.invokevirtual 54, 3)), (80, (.ireturn, 1))]
theorem dy_p09_18 : dz_ok cX5_choose dz_p09_18 = true := by decide +kernel
theorem dX5_choose_75 : decode cX5_choose 75 = .ok (.iload_n 3, 1) := dz_at (i := 0) dy_p09_18 rfl
theorem dX5_choose_76 : decode cX5_choose 76 = .ok (.laload, 1) := dz_at (i := 1) dy_p09_18 rfl
theorem dX5_choose_77 : decode cX5_choose 77 = .ok (.invokevirtual 54, 3) := dz_at (i := 2) dy_p09_18 rfl
theorem dX5_choose_80 : decode cX5_choose 80 = .ok (.ireturn, 1) := dz_at (i := 3) dy_p09_18 rfl
noncomputable def o_X5_choose (w : Bool) (a : Int32) (f : Nat → Int64) (p1 : Int32) (p2 : Int32) (p3 : Int32) (p4 : Int32) : Int32 × Int32 × (Nat → Int64) × Int32 :=
  if (o_X5_areNo p1 p2) = true then (0, a, f, (o_X5_fails true false).2)
  else if (o_X5_isNo p3) = true then (0, a, f, (o_X5_fails true false).2)
  else if (o_X4_order w (f p1.toNatClampNeg) (f p2.toNatClampNeg)) = p4 then ((o_X4_come a f p3 (f p1.toNatClampNeg)).1, (o_X4_come a f p3 (f p1.toNatClampNeg)).2.1, (o_X4_come a f p3 (f p1.toNatClampNeg)).2.2, (o_X5_fails false false).2)
  else ((o_X4_come a f p3 (f p2.toNatClampNeg)).1, (o_X4_come a f p3 (f p2.toNatClampNeg)).2.1, (o_X4_come a f p3 (f p2.toNatClampNeg)).2.2, (o_X5_fails false false).2)
set_option maxHeartbeats 4000000 in
set_option maxRecDepth 100000 in
theorem k_X5_choose (l : Launch) (dC : Nat → ClassId) (dI : Nat → Nat → Nat) (cy : ClassId) (h0 : Nat) (h1 : Nat) (h2 : Nat) (ro : Nat) (hc : Nat) (w : Bool) (a : Int32) (f : Nat → Int64) (th : Int32) (rf : Int32) (kn : Int32) (sz : Nat) (N : Nat) (p1 : Int32) (p2 : Int32) (p3 : Int32) (p4 : Int32) : Met l yX5_choose wsX5_choose ({ frames := 4, cells := 0, slots := 0, locals := 88 }) (va_Pc [.ref h0, .ref ro, .int p1, .int p2, .int p3, .int p4] (xM (dC, dI) xCl [(h0, eM h1 h2 th rf kn), (ro, eMR w hc a), (hc, eA cy f)] [(cy, .long)] sz N)) (va_Qi (fun (r : Int32) (_ : Unit) => r = (o_X5_choose w a f p1 p2 p3 p4).1) (fun _ t => xW (dC, dI) xCl [(h0, eM h1 h2 (o_X5_choose w a f p1 p2 p3 p4).2.2.2 rf kn), (ro, eMR w hc (o_X5_choose w a f p1 p2 p3 p4).2.1), (hc, eA cy (o_X5_choose w a f p1 p2 p3 p4).2.2.1)] (va_A [(h0, eM h1 h2 th rf kn), (ro, eMR w hc a), (hc, eA cy f)] sz) t) (va_A [(h0, eM h1 h2 th rf kn), (ro, eMR w hc a), (hc, eA cy f)] sz)) 0 0 (va_A [(h0, eM h1 h2 th rf kn), (ro, eMR w hc a), (hc, eA cy f)] sz) := by
  refine Met.ofW (cc := cX5_choose) (maxL := 7) (ret := (some .int)) (by decide +kernel) rfl ?_
  intro p e s m args below meth c s₁ B hml hv
  obtain ⟨rfl, hsz, hP, hK, hD0, hN, hG⟩ := hv
  have hx := B.exec
  have hb := B.bytes
  have hr := B.returns
  have hts := atoms_spec (ws := wsX5_choose) B.pre
  have hown : s.vm.findClass RX5 = some m.cls := findClass_of_methodNamed B.named
  have hlocks := B.notSynchronized
  subst hsz
  have hAN : ∀ q, va_A [(h0, eM h1 h2 th rf kn), (ro, eMR w hc a), (hc, eA cy f)] s.heap.size q → N ≤ q := xA_N hD0 hN
  have hD := hD0.self (sz := s.heap.size)
  generalize hAe : va_A [(h0, eM h1 h2 th rf kn), (ro, eMR w hc a), (hc, eA cy f)] s.heap.size = A at hD hAN ⊢
  have hA : ∀ q : Nat, s.heap.size ≤ q → A q := fun q h => by rw [← hAe]; exact Or.inr h
  have hS : va_S A s.heap s.heap [] := va_S.rf
  have hP : va_P (dC, dI) xCl [(h0, eM h1 h2 th rf kn), (ro, eMR w hc a), (hc, eA cy f)] s.heap := hP
  have hl := lv_entry ([.ref h0, .ref ro, .int p1, .int p2, .int p3, .int p4]) (n := 7) (Nat.le_of_ble_eq_true rfl)
  rw [lg_entry_eq]
  generalize (lg_sl ([.ref h0, .ref ro, .int p1, .int p2, .int p3, .int p4]) ++ List.replicate (7 - (lg_sl ([.ref h0, .ref ro, .int p1, .int p2, .int p3, .int p4])).length) Slot.unset).toArray = ls at hl ⊢
  have hl : lv_has ls 7 [(0, .ref h0), (1, .ref ro), (2, .int p1), (3, .int p2), (4, .int p3), (5, .int p4)] := hl
  refine lv_aload_n hx hb dX5_choose_0 rfl (lv_at hl 0 rfl) ?_
  refine lv_iload_n hx hb dX5_choose_1 rfl (lv_at hl 2 rfl) ?_
  refine lv_iload_n hx hb dX5_choose_2 rfl (lv_at hl 3 rfl) ?_
  have hPc := hP.sub (ws' := []) [] rfl
  have hKc := hK.sub (tys' := []) [] rfl
  refine va_calli (va_runS (As := [.int p1, .int p2]) (rest := [.ref h0]) ⟨hx, hb, hml, hown, hts⟩ (k_X5_areNo l dC dI s.heap.size p1 p2) (va_cwS 2 hts gX5_choose_X5_areNo rfl rfl rfl (by decide +kernel) ⟨Nat.le_of_ble_eq_true rfl, Nat.le_of_ble_eq_true rfl⟩) (xB.preS hKc hPc) rfl rfl hl.1 rfl (lv_room (Nat.le_of_ble_eq_true rfl)) dX5_choose_3 ⟨Nat.le_of_ble_eq_true rfl, Nat.le_of_ble_eq_true rfl⟩) hS xA_old (fun q h => hA q (Nat.le_trans hS.1 h)) (fun r_1 u t H locs ht hvm hw hB hz hk hS => ?_)
  replace hw : r_1 = b2i (o_X5_areNo p1 p2) := hw
  subst r_1
  have hP := xP_keep hP hk
  refine xz_ne (tgt := 17) hx hb dX5_choose_6 (by decide +kernel) (fun c_2 => ?_) (fun c_2 => ?_)
  · skip
    refine lv_iconst (v := 1) hx hb dX5_choose_17 (by decide +kernel) ?_
    refine lv_goto (tgt := 22) hx hb dX5_choose_18 (by decide +kernel) ?_
    refine lv_iconst (v := 0) hx hb dX5_choose_22 (by decide +kernel) ?_
    have hPc := hP.sub (ws' := [(h0, eM h1 h2 th rf kn)]) [0] rfl
    have hDc := hD.sub (ws' := [(h0, eM h1 h2 th rf kn)]) [0] (by decide +kernel) rfl
    have hKc := hK.sub (tys' := []) [] rfl
    have hFc := va_free (wc := [(h0, eM h1 h2 th rf kn)]) hD hS hA [0] rfl
    refine va_calli (va_runV (As := [.int 1, .int 0]) (rest := []) ⟨hx, hb, hml, hown, hts⟩ (k_X5_fails l dC dI h0 h1 h2 th rf kn H.size N true false) (cwV 2 hts gX5_choose_X5_fails rfl rfl rfl (by decide +kernel) ⟨Nat.le_of_ble_eq_true rfl, Nat.le_of_ble_eq_true rfl⟩) (xM.preV hKc hPc hDc hAN (Nat.le_trans hN hS.1) (hG.kept hS hAN) (ci := 7) (q0 := 0) rfl rfl) rfl rfl hl.1 rfl (lv_room (Nat.le_of_ble_eq_true rfl)) dX5_choose_23 ⟨Nat.le_of_ble_eq_true rfl, Nat.le_of_ble_eq_true rfl⟩) hS (fun q _ h => hFc q h) hFc (fun r_3 u t H locs ht hvm hw hB hz hk hS => ?_)
    replace hw : r_3 = b2i ((o_X5_fails true false).1) := hw
    subst r_3
    obtain ⟨hP1, hD1⟩ := hB
    rw [ht] at hP1
    obtain ⟨hP, hD⟩ := va_join (wr := [(ro, eMR w hc a), (hc, eA cy f)]) (w1 := [(h0, eM h1 h2 (o_X5_fails true false).2 rf kn)]) hP hD [0] [1, 2] rfl rfl (by decide +kernel) (by decide +kernel) hk hFc hP1 hD1
    have hP := hP.sub (ws' := [(h0, eM h1 h2 (o_X5_fails true false).2 rf kn), (ro, eMR w hc a), (hc, eA cy f)]) [2, 0, 1] rfl
    have hD := hD.sub (ws' := [(h0, eM h1 h2 (o_X5_fails true false).2 rf kn), (ro, eMR w hc a), (hc, eA cy f)]) [2, 0, 1] (by decide +kernel) rfl
    refine xz_eq (tgt := 31) hx hb dX5_choose_26 (by decide +kernel) (fun c9 => absurd (by decide +kernel) c9) (fun c9 => ?_)
    refine lv_iconst (v := 0) hx hb dX5_choose_29 (by decide +kernel) ?_
    have he : o_X5_choose w a f p1 p2 p3 p4 = (0, a, f, (o_X5_fails true false).2) := by (rw [o_X5_choose, if_pos c_2]) <;> rfl
    refine W.widen (k := 0) (n := 0) (by omega) (by omega) ?_
    exact W.iret (v := 0) hx hb hr (fun t ht hW => ⟨⟨_, (), rfl, (by (rw [he]) <;> rfl), (by rw [he]; exact ⟨by rw [ht]; exact hP, hD⟩)⟩, hS.F ht⟩) hS.2.2 dX5_choose_30
  · skip
    refine lv_iload hx hb dX5_choose_9 (lv_at hl 4 rfl) ?_
    have hPc := hP.sub (ws' := []) [] rfl
    have hKc := hK.sub (tys' := []) [] rfl
    refine va_calli (va_runS (As := [.int p3]) (rest := [.ref h0]) ⟨hx, hb, hml, hown, hts⟩ (k_X5_isNo l dC dI H.size p3) (va_cwS 1 hts gX5_choose_X5_isNo rfl rfl rfl (by decide +kernel) ⟨Nat.le_of_ble_eq_true rfl, Nat.le_of_ble_eq_true rfl⟩) (xB.preS hKc hPc) rfl rfl hl.1 rfl (lv_room (Nat.le_of_ble_eq_true rfl)) dX5_choose_11 ⟨Nat.le_of_ble_eq_true rfl, Nat.le_of_ble_eq_true rfl⟩) hS xA_old (fun q h => hA q (Nat.le_trans hS.1 h)) (fun r_4 u t H locs ht hvm hw hB hz hk hS => ?_)
    replace hw : r_4 = b2i (o_X5_isNo p3) := hw
    subst r_4
    have hP := xP_keep hP hk
    refine xz_eq (tgt := 21) hx hb dX5_choose_14 (by decide +kernel) (fun c_5 => ?_) (fun c_5 => ?_)
    · skip
      refine lv_iconst (v := 0) hx hb dX5_choose_21 (by decide +kernel) ?_
      refine lv_iconst (v := 0) hx hb dX5_choose_22 (by decide +kernel) ?_
      have hPc := hP.sub (ws' := [(h0, eM h1 h2 th rf kn)]) [0] rfl
      have hDc := hD.sub (ws' := [(h0, eM h1 h2 th rf kn)]) [0] (by decide +kernel) rfl
      have hKc := hK.sub (tys' := []) [] rfl
      have hFc := va_free (wc := [(h0, eM h1 h2 th rf kn)]) hD hS hA [0] rfl
      refine va_calli (va_runV (As := [.int 0, .int 0]) (rest := []) ⟨hx, hb, hml, hown, hts⟩ (k_X5_fails l dC dI h0 h1 h2 th rf kn H.size N false false) (cwV 2 hts gX5_choose_X5_fails rfl rfl rfl (by decide +kernel) ⟨Nat.le_of_ble_eq_true rfl, Nat.le_of_ble_eq_true rfl⟩) (xM.preV hKc hPc hDc hAN (Nat.le_trans hN hS.1) (hG.kept hS hAN) (ci := 7) (q0 := 0) rfl rfl) rfl rfl hl.1 rfl (lv_room (Nat.le_of_ble_eq_true rfl)) dX5_choose_23 ⟨Nat.le_of_ble_eq_true rfl, Nat.le_of_ble_eq_true rfl⟩) hS (fun q _ h => hFc q h) hFc (fun r_6 u t H locs ht hvm hw hB hz hk hS => ?_)
      replace hw : r_6 = b2i ((o_X5_fails false false).1) := hw
      subst r_6
      obtain ⟨hP1, hD1⟩ := hB
      rw [ht] at hP1
      obtain ⟨hP, hD⟩ := va_join (wr := [(ro, eMR w hc a), (hc, eA cy f)]) (w1 := [(h0, eM h1 h2 (o_X5_fails false false).2 rf kn)]) hP hD [0] [1, 2] rfl rfl (by decide +kernel) (by decide +kernel) hk hFc hP1 hD1
      have hP := hP.sub (ws' := [(h0, eM h1 h2 (o_X5_fails false false).2 rf kn), (ro, eMR w hc a), (hc, eA cy f)]) [2, 0, 1] rfl
      have hD := hD.sub (ws' := [(h0, eM h1 h2 (o_X5_fails false false).2 rf kn), (ro, eMR w hc a), (hc, eA cy f)]) [2, 0, 1] (by decide +kernel) rfl
      refine xz_eq (tgt := 31) hx hb dX5_choose_26 (by decide +kernel) (fun c9 => ?_) (fun c9 => absurd c9 (by decide +kernel))
      refine lv_aload_n hx hb dX5_choose_31 rfl (lv_at hl 1 rfl) ?_
      refine lv_aload_n hx hb dX5_choose_32 rfl (lv_at hl 1 rfl) ?_
      refine va_get (D := (dC, dI)) (ci := 6) (v := .ref hc) (C := RX4) (T := TX4) (N := 5) hx hb hts (by decide +kernel) hown hK hP 1 rfl rfl 3 (by decide +kernel) (hts (.fieldLink RX5 74 "EdgefloatsModel$Row" "cells" "[J") (by decide +kernel)) (fun _ h9 => h9) rfl dX5_choose_33 ?_
      refine lv_iload_n hx hb dX5_choose_36 rfl (lv_at hl 2 rfl) ?_
      refine xa_lald hx hb hK hP 2 0 (f := f) rfl rfl (k := p1.toNatClampNeg) (xm_areNo1 c_2) rfl dX5_choose_37 ?_
      refine lv_aload_n hx hb dX5_choose_38 rfl (lv_at hl 1 rfl) ?_
      refine va_get (D := (dC, dI)) (ci := 6) (v := .ref hc) (C := RX4) (T := TX4) (N := 5) hx hb hts (by decide +kernel) hown hK hP 1 rfl rfl 3 (by decide +kernel) (hts (.fieldLink RX5 74 "EdgefloatsModel$Row" "cells" "[J") (by decide +kernel)) (fun _ h9 => h9) rfl dX5_choose_39 ?_
      refine lv_iload_n hx hb dX5_choose_42 rfl (lv_at hl 3 rfl) ?_
      refine xa_lald hx hb hK hP 2 0 (f := f) rfl rfl (k := p2.toNatClampNeg) (xm_areNo2 c_2) rfl dX5_choose_43 ?_
      have hPc := hP.sub (ws' := [(ro, eMR w hc a), (hc, eA cy f)]) [1, 2] rfl
      have hKc := hK.sub (tys' := [(cy, .long)]) [0] rfl
      refine va_calli (va_runV (As := [.long (f p1.toNatClampNeg), .long (f p2.toNatClampNeg)]) (rest := []) ⟨hx, hb, hml, hown, hts⟩ (k_X4_order l dC dI cy ro hc w a f H.size (f p1.toNatClampNeg) (f p2.toNatClampNeg)) (cwV 2 hts gX5_choose_X4_order rfl rfl rfl (by decide +kernel) ⟨Nat.le_of_ble_eq_true rfl, Nat.le_of_ble_eq_true rfl⟩) (xB.preV hKc hPc (ci := 6) (q0 := 0) rfl rfl) rfl rfl hl.1 rfl (lv_room (Nat.le_of_ble_eq_true rfl)) dX5_choose_44 ⟨Nat.le_of_ble_eq_true rfl, Nat.le_of_ble_eq_true rfl⟩) hS xA_old (fun q h => hA q (Nat.le_trans hS.1 h)) (fun r_7 u t H locs ht hvm hw hB hz hk hS => ?_)
      replace hw : r_7 = (o_X4_order w (f p1.toNatClampNeg) (f p2.toNatClampNeg)) := hw
      subst r_7
      have hP := xP_keep hP hk
      refine lv_iload hx hb dX5_choose_47 (lv_at hl 5 rfl) ?_
      refine lv_icmp_ne (tgt := 56) hx hb dX5_choose_49 (by decide +kernel) (fun c_8 => ?_) (fun c_8 => ?_)
      · skip
        refine lv_iconst (v := 0) hx hb dX5_choose_56 (by decide +kernel) ?_
        refine lv_istore (lv' := [(6, .int 0), (0, .ref h0), (1, .ref ro), (2, .int p1), (3, .int p2), (4, .int p3), (5, .int p4)]) hx hb dX5_choose_57 hl (by decide +kernel) rfl (fun ls hl => ?_)
        refine lv_aload_n hx hb dX5_choose_59 rfl (lv_at hl 2 rfl) ?_
        refine lv_iload hx hb dX5_choose_60 (lv_at hl 5 rfl) ?_
        refine lv_aload_n hx hb dX5_choose_62 rfl (lv_at hl 2 rfl) ?_
        refine va_get (D := (dC, dI)) (ci := 6) (v := .ref hc) (C := RX4) (T := TX4) (N := 5) hx hb hts (by decide +kernel) hown hK hP 1 rfl rfl 3 (by decide +kernel) (hts (.fieldLink RX5 74 "EdgefloatsModel$Row" "cells" "[J") (by decide +kernel)) (fun _ h9 => h9) rfl dX5_choose_63 ?_
        refine lv_iload hx hb dX5_choose_66 (lv_at hl 0 rfl) ?_
        refine lv_if_eq (tgt := 75) hx hb dX5_choose_68 (by decide +kernel) (fun _ => ?_) (fun c9 => absurd c9 (by decide +kernel))
        refine lv_iload_n hx hb dX5_choose_75 rfl (lv_at hl 4 rfl) ?_
        refine xa_lald hx hb hK hP 2 0 (f := f) rfl rfl (k := p2.toNatClampNeg) (xm_areNo2 c_2) rfl dX5_choose_76 ?_
        have hPc := hP.sub (ws' := [(ro, eMR w hc a), (hc, eA cy f)]) [1, 2] rfl
        have hDc := hD.sub (ws' := [(ro, eMR w hc a), (hc, eA cy f)]) [1, 2] (by decide +kernel) rfl
        have hKc := hK.sub (tys' := [(cy, .long)]) [0] rfl
        have hFc := va_free (wc := [(ro, eMR w hc a), (hc, eA cy f)]) hD hS hA [1, 2] rfl
        refine va_calli (va_runV (As := [.int p3, .long (f p2.toNatClampNeg)]) (rest := []) ⟨hx, hb, hml, hown, hts⟩ (k_X4_come l dC dI cy ro hc w a f H.size N p3 (f p2.toNatClampNeg) (xm_isNo c_5)) (cwV 2 hts gX5_choose_X4_come rfl rfl rfl (by decide +kernel) ⟨Nat.le_of_ble_eq_true rfl, Nat.le_of_ble_eq_true rfl⟩) (xM.preV hKc hPc hDc hAN (Nat.le_trans hN hS.1) (hG.kept hS hAN) (ci := 6) (q0 := 0) rfl rfl) rfl rfl hl.1 rfl (lv_room (Nat.le_of_ble_eq_true rfl)) dX5_choose_77 ⟨Nat.le_of_ble_eq_true rfl, Nat.le_of_ble_eq_true rfl⟩) hS (fun q _ h => hFc q h) hFc (fun r_9 u t H locs ht hvm hw hB hz hk hS => ?_)
        replace hw : r_9 = (o_X4_come a f p3 (f p2.toNatClampNeg)).1 := hw
        subst r_9
        obtain ⟨hP1, hD1⟩ := hB
        rw [ht] at hP1
        obtain ⟨hP, hD⟩ := va_join (wr := [(h0, eM h1 h2 (o_X5_fails false false).2 rf kn)]) (w1 := [(ro, eMR w hc (o_X4_come a f p3 (f p2.toNatClampNeg)).2.1), (hc, eA cy (o_X4_come a f p3 (f p2.toNatClampNeg)).2.2)]) hP hD [1, 2] [0] rfl rfl (by decide +kernel) (by decide +kernel) hk hFc hP1 hD1
        have hP := hP.sub (ws' := [(h0, eM h1 h2 (o_X5_fails false false).2 rf kn), (ro, eMR w hc (o_X4_come a f p3 (f p2.toNatClampNeg)).2.1), (hc, eA cy (o_X4_come a f p3 (f p2.toNatClampNeg)).2.2)]) [0, 1, 2] rfl
        have hD := hD.sub (ws' := [(h0, eM h1 h2 (o_X5_fails false false).2 rf kn), (ro, eMR w hc (o_X4_come a f p3 (f p2.toNatClampNeg)).2.1), (hc, eA cy (o_X4_come a f p3 (f p2.toNatClampNeg)).2.2)]) [0, 1, 2] (by decide +kernel) rfl
        have he : o_X5_choose w a f p1 p2 p3 p4 = ((o_X4_come a f p3 (f p2.toNatClampNeg)).1, (o_X4_come a f p3 (f p2.toNatClampNeg)).2.1, (o_X4_come a f p3 (f p2.toNatClampNeg)).2.2, (o_X5_fails false false).2) := by (rw [o_X5_choose, if_neg c_2, if_neg c_5, if_neg c_8]) <;> rfl
        refine W.widen (k := 0) (n := 0) (by omega) (by omega) ?_
        exact W.iret (v := ((o_X4_come a f p3 (f p2.toNatClampNeg)).1)) hx hb hr (fun t ht hW => ⟨⟨_, (), rfl, (by (rw [he]) <;> rfl), (by rw [he]; exact ⟨by rw [ht]; exact hP, hD⟩)⟩, hS.F ht⟩) hS.2.2 dX5_choose_80
      · skip
        refine lv_iconst (v := 1) hx hb dX5_choose_52 (by decide +kernel) ?_
        refine lv_goto (tgt := 57) hx hb dX5_choose_53 (by decide +kernel) ?_
        refine lv_istore (lv' := [(6, .int 1), (0, .ref h0), (1, .ref ro), (2, .int p1), (3, .int p2), (4, .int p3), (5, .int p4)]) hx hb dX5_choose_57 hl (by decide +kernel) rfl (fun ls hl => ?_)
        refine lv_aload_n hx hb dX5_choose_59 rfl (lv_at hl 2 rfl) ?_
        refine lv_iload hx hb dX5_choose_60 (lv_at hl 5 rfl) ?_
        refine lv_aload_n hx hb dX5_choose_62 rfl (lv_at hl 2 rfl) ?_
        refine va_get (D := (dC, dI)) (ci := 6) (v := .ref hc) (C := RX4) (T := TX4) (N := 5) hx hb hts (by decide +kernel) hown hK hP 1 rfl rfl 3 (by decide +kernel) (hts (.fieldLink RX5 74 "EdgefloatsModel$Row" "cells" "[J") (by decide +kernel)) (fun _ h9 => h9) rfl dX5_choose_63 ?_
        refine lv_iload hx hb dX5_choose_66 (lv_at hl 0 rfl) ?_
        refine lv_if_eq (tgt := 75) hx hb dX5_choose_68 (by decide +kernel) (fun c9 => absurd c9 (by decide +kernel)) (fun _ => ?_)
        refine lv_iload_n hx hb dX5_choose_71 rfl (lv_at hl 3 rfl) ?_
        refine lv_goto (tgt := 76) hx hb dX5_choose_72 (by decide +kernel) ?_
        refine xa_lald hx hb hK hP 2 0 (f := f) rfl rfl (k := p1.toNatClampNeg) (xm_areNo1 c_2) rfl dX5_choose_76 ?_
        have hPc := hP.sub (ws' := [(ro, eMR w hc a), (hc, eA cy f)]) [1, 2] rfl
        have hDc := hD.sub (ws' := [(ro, eMR w hc a), (hc, eA cy f)]) [1, 2] (by decide +kernel) rfl
        have hKc := hK.sub (tys' := [(cy, .long)]) [0] rfl
        have hFc := va_free (wc := [(ro, eMR w hc a), (hc, eA cy f)]) hD hS hA [1, 2] rfl
        refine va_calli (va_runV (As := [.int p3, .long (f p1.toNatClampNeg)]) (rest := []) ⟨hx, hb, hml, hown, hts⟩ (k_X4_come l dC dI cy ro hc w a f H.size N p3 (f p1.toNatClampNeg) (xm_isNo c_5)) (cwV 2 hts gX5_choose_X4_come rfl rfl rfl (by decide +kernel) ⟨Nat.le_of_ble_eq_true rfl, Nat.le_of_ble_eq_true rfl⟩) (xM.preV hKc hPc hDc hAN (Nat.le_trans hN hS.1) (hG.kept hS hAN) (ci := 6) (q0 := 0) rfl rfl) rfl rfl hl.1 rfl (lv_room (Nat.le_of_ble_eq_true rfl)) dX5_choose_77 ⟨Nat.le_of_ble_eq_true rfl, Nat.le_of_ble_eq_true rfl⟩) hS (fun q _ h => hFc q h) hFc (fun r_10 u t H locs ht hvm hw hB hz hk hS => ?_)
        replace hw : r_10 = (o_X4_come a f p3 (f p1.toNatClampNeg)).1 := hw
        subst r_10
        obtain ⟨hP1, hD1⟩ := hB
        rw [ht] at hP1
        obtain ⟨hP, hD⟩ := va_join (wr := [(h0, eM h1 h2 (o_X5_fails false false).2 rf kn)]) (w1 := [(ro, eMR w hc (o_X4_come a f p3 (f p1.toNatClampNeg)).2.1), (hc, eA cy (o_X4_come a f p3 (f p1.toNatClampNeg)).2.2)]) hP hD [1, 2] [0] rfl rfl (by decide +kernel) (by decide +kernel) hk hFc hP1 hD1
        have hP := hP.sub (ws' := [(h0, eM h1 h2 (o_X5_fails false false).2 rf kn), (ro, eMR w hc (o_X4_come a f p3 (f p1.toNatClampNeg)).2.1), (hc, eA cy (o_X4_come a f p3 (f p1.toNatClampNeg)).2.2)]) [0, 1, 2] rfl
        have hD := hD.sub (ws' := [(h0, eM h1 h2 (o_X5_fails false false).2 rf kn), (ro, eMR w hc (o_X4_come a f p3 (f p1.toNatClampNeg)).2.1), (hc, eA cy (o_X4_come a f p3 (f p1.toNatClampNeg)).2.2)]) [0, 1, 2] (by decide +kernel) rfl
        have he : o_X5_choose w a f p1 p2 p3 p4 = ((o_X4_come a f p3 (f p1.toNatClampNeg)).1, (o_X4_come a f p3 (f p1.toNatClampNeg)).2.1, (o_X4_come a f p3 (f p1.toNatClampNeg)).2.2, (o_X5_fails false false).2) := by (rw [o_X5_choose, if_neg c_2, if_neg c_5, if_pos c_8]) <;> rfl
        refine W.widen (k := 0) (n := 0) (by omega) (by omega) ?_
        exact W.iret (v := ((o_X4_come a f p3 (f p1.toNatClampNeg)).1)) hx hb hr (fun t ht hW => ⟨⟨_, (), rfl, (by (rw [he]) <;> rfl), (by rw [he]; exact ⟨by rw [ht]; exact hP, hD⟩)⟩, hS.F ht⟩) hS.2.2 dX5_choose_80
    · skip
      refine lv_iconst (v := 1) hx hb dX5_choose_17 (by decide +kernel) ?_
      refine lv_goto (tgt := 22) hx hb dX5_choose_18 (by decide +kernel) ?_
      refine lv_iconst (v := 0) hx hb dX5_choose_22 (by decide +kernel) ?_
      have hPc := hP.sub (ws' := [(h0, eM h1 h2 th rf kn)]) [0] rfl
      have hDc := hD.sub (ws' := [(h0, eM h1 h2 th rf kn)]) [0] (by decide +kernel) rfl
      have hKc := hK.sub (tys' := []) [] rfl
      have hFc := va_free (wc := [(h0, eM h1 h2 th rf kn)]) hD hS hA [0] rfl
      refine va_calli (va_runV (As := [.int 1, .int 0]) (rest := []) ⟨hx, hb, hml, hown, hts⟩ (k_X5_fails l dC dI h0 h1 h2 th rf kn H.size N true false) (cwV 2 hts gX5_choose_X5_fails rfl rfl rfl (by decide +kernel) ⟨Nat.le_of_ble_eq_true rfl, Nat.le_of_ble_eq_true rfl⟩) (xM.preV hKc hPc hDc hAN (Nat.le_trans hN hS.1) (hG.kept hS hAN) (ci := 7) (q0 := 0) rfl rfl) rfl rfl hl.1 rfl (lv_room (Nat.le_of_ble_eq_true rfl)) dX5_choose_23 ⟨Nat.le_of_ble_eq_true rfl, Nat.le_of_ble_eq_true rfl⟩) hS (fun q _ h => hFc q h) hFc (fun r_11 u t H locs ht hvm hw hB hz hk hS => ?_)
      replace hw : r_11 = b2i ((o_X5_fails true false).1) := hw
      subst r_11
      obtain ⟨hP1, hD1⟩ := hB
      rw [ht] at hP1
      obtain ⟨hP, hD⟩ := va_join (wr := [(ro, eMR w hc a), (hc, eA cy f)]) (w1 := [(h0, eM h1 h2 (o_X5_fails true false).2 rf kn)]) hP hD [0] [1, 2] rfl rfl (by decide +kernel) (by decide +kernel) hk hFc hP1 hD1
      have hP := hP.sub (ws' := [(h0, eM h1 h2 (o_X5_fails true false).2 rf kn), (ro, eMR w hc a), (hc, eA cy f)]) [2, 0, 1] rfl
      have hD := hD.sub (ws' := [(h0, eM h1 h2 (o_X5_fails true false).2 rf kn), (ro, eMR w hc a), (hc, eA cy f)]) [2, 0, 1] (by decide +kernel) rfl
      refine xz_eq (tgt := 31) hx hb dX5_choose_26 (by decide +kernel) (fun c9 => absurd (by decide +kernel) c9) (fun c9 => ?_)
      refine lv_iconst (v := 0) hx hb dX5_choose_29 (by decide +kernel) ?_
      have he : o_X5_choose w a f p1 p2 p3 p4 = (0, a, f, (o_X5_fails true false).2) := by (rw [o_X5_choose, if_neg c_2, if_pos c_5]) <;> rfl
      refine W.widen (k := 0) (n := 0) (by omega) (by omega) ?_
      exact W.iret (v := 0) hx hb hr (fun t ht hW => ⟨⟨_, (), rfl, (by (rw [he]) <;> rfl), (by rw [he]; exact ⟨by rw [ht]; exact hP, hD⟩)⟩, hS.F ht⟩) hS.2.2 dX5_choose_30
theorem cl_X5_sum_1 : ∀ w ∈ wsX5_sum_r1, w ∈ wsX5_sum := fun _ h => (List.mem_cons_of_mem _ (List.mem_append_left _ (List.mem_append_left _ (List.mem_append_left _ h))))
theorem cl_X5_sum_2 : ∀ w ∈ wsX5_sum_r2, w ∈ wsX5_sum := fun _ h => (List.mem_cons_of_mem _ (List.mem_append_left _ (List.mem_append_left _ (List.mem_append_right _ (List.mem_append_left _ h)))))
theorem cl_X5_sum_3 : ∀ w ∈ wsX5_sum_r3, w ∈ wsX5_sum := fun _ h => (List.mem_cons_of_mem _ (List.mem_append_left _ (List.mem_append_left _ (List.mem_append_right _ (List.mem_append_right _ (List.mem_append_left _ h))))))
theorem cl_X5_sum_4 : ∀ w ∈ wsX5_sum_r4, w ∈ wsX5_sum := fun _ h => (List.mem_cons_of_mem _ (List.mem_append_left _ (List.mem_append_left _ (List.mem_append_right _ (List.mem_append_right _ (List.mem_append_right _ h))))))
theorem cl_X5_sum_5 : ∀ w ∈ wsX40, w ∈ wsX5_sum := fun _ h => (List.mem_cons_of_mem _ (List.mem_append_left _ (List.mem_append_right _ h)))
theorem cl_X5_sum_6 : ∀ w ∈ wsX50, w ∈ wsX5_sum := fun _ h => (List.mem_cons_of_mem _ (List.mem_append_right _ h))
set_option maxRecDepth 20000 in
theorem ggX5_sum_X5_areNo : GoodIn wsX5_sum wsX5_areNo := goodIn_sub (List.forall_mem_cons.mpr ⟨(cl_X5_sum_1 _ (List.mem_of_getElem? (i := 4) rfl)), List.forall_mem_cons.mpr ⟨(cl_X5_sum_1 _ (List.mem_of_getElem? (i := 5) rfl)), List.forall_mem_cons.mpr ⟨(cl_X5_sum_1 _ (List.mem_of_getElem? (i := 6) rfl)), List.forall_mem_cons.mpr ⟨(cl_X5_sum_1 _ (List.mem_of_getElem? (i := 3) rfl)), List.forall_mem_cons.mpr ⟨(cl_X5_sum_1 _ (List.mem_of_getElem? (i := 7) rfl)), List.forall_mem_cons.mpr ⟨(cl_X5_sum_1 _ (List.mem_of_getElem? (i := 8) rfl)), List.forall_mem_cons.mpr ⟨(cl_X5_sum_1 _ (List.mem_of_getElem? (i := 9) rfl)), List.forall_mem_cons.mpr ⟨(cl_X5_sum_1 _ (List.mem_of_getElem? (i := 10) rfl)), fun _ h => absurd h List.not_mem_nil⟩⟩⟩⟩⟩⟩⟩⟩) (by decide +kernel)
set_option maxRecDepth 20000 in
theorem gX5_sum_X5_areNo : GoodIn wsX5_sum (va_wsS RX5 70 yX5_areNo wsX5_areNo) := goodIn_app (goodIn_sub (List.forall_mem_cons.mpr ⟨(cl_X5_sum_1 _ (List.mem_of_getElem? (i := 1) rfl)), List.forall_mem_cons.mpr ⟨(cl_X5_sum_1 _ (List.mem_of_getElem? (i := 2) rfl)), List.forall_mem_cons.mpr ⟨(cl_X5_sum_1 _ (List.mem_of_getElem? (i := 3) rfl)), fun _ h => absurd h List.not_mem_nil⟩⟩⟩) (by decide +kernel)) ggX5_sum_X5_areNo
set_option maxRecDepth 20000 in
theorem ggX5_sum_X5_isNo : GoodIn wsX5_sum wsX5_isNo := goodIn_sub (List.forall_mem_cons.mpr ⟨(cl_X5_sum_1 _ (List.mem_of_getElem? (i := 7) rfl)), List.forall_mem_cons.mpr ⟨(cl_X5_sum_1 _ (List.mem_of_getElem? (i := 8) rfl)), List.forall_mem_cons.mpr ⟨(cl_X5_sum_1 _ (List.mem_of_getElem? (i := 9) rfl)), List.forall_mem_cons.mpr ⟨(cl_X5_sum_1 _ (List.mem_of_getElem? (i := 3) rfl)), List.forall_mem_cons.mpr ⟨(cl_X5_sum_1 _ (List.mem_of_getElem? (i := 10) rfl)), fun _ h => absurd h List.not_mem_nil⟩⟩⟩⟩⟩) (by decide +kernel)
set_option maxRecDepth 20000 in
theorem gX5_sum_X5_isNo : GoodIn wsX5_sum (va_wsS RX5 35 yX5_isNo wsX5_isNo) := goodIn_app (goodIn_sub (List.forall_mem_cons.mpr ⟨(cl_X5_sum_1 _ (List.mem_of_getElem? (i := 5) rfl)), List.forall_mem_cons.mpr ⟨(cl_X5_sum_1 _ (List.mem_of_getElem? (i := 6) rfl)), List.forall_mem_cons.mpr ⟨(cl_X5_sum_1 _ (List.mem_of_getElem? (i := 3) rfl)), fun _ h => absurd h List.not_mem_nil⟩⟩⟩) (by decide +kernel)) ggX5_sum_X5_isNo
set_option maxRecDepth 20000 in
theorem ggX5_sum_X5_fails : GoodIn wsX5_sum wsX5_fails := goodIn_sub (List.forall_mem_cons.mpr ⟨(cl_X5_sum_1 _ (List.mem_of_getElem? (i := 14) rfl)), fun w h => (List.mem_append.mp h).elim ((List.forall_mem_cons.mpr ⟨(cl_X5_sum_1 _ (List.mem_of_getElem? (i := 15) rfl)), fun _ h => absurd h List.not_mem_nil⟩) w) ((cl_X5_sum_6) w)⟩) (by decide +kernel)
set_option maxRecDepth 20000 in
theorem gX5_sum_X5_fails : GoodIn wsX5_sum (wsV RX5 42 RX5 yX5_fails wsX5_fails) := goodIn_app (goodIn_sub (List.forall_mem_cons.mpr ⟨(cl_X5_sum_1 _ (List.mem_of_getElem? (i := 11) rfl)), List.forall_mem_cons.mpr ⟨(cl_X5_sum_1 _ (List.mem_of_getElem? (i := 12) rfl)), List.forall_mem_cons.mpr ⟨(cl_X5_sum_1 _ (List.mem_of_getElem? (i := 13) rfl)), List.forall_mem_cons.mpr ⟨(cl_X5_sum_1 _ (List.mem_of_getElem? (i := 3) rfl)), fun _ h => absurd h List.not_mem_nil⟩⟩⟩⟩) (by decide +kernel)) ggX5_sum_X5_fails
set_option maxRecDepth 20000 in
theorem ggX5_sum_X4_haveSum : GoodIn wsX5_sum wsX4_haveSum := goodIn_sub (List.forall_mem_cons.mpr ⟨(cl_X5_sum_1 _ (List.mem_of_getElem? (i := 20) rfl)), fun w h => (List.mem_append.mp h).elim ((fun w h => (List.mem_append.mp h).elim ((List.forall_mem_cons.mpr ⟨(cl_X5_sum_1 _ (List.mem_of_getElem? (i := 21) rfl)), List.forall_mem_cons.mpr ⟨(cl_X5_sum_1 _ (List.mem_of_getElem? (i := 22) rfl)), List.forall_mem_cons.mpr ⟨(cl_X5_sum_1 _ (List.mem_of_getElem? (i := 23) rfl)), List.forall_mem_cons.mpr ⟨(cl_X5_sum_2 _ (List.mem_of_getElem? (i := 0) rfl)), List.forall_mem_cons.mpr ⟨(cl_X5_sum_1 _ (List.mem_of_getElem? (i := 19) rfl)), List.forall_mem_cons.mpr ⟨(cl_X5_sum_2 _ (List.mem_of_getElem? (i := 1) rfl)), List.forall_mem_cons.mpr ⟨(cl_X5_sum_2 _ (List.mem_of_getElem? (i := 2) rfl)), List.forall_mem_cons.mpr ⟨(cl_X5_sum_2 _ (List.mem_of_getElem? (i := 3) rfl)), List.forall_mem_cons.mpr ⟨(cl_X5_sum_2 _ (List.mem_of_getElem? (i := 4) rfl)), List.forall_mem_cons.mpr ⟨(cl_X5_sum_2 _ (List.mem_of_getElem? (i := 5) rfl)), List.forall_mem_cons.mpr ⟨(cl_X5_sum_2 _ (List.mem_of_getElem? (i := 6) rfl)), List.forall_mem_cons.mpr ⟨(cl_X5_sum_2 _ (List.mem_of_getElem? (i := 7) rfl)), List.forall_mem_cons.mpr ⟨(cl_X5_sum_2 _ (List.mem_of_getElem? (i := 8) rfl)), List.forall_mem_cons.mpr ⟨(cl_X5_sum_2 _ (List.mem_of_getElem? (i := 9) rfl)), List.forall_mem_cons.mpr ⟨(cl_X5_sum_2 _ (List.mem_of_getElem? (i := 10) rfl)), List.forall_mem_cons.mpr ⟨(cl_X5_sum_2 _ (List.mem_of_getElem? (i := 11) rfl)), List.forall_mem_cons.mpr ⟨(cl_X5_sum_2 _ (List.mem_of_getElem? (i := 12) rfl)), List.forall_mem_cons.mpr ⟨(cl_X5_sum_2 _ (List.mem_of_getElem? (i := 13) rfl)), List.forall_mem_cons.mpr ⟨(cl_X5_sum_2 _ (List.mem_of_getElem? (i := 14) rfl)), List.forall_mem_cons.mpr ⟨(cl_X5_sum_2 _ (List.mem_of_getElem? (i := 15) rfl)), List.forall_mem_cons.mpr ⟨(cl_X5_sum_2 _ (List.mem_of_getElem? (i := 16) rfl)), List.forall_mem_cons.mpr ⟨(cl_X5_sum_2 _ (List.mem_of_getElem? (i := 17) rfl)), List.forall_mem_cons.mpr ⟨(cl_X5_sum_2 _ (List.mem_of_getElem? (i := 18) rfl)), List.forall_mem_cons.mpr ⟨(cl_X5_sum_2 _ (List.mem_of_getElem? (i := 19) rfl)), fun _ h => absurd h List.not_mem_nil⟩⟩⟩⟩⟩⟩⟩⟩⟩⟩⟩⟩⟩⟩⟩⟩⟩⟩⟩⟩⟩⟩⟩⟩) w) ((List.forall_mem_cons.mpr ⟨(cl_X5_sum_2 _ (List.mem_of_getElem? (i := 20) rfl)), List.forall_mem_cons.mpr ⟨(cl_X5_sum_2 _ (List.mem_of_getElem? (i := 21) rfl)), List.forall_mem_cons.mpr ⟨(cl_X5_sum_2 _ (List.mem_of_getElem? (i := 22) rfl)), List.forall_mem_cons.mpr ⟨(cl_X5_sum_2 _ (List.mem_of_getElem? (i := 23) rfl)), List.forall_mem_cons.mpr ⟨(cl_X5_sum_3 _ (List.mem_of_getElem? (i := 0) rfl)), List.forall_mem_cons.mpr ⟨(cl_X5_sum_3 _ (List.mem_of_getElem? (i := 1) rfl)), List.forall_mem_cons.mpr ⟨(cl_X5_sum_3 _ (List.mem_of_getElem? (i := 2) rfl)), List.forall_mem_cons.mpr ⟨(cl_X5_sum_3 _ (List.mem_of_getElem? (i := 3) rfl)), List.forall_mem_cons.mpr ⟨(cl_X5_sum_3 _ (List.mem_of_getElem? (i := 4) rfl)), List.forall_mem_cons.mpr ⟨(cl_X5_sum_3 _ (List.mem_of_getElem? (i := 5) rfl)), List.forall_mem_cons.mpr ⟨(cl_X5_sum_3 _ (List.mem_of_getElem? (i := 6) rfl)), List.forall_mem_cons.mpr ⟨(cl_X5_sum_3 _ (List.mem_of_getElem? (i := 7) rfl)), List.forall_mem_cons.mpr ⟨(cl_X5_sum_3 _ (List.mem_of_getElem? (i := 8) rfl)), List.forall_mem_cons.mpr ⟨(cl_X5_sum_3 _ (List.mem_of_getElem? (i := 9) rfl)), List.forall_mem_cons.mpr ⟨(cl_X5_sum_3 _ (List.mem_of_getElem? (i := 10) rfl)), List.forall_mem_cons.mpr ⟨(cl_X5_sum_3 _ (List.mem_of_getElem? (i := 11) rfl)), List.forall_mem_cons.mpr ⟨(cl_X5_sum_3 _ (List.mem_of_getElem? (i := 12) rfl)), List.forall_mem_cons.mpr ⟨(cl_X5_sum_3 _ (List.mem_of_getElem? (i := 13) rfl)), List.forall_mem_cons.mpr ⟨(cl_X5_sum_3 _ (List.mem_of_getElem? (i := 14) rfl)), List.forall_mem_cons.mpr ⟨(cl_X5_sum_3 _ (List.mem_of_getElem? (i := 15) rfl)), fun _ h => absurd h List.not_mem_nil⟩⟩⟩⟩⟩⟩⟩⟩⟩⟩⟩⟩⟩⟩⟩⟩⟩⟩⟩⟩) w)) w) ((cl_X5_sum_5) w)⟩) (by decide +kernel)
set_option maxRecDepth 20000 in
theorem gX5_sum_X4_haveSum : GoodIn wsX5_sum (wsV RX5 86 RX4 yX4_haveSum wsX4_haveSum) := goodIn_app (goodIn_sub (List.forall_mem_cons.mpr ⟨(cl_X5_sum_1 _ (List.mem_of_getElem? (i := 16) rfl)), List.forall_mem_cons.mpr ⟨(cl_X5_sum_1 _ (List.mem_of_getElem? (i := 17) rfl)), List.forall_mem_cons.mpr ⟨(cl_X5_sum_1 _ (List.mem_of_getElem? (i := 18) rfl)), List.forall_mem_cons.mpr ⟨(cl_X5_sum_1 _ (List.mem_of_getElem? (i := 19) rfl)), fun _ h => absurd h List.not_mem_nil⟩⟩⟩⟩) (by decide +kernel)) ggX5_sum_X4_haveSum
set_option maxRecDepth 20000 in
theorem ggX5_sum_X4_sum : GoodIn wsX5_sum wsX4_sum := goodIn_sub (List.forall_mem_cons.mpr ⟨(cl_X5_sum_3 _ (List.mem_of_getElem? (i := 19) rfl)), fun w h => (List.mem_append.mp h).elim ((fun w h => (List.mem_append.mp h).elim ((List.forall_mem_cons.mpr ⟨(cl_X5_sum_1 _ (List.mem_of_getElem? (i := 22) rfl)), List.forall_mem_cons.mpr ⟨(cl_X5_sum_1 _ (List.mem_of_getElem? (i := 23) rfl)), List.forall_mem_cons.mpr ⟨(cl_X5_sum_2 _ (List.mem_of_getElem? (i := 0) rfl)), List.forall_mem_cons.mpr ⟨(cl_X5_sum_1 _ (List.mem_of_getElem? (i := 19) rfl)), List.forall_mem_cons.mpr ⟨(cl_X5_sum_2 _ (List.mem_of_getElem? (i := 1) rfl)), List.forall_mem_cons.mpr ⟨(cl_X5_sum_2 _ (List.mem_of_getElem? (i := 2) rfl)), List.forall_mem_cons.mpr ⟨(cl_X5_sum_2 _ (List.mem_of_getElem? (i := 3) rfl)), List.forall_mem_cons.mpr ⟨(cl_X5_sum_2 _ (List.mem_of_getElem? (i := 4) rfl)), List.forall_mem_cons.mpr ⟨(cl_X5_sum_2 _ (List.mem_of_getElem? (i := 5) rfl)), List.forall_mem_cons.mpr ⟨(cl_X5_sum_2 _ (List.mem_of_getElem? (i := 6) rfl)), List.forall_mem_cons.mpr ⟨(cl_X5_sum_2 _ (List.mem_of_getElem? (i := 7) rfl)), List.forall_mem_cons.mpr ⟨(cl_X5_sum_2 _ (List.mem_of_getElem? (i := 8) rfl)), List.forall_mem_cons.mpr ⟨(cl_X5_sum_2 _ (List.mem_of_getElem? (i := 9) rfl)), List.forall_mem_cons.mpr ⟨(cl_X5_sum_2 _ (List.mem_of_getElem? (i := 10) rfl)), List.forall_mem_cons.mpr ⟨(cl_X5_sum_2 _ (List.mem_of_getElem? (i := 11) rfl)), List.forall_mem_cons.mpr ⟨(cl_X5_sum_2 _ (List.mem_of_getElem? (i := 12) rfl)), List.forall_mem_cons.mpr ⟨(cl_X5_sum_2 _ (List.mem_of_getElem? (i := 13) rfl)), List.forall_mem_cons.mpr ⟨(cl_X5_sum_2 _ (List.mem_of_getElem? (i := 14) rfl)), List.forall_mem_cons.mpr ⟨(cl_X5_sum_2 _ (List.mem_of_getElem? (i := 15) rfl)), List.forall_mem_cons.mpr ⟨(cl_X5_sum_2 _ (List.mem_of_getElem? (i := 16) rfl)), List.forall_mem_cons.mpr ⟨(cl_X5_sum_2 _ (List.mem_of_getElem? (i := 22) rfl)), List.forall_mem_cons.mpr ⟨(cl_X5_sum_2 _ (List.mem_of_getElem? (i := 23) rfl)), List.forall_mem_cons.mpr ⟨(cl_X5_sum_3 _ (List.mem_of_getElem? (i := 0) rfl)), List.forall_mem_cons.mpr ⟨(cl_X5_sum_3 _ (List.mem_of_getElem? (i := 1) rfl)), fun _ h => absurd h List.not_mem_nil⟩⟩⟩⟩⟩⟩⟩⟩⟩⟩⟩⟩⟩⟩⟩⟩⟩⟩⟩⟩⟩⟩⟩⟩) w) ((List.forall_mem_cons.mpr ⟨(cl_X5_sum_2 _ (List.mem_of_getElem? (i := 21) rfl)), List.forall_mem_cons.mpr ⟨(cl_X5_sum_3 _ (List.mem_of_getElem? (i := 2) rfl)), List.forall_mem_cons.mpr ⟨(cl_X5_sum_3 _ (List.mem_of_getElem? (i := 3) rfl)), List.forall_mem_cons.mpr ⟨(cl_X5_sum_1 _ (List.mem_of_getElem? (i := 21) rfl)), List.forall_mem_cons.mpr ⟨(cl_X5_sum_3 _ (List.mem_of_getElem? (i := 4) rfl)), List.forall_mem_cons.mpr ⟨(cl_X5_sum_3 _ (List.mem_of_getElem? (i := 5) rfl)), List.forall_mem_cons.mpr ⟨(cl_X5_sum_3 _ (List.mem_of_getElem? (i := 6) rfl)), List.forall_mem_cons.mpr ⟨(cl_X5_sum_3 _ (List.mem_of_getElem? (i := 7) rfl)), List.forall_mem_cons.mpr ⟨(cl_X5_sum_3 _ (List.mem_of_getElem? (i := 8) rfl)), List.forall_mem_cons.mpr ⟨(cl_X5_sum_3 _ (List.mem_of_getElem? (i := 9) rfl)), List.forall_mem_cons.mpr ⟨(cl_X5_sum_3 _ (List.mem_of_getElem? (i := 10) rfl)), List.forall_mem_cons.mpr ⟨(cl_X5_sum_3 _ (List.mem_of_getElem? (i := 11) rfl)), List.forall_mem_cons.mpr ⟨(cl_X5_sum_3 _ (List.mem_of_getElem? (i := 12) rfl)), List.forall_mem_cons.mpr ⟨(cl_X5_sum_3 _ (List.mem_of_getElem? (i := 13) rfl)), List.forall_mem_cons.mpr ⟨(cl_X5_sum_3 _ (List.mem_of_getElem? (i := 14) rfl)), List.forall_mem_cons.mpr ⟨(cl_X5_sum_3 _ (List.mem_of_getElem? (i := 15) rfl)), List.forall_mem_cons.mpr ⟨(cl_X5_sum_3 _ (List.mem_of_getElem? (i := 20) rfl)), List.forall_mem_cons.mpr ⟨(cl_X5_sum_3 _ (List.mem_of_getElem? (i := 21) rfl)), List.forall_mem_cons.mpr ⟨(cl_X5_sum_3 _ (List.mem_of_getElem? (i := 22) rfl)), List.forall_mem_cons.mpr ⟨(cl_X5_sum_3 _ (List.mem_of_getElem? (i := 23) rfl)), fun _ h => absurd h List.not_mem_nil⟩⟩⟩⟩⟩⟩⟩⟩⟩⟩⟩⟩⟩⟩⟩⟩⟩⟩⟩⟩) w)) w) ((cl_X5_sum_5) w)⟩) (by decide +kernel)
set_option maxRecDepth 20000 in
theorem gX5_sum_X4_sum : GoodIn wsX5_sum (wsV RX5 90 RX4 yX4_sum wsX4_sum) := goodIn_app (goodIn_sub (List.forall_mem_cons.mpr ⟨(cl_X5_sum_3 _ (List.mem_of_getElem? (i := 16) rfl)), List.forall_mem_cons.mpr ⟨(cl_X5_sum_3 _ (List.mem_of_getElem? (i := 17) rfl)), List.forall_mem_cons.mpr ⟨(cl_X5_sum_3 _ (List.mem_of_getElem? (i := 18) rfl)), List.forall_mem_cons.mpr ⟨(cl_X5_sum_1 _ (List.mem_of_getElem? (i := 19) rfl)), fun _ h => absurd h List.not_mem_nil⟩⟩⟩⟩) (by decide +kernel)) ggX5_sum_X4_sum
set_option maxRecDepth 20000 in
theorem ggX5_sum_X4_come : GoodIn wsX5_sum wsX4_come := goodIn_sub (List.forall_mem_cons.mpr ⟨(cl_X5_sum_4 _ (List.mem_of_getElem? (i := 3) rfl)), fun w h => (List.mem_append.mp h).elim ((List.forall_mem_cons.mpr ⟨(cl_X5_sum_4 _ (List.mem_of_getElem? (i := 4) rfl)), List.forall_mem_cons.mpr ⟨(cl_X5_sum_4 _ (List.mem_of_getElem? (i := 5) rfl)), fun _ h => absurd h List.not_mem_nil⟩⟩) w) ((cl_X5_sum_5) w)⟩) (by decide +kernel)
set_option maxRecDepth 20000 in
theorem gX5_sum_X4_come : GoodIn wsX5_sum (wsV RX5 54 RX4 yX4_come wsX4_come) := goodIn_app (goodIn_sub (List.forall_mem_cons.mpr ⟨(cl_X5_sum_4 _ (List.mem_of_getElem? (i := 0) rfl)), List.forall_mem_cons.mpr ⟨(cl_X5_sum_4 _ (List.mem_of_getElem? (i := 1) rfl)), List.forall_mem_cons.mpr ⟨(cl_X5_sum_4 _ (List.mem_of_getElem? (i := 2) rfl)), List.forall_mem_cons.mpr ⟨(cl_X5_sum_1 _ (List.mem_of_getElem? (i := 19) rfl)), fun _ h => absurd h List.not_mem_nil⟩⟩⟩⟩) (by decide +kernel)) ggX5_sum_X4_come
set_option maxRecDepth 20000 in
theorem ggX5_sum_X5_refuse : GoodIn wsX5_sum wsX5_refuse := goodIn_sub (List.forall_mem_cons.mpr ⟨(cl_X5_sum_4 _ (List.mem_of_getElem? (i := 9) rfl)), fun w h => (List.mem_append.mp h).elim ((List.forall_mem_cons.mpr ⟨(cl_X5_sum_4 _ (List.mem_of_getElem? (i := 10) rfl)), fun _ h => absurd h List.not_mem_nil⟩) w) ((cl_X5_sum_6) w)⟩) (by decide +kernel)
set_option maxRecDepth 20000 in
theorem gX5_sum_X5_refuse : GoodIn wsX5_sum (wsV RX5 50 RX5 yX5_refuse wsX5_refuse) := goodIn_app (goodIn_sub (List.forall_mem_cons.mpr ⟨(cl_X5_sum_4 _ (List.mem_of_getElem? (i := 6) rfl)), List.forall_mem_cons.mpr ⟨(cl_X5_sum_4 _ (List.mem_of_getElem? (i := 7) rfl)), List.forall_mem_cons.mpr ⟨(cl_X5_sum_4 _ (List.mem_of_getElem? (i := 8) rfl)), List.forall_mem_cons.mpr ⟨(cl_X5_sum_1 _ (List.mem_of_getElem? (i := 3) rfl)), fun _ h => absurd h List.not_mem_nil⟩⟩⟩⟩) (by decide +kernel)) ggX5_sum_X5_refuse
noncomputable def dz_p09_19 : List (Nat × Instr × Nat) := [(0, (.aload_n 0, 1)), (1, (.iload_n 2, 1)), (2, (.iload_n 3, 1)), (3, (.invokestatic 70, 3)), (6, (.ifCond .ne 11, 3)), (9, (.iload 4, 2)), (11, (.invokestatic 35, 3)), (14, (.ifCond .eq 7, 3)), (17, (.iconst 1, 1)), (18, (.goto 4, 3)), (21, (.iconst 0, 1)), (22, (.iconst 0, 1)), (23, (.invokevirtual 42, 3)), (26, (.ifCond .eq 5, 3)), (29, (.iconst 0, 1)), (30, (.ireturn, 1)), (31, (.aload_n 1, 1)), (32, (.getfield 74, 3)), (35, (.iload_n 2, 1)), (36, (.laload, 1)), (37, (.lstore 5, 2)), (39, (.aload_n 1, 1)), (40, (.getfield 74, 3)), (43, (.iload_n 3, 1)), (44, (.laload, 1)), (45, (.lstore 7, 2)), (47, (.aload_n 1, 1)), (48, (.lload 5, 2)), (50, (.lload 7, 2)), (52, (.invokevirtual 86, 3)), (55, (.ifCond .eq 20, 3)), (58, (.aload_n 1, 1)), (59, (.iload 4, 2)), (61, (.aload_n 1, 1)), (62, (.lload 5, 2)), (64, (.lload 7, 2)), (66, (.invokevirtual 90, 3)), (69, (.invokevirtual 54, 3)), (72, (.goto 7, 3)), (75, (.aload_n 0, 1))]
theorem dy_p09_19 : dz_ok cX5_sum dz_p09_19 = true := by decide +kernel
theorem dX5_sum_0 : decode cX5_sum 0 = .ok (.aload_n 0, 1) := dz_at (i := 0) dy_p09_19 rfl
theorem dX5_sum_1 : decode cX5_sum 1 = .ok (.iload_n 2, 1) := dz_at (i := 1) dy_p09_19 rfl
theorem dX5_sum_2 : decode cX5_sum 2 = .ok (.iload_n 3, 1) := dz_at (i := 2) dy_p09_19 rfl
theorem dX5_sum_3 : decode cX5_sum 3 = .ok (.invokestatic 70, 3) := dz_at (i := 3) dy_p09_19 rfl
theorem dX5_sum_6 : decode cX5_sum 6 = .ok (.ifCond .ne 11, 3) := dz_at (i := 4) dy_p09_19 rfl
theorem dX5_sum_9 : decode cX5_sum 9 = .ok (.iload 4, 2) := dz_at (i := 5) dy_p09_19 rfl
theorem dX5_sum_11 : decode cX5_sum 11 = .ok (.invokestatic 35, 3) := dz_at (i := 6) dy_p09_19 rfl
theorem dX5_sum_14 : decode cX5_sum 14 = .ok (.ifCond .eq 7, 3) := dz_at (i := 7) dy_p09_19 rfl
theorem dX5_sum_17 : decode cX5_sum 17 = .ok (.iconst 1, 1) := dz_at (i := 8) dy_p09_19 rfl
theorem dX5_sum_18 : decode cX5_sum 18 = .ok (.goto 4, 3) := dz_at (i := 9) dy_p09_19 rfl
theorem dX5_sum_21 : decode cX5_sum 21 = .ok (.iconst 0, 1) := dz_at (i := 10) dy_p09_19 rfl
theorem dX5_sum_22 : decode cX5_sum 22 = .ok (.iconst 0, 1) := dz_at (i := 11) dy_p09_19 rfl
theorem dX5_sum_23 : decode cX5_sum 23 = .ok (.invokevirtual 42, 3) := dz_at (i := 12) dy_p09_19 rfl
theorem dX5_sum_26 : decode cX5_sum 26 = .ok (.ifCond .eq 5, 3) := dz_at (i := 13) dy_p09_19 rfl
theorem dX5_sum_29 : decode cX5_sum 29 = .ok (.iconst 0, 1) := dz_at (i := 14) dy_p09_19 rfl
theorem dX5_sum_30 : decode cX5_sum 30 = .ok (.ireturn, 1) := dz_at (i := 15) dy_p09_19 rfl
theorem dX5_sum_31 : decode cX5_sum 31 = .ok (.aload_n 1, 1) := dz_at (i := 16) dy_p09_19 rfl
theorem dX5_sum_32 : decode cX5_sum 32 = .ok (.getfield 74, 3) := dz_at (i := 17) dy_p09_19 rfl
theorem dX5_sum_35 : decode cX5_sum 35 = .ok (.iload_n 2, 1) := dz_at (i := 18) dy_p09_19 rfl
theorem dX5_sum_36 : decode cX5_sum 36 = .ok (.laload, 1) := dz_at (i := 19) dy_p09_19 rfl
theorem dX5_sum_37 : decode cX5_sum 37 = .ok (.lstore 5, 2) := dz_at (i := 20) dy_p09_19 rfl
theorem dX5_sum_39 : decode cX5_sum 39 = .ok (.aload_n 1, 1) := dz_at (i := 21) dy_p09_19 rfl
theorem dX5_sum_40 : decode cX5_sum 40 = .ok (.getfield 74, 3) := dz_at (i := 22) dy_p09_19 rfl
theorem dX5_sum_43 : decode cX5_sum 43 = .ok (.iload_n 3, 1) := dz_at (i := 23) dy_p09_19 rfl
theorem dX5_sum_44 : decode cX5_sum 44 = .ok (.laload, 1) := dz_at (i := 24) dy_p09_19 rfl
theorem dX5_sum_45 : decode cX5_sum 45 = .ok (.lstore 7, 2) := dz_at (i := 25) dy_p09_19 rfl
theorem dX5_sum_47 : decode cX5_sum 47 = .ok (.aload_n 1, 1) := dz_at (i := 26) dy_p09_19 rfl
theorem dX5_sum_48 : decode cX5_sum 48 = .ok (.lload 5, 2) := dz_at (i := 27) dy_p09_19 rfl
theorem dX5_sum_50 : decode cX5_sum 50 = .ok (.lload 7, 2) := dz_at (i := 28) dy_p09_19 rfl
theorem dX5_sum_52 : decode cX5_sum 52 = .ok (.invokevirtual 86, 3) := dz_at (i := 29) dy_p09_19 rfl
theorem dX5_sum_55 : decode cX5_sum 55 = .ok (.ifCond .eq 20, 3) := dz_at (i := 30) dy_p09_19 rfl
theorem dX5_sum_58 : decode cX5_sum 58 = .ok (.aload_n 1, 1) := dz_at (i := 31) dy_p09_19 rfl
theorem dX5_sum_59 : decode cX5_sum 59 = .ok (.iload 4, 2) := dz_at (i := 32) dy_p09_19 rfl
theorem dX5_sum_61 : decode cX5_sum 61 = .ok (.aload_n 1, 1) := dz_at (i := 33) dy_p09_19 rfl
theorem dX5_sum_62 : decode cX5_sum 62 = .ok (.lload 5, 2) := dz_at (i := 34) dy_p09_19 rfl
theorem dX5_sum_64 : decode cX5_sum 64 = .ok (.lload 7, 2) := dz_at (i := 35) dy_p09_19 rfl
theorem dX5_sum_66 : decode cX5_sum 66 = .ok (.invokevirtual 90, 3) := dz_at (i := 36) dy_p09_19 rfl
theorem dX5_sum_69 : decode cX5_sum 69 = .ok (.invokevirtual 54, 3) := dz_at (i := 37) dy_p09_19 rfl
theorem dX5_sum_72 : decode cX5_sum 72 = .ok (.goto 7, 3) := dz_at (i := 38) dy_p09_19 rfl
theorem dX5_sum_75 : decode cX5_sum 75 = .ok (.aload_n 0, 1) := dz_at (i := 39) dy_p09_19 rfl
theorem dX5_sum_76 : decode cX5_sum 76 = .ok (.invokevirtual 50, 3) := by decide +kernel
theorem dX5_sum_79 : decode cX5_sum 79 = .ok (.ireturn, 1) := by decide +kernel
noncomputable def o_X5_sum (w : Bool) (a : Int32) (f : Nat → Int64) (rf : Int32) (p1 : Int32) (p2 : Int32) (p3 : Int32) : Int32 × Int32 × (Nat → Int64) × Int32 × Int32 :=
  if (o_X5_areNo p1 p2) = true then (0, a, f, (o_X5_fails true false).2, rf)
  else if (o_X5_isNo p3) = true then (0, a, f, (o_X5_fails true false).2, rf)
  else if (o_X4_haveSum w (f p1.toNatClampNeg) (f p2.toNatClampNeg)) = true then ((o_X4_come a f p3 (o_X4_sum w (f p1.toNatClampNeg) (f p2.toNatClampNeg))).1, (o_X4_come a f p3 (o_X4_sum w (f p1.toNatClampNeg) (f p2.toNatClampNeg))).2.1, (o_X4_come a f p3 (o_X4_sum w (f p1.toNatClampNeg) (f p2.toNatClampNeg))).2.2, (o_X5_fails false false).2, rf)
  else ((o_X5_refuse rf).1, a, f, (o_X5_fails false false).2, (o_X5_refuse rf).2)
set_option maxHeartbeats 4000000 in
set_option maxRecDepth 100000 in
theorem k_X5_sum (l : Launch) (dC : Nat → ClassId) (dI : Nat → Nat → Nat) (cy : ClassId) (h0 : Nat) (h1 : Nat) (h2 : Nat) (ro : Nat) (hc : Nat) (w : Bool) (a : Int32) (f : Nat → Int64) (th : Int32) (rf : Int32) (kn : Int32) (sz : Nat) (N : Nat) (p1 : Int32) (p2 : Int32) (p3 : Int32) (hokf : okF w f) : Met l yX5_sum wsX5_sum ({ frames := 6, cells := 0, slots := 0, locals := 140 }) (va_Pc [.ref h0, .ref ro, .int p1, .int p2, .int p3] (xM (dC, dI) xCl [(h0, eM h1 h2 th rf kn), (ro, eMR w hc a), (hc, eA cy f)] [(cy, .long)] sz N)) (va_Qi (fun (r : Int32) (_ : Unit) => r = (o_X5_sum w a f rf p1 p2 p3).1) (fun _ t => xW (dC, dI) xCl [(h0, eM h1 h2 (o_X5_sum w a f rf p1 p2 p3).2.2.2.1 (o_X5_sum w a f rf p1 p2 p3).2.2.2.2 kn), (ro, eMR w hc (o_X5_sum w a f rf p1 p2 p3).2.1), (hc, eA cy (o_X5_sum w a f rf p1 p2 p3).2.2.1)] (va_A [(h0, eM h1 h2 th rf kn), (ro, eMR w hc a), (hc, eA cy f)] sz) t) (va_A [(h0, eM h1 h2 th rf kn), (ro, eMR w hc a), (hc, eA cy f)] sz)) 0 0 (va_A [(h0, eM h1 h2 th rf kn), (ro, eMR w hc a), (hc, eA cy f)] sz) := by
  refine Met.ofW (cc := cX5_sum) (maxL := 9) (ret := (some .int)) (by decide +kernel) rfl ?_
  intro p e s m args below meth c s₁ B hml hv
  obtain ⟨rfl, hsz, hP, hK, hD0, hN, hG⟩ := hv
  have hx := B.exec
  have hb := B.bytes
  have hr := B.returns
  have hts := atoms_spec (ws := wsX5_sum) B.pre
  have hown : s.vm.findClass RX5 = some m.cls := findClass_of_methodNamed B.named
  have hlocks := B.notSynchronized
  subst hsz
  have hAN : ∀ q, va_A [(h0, eM h1 h2 th rf kn), (ro, eMR w hc a), (hc, eA cy f)] s.heap.size q → N ≤ q := xA_N hD0 hN
  have hD := hD0.self (sz := s.heap.size)
  generalize hAe : va_A [(h0, eM h1 h2 th rf kn), (ro, eMR w hc a), (hc, eA cy f)] s.heap.size = A at hD hAN ⊢
  have hA : ∀ q : Nat, s.heap.size ≤ q → A q := fun q h => by rw [← hAe]; exact Or.inr h
  have hS : va_S A s.heap s.heap [] := va_S.rf
  have hP : va_P (dC, dI) xCl [(h0, eM h1 h2 th rf kn), (ro, eMR w hc a), (hc, eA cy f)] s.heap := hP
  have hl := lv_entry ([.ref h0, .ref ro, .int p1, .int p2, .int p3]) (n := 9) (Nat.le_of_ble_eq_true rfl)
  rw [lg_entry_eq]
  generalize (lg_sl ([.ref h0, .ref ro, .int p1, .int p2, .int p3]) ++ List.replicate (9 - (lg_sl ([.ref h0, .ref ro, .int p1, .int p2, .int p3])).length) Slot.unset).toArray = ls at hl ⊢
  have hl : lv_has ls 9 [(0, .ref h0), (1, .ref ro), (2, .int p1), (3, .int p2), (4, .int p3)] := hl
  refine lv_aload_n hx hb dX5_sum_0 rfl (lv_at hl 0 rfl) ?_
  refine lv_iload_n hx hb dX5_sum_1 rfl (lv_at hl 2 rfl) ?_
  refine lv_iload_n hx hb dX5_sum_2 rfl (lv_at hl 3 rfl) ?_
  have hPc := hP.sub (ws' := []) [] rfl
  have hKc := hK.sub (tys' := []) [] rfl
  refine va_calli (va_runS (As := [.int p1, .int p2]) (rest := [.ref h0]) ⟨hx, hb, hml, hown, hts⟩ (k_X5_areNo l dC dI s.heap.size p1 p2) (va_cwS 2 hts gX5_sum_X5_areNo rfl rfl rfl (by decide +kernel) ⟨Nat.le_of_ble_eq_true rfl, Nat.le_of_ble_eq_true rfl⟩) (xB.preS hKc hPc) rfl rfl hl.1 rfl (lv_room (Nat.le_of_ble_eq_true rfl)) dX5_sum_3 ⟨Nat.le_of_ble_eq_true rfl, Nat.le_of_ble_eq_true rfl⟩) hS xA_old (fun q h => hA q (Nat.le_trans hS.1 h)) (fun r_1 u t H locs ht hvm hw hB hz hk hS => ?_)
  replace hw : r_1 = b2i (o_X5_areNo p1 p2) := hw
  subst r_1
  have hP := xP_keep hP hk
  refine xz_ne (tgt := 17) hx hb dX5_sum_6 (by decide +kernel) (fun c_2 => ?_) (fun c_2 => ?_)
  · skip
    refine lv_iconst (v := 1) hx hb dX5_sum_17 (by decide +kernel) ?_
    refine lv_goto (tgt := 22) hx hb dX5_sum_18 (by decide +kernel) ?_
    refine lv_iconst (v := 0) hx hb dX5_sum_22 (by decide +kernel) ?_
    have hPc := hP.sub (ws' := [(h0, eM h1 h2 th rf kn)]) [0] rfl
    have hDc := hD.sub (ws' := [(h0, eM h1 h2 th rf kn)]) [0] (by decide +kernel) rfl
    have hKc := hK.sub (tys' := []) [] rfl
    have hFc := va_free (wc := [(h0, eM h1 h2 th rf kn)]) hD hS hA [0] rfl
    refine va_calli (va_runV (As := [.int 1, .int 0]) (rest := []) ⟨hx, hb, hml, hown, hts⟩ (k_X5_fails l dC dI h0 h1 h2 th rf kn H.size N true false) (cwV 2 hts gX5_sum_X5_fails rfl rfl rfl (by decide +kernel) ⟨Nat.le_of_ble_eq_true rfl, Nat.le_of_ble_eq_true rfl⟩) (xM.preV hKc hPc hDc hAN (Nat.le_trans hN hS.1) (hG.kept hS hAN) (ci := 7) (q0 := 0) rfl rfl) rfl rfl hl.1 rfl (lv_room (Nat.le_of_ble_eq_true rfl)) dX5_sum_23 ⟨Nat.le_of_ble_eq_true rfl, Nat.le_of_ble_eq_true rfl⟩) hS (fun q _ h => hFc q h) hFc (fun r_3 u t H locs ht hvm hw hB hz hk hS => ?_)
    replace hw : r_3 = b2i ((o_X5_fails true false).1) := hw
    subst r_3
    obtain ⟨hP1, hD1⟩ := hB
    rw [ht] at hP1
    obtain ⟨hP, hD⟩ := va_join (wr := [(ro, eMR w hc a), (hc, eA cy f)]) (w1 := [(h0, eM h1 h2 (o_X5_fails true false).2 rf kn)]) hP hD [0] [1, 2] rfl rfl (by decide +kernel) (by decide +kernel) hk hFc hP1 hD1
    have hP := hP.sub (ws' := [(h0, eM h1 h2 (o_X5_fails true false).2 rf kn), (ro, eMR w hc a), (hc, eA cy f)]) [2, 0, 1] rfl
    have hD := hD.sub (ws' := [(h0, eM h1 h2 (o_X5_fails true false).2 rf kn), (ro, eMR w hc a), (hc, eA cy f)]) [2, 0, 1] (by decide +kernel) rfl
    refine xz_eq (tgt := 31) hx hb dX5_sum_26 (by decide +kernel) (fun c9 => absurd (by decide +kernel) c9) (fun c9 => ?_)
    refine lv_iconst (v := 0) hx hb dX5_sum_29 (by decide +kernel) ?_
    have he : o_X5_sum w a f rf p1 p2 p3 = (0, a, f, (o_X5_fails true false).2, rf) := by (rw [o_X5_sum, if_pos c_2]) <;> rfl
    refine W.widen (k := 0) (n := 0) (by omega) (by omega) ?_
    exact W.iret (v := 0) hx hb hr (fun t ht hW => ⟨⟨_, (), rfl, (by (rw [he]) <;> rfl), (by rw [he]; exact ⟨by rw [ht]; exact hP, hD⟩)⟩, hS.F ht⟩) hS.2.2 dX5_sum_30
  · skip
    refine lv_iload hx hb dX5_sum_9 (lv_at hl 4 rfl) ?_
    have hPc := hP.sub (ws' := []) [] rfl
    have hKc := hK.sub (tys' := []) [] rfl
    refine va_calli (va_runS (As := [.int p3]) (rest := [.ref h0]) ⟨hx, hb, hml, hown, hts⟩ (k_X5_isNo l dC dI H.size p3) (va_cwS 1 hts gX5_sum_X5_isNo rfl rfl rfl (by decide +kernel) ⟨Nat.le_of_ble_eq_true rfl, Nat.le_of_ble_eq_true rfl⟩) (xB.preS hKc hPc) rfl rfl hl.1 rfl (lv_room (Nat.le_of_ble_eq_true rfl)) dX5_sum_11 ⟨Nat.le_of_ble_eq_true rfl, Nat.le_of_ble_eq_true rfl⟩) hS xA_old (fun q h => hA q (Nat.le_trans hS.1 h)) (fun r_4 u t H locs ht hvm hw hB hz hk hS => ?_)
    replace hw : r_4 = b2i (o_X5_isNo p3) := hw
    subst r_4
    have hP := xP_keep hP hk
    refine xz_eq (tgt := 21) hx hb dX5_sum_14 (by decide +kernel) (fun c_5 => ?_) (fun c_5 => ?_)
    · skip
      refine lv_iconst (v := 0) hx hb dX5_sum_21 (by decide +kernel) ?_
      refine lv_iconst (v := 0) hx hb dX5_sum_22 (by decide +kernel) ?_
      have hPc := hP.sub (ws' := [(h0, eM h1 h2 th rf kn)]) [0] rfl
      have hDc := hD.sub (ws' := [(h0, eM h1 h2 th rf kn)]) [0] (by decide +kernel) rfl
      have hKc := hK.sub (tys' := []) [] rfl
      have hFc := va_free (wc := [(h0, eM h1 h2 th rf kn)]) hD hS hA [0] rfl
      refine va_calli (va_runV (As := [.int 0, .int 0]) (rest := []) ⟨hx, hb, hml, hown, hts⟩ (k_X5_fails l dC dI h0 h1 h2 th rf kn H.size N false false) (cwV 2 hts gX5_sum_X5_fails rfl rfl rfl (by decide +kernel) ⟨Nat.le_of_ble_eq_true rfl, Nat.le_of_ble_eq_true rfl⟩) (xM.preV hKc hPc hDc hAN (Nat.le_trans hN hS.1) (hG.kept hS hAN) (ci := 7) (q0 := 0) rfl rfl) rfl rfl hl.1 rfl (lv_room (Nat.le_of_ble_eq_true rfl)) dX5_sum_23 ⟨Nat.le_of_ble_eq_true rfl, Nat.le_of_ble_eq_true rfl⟩) hS (fun q _ h => hFc q h) hFc (fun r_6 u t H locs ht hvm hw hB hz hk hS => ?_)
      replace hw : r_6 = b2i ((o_X5_fails false false).1) := hw
      subst r_6
      obtain ⟨hP1, hD1⟩ := hB
      rw [ht] at hP1
      obtain ⟨hP, hD⟩ := va_join (wr := [(ro, eMR w hc a), (hc, eA cy f)]) (w1 := [(h0, eM h1 h2 (o_X5_fails false false).2 rf kn)]) hP hD [0] [1, 2] rfl rfl (by decide +kernel) (by decide +kernel) hk hFc hP1 hD1
      have hP := hP.sub (ws' := [(h0, eM h1 h2 (o_X5_fails false false).2 rf kn), (ro, eMR w hc a), (hc, eA cy f)]) [2, 0, 1] rfl
      have hD := hD.sub (ws' := [(h0, eM h1 h2 (o_X5_fails false false).2 rf kn), (ro, eMR w hc a), (hc, eA cy f)]) [2, 0, 1] (by decide +kernel) rfl
      refine xz_eq (tgt := 31) hx hb dX5_sum_26 (by decide +kernel) (fun c9 => ?_) (fun c9 => absurd c9 (by decide +kernel))
      refine lv_aload_n hx hb dX5_sum_31 rfl (lv_at hl 1 rfl) ?_
      refine va_get (D := (dC, dI)) (ci := 6) (v := .ref hc) (C := RX4) (T := TX4) (N := 5) hx hb hts (by decide +kernel) hown hK hP 1 rfl rfl 3 (by decide +kernel) (hts (.fieldLink RX5 74 "EdgefloatsModel$Row" "cells" "[J") (by decide +kernel)) (fun _ h9 => h9) rfl dX5_sum_32 ?_
      refine lv_iload_n hx hb dX5_sum_35 rfl (lv_at hl 2 rfl) ?_
      refine xa_lald hx hb hK hP 2 0 (f := f) rfl rfl (k := p1.toNatClampNeg) (xm_areNo1 c_2) rfl dX5_sum_36 ?_
      refine lv_lstore (lv' := [(5, .long (f p1.toNatClampNeg)), (0, .ref h0), (1, .ref ro), (2, .int p1), (3, .int p2), (4, .int p3)]) hx hb dX5_sum_37 hl (by decide +kernel) rfl (fun ls hl => ?_)
      refine lv_aload_n hx hb dX5_sum_39 rfl (lv_at hl 2 rfl) ?_
      refine va_get (D := (dC, dI)) (ci := 6) (v := .ref hc) (C := RX4) (T := TX4) (N := 5) hx hb hts (by decide +kernel) hown hK hP 1 rfl rfl 3 (by decide +kernel) (hts (.fieldLink RX5 74 "EdgefloatsModel$Row" "cells" "[J") (by decide +kernel)) (fun _ h9 => h9) rfl dX5_sum_40 ?_
      refine lv_iload_n hx hb dX5_sum_43 rfl (lv_at hl 4 rfl) ?_
      refine xa_lald hx hb hK hP 2 0 (f := f) rfl rfl (k := p2.toNatClampNeg) (xm_areNo2 c_2) rfl dX5_sum_44 ?_
      refine lv_lstore (lv' := [(7, .long (f p2.toNatClampNeg)), (5, .long (f p1.toNatClampNeg)), (0, .ref h0), (1, .ref ro), (2, .int p1), (3, .int p2), (4, .int p3)]) hx hb dX5_sum_45 hl (by decide +kernel) rfl (fun ls hl => ?_)
      refine lv_aload_n hx hb dX5_sum_47 rfl (lv_at hl 3 rfl) ?_
      refine lv_lload hx hb dX5_sum_48 (lv_at hl 1 rfl) ?_
      refine lv_lload hx hb dX5_sum_50 (lv_at hl 0 rfl) ?_
      have hPc := hP.sub (ws' := [(ro, eMR w hc a), (hc, eA cy f)]) [1, 2] rfl
      have hKc := hK.sub (tys' := [(cy, .long)]) [0] rfl
      refine va_calli (va_runV (As := [.long (f p1.toNatClampNeg), .long (f p2.toNatClampNeg)]) (rest := []) ⟨hx, hb, hml, hown, hts⟩ (k_X4_haveSum l dC dI cy ro hc w a f H.size (f p1.toNatClampNeg) (f p2.toNatClampNeg) (hokf _ (xm_lt (xm_areNo1 c_2))) (hokf _ (xm_lt (xm_areNo2 c_2)))) (cwV 2 hts gX5_sum_X4_haveSum rfl rfl rfl (by decide +kernel) ⟨Nat.le_of_ble_eq_true rfl, Nat.le_of_ble_eq_true rfl⟩) (xB.preV hKc hPc (ci := 6) (q0 := 0) rfl rfl) rfl rfl hl.1 rfl (lv_room (Nat.le_of_ble_eq_true rfl)) dX5_sum_52 ⟨Nat.le_of_ble_eq_true rfl, Nat.le_of_ble_eq_true rfl⟩) hS xA_old (fun q h => hA q (Nat.le_trans hS.1 h)) (fun r_7 u t H locs ht hvm hw hB hz hk hS => ?_)
      replace hw : r_7 = b2i (o_X4_haveSum w (f p1.toNatClampNeg) (f p2.toNatClampNeg)) := hw
      subst r_7
      have hP := xP_keep hP hk
      refine xz_eq (tgt := 75) hx hb dX5_sum_55 (by decide +kernel) (fun c_8 => ?_) (fun c_8 => ?_)
      · skip
        refine lv_aload_n hx hb dX5_sum_75 rfl (lv_at hl 2 rfl) ?_
        have hPc := hP.sub (ws' := [(h0, eM h1 h2 (o_X5_fails false false).2 rf kn)]) [0] rfl
        have hDc := hD.sub (ws' := [(h0, eM h1 h2 (o_X5_fails false false).2 rf kn)]) [0] (by decide +kernel) rfl
        have hKc := hK.sub (tys' := []) [] rfl
        have hFc := va_free (wc := [(h0, eM h1 h2 (o_X5_fails false false).2 rf kn)]) hD hS hA [0] rfl
        refine va_calli (va_runV (As := []) (rest := []) ⟨hx, hb, hml, hown, hts⟩ (k_X5_refuse l dC dI h0 h1 h2 ((o_X5_fails false false).2) rf kn H.size N) (cwV 0 hts gX5_sum_X5_refuse rfl rfl rfl (by decide +kernel) ⟨Nat.le_of_ble_eq_true rfl, Nat.le_of_ble_eq_true rfl⟩) (xM.preV hKc hPc hDc hAN (Nat.le_trans hN hS.1) (hG.kept hS hAN) (ci := 7) (q0 := 0) rfl rfl) rfl rfl hl.1 rfl (lv_room (Nat.le_of_ble_eq_true rfl)) dX5_sum_76 ⟨Nat.le_of_ble_eq_true rfl, Nat.le_of_ble_eq_true rfl⟩) hS (fun q _ h => hFc q h) hFc (fun r_9 u t H locs ht hvm hw hB hz hk hS => ?_)
        replace hw : r_9 = (o_X5_refuse rf).1 := hw
        subst r_9
        obtain ⟨hP1, hD1⟩ := hB
        rw [ht] at hP1
        obtain ⟨hP, hD⟩ := va_join (wr := [(ro, eMR w hc a), (hc, eA cy f)]) (w1 := [(h0, eM h1 h2 (o_X5_fails false false).2 (o_X5_refuse rf).2 kn)]) hP hD [0] [1, 2] rfl rfl (by decide +kernel) (by decide +kernel) hk hFc hP1 hD1
        have hP := hP.sub (ws' := [(h0, eM h1 h2 (o_X5_fails false false).2 (o_X5_refuse rf).2 kn), (ro, eMR w hc a), (hc, eA cy f)]) [2, 0, 1] rfl
        have hD := hD.sub (ws' := [(h0, eM h1 h2 (o_X5_fails false false).2 (o_X5_refuse rf).2 kn), (ro, eMR w hc a), (hc, eA cy f)]) [2, 0, 1] (by decide +kernel) rfl
        have he : o_X5_sum w a f rf p1 p2 p3 = ((o_X5_refuse rf).1, a, f, (o_X5_fails false false).2, (o_X5_refuse rf).2) := by (rw [o_X5_sum, if_neg c_2, if_neg c_5, if_neg c_8]) <;> rfl
        refine W.widen (k := 0) (n := 0) (by omega) (by omega) ?_
        exact W.iret (v := ((o_X5_refuse rf).1)) hx hb hr (fun t ht hW => ⟨⟨_, (), rfl, (by (rw [he]) <;> rfl), (by rw [he]; exact ⟨by rw [ht]; exact hP, hD⟩)⟩, hS.F ht⟩) hS.2.2 dX5_sum_79
      · skip
        refine lv_aload_n hx hb dX5_sum_58 rfl (lv_at hl 3 rfl) ?_
        refine lv_iload hx hb dX5_sum_59 (lv_at hl 6 rfl) ?_
        refine lv_aload_n hx hb dX5_sum_61 rfl (lv_at hl 3 rfl) ?_
        refine lv_lload hx hb dX5_sum_62 (lv_at hl 1 rfl) ?_
        refine lv_lload hx hb dX5_sum_64 (lv_at hl 0 rfl) ?_
        have hPc := hP.sub (ws' := [(ro, eMR w hc a), (hc, eA cy f)]) [1, 2] rfl
        have hKc := hK.sub (tys' := [(cy, .long)]) [0] rfl
        refine va_calll (va_runV (As := [.long (f p1.toNatClampNeg), .long (f p2.toNatClampNeg)]) (rest := [.int p3, .ref ro]) ⟨hx, hb, hml, hown, hts⟩ (k_X4_sum l dC dI cy ro hc w a f H.size (f p1.toNatClampNeg) (f p2.toNatClampNeg) (hokf _ (xm_lt (xm_areNo1 c_2))) (hokf _ (xm_lt (xm_areNo2 c_2)))) (cwV 2 hts gX5_sum_X4_sum rfl rfl rfl (by decide +kernel) ⟨Nat.le_of_ble_eq_true rfl, Nat.le_of_ble_eq_true rfl⟩) (xB.preV hKc hPc (ci := 6) (q0 := 0) rfl rfl) rfl rfl hl.1 rfl (lv_room (Nat.le_of_ble_eq_true rfl)) dX5_sum_66 ⟨Nat.le_of_ble_eq_true rfl, Nat.le_of_ble_eq_true rfl⟩) hS xA_old (fun q h => hA q (Nat.le_trans hS.1 h)) (fun r_10 u t H locs ht hvm hw hB hz hk hS => ?_)
        replace hw : r_10 = (o_X4_sum w (f p1.toNatClampNeg) (f p2.toNatClampNeg)) := hw
        subst r_10
        have hP := xP_keep hP hk
        have hPc := hP.sub (ws' := [(ro, eMR w hc a), (hc, eA cy f)]) [1, 2] rfl
        have hDc := hD.sub (ws' := [(ro, eMR w hc a), (hc, eA cy f)]) [1, 2] (by decide +kernel) rfl
        have hKc := hK.sub (tys' := [(cy, .long)]) [0] rfl
        have hFc := va_free (wc := [(ro, eMR w hc a), (hc, eA cy f)]) hD hS hA [1, 2] rfl
        refine va_calli (va_runV (As := [.int p3, .long (o_X4_sum w (f p1.toNatClampNeg) (f p2.toNatClampNeg))]) (rest := []) ⟨hx, hb, hml, hown, hts⟩ (k_X4_come l dC dI cy ro hc w a f H.size N p3 (o_X4_sum w (f p1.toNatClampNeg) (f p2.toNatClampNeg)) (xm_isNo c_5)) (cwV 2 hts gX5_sum_X4_come rfl rfl rfl (by decide +kernel) ⟨Nat.le_of_ble_eq_true rfl, Nat.le_of_ble_eq_true rfl⟩) (xM.preV hKc hPc hDc hAN (Nat.le_trans hN hS.1) (hG.kept hS hAN) (ci := 6) (q0 := 0) rfl rfl) rfl rfl hl.1 rfl (lv_room (Nat.le_of_ble_eq_true rfl)) dX5_sum_69 ⟨Nat.le_of_ble_eq_true rfl, Nat.le_of_ble_eq_true rfl⟩) hS (fun q _ h => hFc q h) hFc (fun r_11 u t H locs ht hvm hw hB hz hk hS => ?_)
        replace hw : r_11 = (o_X4_come a f p3 (o_X4_sum w (f p1.toNatClampNeg) (f p2.toNatClampNeg))).1 := hw
        subst r_11
        obtain ⟨hP1, hD1⟩ := hB
        rw [ht] at hP1
        obtain ⟨hP, hD⟩ := va_join (wr := [(h0, eM h1 h2 (o_X5_fails false false).2 rf kn)]) (w1 := [(ro, eMR w hc (o_X4_come a f p3 (o_X4_sum w (f p1.toNatClampNeg) (f p2.toNatClampNeg))).2.1), (hc, eA cy (o_X4_come a f p3 (o_X4_sum w (f p1.toNatClampNeg) (f p2.toNatClampNeg))).2.2)]) hP hD [1, 2] [0] rfl rfl (by decide +kernel) (by decide +kernel) hk hFc hP1 hD1
        have hP := hP.sub (ws' := [(h0, eM h1 h2 (o_X5_fails false false).2 rf kn), (ro, eMR w hc (o_X4_come a f p3 (o_X4_sum w (f p1.toNatClampNeg) (f p2.toNatClampNeg))).2.1), (hc, eA cy (o_X4_come a f p3 (o_X4_sum w (f p1.toNatClampNeg) (f p2.toNatClampNeg))).2.2)]) [0, 1, 2] rfl
        have hD := hD.sub (ws' := [(h0, eM h1 h2 (o_X5_fails false false).2 rf kn), (ro, eMR w hc (o_X4_come a f p3 (o_X4_sum w (f p1.toNatClampNeg) (f p2.toNatClampNeg))).2.1), (hc, eA cy (o_X4_come a f p3 (o_X4_sum w (f p1.toNatClampNeg) (f p2.toNatClampNeg))).2.2)]) [0, 1, 2] (by decide +kernel) rfl
        refine lv_goto (tgt := 79) hx hb dX5_sum_72 (by decide +kernel) ?_
        have he : o_X5_sum w a f rf p1 p2 p3 = ((o_X4_come a f p3 (o_X4_sum w (f p1.toNatClampNeg) (f p2.toNatClampNeg))).1, (o_X4_come a f p3 (o_X4_sum w (f p1.toNatClampNeg) (f p2.toNatClampNeg))).2.1, (o_X4_come a f p3 (o_X4_sum w (f p1.toNatClampNeg) (f p2.toNatClampNeg))).2.2, (o_X5_fails false false).2, rf) := by (rw [o_X5_sum, if_neg c_2, if_neg c_5, if_pos c_8]) <;> rfl
        refine W.widen (k := 0) (n := 0) (by omega) (by omega) ?_
        exact W.iret (v := ((o_X4_come a f p3 (o_X4_sum w (f p1.toNatClampNeg) (f p2.toNatClampNeg))).1)) hx hb hr (fun t ht hW => ⟨⟨_, (), rfl, (by (rw [he]) <;> rfl), (by rw [he]; exact ⟨by rw [ht]; exact hP, hD⟩)⟩, hS.F ht⟩) hS.2.2 dX5_sum_79
    · skip
      refine lv_iconst (v := 1) hx hb dX5_sum_17 (by decide +kernel) ?_
      refine lv_goto (tgt := 22) hx hb dX5_sum_18 (by decide +kernel) ?_
      refine lv_iconst (v := 0) hx hb dX5_sum_22 (by decide +kernel) ?_
      have hPc := hP.sub (ws' := [(h0, eM h1 h2 th rf kn)]) [0] rfl
      have hDc := hD.sub (ws' := [(h0, eM h1 h2 th rf kn)]) [0] (by decide +kernel) rfl
      have hKc := hK.sub (tys' := []) [] rfl
      have hFc := va_free (wc := [(h0, eM h1 h2 th rf kn)]) hD hS hA [0] rfl
      refine va_calli (va_runV (As := [.int 1, .int 0]) (rest := []) ⟨hx, hb, hml, hown, hts⟩ (k_X5_fails l dC dI h0 h1 h2 th rf kn H.size N true false) (cwV 2 hts gX5_sum_X5_fails rfl rfl rfl (by decide +kernel) ⟨Nat.le_of_ble_eq_true rfl, Nat.le_of_ble_eq_true rfl⟩) (xM.preV hKc hPc hDc hAN (Nat.le_trans hN hS.1) (hG.kept hS hAN) (ci := 7) (q0 := 0) rfl rfl) rfl rfl hl.1 rfl (lv_room (Nat.le_of_ble_eq_true rfl)) dX5_sum_23 ⟨Nat.le_of_ble_eq_true rfl, Nat.le_of_ble_eq_true rfl⟩) hS (fun q _ h => hFc q h) hFc (fun r_12 u t H locs ht hvm hw hB hz hk hS => ?_)
      replace hw : r_12 = b2i ((o_X5_fails true false).1) := hw
      subst r_12
      obtain ⟨hP1, hD1⟩ := hB
      rw [ht] at hP1
      obtain ⟨hP, hD⟩ := va_join (wr := [(ro, eMR w hc a), (hc, eA cy f)]) (w1 := [(h0, eM h1 h2 (o_X5_fails true false).2 rf kn)]) hP hD [0] [1, 2] rfl rfl (by decide +kernel) (by decide +kernel) hk hFc hP1 hD1
      have hP := hP.sub (ws' := [(h0, eM h1 h2 (o_X5_fails true false).2 rf kn), (ro, eMR w hc a), (hc, eA cy f)]) [2, 0, 1] rfl
      have hD := hD.sub (ws' := [(h0, eM h1 h2 (o_X5_fails true false).2 rf kn), (ro, eMR w hc a), (hc, eA cy f)]) [2, 0, 1] (by decide +kernel) rfl
      refine xz_eq (tgt := 31) hx hb dX5_sum_26 (by decide +kernel) (fun c9 => absurd (by decide +kernel) c9) (fun c9 => ?_)
      refine lv_iconst (v := 0) hx hb dX5_sum_29 (by decide +kernel) ?_
      have he : o_X5_sum w a f rf p1 p2 p3 = (0, a, f, (o_X5_fails true false).2, rf) := by (rw [o_X5_sum, if_neg c_2, if_pos c_5]) <;> rfl
      refine W.widen (k := 0) (n := 0) (by omega) (by omega) ?_
      exact W.iret (v := 0) hx hb hr (fun t ht hW => ⟨⟨_, (), rfl, (by (rw [he]) <;> rfl), (by rw [he]; exact ⟨by rw [ht]; exact hP, hD⟩)⟩, hS.F ht⟩) hS.2.2 dX5_sum_30
set_option maxRecDepth 20000 in
theorem ggX5_sort_X5_isIn : GoodIn wsX5_sort wsX5_isIn := goodIn_r _ [4] (by decide +kernel) (by decide +kernel)
theorem cl_X5_sort_1 : ∀ w ∈ wsX5_sort_r1, w ∈ wsX5_sort := fun _ h => (List.mem_cons_of_mem _ (List.mem_append_left _ (List.mem_append_left _ (List.mem_append_left _ h))))
theorem cl_X5_sort_2 : ∀ w ∈ wsX5_sort_r2, w ∈ wsX5_sort := fun _ h => (List.mem_cons_of_mem _ (List.mem_append_left _ (List.mem_append_left _ (List.mem_append_right _ h))))
theorem cl_X5_sort_3 : ∀ w ∈ wsX50, w ∈ wsX5_sort := fun _ h => (List.mem_cons_of_mem _ (List.mem_append_left _ (List.mem_append_right _ h)))
theorem cl_X5_sort_4 : ∀ w ∈ wsX40, w ∈ wsX5_sort := fun _ h => (List.mem_cons_of_mem _ (List.mem_append_right _ h))
set_option maxRecDepth 20000 in
theorem gX5_sort_X5_isIn : GoodIn wsX5_sort (va_wsS RX5 31 yX5_isIn wsX5_isIn) := goodIn_app (goodIn_sub (List.forall_mem_cons.mpr ⟨(cl_X5_sort_1 _ (List.mem_of_getElem? (i := 0) rfl)), List.forall_mem_cons.mpr ⟨(cl_X5_sort_1 _ (List.mem_of_getElem? (i := 1) rfl)), List.forall_mem_cons.mpr ⟨(cl_X5_sort_1 _ (List.mem_of_getElem? (i := 2) rfl)), fun _ h => absurd h List.not_mem_nil⟩⟩⟩) (by decide +kernel)) ggX5_sort_X5_isIn
set_option maxRecDepth 20000 in
theorem ggX5_sort_X5_fails : GoodIn wsX5_sort wsX5_fails := goodIn_sub (List.forall_mem_cons.mpr ⟨(cl_X5_sort_1 _ (List.mem_of_getElem? (i := 7) rfl)), fun w h => (List.mem_append.mp h).elim ((List.forall_mem_cons.mpr ⟨(cl_X5_sort_1 _ (List.mem_of_getElem? (i := 8) rfl)), fun _ h => absurd h List.not_mem_nil⟩) w) ((cl_X5_sort_3) w)⟩) (by decide +kernel)
set_option maxRecDepth 20000 in
theorem gX5_sort_X5_fails : GoodIn wsX5_sort (wsV RX5 42 RX5 yX5_fails wsX5_fails) := goodIn_app (goodIn_sub (List.forall_mem_cons.mpr ⟨(cl_X5_sort_1 _ (List.mem_of_getElem? (i := 4) rfl)), List.forall_mem_cons.mpr ⟨(cl_X5_sort_1 _ (List.mem_of_getElem? (i := 5) rfl)), List.forall_mem_cons.mpr ⟨(cl_X5_sort_1 _ (List.mem_of_getElem? (i := 6) rfl)), List.forall_mem_cons.mpr ⟨(cl_X5_sort_1 _ (List.mem_of_getElem? (i := 2) rfl)), fun _ h => absurd h List.not_mem_nil⟩⟩⟩⟩) (by decide +kernel)) ggX5_sort_X5_fails
set_option maxRecDepth 20000 in
theorem ggX5_sort_X4_sort : GoodIn wsX5_sort wsX4_sort := goodIn_sub (List.forall_mem_cons.mpr ⟨(cl_X5_sort_1 _ (List.mem_of_getElem? (i := 13) rfl)), fun w h => (List.mem_append.mp h).elim ((fun w h => (List.mem_append.mp h).elim ((List.forall_mem_cons.mpr ⟨(cl_X5_sort_1 _ (List.mem_of_getElem? (i := 14) rfl)), List.forall_mem_cons.mpr ⟨(cl_X5_sort_1 _ (List.mem_of_getElem? (i := 15) rfl)), List.forall_mem_cons.mpr ⟨(cl_X5_sort_1 _ (List.mem_of_getElem? (i := 16) rfl)), List.forall_mem_cons.mpr ⟨(cl_X5_sort_1 _ (List.mem_of_getElem? (i := 17) rfl)), List.forall_mem_cons.mpr ⟨(cl_X5_sort_1 _ (List.mem_of_getElem? (i := 18) rfl)), List.forall_mem_cons.mpr ⟨(cl_X5_sort_1 _ (List.mem_of_getElem? (i := 19) rfl)), List.forall_mem_cons.mpr ⟨(cl_X5_sort_1 _ (List.mem_of_getElem? (i := 12) rfl)), List.forall_mem_cons.mpr ⟨(cl_X5_sort_1 _ (List.mem_of_getElem? (i := 20) rfl)), List.forall_mem_cons.mpr ⟨(cl_X5_sort_1 _ (List.mem_of_getElem? (i := 21) rfl)), List.forall_mem_cons.mpr ⟨(cl_X5_sort_1 _ (List.mem_of_getElem? (i := 22) rfl)), List.forall_mem_cons.mpr ⟨(cl_X5_sort_1 _ (List.mem_of_getElem? (i := 23) rfl)), List.forall_mem_cons.mpr ⟨(cl_X5_sort_2 _ (List.mem_of_getElem? (i := 0) rfl)), List.forall_mem_cons.mpr ⟨(cl_X5_sort_2 _ (List.mem_of_getElem? (i := 1) rfl)), List.forall_mem_cons.mpr ⟨(cl_X5_sort_2 _ (List.mem_of_getElem? (i := 2) rfl)), List.forall_mem_cons.mpr ⟨(cl_X5_sort_2 _ (List.mem_of_getElem? (i := 3) rfl)), List.forall_mem_cons.mpr ⟨(cl_X5_sort_2 _ (List.mem_of_getElem? (i := 4) rfl)), List.forall_mem_cons.mpr ⟨(cl_X5_sort_2 _ (List.mem_of_getElem? (i := 5) rfl)), List.forall_mem_cons.mpr ⟨(cl_X5_sort_2 _ (List.mem_of_getElem? (i := 6) rfl)), List.forall_mem_cons.mpr ⟨(cl_X5_sort_2 _ (List.mem_of_getElem? (i := 7) rfl)), List.forall_mem_cons.mpr ⟨(cl_X5_sort_2 _ (List.mem_of_getElem? (i := 8) rfl)), List.forall_mem_cons.mpr ⟨(cl_X5_sort_2 _ (List.mem_of_getElem? (i := 9) rfl)), List.forall_mem_cons.mpr ⟨(cl_X5_sort_2 _ (List.mem_of_getElem? (i := 10) rfl)), List.forall_mem_cons.mpr ⟨(cl_X5_sort_2 _ (List.mem_of_getElem? (i := 11) rfl)), List.forall_mem_cons.mpr ⟨(cl_X5_sort_2 _ (List.mem_of_getElem? (i := 12) rfl)), fun _ h => absurd h List.not_mem_nil⟩⟩⟩⟩⟩⟩⟩⟩⟩⟩⟩⟩⟩⟩⟩⟩⟩⟩⟩⟩⟩⟩⟩⟩) w) ((List.forall_mem_cons.mpr ⟨(cl_X5_sort_2 _ (List.mem_of_getElem? (i := 13) rfl)), List.forall_mem_cons.mpr ⟨(cl_X5_sort_2 _ (List.mem_of_getElem? (i := 14) rfl)), List.forall_mem_cons.mpr ⟨(cl_X5_sort_2 _ (List.mem_of_getElem? (i := 15) rfl)), fun _ h => absurd h List.not_mem_nil⟩⟩⟩) w)) w) ((cl_X5_sort_4) w)⟩) (by decide +kernel)
set_option maxRecDepth 20000 in
theorem gX5_sort_X4_sort : GoodIn wsX5_sort (wsV RX5 94 RX4 yX4_sort wsX4_sort) := goodIn_app (goodIn_sub (List.forall_mem_cons.mpr ⟨(cl_X5_sort_1 _ (List.mem_of_getElem? (i := 9) rfl)), List.forall_mem_cons.mpr ⟨(cl_X5_sort_1 _ (List.mem_of_getElem? (i := 10) rfl)), List.forall_mem_cons.mpr ⟨(cl_X5_sort_1 _ (List.mem_of_getElem? (i := 11) rfl)), List.forall_mem_cons.mpr ⟨(cl_X5_sort_1 _ (List.mem_of_getElem? (i := 12) rfl)), fun _ h => absurd h List.not_mem_nil⟩⟩⟩⟩) (by decide +kernel)) ggX5_sort_X4_sort
noncomputable def dz_p09_20 : List (Nat × Instr × Nat) := [(0, (.aload_n 0, 1)), (1, (.iload_n 2, 1)), (2, (.iconst 0, 1)), (3, (.iconst 1, 1)), (4, (.invokestatic 31, 3)), (7, (.ifCond .ne 7, 3)), (10, (.iconst 1, 1)), (11, (.goto 4, 3)), (14, (.iconst 0, 1)), (15, (.iconst 0, 1)), (16, (.invokevirtual 42, 3)), (19, (.ifCond .eq 7, 3)), (22, (.iconst 0, 1)), (23, (.goto 7, 3)), (26, (.aload_n 1, 1)), (27, (.invokevirtual 94, 3)), (30, (.ireturn, 1))]
theorem dy_p09_20 : dz_ok cX5_sort dz_p09_20 = true := by decide +kernel
theorem dX5_sort_0 : decode cX5_sort 0 = .ok (.aload_n 0, 1) := dz_at (i := 0) dy_p09_20 rfl
theorem dX5_sort_1 : decode cX5_sort 1 = .ok (.iload_n 2, 1) := dz_at (i := 1) dy_p09_20 rfl
theorem dX5_sort_2 : decode cX5_sort 2 = .ok (.iconst 0, 1) := dz_at (i := 2) dy_p09_20 rfl
theorem dX5_sort_3 : decode cX5_sort 3 = .ok (.iconst 1, 1) := dz_at (i := 3) dy_p09_20 rfl
theorem dX5_sort_4 : decode cX5_sort 4 = .ok (.invokestatic 31, 3) := dz_at (i := 4) dy_p09_20 rfl
theorem dX5_sort_7 : decode cX5_sort 7 = .ok (.ifCond .ne 7, 3) := dz_at (i := 5) dy_p09_20 rfl
theorem dX5_sort_10 : decode cX5_sort 10 = .ok (.iconst 1, 1) := dz_at (i := 6) dy_p09_20 rfl
theorem dX5_sort_11 : decode cX5_sort 11 = .ok (.goto 4, 3) := dz_at (i := 7) dy_p09_20 rfl
theorem dX5_sort_14 : decode cX5_sort 14 = .ok (.iconst 0, 1) := dz_at (i := 8) dy_p09_20 rfl
theorem dX5_sort_15 : decode cX5_sort 15 = .ok (.iconst 0, 1) := dz_at (i := 9) dy_p09_20 rfl
theorem dX5_sort_16 : decode cX5_sort 16 = .ok (.invokevirtual 42, 3) := dz_at (i := 10) dy_p09_20 rfl
theorem dX5_sort_19 : decode cX5_sort 19 = .ok (.ifCond .eq 7, 3) := dz_at (i := 11) dy_p09_20 rfl
theorem dX5_sort_22 : decode cX5_sort 22 = .ok (.iconst 0, 1) := dz_at (i := 12) dy_p09_20 rfl
theorem dX5_sort_23 : decode cX5_sort 23 = .ok (.goto 7, 3) := dz_at (i := 13) dy_p09_20 rfl
theorem dX5_sort_26 : decode cX5_sort 26 = .ok (.aload_n 1, 1) := dz_at (i := 14) dy_p09_20 rfl
theorem dX5_sort_27 : decode cX5_sort 27 = .ok (.invokevirtual 94, 3) := dz_at (i := 15) dy_p09_20 rfl
theorem dX5_sort_30 : decode cX5_sort 30 = .ok (.ireturn, 1) := dz_at (i := 16) dy_p09_20 rfl
noncomputable def o_X5_sort (w : Bool) (a : Int32) (f : Nat → Int64) (p1 : Int32) : Int32 × Int32 × (Nat → Int64) × Int32 :=
  if (o_X5_isIn p1 0 1) = true then ((o_X4_sort w a f).1, (o_X4_sort w a f).2.1, (o_X4_sort w a f).2.2, (o_X5_fails false false).2)
  else (0, a, f, (o_X5_fails true false).2)
set_option maxHeartbeats 4000000 in
set_option maxRecDepth 100000 in
theorem k_X5_sort (l : Launch) (dC : Nat → ClassId) (dI : Nat → Nat → Nat) (cy : ClassId) (h0 : Nat) (h1 : Nat) (h2 : Nat) (ro : Nat) (hc : Nat) (w : Bool) (a : Int32) (f : Nat → Int64) (th : Int32) (rf : Int32) (kn : Int32) (sz : Nat) (N : Nat) (p1 : Int32) : Met l yX5_sort wsX5_sort ({ frames := 5, cells := 1, slots := 8, locals := 113 }) (va_Pc [.ref h0, .ref ro, .int p1] (xM (dC, dI) xCl [(h0, eM h1 h2 th rf kn), (ro, eMR w hc a), (hc, eA cy f)] [(cy, .long)] sz N)) (va_Qi (fun (r : Int32) (_ : Unit) => r = (o_X5_sort w a f p1).1) (fun _ t => xW (dC, dI) xCl [(h0, eM h1 h2 (o_X5_sort w a f p1).2.2.2 rf kn), (ro, eMR w hc (o_X5_sort w a f p1).2.1), (hc, eA cy (o_X5_sort w a f p1).2.2.1)] (va_A [(h0, eM h1 h2 th rf kn), (ro, eMR w hc a), (hc, eA cy f)] sz) t) (va_A [(h0, eM h1 h2 th rf kn), (ro, eMR w hc a), (hc, eA cy f)] sz)) 1 8 (va_A [(h0, eM h1 h2 th rf kn), (ro, eMR w hc a), (hc, eA cy f)] sz) := by
  refine Met.ofW (cc := cX5_sort) (maxL := 3) (ret := (some .int)) (by decide +kernel) rfl ?_
  intro p e s m args below meth c s₁ B hml hv
  obtain ⟨rfl, hsz, hP, hK, hD0, hN, hG⟩ := hv
  have hx := B.exec
  have hb := B.bytes
  have hr := B.returns
  have hts := atoms_spec (ws := wsX5_sort) B.pre
  have hown : s.vm.findClass RX5 = some m.cls := findClass_of_methodNamed B.named
  have hlocks := B.notSynchronized
  subst hsz
  have hAN : ∀ q, va_A [(h0, eM h1 h2 th rf kn), (ro, eMR w hc a), (hc, eA cy f)] s.heap.size q → N ≤ q := xA_N hD0 hN
  have hD := hD0.self (sz := s.heap.size)
  generalize hAe : va_A [(h0, eM h1 h2 th rf kn), (ro, eMR w hc a), (hc, eA cy f)] s.heap.size = A at hD hAN ⊢
  have hA : ∀ q : Nat, s.heap.size ≤ q → A q := fun q h => by rw [← hAe]; exact Or.inr h
  have hS : va_S A s.heap s.heap [] := va_S.rf
  have hP : va_P (dC, dI) xCl [(h0, eM h1 h2 th rf kn), (ro, eMR w hc a), (hc, eA cy f)] s.heap := hP
  have hl := lv_entry ([.ref h0, .ref ro, .int p1]) (n := 3) (Nat.le_of_ble_eq_true rfl)
  rw [lg_entry_eq]
  generalize (lg_sl ([.ref h0, .ref ro, .int p1]) ++ List.replicate (3 - (lg_sl ([.ref h0, .ref ro, .int p1])).length) Slot.unset).toArray = ls at hl ⊢
  have hl : lv_has ls 3 [(0, .ref h0), (1, .ref ro), (2, .int p1)] := hl
  refine lv_aload_n hx hb dX5_sort_0 rfl (lv_at hl 0 rfl) ?_
  refine lv_iload_n hx hb dX5_sort_1 rfl (lv_at hl 2 rfl) ?_
  refine lv_iconst (v := 0) hx hb dX5_sort_2 (by decide +kernel) ?_
  refine lv_iconst (v := 1) hx hb dX5_sort_3 (by decide +kernel) ?_
  have hPc := hP.sub (ws' := []) [] rfl
  have hKc := hK.sub (tys' := []) [] rfl
  refine va_calli (va_runS (As := [.int p1, .int 0, .int 1]) (rest := [.ref h0]) ⟨hx, hb, hml, hown, hts⟩ (k_X5_isIn l dC dI s.heap.size p1 0 1) (va_cwS 3 hts gX5_sort_X5_isIn rfl rfl rfl (by decide +kernel) ⟨Nat.le_of_ble_eq_true rfl, Nat.le_of_ble_eq_true rfl⟩) (xB.preS hKc hPc) rfl rfl hl.1 rfl (lv_room (Nat.le_of_ble_eq_true rfl)) dX5_sort_4 ⟨Nat.le_of_ble_eq_true rfl, Nat.le_of_ble_eq_true rfl⟩) hS xA_old (fun q h => hA q (Nat.le_trans hS.1 h)) (fun r_1 u t H locs ht hvm hw hB hz hk hS => ?_)
  replace hw : r_1 = b2i (o_X5_isIn p1 0 1) := hw
  subst r_1
  have hP := xP_keep hP hk
  refine xz_ne (tgt := 14) hx hb dX5_sort_7 (by decide +kernel) (fun c_2 => ?_) (fun c_2 => ?_)
  · skip
    refine lv_iconst (v := 0) hx hb dX5_sort_14 (by decide +kernel) ?_
    refine lv_iconst (v := 0) hx hb dX5_sort_15 (by decide +kernel) ?_
    have hPc := hP.sub (ws' := [(h0, eM h1 h2 th rf kn)]) [0] rfl
    have hDc := hD.sub (ws' := [(h0, eM h1 h2 th rf kn)]) [0] (by decide +kernel) rfl
    have hKc := hK.sub (tys' := []) [] rfl
    have hFc := va_free (wc := [(h0, eM h1 h2 th rf kn)]) hD hS hA [0] rfl
    refine va_calli (va_runV (As := [.int 0, .int 0]) (rest := []) ⟨hx, hb, hml, hown, hts⟩ (k_X5_fails l dC dI h0 h1 h2 th rf kn H.size N false false) (cwV 2 hts gX5_sort_X5_fails rfl rfl rfl (by decide +kernel) ⟨Nat.le_of_ble_eq_true rfl, Nat.le_of_ble_eq_true rfl⟩) (xM.preV hKc hPc hDc hAN (Nat.le_trans hN hS.1) (hG.kept hS hAN) (ci := 7) (q0 := 0) rfl rfl) rfl rfl hl.1 rfl (lv_room (Nat.le_of_ble_eq_true rfl)) dX5_sort_16 ⟨Nat.le_of_ble_eq_true rfl, Nat.le_of_ble_eq_true rfl⟩) hS (fun q _ h => hFc q h) hFc (fun r_3 u t H locs ht hvm hw hB hz hk hS => ?_)
    replace hw : r_3 = b2i ((o_X5_fails false false).1) := hw
    subst r_3
    obtain ⟨hP1, hD1⟩ := hB
    rw [ht] at hP1
    obtain ⟨hP, hD⟩ := va_join (wr := [(ro, eMR w hc a), (hc, eA cy f)]) (w1 := [(h0, eM h1 h2 (o_X5_fails false false).2 rf kn)]) hP hD [0] [1, 2] rfl rfl (by decide +kernel) (by decide +kernel) hk hFc hP1 hD1
    have hP := hP.sub (ws' := [(h0, eM h1 h2 (o_X5_fails false false).2 rf kn), (ro, eMR w hc a), (hc, eA cy f)]) [2, 0, 1] rfl
    have hD := hD.sub (ws' := [(h0, eM h1 h2 (o_X5_fails false false).2 rf kn), (ro, eMR w hc a), (hc, eA cy f)]) [2, 0, 1] (by decide +kernel) rfl
    refine xz_eq (tgt := 26) hx hb dX5_sort_19 (by decide +kernel) (fun c9 => ?_) (fun c9 => absurd c9 (by decide +kernel))
    refine lv_aload_n hx hb dX5_sort_26 rfl (lv_at hl 1 rfl) ?_
    have hPc := hP.sub (ws' := [(ro, eMR w hc a), (hc, eA cy f)]) [1, 2] rfl
    have hDc := hD.sub (ws' := [(ro, eMR w hc a), (hc, eA cy f)]) [1, 2] (by decide +kernel) rfl
    have hKc := hK.sub (tys' := [(cy, .long)]) [0] rfl
    have hFc := va_free (wc := [(ro, eMR w hc a), (hc, eA cy f)]) hD hS hA [1, 2] rfl
    refine va_calli (va_runV (As := []) (rest := []) ⟨hx, hb, hml, hown, hts⟩ (k_X4_sort l dC dI cy ro hc w a f H.size N) (cwV 0 hts gX5_sort_X4_sort rfl rfl rfl (by decide +kernel) ⟨Nat.le_of_ble_eq_true rfl, Nat.le_of_ble_eq_true rfl⟩) (xM.preV hKc hPc hDc hAN (Nat.le_trans hN hS.1) (hG.kept hS hAN) (ci := 6) (q0 := 0) rfl rfl) rfl rfl hl.1 rfl (lv_room (Nat.le_of_ble_eq_true rfl)) dX5_sort_27 ⟨Nat.le_of_ble_eq_true rfl, Nat.le_of_ble_eq_true rfl⟩) hS (fun q _ h => hFc q h) hFc (fun r_4 u t H locs ht hvm hw hB hz hk hS => ?_)
    replace hw : r_4 = (o_X4_sort w a f).1 := hw
    subst r_4
    obtain ⟨hP1, hD1⟩ := hB
    rw [ht] at hP1
    obtain ⟨hP, hD⟩ := va_join (wr := [(h0, eM h1 h2 (o_X5_fails false false).2 rf kn)]) (w1 := [(ro, eMR w hc (o_X4_sort w a f).2.1), (hc, eA cy (o_X4_sort w a f).2.2)]) hP hD [1, 2] [0] rfl rfl (by decide +kernel) (by decide +kernel) hk hFc hP1 hD1
    have hP := hP.sub (ws' := [(h0, eM h1 h2 (o_X5_fails false false).2 rf kn), (ro, eMR w hc (o_X4_sort w a f).2.1), (hc, eA cy (o_X4_sort w a f).2.2)]) [0, 1, 2] rfl
    have hD := hD.sub (ws' := [(h0, eM h1 h2 (o_X5_fails false false).2 rf kn), (ro, eMR w hc (o_X4_sort w a f).2.1), (hc, eA cy (o_X4_sort w a f).2.2)]) [0, 1, 2] (by decide +kernel) rfl
    have he : o_X5_sort w a f p1 = ((o_X4_sort w a f).1, (o_X4_sort w a f).2.1, (o_X4_sort w a f).2.2, (o_X5_fails false false).2) := by (rw [o_X5_sort, if_pos c_2]) <;> rfl
    refine W.widen (k := 1) (n := 8) (by omega) (by omega) ?_
    exact W.iret (v := ((o_X4_sort w a f).1)) hx hb hr (fun t ht hW => ⟨⟨_, (), rfl, (by (rw [he]) <;> rfl), (by rw [he]; exact ⟨by rw [ht]; dsimp only; exact hP, by dsimp only; exact hD⟩)⟩, hS.F ht⟩) hS.2.2 dX5_sort_30
  · skip
    refine lv_iconst (v := 1) hx hb dX5_sort_10 (by decide +kernel) ?_
    refine lv_goto (tgt := 15) hx hb dX5_sort_11 (by decide +kernel) ?_
    refine lv_iconst (v := 0) hx hb dX5_sort_15 (by decide +kernel) ?_
    have hPc := hP.sub (ws' := [(h0, eM h1 h2 th rf kn)]) [0] rfl
    have hDc := hD.sub (ws' := [(h0, eM h1 h2 th rf kn)]) [0] (by decide +kernel) rfl
    have hKc := hK.sub (tys' := []) [] rfl
    have hFc := va_free (wc := [(h0, eM h1 h2 th rf kn)]) hD hS hA [0] rfl
    refine va_calli (va_runV (As := [.int 1, .int 0]) (rest := []) ⟨hx, hb, hml, hown, hts⟩ (k_X5_fails l dC dI h0 h1 h2 th rf kn H.size N true false) (cwV 2 hts gX5_sort_X5_fails rfl rfl rfl (by decide +kernel) ⟨Nat.le_of_ble_eq_true rfl, Nat.le_of_ble_eq_true rfl⟩) (xM.preV hKc hPc hDc hAN (Nat.le_trans hN hS.1) (hG.kept hS hAN) (ci := 7) (q0 := 0) rfl rfl) rfl rfl hl.1 rfl (lv_room (Nat.le_of_ble_eq_true rfl)) dX5_sort_16 ⟨Nat.le_of_ble_eq_true rfl, Nat.le_of_ble_eq_true rfl⟩) hS (fun q _ h => hFc q h) hFc (fun r_5 u t H locs ht hvm hw hB hz hk hS => ?_)
    replace hw : r_5 = b2i ((o_X5_fails true false).1) := hw
    subst r_5
    obtain ⟨hP1, hD1⟩ := hB
    rw [ht] at hP1
    obtain ⟨hP, hD⟩ := va_join (wr := [(ro, eMR w hc a), (hc, eA cy f)]) (w1 := [(h0, eM h1 h2 (o_X5_fails true false).2 rf kn)]) hP hD [0] [1, 2] rfl rfl (by decide +kernel) (by decide +kernel) hk hFc hP1 hD1
    have hP := hP.sub (ws' := [(h0, eM h1 h2 (o_X5_fails true false).2 rf kn), (ro, eMR w hc a), (hc, eA cy f)]) [2, 0, 1] rfl
    have hD := hD.sub (ws' := [(h0, eM h1 h2 (o_X5_fails true false).2 rf kn), (ro, eMR w hc a), (hc, eA cy f)]) [2, 0, 1] (by decide +kernel) rfl
    refine xz_eq (tgt := 26) hx hb dX5_sort_19 (by decide +kernel) (fun c9 => absurd (by decide +kernel) c9) (fun c9 => ?_)
    refine lv_iconst (v := 0) hx hb dX5_sort_22 (by decide +kernel) ?_
    refine lv_goto (tgt := 30) hx hb dX5_sort_23 (by decide +kernel) ?_
    have he : o_X5_sort w a f p1 = (0, a, f, (o_X5_fails true false).2) := by (rw [o_X5_sort, if_neg c_2]) <;> rfl
    refine W.widen (k := 1) (n := 8) (by omega) (by omega) ?_
    exact W.iret (v := 0) hx hb hr (fun t ht hW => ⟨⟨_, (), rfl, (by (rw [he]) <;> rfl), (by rw [he]; exact ⟨by rw [ht]; dsimp only; exact hP, by dsimp only; exact hD⟩)⟩, hS.F ht⟩) hS.2.2 dX5_sort_30
theorem cl_X5_end_1 : ∀ w ∈ wsX5_end_r1, w ∈ wsX5_end := fun _ h => (List.mem_cons_of_mem _ (List.mem_append_left _ (List.mem_append_left _ (List.mem_append_left _ h))))
theorem cl_X5_end_2 : ∀ w ∈ wsX5_end_r2, w ∈ wsX5_end := fun _ h => (List.mem_cons_of_mem _ (List.mem_append_left _ (List.mem_append_left _ (List.mem_append_right _ h))))
theorem cl_X5_end_3 : ∀ w ∈ wsX50, w ∈ wsX5_end := fun _ h => (List.mem_cons_of_mem _ (List.mem_append_left _ (List.mem_append_right _ h)))
theorem cl_X5_end_4 : ∀ w ∈ wsX40, w ∈ wsX5_end := fun _ h => (List.mem_cons_of_mem _ (List.mem_append_right _ h))
set_option maxRecDepth 20000 in
theorem ggX5_end_X5_isNo : GoodIn wsX5_end wsX5_isNo := goodIn_sub (List.forall_mem_cons.mpr ⟨(cl_X5_end_1 _ (List.mem_of_getElem? (i := 3) rfl)), List.forall_mem_cons.mpr ⟨(cl_X5_end_1 _ (List.mem_of_getElem? (i := 4) rfl)), List.forall_mem_cons.mpr ⟨(cl_X5_end_1 _ (List.mem_of_getElem? (i := 5) rfl)), List.forall_mem_cons.mpr ⟨(cl_X5_end_1 _ (List.mem_of_getElem? (i := 2) rfl)), List.forall_mem_cons.mpr ⟨(cl_X5_end_1 _ (List.mem_of_getElem? (i := 6) rfl)), fun _ h => absurd h List.not_mem_nil⟩⟩⟩⟩⟩) (by decide +kernel)
set_option maxRecDepth 20000 in
theorem gX5_end_X5_isNo : GoodIn wsX5_end (va_wsS RX5 35 yX5_isNo wsX5_isNo) := goodIn_app (goodIn_sub (List.forall_mem_cons.mpr ⟨(cl_X5_end_1 _ (List.mem_of_getElem? (i := 0) rfl)), List.forall_mem_cons.mpr ⟨(cl_X5_end_1 _ (List.mem_of_getElem? (i := 1) rfl)), List.forall_mem_cons.mpr ⟨(cl_X5_end_1 _ (List.mem_of_getElem? (i := 2) rfl)), fun _ h => absurd h List.not_mem_nil⟩⟩⟩) (by decide +kernel)) ggX5_end_X5_isNo
set_option maxRecDepth 20000 in
theorem ggX5_end_X5_fails : GoodIn wsX5_end wsX5_fails := goodIn_sub (List.forall_mem_cons.mpr ⟨(cl_X5_end_1 _ (List.mem_of_getElem? (i := 10) rfl)), fun w h => (List.mem_append.mp h).elim ((List.forall_mem_cons.mpr ⟨(cl_X5_end_1 _ (List.mem_of_getElem? (i := 11) rfl)), fun _ h => absurd h List.not_mem_nil⟩) w) ((cl_X5_end_3) w)⟩) (by decide +kernel)
set_option maxRecDepth 20000 in
theorem gX5_end_X5_fails : GoodIn wsX5_end (wsV RX5 42 RX5 yX5_fails wsX5_fails) := goodIn_app (goodIn_sub (List.forall_mem_cons.mpr ⟨(cl_X5_end_1 _ (List.mem_of_getElem? (i := 7) rfl)), List.forall_mem_cons.mpr ⟨(cl_X5_end_1 _ (List.mem_of_getElem? (i := 8) rfl)), List.forall_mem_cons.mpr ⟨(cl_X5_end_1 _ (List.mem_of_getElem? (i := 9) rfl)), List.forall_mem_cons.mpr ⟨(cl_X5_end_1 _ (List.mem_of_getElem? (i := 2) rfl)), fun _ h => absurd h List.not_mem_nil⟩⟩⟩⟩) (by decide +kernel)) ggX5_end_X5_fails
set_option maxRecDepth 20000 in
theorem ggX5_end_X4_end : GoodIn wsX5_end wsX4_end := goodIn_sub (List.forall_mem_cons.mpr ⟨(cl_X5_end_1 _ (List.mem_of_getElem? (i := 16) rfl)), fun w h => (List.mem_append.mp h).elim ((fun w h => (List.mem_append.mp h).elim ((List.forall_mem_cons.mpr ⟨(cl_X5_end_1 _ (List.mem_of_getElem? (i := 17) rfl)), List.forall_mem_cons.mpr ⟨(cl_X5_end_1 _ (List.mem_of_getElem? (i := 18) rfl)), List.forall_mem_cons.mpr ⟨(cl_X5_end_1 _ (List.mem_of_getElem? (i := 19) rfl)), List.forall_mem_cons.mpr ⟨(cl_X5_end_1 _ (List.mem_of_getElem? (i := 20) rfl)), List.forall_mem_cons.mpr ⟨(cl_X5_end_1 _ (List.mem_of_getElem? (i := 15) rfl)), List.forall_mem_cons.mpr ⟨(cl_X5_end_1 _ (List.mem_of_getElem? (i := 21) rfl)), List.forall_mem_cons.mpr ⟨(cl_X5_end_1 _ (List.mem_of_getElem? (i := 22) rfl)), List.forall_mem_cons.mpr ⟨(cl_X5_end_1 _ (List.mem_of_getElem? (i := 23) rfl)), List.forall_mem_cons.mpr ⟨(cl_X5_end_2 _ (List.mem_of_getElem? (i := 0) rfl)), List.forall_mem_cons.mpr ⟨(cl_X5_end_2 _ (List.mem_of_getElem? (i := 1) rfl)), List.forall_mem_cons.mpr ⟨(cl_X5_end_2 _ (List.mem_of_getElem? (i := 2) rfl)), List.forall_mem_cons.mpr ⟨(cl_X5_end_2 _ (List.mem_of_getElem? (i := 3) rfl)), List.forall_mem_cons.mpr ⟨(cl_X5_end_2 _ (List.mem_of_getElem? (i := 4) rfl)), List.forall_mem_cons.mpr ⟨(cl_X5_end_2 _ (List.mem_of_getElem? (i := 5) rfl)), List.forall_mem_cons.mpr ⟨(cl_X5_end_2 _ (List.mem_of_getElem? (i := 6) rfl)), List.forall_mem_cons.mpr ⟨(cl_X5_end_2 _ (List.mem_of_getElem? (i := 7) rfl)), List.forall_mem_cons.mpr ⟨(cl_X5_end_2 _ (List.mem_of_getElem? (i := 8) rfl)), List.forall_mem_cons.mpr ⟨(cl_X5_end_2 _ (List.mem_of_getElem? (i := 9) rfl)), List.forall_mem_cons.mpr ⟨(cl_X5_end_2 _ (List.mem_of_getElem? (i := 10) rfl)), List.forall_mem_cons.mpr ⟨(cl_X5_end_2 _ (List.mem_of_getElem? (i := 11) rfl)), List.forall_mem_cons.mpr ⟨(cl_X5_end_2 _ (List.mem_of_getElem? (i := 12) rfl)), List.forall_mem_cons.mpr ⟨(cl_X5_end_2 _ (List.mem_of_getElem? (i := 13) rfl)), List.forall_mem_cons.mpr ⟨(cl_X5_end_2 _ (List.mem_of_getElem? (i := 14) rfl)), List.forall_mem_cons.mpr ⟨(cl_X5_end_2 _ (List.mem_of_getElem? (i := 15) rfl)), fun _ h => absurd h List.not_mem_nil⟩⟩⟩⟩⟩⟩⟩⟩⟩⟩⟩⟩⟩⟩⟩⟩⟩⟩⟩⟩⟩⟩⟩⟩) w) ((List.forall_mem_cons.mpr ⟨(cl_X5_end_2 _ (List.mem_of_getElem? (i := 16) rfl)), fun _ h => absurd h List.not_mem_nil⟩) w)) w) ((cl_X5_end_4) w)⟩) (by decide +kernel)
set_option maxRecDepth 20000 in
theorem gX5_end_X4_end : GoodIn wsX5_end (wsV RX5 97 RX4 yX4_end wsX4_end) := goodIn_app (goodIn_sub (List.forall_mem_cons.mpr ⟨(cl_X5_end_1 _ (List.mem_of_getElem? (i := 12) rfl)), List.forall_mem_cons.mpr ⟨(cl_X5_end_1 _ (List.mem_of_getElem? (i := 13) rfl)), List.forall_mem_cons.mpr ⟨(cl_X5_end_1 _ (List.mem_of_getElem? (i := 14) rfl)), List.forall_mem_cons.mpr ⟨(cl_X5_end_1 _ (List.mem_of_getElem? (i := 15) rfl)), fun _ h => absurd h List.not_mem_nil⟩⟩⟩⟩) (by decide +kernel)) ggX5_end_X4_end
set_option maxRecDepth 20000 in
theorem ggX5_end_X4_come : GoodIn wsX5_end wsX4_come := goodIn_sub (List.forall_mem_cons.mpr ⟨(cl_X5_end_2 _ (List.mem_of_getElem? (i := 20) rfl)), fun w h => (List.mem_append.mp h).elim ((List.forall_mem_cons.mpr ⟨(cl_X5_end_2 _ (List.mem_of_getElem? (i := 21) rfl)), List.forall_mem_cons.mpr ⟨(cl_X5_end_1 _ (List.mem_of_getElem? (i := 17) rfl)), fun _ h => absurd h List.not_mem_nil⟩⟩) w) ((cl_X5_end_4) w)⟩) (by decide +kernel)
set_option maxRecDepth 20000 in
theorem gX5_end_X4_come : GoodIn wsX5_end (wsV RX5 54 RX4 yX4_come wsX4_come) := goodIn_app (goodIn_sub (List.forall_mem_cons.mpr ⟨(cl_X5_end_2 _ (List.mem_of_getElem? (i := 17) rfl)), List.forall_mem_cons.mpr ⟨(cl_X5_end_2 _ (List.mem_of_getElem? (i := 18) rfl)), List.forall_mem_cons.mpr ⟨(cl_X5_end_2 _ (List.mem_of_getElem? (i := 19) rfl)), List.forall_mem_cons.mpr ⟨(cl_X5_end_1 _ (List.mem_of_getElem? (i := 15) rfl)), fun _ h => absurd h List.not_mem_nil⟩⟩⟩⟩) (by decide +kernel)) ggX5_end_X4_come
noncomputable def dz_p09_21 : List (Nat × Instr × Nat) := [(0, (.aload_n 0, 1)), (1, (.iload_n 3, 1)), (2, (.invokestatic 35, 3)), (5, (.iconst 0, 1)), (6, (.invokevirtual 42, 3)), (9, (.ifCond .eq 7, 3)), (12, (.iconst 0, 1)), (13, (.goto 13, 3)), (16, (.aload_n 1, 1)), (17, (.iload_n 3, 1)), (18, (.aload_n 1, 1)), (19, (.iload_n 2, 1)), (20, (.invokevirtual 97, 3)), (23, (.invokevirtual 54, 3)), (26, (.ireturn, 1))]
theorem dy_p09_21 : dz_ok cX5_end dz_p09_21 = true := by decide +kernel
theorem dX5_end_0 : decode cX5_end 0 = .ok (.aload_n 0, 1) := dz_at (i := 0) dy_p09_21 rfl
theorem dX5_end_1 : decode cX5_end 1 = .ok (.iload_n 3, 1) := dz_at (i := 1) dy_p09_21 rfl
theorem dX5_end_2 : decode cX5_end 2 = .ok (.invokestatic 35, 3) := dz_at (i := 2) dy_p09_21 rfl
theorem dX5_end_5 : decode cX5_end 5 = .ok (.iconst 0, 1) := dz_at (i := 3) dy_p09_21 rfl
theorem dX5_end_6 : decode cX5_end 6 = .ok (.invokevirtual 42, 3) := dz_at (i := 4) dy_p09_21 rfl
theorem dX5_end_9 : decode cX5_end 9 = .ok (.ifCond .eq 7, 3) := dz_at (i := 5) dy_p09_21 rfl
theorem dX5_end_12 : decode cX5_end 12 = .ok (.iconst 0, 1) := dz_at (i := 6) dy_p09_21 rfl
theorem dX5_end_13 : decode cX5_end 13 = .ok (.goto 13, 3) := dz_at (i := 7) dy_p09_21 rfl
theorem dX5_end_16 : decode cX5_end 16 = .ok (.aload_n 1, 1) := dz_at (i := 8) dy_p09_21 rfl
theorem dX5_end_17 : decode cX5_end 17 = .ok (.iload_n 3, 1) := dz_at (i := 9) dy_p09_21 rfl
theorem dX5_end_18 : decode cX5_end 18 = .ok (.aload_n 1, 1) := dz_at (i := 10) dy_p09_21 rfl
theorem dX5_end_19 : decode cX5_end 19 = .ok (.iload_n 2, 1) := dz_at (i := 11) dy_p09_21 rfl
theorem dX5_end_20 : decode cX5_end 20 = .ok (.invokevirtual 97, 3) := dz_at (i := 12) dy_p09_21 rfl
theorem dX5_end_23 : decode cX5_end 23 = .ok (.invokevirtual 54, 3) := dz_at (i := 13) dy_p09_21 rfl
theorem dX5_end_26 : decode cX5_end 26 = .ok (.ireturn, 1) := dz_at (i := 14) dy_p09_21 rfl
noncomputable def o_X5_end (w : Bool) (a : Int32) (f : Nat → Int64) (p1 : Bool) (p2 : Int32) : Int32 × Int32 × (Nat → Int64) × Int32 :=
  if (o_X5_fails (o_X5_isNo p2) false).1 = true then (0, a, f, (o_X5_fails (o_X5_isNo p2) false).2)
  else ((o_X4_come a f p2 (o_X4_end w f p1)).1, (o_X4_come a f p2 (o_X4_end w f p1)).2.1, (o_X4_come a f p2 (o_X4_end w f p1)).2.2, (o_X5_fails (o_X5_isNo p2) false).2)
set_option maxHeartbeats 4000000 in
set_option maxRecDepth 100000 in
theorem k_X5_end (l : Launch) (dC : Nat → ClassId) (dI : Nat → Nat → Nat) (cy : ClassId) (h0 : Nat) (h1 : Nat) (h2 : Nat) (ro : Nat) (hc : Nat) (w : Bool) (a : Int32) (f : Nat → Int64) (th : Int32) (rf : Int32) (kn : Int32) (sz : Nat) (N : Nat) (p1 : Bool) (p2 : Int32) : Met l yX5_end wsX5_end ({ frames := 5, cells := 0, slots := 0, locals := 116 }) (va_Pc [.ref h0, .ref ro, .int (b2i p1), .int p2] (xM (dC, dI) xCl [(h0, eM h1 h2 th rf kn), (ro, eMR w hc a), (hc, eA cy f)] [(cy, .long)] sz N)) (va_Qi (fun (r : Int32) (_ : Unit) => r = (o_X5_end w a f p1 p2).1) (fun _ t => xW (dC, dI) xCl [(h0, eM h1 h2 (o_X5_end w a f p1 p2).2.2.2 rf kn), (ro, eMR w hc (o_X5_end w a f p1 p2).2.1), (hc, eA cy (o_X5_end w a f p1 p2).2.2.1)] (va_A [(h0, eM h1 h2 th rf kn), (ro, eMR w hc a), (hc, eA cy f)] sz) t) (va_A [(h0, eM h1 h2 th rf kn), (ro, eMR w hc a), (hc, eA cy f)] sz)) 0 0 (va_A [(h0, eM h1 h2 th rf kn), (ro, eMR w hc a), (hc, eA cy f)] sz) := by
  refine Met.ofW (cc := cX5_end) (maxL := 4) (ret := (some .int)) (by decide +kernel) rfl ?_
  intro p e s m args below meth c s₁ B hml hv
  obtain ⟨rfl, hsz, hP, hK, hD0, hN, hG⟩ := hv
  have hx := B.exec
  have hb := B.bytes
  have hr := B.returns
  have hts := atoms_spec (ws := wsX5_end) B.pre
  have hown : s.vm.findClass RX5 = some m.cls := findClass_of_methodNamed B.named
  have hlocks := B.notSynchronized
  subst hsz
  have hAN : ∀ q, va_A [(h0, eM h1 h2 th rf kn), (ro, eMR w hc a), (hc, eA cy f)] s.heap.size q → N ≤ q := xA_N hD0 hN
  have hD := hD0.self (sz := s.heap.size)
  generalize hAe : va_A [(h0, eM h1 h2 th rf kn), (ro, eMR w hc a), (hc, eA cy f)] s.heap.size = A at hD hAN ⊢
  have hA : ∀ q : Nat, s.heap.size ≤ q → A q := fun q h => by rw [← hAe]; exact Or.inr h
  have hS : va_S A s.heap s.heap [] := va_S.rf
  have hP : va_P (dC, dI) xCl [(h0, eM h1 h2 th rf kn), (ro, eMR w hc a), (hc, eA cy f)] s.heap := hP
  have hl := lv_entry ([.ref h0, .ref ro, .int (b2i p1), .int p2]) (n := 4) (Nat.le_of_ble_eq_true rfl)
  rw [lg_entry_eq]
  generalize (lg_sl ([.ref h0, .ref ro, .int (b2i p1), .int p2]) ++ List.replicate (4 - (lg_sl ([.ref h0, .ref ro, .int (b2i p1), .int p2])).length) Slot.unset).toArray = ls at hl ⊢
  have hl : lv_has ls 4 [(0, .ref h0), (1, .ref ro), (2, .int (b2i p1)), (3, .int p2)] := hl
  refine lv_aload_n hx hb dX5_end_0 rfl (lv_at hl 0 rfl) ?_
  refine lv_iload_n hx hb dX5_end_1 rfl (lv_at hl 3 rfl) ?_
  have hPc := hP.sub (ws' := []) [] rfl
  have hKc := hK.sub (tys' := []) [] rfl
  refine va_calli (va_runS (As := [.int p2]) (rest := [.ref h0]) ⟨hx, hb, hml, hown, hts⟩ (k_X5_isNo l dC dI s.heap.size p2) (va_cwS 1 hts gX5_end_X5_isNo rfl rfl rfl (by decide +kernel) ⟨Nat.le_of_ble_eq_true rfl, Nat.le_of_ble_eq_true rfl⟩) (xB.preS hKc hPc) rfl rfl hl.1 rfl (lv_room (Nat.le_of_ble_eq_true rfl)) dX5_end_2 ⟨Nat.le_of_ble_eq_true rfl, Nat.le_of_ble_eq_true rfl⟩) hS xA_old (fun q h => hA q (Nat.le_trans hS.1 h)) (fun r_1 u t H locs ht hvm hw hB hz hk hS => ?_)
  replace hw : r_1 = b2i (o_X5_isNo p2) := hw
  subst r_1
  have hP := xP_keep hP hk
  refine lv_iconst (v := 0) hx hb dX5_end_5 (by decide +kernel) ?_
  have hPc := hP.sub (ws' := [(h0, eM h1 h2 th rf kn)]) [0] rfl
  have hDc := hD.sub (ws' := [(h0, eM h1 h2 th rf kn)]) [0] (by decide +kernel) rfl
  have hKc := hK.sub (tys' := []) [] rfl
  have hFc := va_free (wc := [(h0, eM h1 h2 th rf kn)]) hD hS hA [0] rfl
  refine va_calli (va_runV (As := [.int (b2i (o_X5_isNo p2)), .int 0]) (rest := []) ⟨hx, hb, hml, hown, hts⟩ (k_X5_fails l dC dI h0 h1 h2 th rf kn H.size N (o_X5_isNo p2) false) (cwV 2 hts gX5_end_X5_fails rfl rfl rfl (by decide +kernel) ⟨Nat.le_of_ble_eq_true rfl, Nat.le_of_ble_eq_true rfl⟩) (xM.preV hKc hPc hDc hAN (Nat.le_trans hN hS.1) (hG.kept hS hAN) (ci := 7) (q0 := 0) rfl rfl) rfl rfl hl.1 rfl (lv_room (Nat.le_of_ble_eq_true rfl)) dX5_end_6 ⟨Nat.le_of_ble_eq_true rfl, Nat.le_of_ble_eq_true rfl⟩) hS (fun q _ h => hFc q h) hFc (fun r_2 u t H locs ht hvm hw hB hz hk hS => ?_)
  replace hw : r_2 = b2i ((o_X5_fails (o_X5_isNo p2) false).1) := hw
  subst r_2
  obtain ⟨hP1, hD1⟩ := hB
  rw [ht] at hP1
  obtain ⟨hP, hD⟩ := va_join (wr := [(ro, eMR w hc a), (hc, eA cy f)]) (w1 := [(h0, eM h1 h2 (o_X5_fails (o_X5_isNo p2) false).2 rf kn)]) hP hD [0] [1, 2] rfl rfl (by decide +kernel) (by decide +kernel) hk hFc hP1 hD1
  have hP := hP.sub (ws' := [(h0, eM h1 h2 (o_X5_fails (o_X5_isNo p2) false).2 rf kn), (ro, eMR w hc a), (hc, eA cy f)]) [2, 0, 1] rfl
  have hD := hD.sub (ws' := [(h0, eM h1 h2 (o_X5_fails (o_X5_isNo p2) false).2 rf kn), (ro, eMR w hc a), (hc, eA cy f)]) [2, 0, 1] (by decide +kernel) rfl
  refine xz_eq (tgt := 16) hx hb dX5_end_9 (by decide +kernel) (fun c_3 => ?_) (fun c_3 => ?_)
  · skip
    refine lv_aload_n hx hb dX5_end_16 rfl (lv_at hl 1 rfl) ?_
    refine lv_iload_n hx hb dX5_end_17 rfl (lv_at hl 3 rfl) ?_
    refine lv_aload_n hx hb dX5_end_18 rfl (lv_at hl 1 rfl) ?_
    refine lv_iload_n hx hb dX5_end_19 rfl (lv_at hl 2 rfl) ?_
    have hPc := hP.sub (ws' := [(ro, eMR w hc a), (hc, eA cy f)]) [1, 2] rfl
    have hKc := hK.sub (tys' := [(cy, .long)]) [0] rfl
    refine va_calll (va_runV (As := [.int (b2i p1)]) (rest := [.int p2, .ref ro]) ⟨hx, hb, hml, hown, hts⟩ (k_X4_end l dC dI cy ro hc w a f H.size p1) (cwV 1 hts gX5_end_X4_end rfl rfl rfl (by decide +kernel) ⟨Nat.le_of_ble_eq_true rfl, Nat.le_of_ble_eq_true rfl⟩) (xB.preV hKc hPc (ci := 6) (q0 := 0) rfl rfl) rfl rfl hl.1 rfl (lv_room (Nat.le_of_ble_eq_true rfl)) dX5_end_20 ⟨Nat.le_of_ble_eq_true rfl, Nat.le_of_ble_eq_true rfl⟩) hS xA_old (fun q h => hA q (Nat.le_trans hS.1 h)) (fun r_4 u t H locs ht hvm hw hB hz hk hS => ?_)
    replace hw : r_4 = (o_X4_end w f p1) := hw
    subst r_4
    have hP := xP_keep hP hk
    have hPc := hP.sub (ws' := [(ro, eMR w hc a), (hc, eA cy f)]) [1, 2] rfl
    have hDc := hD.sub (ws' := [(ro, eMR w hc a), (hc, eA cy f)]) [1, 2] (by decide +kernel) rfl
    have hKc := hK.sub (tys' := [(cy, .long)]) [0] rfl
    have hFc := va_free (wc := [(ro, eMR w hc a), (hc, eA cy f)]) hD hS hA [1, 2] rfl
    refine va_calli (va_runV (As := [.int p2, .long (o_X4_end w f p1)]) (rest := []) ⟨hx, hb, hml, hown, hts⟩ (k_X4_come l dC dI cy ro hc w a f H.size N p2 (o_X4_end w f p1) (xm_isNo (xm_fails c_3))) (cwV 2 hts gX5_end_X4_come rfl rfl rfl (by decide +kernel) ⟨Nat.le_of_ble_eq_true rfl, Nat.le_of_ble_eq_true rfl⟩) (xM.preV hKc hPc hDc hAN (Nat.le_trans hN hS.1) (hG.kept hS hAN) (ci := 6) (q0 := 0) rfl rfl) rfl rfl hl.1 rfl (lv_room (Nat.le_of_ble_eq_true rfl)) dX5_end_23 ⟨Nat.le_of_ble_eq_true rfl, Nat.le_of_ble_eq_true rfl⟩) hS (fun q _ h => hFc q h) hFc (fun r_5 u t H locs ht hvm hw hB hz hk hS => ?_)
    replace hw : r_5 = (o_X4_come a f p2 (o_X4_end w f p1)).1 := hw
    subst r_5
    obtain ⟨hP1, hD1⟩ := hB
    rw [ht] at hP1
    obtain ⟨hP, hD⟩ := va_join (wr := [(h0, eM h1 h2 (o_X5_fails (o_X5_isNo p2) false).2 rf kn)]) (w1 := [(ro, eMR w hc (o_X4_come a f p2 (o_X4_end w f p1)).2.1), (hc, eA cy (o_X4_come a f p2 (o_X4_end w f p1)).2.2)]) hP hD [1, 2] [0] rfl rfl (by decide +kernel) (by decide +kernel) hk hFc hP1 hD1
    have hP := hP.sub (ws' := [(h0, eM h1 h2 (o_X5_fails (o_X5_isNo p2) false).2 rf kn), (ro, eMR w hc (o_X4_come a f p2 (o_X4_end w f p1)).2.1), (hc, eA cy (o_X4_come a f p2 (o_X4_end w f p1)).2.2)]) [0, 1, 2] rfl
    have hD := hD.sub (ws' := [(h0, eM h1 h2 (o_X5_fails (o_X5_isNo p2) false).2 rf kn), (ro, eMR w hc (o_X4_come a f p2 (o_X4_end w f p1)).2.1), (hc, eA cy (o_X4_come a f p2 (o_X4_end w f p1)).2.2)]) [0, 1, 2] (by decide +kernel) rfl
    have he : o_X5_end w a f p1 p2 = ((o_X4_come a f p2 (o_X4_end w f p1)).1, (o_X4_come a f p2 (o_X4_end w f p1)).2.1, (o_X4_come a f p2 (o_X4_end w f p1)).2.2, (o_X5_fails (o_X5_isNo p2) false).2) := by (rw [o_X5_end, if_neg c_3]) <;> rfl
    refine W.widen (k := 0) (n := 0) (by omega) (by omega) ?_
    exact W.iret (v := ((o_X4_come a f p2 (o_X4_end w f p1)).1)) hx hb hr (fun t ht hW => ⟨⟨_, (), rfl, (by (rw [he]) <;> rfl), (by rw [he]; exact ⟨by rw [ht]; exact hP, hD⟩)⟩, hS.F ht⟩) hS.2.2 dX5_end_26
  · skip
    refine lv_iconst (v := 0) hx hb dX5_end_12 (by decide +kernel) ?_
    refine lv_goto (tgt := 26) hx hb dX5_end_13 (by decide +kernel) ?_
    have he : o_X5_end w a f p1 p2 = (0, a, f, (o_X5_fails (o_X5_isNo p2) false).2) := by (rw [o_X5_end, if_pos c_3]) <;> rfl
    refine W.widen (k := 0) (n := 0) (by omega) (by omega) ?_
    exact W.iret (v := 0) hx hb hr (fun t ht hW => ⟨⟨_, (), rfl, (by (rw [he]) <;> rfl), (by rw [he]; exact ⟨by rw [ht]; exact hP, hD⟩)⟩, hS.F ht⟩) hS.2.2 dX5_end_26
theorem cl_X5_order_1 : ∀ w ∈ wsX5_order_r1, w ∈ wsX5_order := fun _ h => (List.mem_cons_of_mem _ (List.mem_append_left _ (List.mem_append_left _ (List.mem_append_left _ h))))
theorem cl_X5_order_2 : ∀ w ∈ wsX5_order_r2, w ∈ wsX5_order := fun _ h => (List.mem_cons_of_mem _ (List.mem_append_left _ (List.mem_append_left _ (List.mem_append_right _ h))))
theorem cl_X5_order_3 : ∀ w ∈ wsX40, w ∈ wsX5_order := fun _ h => (List.mem_cons_of_mem _ (List.mem_append_left _ (List.mem_append_right _ h)))
theorem cl_X5_order_4 : ∀ w ∈ wsX50, w ∈ wsX5_order := fun _ h => (List.mem_cons_of_mem _ (List.mem_append_right _ h))
set_option maxRecDepth 20000 in
theorem ggX5_order_X5_areNo : GoodIn wsX5_order wsX5_areNo := goodIn_sub (List.forall_mem_cons.mpr ⟨(cl_X5_order_1 _ (List.mem_of_getElem? (i := 4) rfl)), List.forall_mem_cons.mpr ⟨(cl_X5_order_1 _ (List.mem_of_getElem? (i := 5) rfl)), List.forall_mem_cons.mpr ⟨(cl_X5_order_1 _ (List.mem_of_getElem? (i := 6) rfl)), List.forall_mem_cons.mpr ⟨(cl_X5_order_1 _ (List.mem_of_getElem? (i := 3) rfl)), List.forall_mem_cons.mpr ⟨(cl_X5_order_1 _ (List.mem_of_getElem? (i := 7) rfl)), List.forall_mem_cons.mpr ⟨(cl_X5_order_1 _ (List.mem_of_getElem? (i := 8) rfl)), List.forall_mem_cons.mpr ⟨(cl_X5_order_1 _ (List.mem_of_getElem? (i := 9) rfl)), List.forall_mem_cons.mpr ⟨(cl_X5_order_1 _ (List.mem_of_getElem? (i := 10) rfl)), fun _ h => absurd h List.not_mem_nil⟩⟩⟩⟩⟩⟩⟩⟩) (by decide +kernel)
set_option maxRecDepth 20000 in
theorem gX5_order_X5_areNo : GoodIn wsX5_order (va_wsS RX5 70 yX5_areNo wsX5_areNo) := goodIn_app (goodIn_sub (List.forall_mem_cons.mpr ⟨(cl_X5_order_1 _ (List.mem_of_getElem? (i := 1) rfl)), List.forall_mem_cons.mpr ⟨(cl_X5_order_1 _ (List.mem_of_getElem? (i := 2) rfl)), List.forall_mem_cons.mpr ⟨(cl_X5_order_1 _ (List.mem_of_getElem? (i := 3) rfl)), fun _ h => absurd h List.not_mem_nil⟩⟩⟩) (by decide +kernel)) ggX5_order_X5_areNo
set_option maxRecDepth 20000 in
theorem ggX5_order_X5_isIn : GoodIn wsX5_order wsX5_isIn := goodIn_r _ [11] (by decide +kernel) (by decide +kernel)
set_option maxRecDepth 20000 in
theorem gX5_order_X5_isIn : GoodIn wsX5_order (va_wsS RX5 31 yX5_isIn wsX5_isIn) := goodIn_app (goodIn_sub (List.forall_mem_cons.mpr ⟨(cl_X5_order_1 _ (List.mem_of_getElem? (i := 8) rfl)), List.forall_mem_cons.mpr ⟨(cl_X5_order_1 _ (List.mem_of_getElem? (i := 9) rfl)), List.forall_mem_cons.mpr ⟨(cl_X5_order_1 _ (List.mem_of_getElem? (i := 3) rfl)), fun _ h => absurd h List.not_mem_nil⟩⟩⟩) (by decide +kernel)) ggX5_order_X5_isIn
set_option maxRecDepth 20000 in
theorem ggX5_order_X5_fails : GoodIn wsX5_order wsX5_fails := goodIn_sub (List.forall_mem_cons.mpr ⟨(cl_X5_order_1 _ (List.mem_of_getElem? (i := 14) rfl)), fun w h => (List.mem_append.mp h).elim ((List.forall_mem_cons.mpr ⟨(cl_X5_order_1 _ (List.mem_of_getElem? (i := 15) rfl)), fun _ h => absurd h List.not_mem_nil⟩) w) ((cl_X5_order_4) w)⟩) (by decide +kernel)
set_option maxRecDepth 20000 in
theorem gX5_order_X5_fails : GoodIn wsX5_order (wsV RX5 42 RX5 yX5_fails wsX5_fails) := goodIn_app (goodIn_sub (List.forall_mem_cons.mpr ⟨(cl_X5_order_1 _ (List.mem_of_getElem? (i := 11) rfl)), List.forall_mem_cons.mpr ⟨(cl_X5_order_1 _ (List.mem_of_getElem? (i := 12) rfl)), List.forall_mem_cons.mpr ⟨(cl_X5_order_1 _ (List.mem_of_getElem? (i := 13) rfl)), List.forall_mem_cons.mpr ⟨(cl_X5_order_1 _ (List.mem_of_getElem? (i := 3) rfl)), fun _ h => absurd h List.not_mem_nil⟩⟩⟩⟩) (by decide +kernel)) ggX5_order_X5_fails
set_option maxRecDepth 20000 in
theorem ggX5_order_X4_order : GoodIn wsX5_order wsX4_order := goodIn_sub (List.forall_mem_cons.mpr ⟨(cl_X5_order_1 _ (List.mem_of_getElem? (i := 20) rfl)), fun w h => (List.mem_append.mp h).elim ((List.forall_mem_cons.mpr ⟨(cl_X5_order_1 _ (List.mem_of_getElem? (i := 21) rfl)), List.forall_mem_cons.mpr ⟨(cl_X5_order_1 _ (List.mem_of_getElem? (i := 22) rfl)), List.forall_mem_cons.mpr ⟨(cl_X5_order_1 _ (List.mem_of_getElem? (i := 23) rfl)), List.forall_mem_cons.mpr ⟨(cl_X5_order_1 _ (List.mem_of_getElem? (i := 19) rfl)), List.forall_mem_cons.mpr ⟨(cl_X5_order_2 _ (List.mem_of_getElem? (i := 0) rfl)), List.forall_mem_cons.mpr ⟨(cl_X5_order_2 _ (List.mem_of_getElem? (i := 1) rfl)), List.forall_mem_cons.mpr ⟨(cl_X5_order_2 _ (List.mem_of_getElem? (i := 2) rfl)), List.forall_mem_cons.mpr ⟨(cl_X5_order_2 _ (List.mem_of_getElem? (i := 3) rfl)), List.forall_mem_cons.mpr ⟨(cl_X5_order_2 _ (List.mem_of_getElem? (i := 4) rfl)), List.forall_mem_cons.mpr ⟨(cl_X5_order_2 _ (List.mem_of_getElem? (i := 5) rfl)), List.forall_mem_cons.mpr ⟨(cl_X5_order_2 _ (List.mem_of_getElem? (i := 6) rfl)), List.forall_mem_cons.mpr ⟨(cl_X5_order_2 _ (List.mem_of_getElem? (i := 7) rfl)), List.forall_mem_cons.mpr ⟨(cl_X5_order_2 _ (List.mem_of_getElem? (i := 8) rfl)), List.forall_mem_cons.mpr ⟨(cl_X5_order_2 _ (List.mem_of_getElem? (i := 9) rfl)), List.forall_mem_cons.mpr ⟨(cl_X5_order_2 _ (List.mem_of_getElem? (i := 10) rfl)), List.forall_mem_cons.mpr ⟨(cl_X5_order_2 _ (List.mem_of_getElem? (i := 11) rfl)), List.forall_mem_cons.mpr ⟨(cl_X5_order_2 _ (List.mem_of_getElem? (i := 12) rfl)), List.forall_mem_cons.mpr ⟨(cl_X5_order_2 _ (List.mem_of_getElem? (i := 13) rfl)), List.forall_mem_cons.mpr ⟨(cl_X5_order_2 _ (List.mem_of_getElem? (i := 14) rfl)), List.forall_mem_cons.mpr ⟨(cl_X5_order_2 _ (List.mem_of_getElem? (i := 15) rfl)), fun _ h => absurd h List.not_mem_nil⟩⟩⟩⟩⟩⟩⟩⟩⟩⟩⟩⟩⟩⟩⟩⟩⟩⟩⟩⟩) w) ((cl_X5_order_3) w)⟩) (by decide +kernel)
set_option maxRecDepth 20000 in
theorem gX5_order_X4_order : GoodIn wsX5_order (wsV RX5 82 RX4 yX4_order wsX4_order) := goodIn_app (goodIn_sub (List.forall_mem_cons.mpr ⟨(cl_X5_order_1 _ (List.mem_of_getElem? (i := 16) rfl)), List.forall_mem_cons.mpr ⟨(cl_X5_order_1 _ (List.mem_of_getElem? (i := 17) rfl)), List.forall_mem_cons.mpr ⟨(cl_X5_order_1 _ (List.mem_of_getElem? (i := 18) rfl)), List.forall_mem_cons.mpr ⟨(cl_X5_order_1 _ (List.mem_of_getElem? (i := 19) rfl)), fun _ h => absurd h List.not_mem_nil⟩⟩⟩⟩) (by decide +kernel)) ggX5_order_X4_order
noncomputable def dz_p09_22 : List (Nat × Instr × Nat) := [(0, (.aload_n 0, 1)), (1, (.iload_n 2, 1)), (2, (.iload_n 3, 1)), (3, (.invokestatic 70, 3)), (6, (.iload 4, 2)), (8, (.iconst 0, 1)), (9, (.iconst 2, 1)), (10, (.invokestatic 31, 3)), (13, (.ifCond .ne 7, 3)), (16, (.iconst 1, 1)), (17, (.goto 4, 3)), (20, (.iconst 0, 1)), (21, (.invokevirtual 42, 3)), (24, (.ifCond .eq 7, 3)), (27, (.iconst 0, 1)), (28, (.goto 19, 3)), (31, (.aload_n 1, 1)), (32, (.aload_n 1, 1)), (33, (.getfield 74, 3)), (36, (.iload_n 2, 1)), (37, (.laload, 1)), (38, (.aload_n 1, 1)), (39, (.getfield 74, 3)), (42, (.iload_n 3, 1)), (43, (.laload, 1)), (44, (.invokevirtual 82, 3)), (47, (.ireturn, 1))]
theorem dy_p09_22 : dz_ok cX5_order dz_p09_22 = true := by decide +kernel
theorem dX5_order_0 : decode cX5_order 0 = .ok (.aload_n 0, 1) := dz_at (i := 0) dy_p09_22 rfl
theorem dX5_order_1 : decode cX5_order 1 = .ok (.iload_n 2, 1) := dz_at (i := 1) dy_p09_22 rfl
theorem dX5_order_2 : decode cX5_order 2 = .ok (.iload_n 3, 1) := dz_at (i := 2) dy_p09_22 rfl
theorem dX5_order_3 : decode cX5_order 3 = .ok (.invokestatic 70, 3) := dz_at (i := 3) dy_p09_22 rfl
theorem dX5_order_6 : decode cX5_order 6 = .ok (.iload 4, 2) := dz_at (i := 4) dy_p09_22 rfl
theorem dX5_order_8 : decode cX5_order 8 = .ok (.iconst 0, 1) := dz_at (i := 5) dy_p09_22 rfl
theorem dX5_order_9 : decode cX5_order 9 = .ok (.iconst 2, 1) := dz_at (i := 6) dy_p09_22 rfl
theorem dX5_order_10 : decode cX5_order 10 = .ok (.invokestatic 31, 3) := dz_at (i := 7) dy_p09_22 rfl
theorem dX5_order_13 : decode cX5_order 13 = .ok (.ifCond .ne 7, 3) := dz_at (i := 8) dy_p09_22 rfl
theorem dX5_order_16 : decode cX5_order 16 = .ok (.iconst 1, 1) := dz_at (i := 9) dy_p09_22 rfl
theorem dX5_order_17 : decode cX5_order 17 = .ok (.goto 4, 3) := dz_at (i := 10) dy_p09_22 rfl
theorem dX5_order_20 : decode cX5_order 20 = .ok (.iconst 0, 1) := dz_at (i := 11) dy_p09_22 rfl
theorem dX5_order_21 : decode cX5_order 21 = .ok (.invokevirtual 42, 3) := dz_at (i := 12) dy_p09_22 rfl
theorem dX5_order_24 : decode cX5_order 24 = .ok (.ifCond .eq 7, 3) := dz_at (i := 13) dy_p09_22 rfl
theorem dX5_order_27 : decode cX5_order 27 = .ok (.iconst 0, 1) := dz_at (i := 14) dy_p09_22 rfl
theorem dX5_order_28 : decode cX5_order 28 = .ok (.goto 19, 3) := dz_at (i := 15) dy_p09_22 rfl
theorem dX5_order_31 : decode cX5_order 31 = .ok (.aload_n 1, 1) := dz_at (i := 16) dy_p09_22 rfl
theorem dX5_order_32 : decode cX5_order 32 = .ok (.aload_n 1, 1) := dz_at (i := 17) dy_p09_22 rfl
theorem dX5_order_33 : decode cX5_order 33 = .ok (.getfield 74, 3) := dz_at (i := 18) dy_p09_22 rfl
theorem dX5_order_36 : decode cX5_order 36 = .ok (.iload_n 2, 1) := dz_at (i := 19) dy_p09_22 rfl
theorem dX5_order_37 : decode cX5_order 37 = .ok (.laload, 1) := dz_at (i := 20) dy_p09_22 rfl
theorem dX5_order_38 : decode cX5_order 38 = .ok (.aload_n 1, 1) := dz_at (i := 21) dy_p09_22 rfl
theorem dX5_order_39 : decode cX5_order 39 = .ok (.getfield 74, 3) := dz_at (i := 22) dy_p09_22 rfl
theorem dX5_order_42 : decode cX5_order 42 = .ok (.iload_n 3, 1) := dz_at (i := 23) dy_p09_22 rfl
theorem dX5_order_43 : decode cX5_order 43 = .ok (.laload, 1) := dz_at (i := 24) dy_p09_22 rfl
theorem dX5_order_44 : decode cX5_order 44 = .ok (.invokevirtual 82, 3) := dz_at (i := 25) dy_p09_22 rfl
theorem dX5_order_47 : decode cX5_order 47 = .ok (.ireturn, 1) := dz_at (i := 26) dy_p09_22 rfl
noncomputable def o_X5_order (w : Bool) (f : Nat → Int64) (p1 : Int32) (p2 : Int32) (p3 : Int32) : Int32 × Int32 :=
  if (o_X5_isIn p3 0 2) = true then (if (o_X5_fails (o_X5_areNo p1 p2) false).1 = true then (0, (o_X5_fails (o_X5_areNo p1 p2) false).2)
    else ((o_X4_order w (f p1.toNatClampNeg) (f p2.toNatClampNeg)), (o_X5_fails (o_X5_areNo p1 p2) false).2))
  else if (o_X5_fails (o_X5_areNo p1 p2) true).1 = true then (0, (o_X5_fails (o_X5_areNo p1 p2) true).2)
  else ((o_X4_order w (f p1.toNatClampNeg) (f p2.toNatClampNeg)), (o_X5_fails (o_X5_areNo p1 p2) true).2)
set_option maxHeartbeats 4000000 in
set_option maxRecDepth 100000 in
theorem k_X5_order (l : Launch) (dC : Nat → ClassId) (dI : Nat → Nat → Nat) (cy : ClassId) (h0 : Nat) (h1 : Nat) (h2 : Nat) (ro : Nat) (hc : Nat) (w : Bool) (a : Int32) (f : Nat → Int64) (th : Int32) (rf : Int32) (kn : Int32) (sz : Nat) (N : Nat) (p1 : Int32) (p2 : Int32) (p3 : Int32) : Met l yX5_order wsX5_order ({ frames := 4, cells := 0, slots := 0, locals := 88 }) (va_Pc [.ref h0, .ref ro, .int p1, .int p2, .int p3] (xM (dC, dI) xCl [(h0, eM h1 h2 th rf kn), (ro, eMR w hc a), (hc, eA cy f)] [(cy, .long)] sz N)) (va_Qi (fun (r : Int32) (_ : Unit) => r = (o_X5_order w f p1 p2 p3).1) (fun _ t => xW (dC, dI) xCl [(h0, eM h1 h2 (o_X5_order w f p1 p2 p3).2 rf kn), (ro, eMR w hc a), (hc, eA cy f)] (va_A [(h0, eM h1 h2 th rf kn), (ro, eMR w hc a), (hc, eA cy f)] sz) t) (va_A [(h0, eM h1 h2 th rf kn), (ro, eMR w hc a), (hc, eA cy f)] sz)) 0 0 (va_A [(h0, eM h1 h2 th rf kn), (ro, eMR w hc a), (hc, eA cy f)] sz) := by
  refine Met.ofW (cc := cX5_order) (maxL := 5) (ret := (some .int)) (by decide +kernel) rfl ?_
  intro p e s m args below meth c s₁ B hml hv
  obtain ⟨rfl, hsz, hP, hK, hD0, hN, hG⟩ := hv
  have hx := B.exec
  have hb := B.bytes
  have hr := B.returns
  have hts := atoms_spec (ws := wsX5_order) B.pre
  have hown : s.vm.findClass RX5 = some m.cls := findClass_of_methodNamed B.named
  have hlocks := B.notSynchronized
  subst hsz
  have hAN : ∀ q, va_A [(h0, eM h1 h2 th rf kn), (ro, eMR w hc a), (hc, eA cy f)] s.heap.size q → N ≤ q := xA_N hD0 hN
  have hD := hD0.self (sz := s.heap.size)
  generalize hAe : va_A [(h0, eM h1 h2 th rf kn), (ro, eMR w hc a), (hc, eA cy f)] s.heap.size = A at hD hAN ⊢
  have hA : ∀ q : Nat, s.heap.size ≤ q → A q := fun q h => by rw [← hAe]; exact Or.inr h
  have hS : va_S A s.heap s.heap [] := va_S.rf
  have hP : va_P (dC, dI) xCl [(h0, eM h1 h2 th rf kn), (ro, eMR w hc a), (hc, eA cy f)] s.heap := hP
  have hl := lv_entry ([.ref h0, .ref ro, .int p1, .int p2, .int p3]) (n := 5) (Nat.le_of_ble_eq_true rfl)
  rw [lg_entry_eq]
  generalize (lg_sl ([.ref h0, .ref ro, .int p1, .int p2, .int p3]) ++ List.replicate (5 - (lg_sl ([.ref h0, .ref ro, .int p1, .int p2, .int p3])).length) Slot.unset).toArray = ls at hl ⊢
  have hl : lv_has ls 5 [(0, .ref h0), (1, .ref ro), (2, .int p1), (3, .int p2), (4, .int p3)] := hl
  refine lv_aload_n hx hb dX5_order_0 rfl (lv_at hl 0 rfl) ?_
  refine lv_iload_n hx hb dX5_order_1 rfl (lv_at hl 2 rfl) ?_
  refine lv_iload_n hx hb dX5_order_2 rfl (lv_at hl 3 rfl) ?_
  have hPc := hP.sub (ws' := []) [] rfl
  have hKc := hK.sub (tys' := []) [] rfl
  refine va_calli (va_runS (As := [.int p1, .int p2]) (rest := [.ref h0]) ⟨hx, hb, hml, hown, hts⟩ (k_X5_areNo l dC dI s.heap.size p1 p2) (va_cwS 2 hts gX5_order_X5_areNo rfl rfl rfl (by decide +kernel) ⟨Nat.le_of_ble_eq_true rfl, Nat.le_of_ble_eq_true rfl⟩) (xB.preS hKc hPc) rfl rfl hl.1 rfl (lv_room (Nat.le_of_ble_eq_true rfl)) dX5_order_3 ⟨Nat.le_of_ble_eq_true rfl, Nat.le_of_ble_eq_true rfl⟩) hS xA_old (fun q h => hA q (Nat.le_trans hS.1 h)) (fun r_1 u t H locs ht hvm hw hB hz hk hS => ?_)
  replace hw : r_1 = b2i (o_X5_areNo p1 p2) := hw
  subst r_1
  have hP := xP_keep hP hk
  refine lv_iload hx hb dX5_order_6 (lv_at hl 4 rfl) ?_
  refine lv_iconst (v := 0) hx hb dX5_order_8 (by decide +kernel) ?_
  refine lv_iconst (v := 2) hx hb dX5_order_9 (by decide +kernel) ?_
  have hPc := hP.sub (ws' := []) [] rfl
  have hKc := hK.sub (tys' := []) [] rfl
  refine va_calli (va_runS (As := [.int p3, .int 0, .int 2]) (rest := [.int (b2i (o_X5_areNo p1 p2)), .ref h0]) ⟨hx, hb, hml, hown, hts⟩ (k_X5_isIn l dC dI H.size p3 0 2) (va_cwS 3 hts gX5_order_X5_isIn rfl rfl rfl (by decide +kernel) ⟨Nat.le_of_ble_eq_true rfl, Nat.le_of_ble_eq_true rfl⟩) (xB.preS hKc hPc) rfl rfl hl.1 rfl (lv_room (Nat.le_of_ble_eq_true rfl)) dX5_order_10 ⟨Nat.le_of_ble_eq_true rfl, Nat.le_of_ble_eq_true rfl⟩) hS xA_old (fun q h => hA q (Nat.le_trans hS.1 h)) (fun r_2 u t H locs ht hvm hw hB hz hk hS => ?_)
  replace hw : r_2 = b2i (o_X5_isIn p3 0 2) := hw
  subst r_2
  have hP := xP_keep hP hk
  refine xz_ne (tgt := 20) hx hb dX5_order_13 (by decide +kernel) (fun c_3 => ?_) (fun c_3 => ?_)
  · skip
    refine lv_iconst (v := 0) hx hb dX5_order_20 (by decide +kernel) ?_
    have hPc := hP.sub (ws' := [(h0, eM h1 h2 th rf kn)]) [0] rfl
    have hDc := hD.sub (ws' := [(h0, eM h1 h2 th rf kn)]) [0] (by decide +kernel) rfl
    have hKc := hK.sub (tys' := []) [] rfl
    have hFc := va_free (wc := [(h0, eM h1 h2 th rf kn)]) hD hS hA [0] rfl
    refine va_calli (va_runV (As := [.int (b2i (o_X5_areNo p1 p2)), .int 0]) (rest := []) ⟨hx, hb, hml, hown, hts⟩ (k_X5_fails l dC dI h0 h1 h2 th rf kn H.size N (o_X5_areNo p1 p2) false) (cwV 2 hts gX5_order_X5_fails rfl rfl rfl (by decide +kernel) ⟨Nat.le_of_ble_eq_true rfl, Nat.le_of_ble_eq_true rfl⟩) (xM.preV hKc hPc hDc hAN (Nat.le_trans hN hS.1) (hG.kept hS hAN) (ci := 7) (q0 := 0) rfl rfl) rfl rfl hl.1 rfl (lv_room (Nat.le_of_ble_eq_true rfl)) dX5_order_21 ⟨Nat.le_of_ble_eq_true rfl, Nat.le_of_ble_eq_true rfl⟩) hS (fun q _ h => hFc q h) hFc (fun r_4 u t H locs ht hvm hw hB hz hk hS => ?_)
    replace hw : r_4 = b2i ((o_X5_fails (o_X5_areNo p1 p2) false).1) := hw
    subst r_4
    obtain ⟨hP1, hD1⟩ := hB
    rw [ht] at hP1
    obtain ⟨hP, hD⟩ := va_join (wr := [(ro, eMR w hc a), (hc, eA cy f)]) (w1 := [(h0, eM h1 h2 (o_X5_fails (o_X5_areNo p1 p2) false).2 rf kn)]) hP hD [0] [1, 2] rfl rfl (by decide +kernel) (by decide +kernel) hk hFc hP1 hD1
    have hP := hP.sub (ws' := [(h0, eM h1 h2 (o_X5_fails (o_X5_areNo p1 p2) false).2 rf kn), (ro, eMR w hc a), (hc, eA cy f)]) [2, 0, 1] rfl
    have hD := hD.sub (ws' := [(h0, eM h1 h2 (o_X5_fails (o_X5_areNo p1 p2) false).2 rf kn), (ro, eMR w hc a), (hc, eA cy f)]) [2, 0, 1] (by decide +kernel) rfl
    refine xz_eq (tgt := 31) hx hb dX5_order_24 (by decide +kernel) (fun c_5 => ?_) (fun c_5 => ?_)
    · skip
      refine lv_aload_n hx hb dX5_order_31 rfl (lv_at hl 1 rfl) ?_
      refine lv_aload_n hx hb dX5_order_32 rfl (lv_at hl 1 rfl) ?_
      refine va_get (D := (dC, dI)) (ci := 6) (v := .ref hc) (C := RX4) (T := TX4) (N := 5) hx hb hts (by decide +kernel) hown hK hP 1 rfl rfl 3 (by decide +kernel) (hts (.fieldLink RX5 74 "EdgefloatsModel$Row" "cells" "[J") (by decide +kernel)) (fun _ h9 => h9) rfl dX5_order_33 ?_
      refine lv_iload_n hx hb dX5_order_36 rfl (lv_at hl 2 rfl) ?_
      refine xa_lald hx hb hK hP 2 0 (f := f) rfl rfl (k := p1.toNatClampNeg) (xm_areNo1 (xm_fails c_5)) rfl dX5_order_37 ?_
      refine lv_aload_n hx hb dX5_order_38 rfl (lv_at hl 1 rfl) ?_
      refine va_get (D := (dC, dI)) (ci := 6) (v := .ref hc) (C := RX4) (T := TX4) (N := 5) hx hb hts (by decide +kernel) hown hK hP 1 rfl rfl 3 (by decide +kernel) (hts (.fieldLink RX5 74 "EdgefloatsModel$Row" "cells" "[J") (by decide +kernel)) (fun _ h9 => h9) rfl dX5_order_39 ?_
      refine lv_iload_n hx hb dX5_order_42 rfl (lv_at hl 3 rfl) ?_
      refine xa_lald hx hb hK hP 2 0 (f := f) rfl rfl (k := p2.toNatClampNeg) (xm_areNo2 (xm_fails c_5)) rfl dX5_order_43 ?_
      have hPc := hP.sub (ws' := [(ro, eMR w hc a), (hc, eA cy f)]) [1, 2] rfl
      have hKc := hK.sub (tys' := [(cy, .long)]) [0] rfl
      refine va_calli (va_runV (As := [.long (f p1.toNatClampNeg), .long (f p2.toNatClampNeg)]) (rest := []) ⟨hx, hb, hml, hown, hts⟩ (k_X4_order l dC dI cy ro hc w a f H.size (f p1.toNatClampNeg) (f p2.toNatClampNeg)) (cwV 2 hts gX5_order_X4_order rfl rfl rfl (by decide +kernel) ⟨Nat.le_of_ble_eq_true rfl, Nat.le_of_ble_eq_true rfl⟩) (xB.preV hKc hPc (ci := 6) (q0 := 0) rfl rfl) rfl rfl hl.1 rfl (lv_room (Nat.le_of_ble_eq_true rfl)) dX5_order_44 ⟨Nat.le_of_ble_eq_true rfl, Nat.le_of_ble_eq_true rfl⟩) hS xA_old (fun q h => hA q (Nat.le_trans hS.1 h)) (fun r_6 u t H locs ht hvm hw hB hz hk hS => ?_)
      replace hw : r_6 = (o_X4_order w (f p1.toNatClampNeg) (f p2.toNatClampNeg)) := hw
      subst r_6
      have hP := xP_keep hP hk
      have he : o_X5_order w f p1 p2 p3 = ((o_X4_order w (f p1.toNatClampNeg) (f p2.toNatClampNeg)), (o_X5_fails (o_X5_areNo p1 p2) false).2) := by (rw [o_X5_order, if_pos c_3, if_neg c_5]) <;> rfl
      refine W.widen (k := 0) (n := 0) (by omega) (by omega) ?_
      exact W.iret (v := (o_X4_order w (f p1.toNatClampNeg) (f p2.toNatClampNeg))) hx hb hr (fun t ht hW => ⟨⟨_, (), rfl, (by (rw [he]) <;> rfl), (by rw [he]; exact ⟨by rw [ht]; exact hP, hD⟩)⟩, hS.F ht⟩) hS.2.2 dX5_order_47
    · skip
      refine lv_iconst (v := 0) hx hb dX5_order_27 (by decide +kernel) ?_
      refine lv_goto (tgt := 47) hx hb dX5_order_28 (by decide +kernel) ?_
      have he : o_X5_order w f p1 p2 p3 = (0, (o_X5_fails (o_X5_areNo p1 p2) false).2) := by (rw [o_X5_order, if_pos c_3, if_pos c_5]) <;> rfl
      refine W.widen (k := 0) (n := 0) (by omega) (by omega) ?_
      exact W.iret (v := 0) hx hb hr (fun t ht hW => ⟨⟨_, (), rfl, (by (rw [he]) <;> rfl), (by rw [he]; exact ⟨by rw [ht]; exact hP, hD⟩)⟩, hS.F ht⟩) hS.2.2 dX5_order_47
  · skip
    refine lv_iconst (v := 1) hx hb dX5_order_16 (by decide +kernel) ?_
    refine lv_goto (tgt := 21) hx hb dX5_order_17 (by decide +kernel) ?_
    have hPc := hP.sub (ws' := [(h0, eM h1 h2 th rf kn)]) [0] rfl
    have hDc := hD.sub (ws' := [(h0, eM h1 h2 th rf kn)]) [0] (by decide +kernel) rfl
    have hKc := hK.sub (tys' := []) [] rfl
    have hFc := va_free (wc := [(h0, eM h1 h2 th rf kn)]) hD hS hA [0] rfl
    refine va_calli (va_runV (As := [.int (b2i (o_X5_areNo p1 p2)), .int 1]) (rest := []) ⟨hx, hb, hml, hown, hts⟩ (k_X5_fails l dC dI h0 h1 h2 th rf kn H.size N (o_X5_areNo p1 p2) true) (cwV 2 hts gX5_order_X5_fails rfl rfl rfl (by decide +kernel) ⟨Nat.le_of_ble_eq_true rfl, Nat.le_of_ble_eq_true rfl⟩) (xM.preV hKc hPc hDc hAN (Nat.le_trans hN hS.1) (hG.kept hS hAN) (ci := 7) (q0 := 0) rfl rfl) rfl rfl hl.1 rfl (lv_room (Nat.le_of_ble_eq_true rfl)) dX5_order_21 ⟨Nat.le_of_ble_eq_true rfl, Nat.le_of_ble_eq_true rfl⟩) hS (fun q _ h => hFc q h) hFc (fun r_7 u t H locs ht hvm hw hB hz hk hS => ?_)
    replace hw : r_7 = b2i ((o_X5_fails (o_X5_areNo p1 p2) true).1) := hw
    subst r_7
    obtain ⟨hP1, hD1⟩ := hB
    rw [ht] at hP1
    obtain ⟨hP, hD⟩ := va_join (wr := [(ro, eMR w hc a), (hc, eA cy f)]) (w1 := [(h0, eM h1 h2 (o_X5_fails (o_X5_areNo p1 p2) true).2 rf kn)]) hP hD [0] [1, 2] rfl rfl (by decide +kernel) (by decide +kernel) hk hFc hP1 hD1
    have hP := hP.sub (ws' := [(h0, eM h1 h2 (o_X5_fails (o_X5_areNo p1 p2) true).2 rf kn), (ro, eMR w hc a), (hc, eA cy f)]) [2, 0, 1] rfl
    have hD := hD.sub (ws' := [(h0, eM h1 h2 (o_X5_fails (o_X5_areNo p1 p2) true).2 rf kn), (ro, eMR w hc a), (hc, eA cy f)]) [2, 0, 1] (by decide +kernel) rfl
    refine xz_eq (tgt := 31) hx hb dX5_order_24 (by decide +kernel) (fun c_8 => ?_) (fun c_8 => ?_)
    · skip
      refine lv_aload_n hx hb dX5_order_31 rfl (lv_at hl 1 rfl) ?_
      refine lv_aload_n hx hb dX5_order_32 rfl (lv_at hl 1 rfl) ?_
      refine va_get (D := (dC, dI)) (ci := 6) (v := .ref hc) (C := RX4) (T := TX4) (N := 5) hx hb hts (by decide +kernel) hown hK hP 1 rfl rfl 3 (by decide +kernel) (hts (.fieldLink RX5 74 "EdgefloatsModel$Row" "cells" "[J") (by decide +kernel)) (fun _ h9 => h9) rfl dX5_order_33 ?_
      refine lv_iload_n hx hb dX5_order_36 rfl (lv_at hl 2 rfl) ?_
      refine xa_lald hx hb hK hP 2 0 (f := f) rfl rfl (k := p1.toNatClampNeg) (xm_areNo1 (xm_fails c_8)) rfl dX5_order_37 ?_
      refine lv_aload_n hx hb dX5_order_38 rfl (lv_at hl 1 rfl) ?_
      refine va_get (D := (dC, dI)) (ci := 6) (v := .ref hc) (C := RX4) (T := TX4) (N := 5) hx hb hts (by decide +kernel) hown hK hP 1 rfl rfl 3 (by decide +kernel) (hts (.fieldLink RX5 74 "EdgefloatsModel$Row" "cells" "[J") (by decide +kernel)) (fun _ h9 => h9) rfl dX5_order_39 ?_
      refine lv_iload_n hx hb dX5_order_42 rfl (lv_at hl 3 rfl) ?_
      refine xa_lald hx hb hK hP 2 0 (f := f) rfl rfl (k := p2.toNatClampNeg) (xm_areNo2 (xm_fails c_8)) rfl dX5_order_43 ?_
      have hPc := hP.sub (ws' := [(ro, eMR w hc a), (hc, eA cy f)]) [1, 2] rfl
      have hKc := hK.sub (tys' := [(cy, .long)]) [0] rfl
      refine va_calli (va_runV (As := [.long (f p1.toNatClampNeg), .long (f p2.toNatClampNeg)]) (rest := []) ⟨hx, hb, hml, hown, hts⟩ (k_X4_order l dC dI cy ro hc w a f H.size (f p1.toNatClampNeg) (f p2.toNatClampNeg)) (cwV 2 hts gX5_order_X4_order rfl rfl rfl (by decide +kernel) ⟨Nat.le_of_ble_eq_true rfl, Nat.le_of_ble_eq_true rfl⟩) (xB.preV hKc hPc (ci := 6) (q0 := 0) rfl rfl) rfl rfl hl.1 rfl (lv_room (Nat.le_of_ble_eq_true rfl)) dX5_order_44 ⟨Nat.le_of_ble_eq_true rfl, Nat.le_of_ble_eq_true rfl⟩) hS xA_old (fun q h => hA q (Nat.le_trans hS.1 h)) (fun r_9 u t H locs ht hvm hw hB hz hk hS => ?_)
      replace hw : r_9 = (o_X4_order w (f p1.toNatClampNeg) (f p2.toNatClampNeg)) := hw
      subst r_9
      have hP := xP_keep hP hk
      have he : o_X5_order w f p1 p2 p3 = ((o_X4_order w (f p1.toNatClampNeg) (f p2.toNatClampNeg)), (o_X5_fails (o_X5_areNo p1 p2) true).2) := by (rw [o_X5_order, if_neg c_3, if_neg c_8]) <;> rfl
      refine W.widen (k := 0) (n := 0) (by omega) (by omega) ?_
      exact W.iret (v := (o_X4_order w (f p1.toNatClampNeg) (f p2.toNatClampNeg))) hx hb hr (fun t ht hW => ⟨⟨_, (), rfl, (by (rw [he]) <;> rfl), (by rw [he]; exact ⟨by rw [ht]; exact hP, hD⟩)⟩, hS.F ht⟩) hS.2.2 dX5_order_47
    · skip
      refine lv_iconst (v := 0) hx hb dX5_order_27 (by decide +kernel) ?_
      refine lv_goto (tgt := 47) hx hb dX5_order_28 (by decide +kernel) ?_
      have he : o_X5_order w f p1 p2 p3 = (0, (o_X5_fails (o_X5_areNo p1 p2) true).2) := by (rw [o_X5_order, if_neg c_3, if_pos c_8]) <;> rfl
      refine W.widen (k := 0) (n := 0) (by omega) (by omega) ?_
      exact W.iret (v := 0) hx hb hr (fun t ht hW => ⟨⟨_, (), rfl, (by (rw [he]) <;> rfl), (by rw [he]; exact ⟨by rw [ht]; exact hP, hD⟩)⟩, hS.F ht⟩) hS.2.2 dX5_order_47
theorem cl_X5_same_1 : ∀ w ∈ [.fieldLink RX5 74 "EdgefloatsModel$Row" "cells" "[J", .methodLink RX5 70 yX5_areNo, .static yX5_areNo, .initialized RX5, .code yX5_areNo cX5_areNo 2 (some .boolean), .methodLink RX5 35 yX5_isNo, .static yX5_isNo, .code yX5_isNo cX5_isNo 1 (some .boolean), .methodLink RX5 31 yX5_isIn, .static yX5_isIn, .code yX5_isIn cX5_isIn 3 (some .boolean), .methodLink RX5 42 yX5_fails, .instanceMethod yX5_fails, .selects RX5 yX5_fails yX5_fails, .code yX5_fails cX5_fails 3 (some .boolean), .fieldLink RX5 27 "EdgefloatsModel" "thrown" "I"], w ∈ wsX5_same := fun _ h => (List.mem_cons_of_mem _ (List.mem_append_left _ (List.mem_append_left _ h)))
theorem cl_X5_same_2 : ∀ w ∈ wsX40, w ∈ wsX5_same := fun _ h => (List.mem_cons_of_mem _ (List.mem_append_left _ (List.mem_append_right _ h)))
theorem cl_X5_same_3 : ∀ w ∈ wsX50, w ∈ wsX5_same := fun _ h => (List.mem_cons_of_mem _ (List.mem_append_right _ h))
set_option maxRecDepth 20000 in
theorem ggX5_same_X5_areNo : GoodIn wsX5_same wsX5_areNo := goodIn_sub (List.forall_mem_cons.mpr ⟨(cl_X5_same_1 _ (List.mem_of_getElem? (i := 4) rfl)), List.forall_mem_cons.mpr ⟨(cl_X5_same_1 _ (List.mem_of_getElem? (i := 5) rfl)), List.forall_mem_cons.mpr ⟨(cl_X5_same_1 _ (List.mem_of_getElem? (i := 6) rfl)), List.forall_mem_cons.mpr ⟨(cl_X5_same_1 _ (List.mem_of_getElem? (i := 3) rfl)), List.forall_mem_cons.mpr ⟨(cl_X5_same_1 _ (List.mem_of_getElem? (i := 7) rfl)), List.forall_mem_cons.mpr ⟨(cl_X5_same_1 _ (List.mem_of_getElem? (i := 8) rfl)), List.forall_mem_cons.mpr ⟨(cl_X5_same_1 _ (List.mem_of_getElem? (i := 9) rfl)), List.forall_mem_cons.mpr ⟨(cl_X5_same_1 _ (List.mem_of_getElem? (i := 10) rfl)), fun _ h => absurd h List.not_mem_nil⟩⟩⟩⟩⟩⟩⟩⟩) (by decide +kernel)
set_option maxRecDepth 20000 in
theorem gX5_same_X5_areNo : GoodIn wsX5_same (va_wsS RX5 70 yX5_areNo wsX5_areNo) := goodIn_app (goodIn_sub (List.forall_mem_cons.mpr ⟨(cl_X5_same_1 _ (List.mem_of_getElem? (i := 1) rfl)), List.forall_mem_cons.mpr ⟨(cl_X5_same_1 _ (List.mem_of_getElem? (i := 2) rfl)), List.forall_mem_cons.mpr ⟨(cl_X5_same_1 _ (List.mem_of_getElem? (i := 3) rfl)), fun _ h => absurd h List.not_mem_nil⟩⟩⟩) (by decide +kernel)) ggX5_same_X5_areNo
set_option maxRecDepth 20000 in
theorem ggX5_same_X5_isIn : GoodIn wsX5_same wsX5_isIn := goodIn_r _ [11] (by decide +kernel) (by decide +kernel)
set_option maxRecDepth 20000 in
theorem gX5_same_X5_isIn : GoodIn wsX5_same (va_wsS RX5 31 yX5_isIn wsX5_isIn) := goodIn_app (goodIn_sub (List.forall_mem_cons.mpr ⟨(cl_X5_same_1 _ (List.mem_of_getElem? (i := 8) rfl)), List.forall_mem_cons.mpr ⟨(cl_X5_same_1 _ (List.mem_of_getElem? (i := 9) rfl)), List.forall_mem_cons.mpr ⟨(cl_X5_same_1 _ (List.mem_of_getElem? (i := 3) rfl)), fun _ h => absurd h List.not_mem_nil⟩⟩⟩) (by decide +kernel)) ggX5_same_X5_isIn
set_option maxRecDepth 20000 in
theorem ggX5_same_X5_fails : GoodIn wsX5_same wsX5_fails := goodIn_sub (List.forall_mem_cons.mpr ⟨(cl_X5_same_1 _ (List.mem_of_getElem? (i := 14) rfl)), fun w h => (List.mem_append.mp h).elim ((List.forall_mem_cons.mpr ⟨(cl_X5_same_1 _ (List.mem_of_getElem? (i := 15) rfl)), fun _ h => absurd h List.not_mem_nil⟩) w) ((cl_X5_same_3) w)⟩) (by decide +kernel)
set_option maxRecDepth 20000 in
theorem gX5_same_X5_fails : GoodIn wsX5_same (wsV RX5 42 RX5 yX5_fails wsX5_fails) := goodIn_app (goodIn_sub (List.forall_mem_cons.mpr ⟨(cl_X5_same_1 _ (List.mem_of_getElem? (i := 11) rfl)), List.forall_mem_cons.mpr ⟨(cl_X5_same_1 _ (List.mem_of_getElem? (i := 12) rfl)), List.forall_mem_cons.mpr ⟨(cl_X5_same_1 _ (List.mem_of_getElem? (i := 13) rfl)), List.forall_mem_cons.mpr ⟨(cl_X5_same_1 _ (List.mem_of_getElem? (i := 3) rfl)), fun _ h => absurd h List.not_mem_nil⟩⟩⟩⟩) (by decide +kernel)) ggX5_same_X5_fails
noncomputable def dz_p09_23 : List (Nat × Instr × Nat) := [(0, (.aload_n 0, 1)), (1, (.iload_n 2, 1)), (2, (.iload_n 3, 1)), (3, (.invokestatic 70, 3)), (6, (.iload 4, 2)), (8, (.iconst 0, 1)), (9, (.iconst 2, 1)), (10, (.invokestatic 31, 3)), (13, (.ifCond .ne 7, 3)), (16, (.iconst 1, 1)), (17, (.goto 4, 3)), (20, (.iconst 0, 1)), (21, (.invokevirtual 42, 3)), (24, (.ifCond .ne 23, 3)), (27, (.aload_n 1, 1)), (28, (.getfield 74, 3)), (31, (.iload_n 2, 1)), (32, (.laload, 1)), (33, (.aload_n 1, 1)), (34, (.getfield 74, 3)), (37, (.iload_n 3, 1)), (38, (.laload, 1)), (39, (.lcmp, 1)), (40, (.ifCond .ne 7, 3)), (43, (.iconst 1, 1)), (44, (.goto 4, 3)), (47, (.iconst 0, 1)), (48, (.ireturn, 1))]
theorem dy_p09_23 : dz_ok cX5_same dz_p09_23 = true := by decide +kernel
theorem dX5_same_0 : decode cX5_same 0 = .ok (.aload_n 0, 1) := dz_at (i := 0) dy_p09_23 rfl
theorem dX5_same_1 : decode cX5_same 1 = .ok (.iload_n 2, 1) := dz_at (i := 1) dy_p09_23 rfl
theorem dX5_same_2 : decode cX5_same 2 = .ok (.iload_n 3, 1) := dz_at (i := 2) dy_p09_23 rfl
theorem dX5_same_3 : decode cX5_same 3 = .ok (.invokestatic 70, 3) := dz_at (i := 3) dy_p09_23 rfl
theorem dX5_same_6 : decode cX5_same 6 = .ok (.iload 4, 2) := dz_at (i := 4) dy_p09_23 rfl
theorem dX5_same_8 : decode cX5_same 8 = .ok (.iconst 0, 1) := dz_at (i := 5) dy_p09_23 rfl
theorem dX5_same_9 : decode cX5_same 9 = .ok (.iconst 2, 1) := dz_at (i := 6) dy_p09_23 rfl
theorem dX5_same_10 : decode cX5_same 10 = .ok (.invokestatic 31, 3) := dz_at (i := 7) dy_p09_23 rfl
theorem dX5_same_13 : decode cX5_same 13 = .ok (.ifCond .ne 7, 3) := dz_at (i := 8) dy_p09_23 rfl
theorem dX5_same_16 : decode cX5_same 16 = .ok (.iconst 1, 1) := dz_at (i := 9) dy_p09_23 rfl
theorem dX5_same_17 : decode cX5_same 17 = .ok (.goto 4, 3) := dz_at (i := 10) dy_p09_23 rfl
theorem dX5_same_20 : decode cX5_same 20 = .ok (.iconst 0, 1) := dz_at (i := 11) dy_p09_23 rfl
theorem dX5_same_21 : decode cX5_same 21 = .ok (.invokevirtual 42, 3) := dz_at (i := 12) dy_p09_23 rfl
theorem dX5_same_24 : decode cX5_same 24 = .ok (.ifCond .ne 23, 3) := dz_at (i := 13) dy_p09_23 rfl
theorem dX5_same_27 : decode cX5_same 27 = .ok (.aload_n 1, 1) := dz_at (i := 14) dy_p09_23 rfl
theorem dX5_same_28 : decode cX5_same 28 = .ok (.getfield 74, 3) := dz_at (i := 15) dy_p09_23 rfl
theorem dX5_same_31 : decode cX5_same 31 = .ok (.iload_n 2, 1) := dz_at (i := 16) dy_p09_23 rfl
theorem dX5_same_32 : decode cX5_same 32 = .ok (.laload, 1) := dz_at (i := 17) dy_p09_23 rfl
theorem dX5_same_33 : decode cX5_same 33 = .ok (.aload_n 1, 1) := dz_at (i := 18) dy_p09_23 rfl
theorem dX5_same_34 : decode cX5_same 34 = .ok (.getfield 74, 3) := dz_at (i := 19) dy_p09_23 rfl
theorem dX5_same_37 : decode cX5_same 37 = .ok (.iload_n 3, 1) := dz_at (i := 20) dy_p09_23 rfl
theorem dX5_same_38 : decode cX5_same 38 = .ok (.laload, 1) := dz_at (i := 21) dy_p09_23 rfl
theorem dX5_same_39 : decode cX5_same 39 = .ok (.lcmp, 1) := dz_at (i := 22) dy_p09_23 rfl
theorem dX5_same_40 : decode cX5_same 40 = .ok (.ifCond .ne 7, 3) := dz_at (i := 23) dy_p09_23 rfl
theorem dX5_same_43 : decode cX5_same 43 = .ok (.iconst 1, 1) := dz_at (i := 24) dy_p09_23 rfl
theorem dX5_same_44 : decode cX5_same 44 = .ok (.goto 4, 3) := dz_at (i := 25) dy_p09_23 rfl
theorem dX5_same_47 : decode cX5_same 47 = .ok (.iconst 0, 1) := dz_at (i := 26) dy_p09_23 rfl
theorem dX5_same_48 : decode cX5_same 48 = .ok (.ireturn, 1) := dz_at (i := 27) dy_p09_23 rfl
noncomputable def o_X5_same (f : Nat → Int64) (p1 : Int32) (p2 : Int32) (p3 : Int32) : Bool × Int32 :=
  if (o_X5_isIn p3 0 2) = true then (if (o_X5_fails (o_X5_areNo p1 p2) false).1 = true then (false, (o_X5_fails (o_X5_areNo p1 p2) false).2)
    else if (f p1.toNatClampNeg) = (f p2.toNatClampNeg) then (true, (o_X5_fails (o_X5_areNo p1 p2) false).2)
    else (false, (o_X5_fails (o_X5_areNo p1 p2) false).2))
  else if (o_X5_fails (o_X5_areNo p1 p2) true).1 = true then (false, (o_X5_fails (o_X5_areNo p1 p2) true).2)
  else if (f p1.toNatClampNeg) = (f p2.toNatClampNeg) then (true, (o_X5_fails (o_X5_areNo p1 p2) true).2)
  else (false, (o_X5_fails (o_X5_areNo p1 p2) true).2)
set_option maxHeartbeats 4000000 in
set_option maxRecDepth 100000 in
theorem k_X5_same (l : Launch) (dC : Nat → ClassId) (dI : Nat → Nat → Nat) (cy : ClassId) (h0 : Nat) (h1 : Nat) (h2 : Nat) (ro : Nat) (hc : Nat) (w : Bool) (a : Int32) (f : Nat → Int64) (th : Int32) (rf : Int32) (kn : Int32) (sz : Nat) (N : Nat) (p1 : Int32) (p2 : Int32) (p3 : Int32) : Met l yX5_same wsX5_same ({ frames := 3, cells := 0, slots := 0, locals := 63 }) (va_Pc [.ref h0, .ref ro, .int p1, .int p2, .int p3] (xM (dC, dI) xCl [(h0, eM h1 h2 th rf kn), (ro, eMR w hc a), (hc, eA cy f)] [(cy, .long)] sz N)) (va_Qi (fun (r : Int32) (_ : Unit) => r = b2i ((o_X5_same f p1 p2 p3).1)) (fun _ t => xW (dC, dI) xCl [(h0, eM h1 h2 (o_X5_same f p1 p2 p3).2 rf kn), (ro, eMR w hc a), (hc, eA cy f)] (va_A [(h0, eM h1 h2 th rf kn), (ro, eMR w hc a), (hc, eA cy f)] sz) t) (va_A [(h0, eM h1 h2 th rf kn), (ro, eMR w hc a), (hc, eA cy f)] sz)) 0 0 (va_A [(h0, eM h1 h2 th rf kn), (ro, eMR w hc a), (hc, eA cy f)] sz) := by
  refine Met.ofW (cc := cX5_same) (maxL := 5) (ret := (some .boolean)) (by decide +kernel) rfl ?_
  intro p e s m args below meth c s₁ B hml hv
  obtain ⟨rfl, hsz, hP, hK, hD0, hN, hG⟩ := hv
  have hx := B.exec
  have hb := B.bytes
  have hr := B.returns
  have hts := atoms_spec (ws := wsX5_same) B.pre
  have hown : s.vm.findClass RX5 = some m.cls := findClass_of_methodNamed B.named
  have hlocks := B.notSynchronized
  subst hsz
  have hAN : ∀ q, va_A [(h0, eM h1 h2 th rf kn), (ro, eMR w hc a), (hc, eA cy f)] s.heap.size q → N ≤ q := xA_N hD0 hN
  have hD := hD0.self (sz := s.heap.size)
  generalize hAe : va_A [(h0, eM h1 h2 th rf kn), (ro, eMR w hc a), (hc, eA cy f)] s.heap.size = A at hD hAN ⊢
  have hA : ∀ q : Nat, s.heap.size ≤ q → A q := fun q h => by rw [← hAe]; exact Or.inr h
  have hS : va_S A s.heap s.heap [] := va_S.rf
  have hP : va_P (dC, dI) xCl [(h0, eM h1 h2 th rf kn), (ro, eMR w hc a), (hc, eA cy f)] s.heap := hP
  have hl := lv_entry ([.ref h0, .ref ro, .int p1, .int p2, .int p3]) (n := 5) (Nat.le_of_ble_eq_true rfl)
  rw [lg_entry_eq]
  generalize (lg_sl ([.ref h0, .ref ro, .int p1, .int p2, .int p3]) ++ List.replicate (5 - (lg_sl ([.ref h0, .ref ro, .int p1, .int p2, .int p3])).length) Slot.unset).toArray = ls at hl ⊢
  have hl : lv_has ls 5 [(0, .ref h0), (1, .ref ro), (2, .int p1), (3, .int p2), (4, .int p3)] := hl
  refine lv_aload_n hx hb dX5_same_0 rfl (lv_at hl 0 rfl) ?_
  refine lv_iload_n hx hb dX5_same_1 rfl (lv_at hl 2 rfl) ?_
  refine lv_iload_n hx hb dX5_same_2 rfl (lv_at hl 3 rfl) ?_
  have hPc := hP.sub (ws' := []) [] rfl
  have hKc := hK.sub (tys' := []) [] rfl
  refine va_calli (va_runS (As := [.int p1, .int p2]) (rest := [.ref h0]) ⟨hx, hb, hml, hown, hts⟩ (k_X5_areNo l dC dI s.heap.size p1 p2) (va_cwS 2 hts gX5_same_X5_areNo rfl rfl rfl (by decide +kernel) ⟨Nat.le_of_ble_eq_true rfl, Nat.le_of_ble_eq_true rfl⟩) (xB.preS hKc hPc) rfl rfl hl.1 rfl (lv_room (Nat.le_of_ble_eq_true rfl)) dX5_same_3 ⟨Nat.le_of_ble_eq_true rfl, Nat.le_of_ble_eq_true rfl⟩) hS xA_old (fun q h => hA q (Nat.le_trans hS.1 h)) (fun r_1 u t H locs ht hvm hw hB hz hk hS => ?_)
  replace hw : r_1 = b2i (o_X5_areNo p1 p2) := hw
  subst r_1
  have hP := xP_keep hP hk
  refine lv_iload hx hb dX5_same_6 (lv_at hl 4 rfl) ?_
  refine lv_iconst (v := 0) hx hb dX5_same_8 (by decide +kernel) ?_
  refine lv_iconst (v := 2) hx hb dX5_same_9 (by decide +kernel) ?_
  have hPc := hP.sub (ws' := []) [] rfl
  have hKc := hK.sub (tys' := []) [] rfl
  refine va_calli (va_runS (As := [.int p3, .int 0, .int 2]) (rest := [.int (b2i (o_X5_areNo p1 p2)), .ref h0]) ⟨hx, hb, hml, hown, hts⟩ (k_X5_isIn l dC dI H.size p3 0 2) (va_cwS 3 hts gX5_same_X5_isIn rfl rfl rfl (by decide +kernel) ⟨Nat.le_of_ble_eq_true rfl, Nat.le_of_ble_eq_true rfl⟩) (xB.preS hKc hPc) rfl rfl hl.1 rfl (lv_room (Nat.le_of_ble_eq_true rfl)) dX5_same_10 ⟨Nat.le_of_ble_eq_true rfl, Nat.le_of_ble_eq_true rfl⟩) hS xA_old (fun q h => hA q (Nat.le_trans hS.1 h)) (fun r_2 u t H locs ht hvm hw hB hz hk hS => ?_)
  replace hw : r_2 = b2i (o_X5_isIn p3 0 2) := hw
  subst r_2
  have hP := xP_keep hP hk
  refine xz_ne (tgt := 20) hx hb dX5_same_13 (by decide +kernel) (fun c_3 => ?_) (fun c_3 => ?_)
  · skip
    refine lv_iconst (v := 0) hx hb dX5_same_20 (by decide +kernel) ?_
    have hPc := hP.sub (ws' := [(h0, eM h1 h2 th rf kn)]) [0] rfl
    have hDc := hD.sub (ws' := [(h0, eM h1 h2 th rf kn)]) [0] (by decide +kernel) rfl
    have hKc := hK.sub (tys' := []) [] rfl
    have hFc := va_free (wc := [(h0, eM h1 h2 th rf kn)]) hD hS hA [0] rfl
    refine va_calli (va_runV (As := [.int (b2i (o_X5_areNo p1 p2)), .int 0]) (rest := []) ⟨hx, hb, hml, hown, hts⟩ (k_X5_fails l dC dI h0 h1 h2 th rf kn H.size N (o_X5_areNo p1 p2) false) (cwV 2 hts gX5_same_X5_fails rfl rfl rfl (by decide +kernel) ⟨Nat.le_of_ble_eq_true rfl, Nat.le_of_ble_eq_true rfl⟩) (xM.preV hKc hPc hDc hAN (Nat.le_trans hN hS.1) (hG.kept hS hAN) (ci := 7) (q0 := 0) rfl rfl) rfl rfl hl.1 rfl (lv_room (Nat.le_of_ble_eq_true rfl)) dX5_same_21 ⟨Nat.le_of_ble_eq_true rfl, Nat.le_of_ble_eq_true rfl⟩) hS (fun q _ h => hFc q h) hFc (fun r_4 u t H locs ht hvm hw hB hz hk hS => ?_)
    replace hw : r_4 = b2i ((o_X5_fails (o_X5_areNo p1 p2) false).1) := hw
    subst r_4
    obtain ⟨hP1, hD1⟩ := hB
    rw [ht] at hP1
    obtain ⟨hP, hD⟩ := va_join (wr := [(ro, eMR w hc a), (hc, eA cy f)]) (w1 := [(h0, eM h1 h2 (o_X5_fails (o_X5_areNo p1 p2) false).2 rf kn)]) hP hD [0] [1, 2] rfl rfl (by decide +kernel) (by decide +kernel) hk hFc hP1 hD1
    have hP := hP.sub (ws' := [(h0, eM h1 h2 (o_X5_fails (o_X5_areNo p1 p2) false).2 rf kn), (ro, eMR w hc a), (hc, eA cy f)]) [2, 0, 1] rfl
    have hD := hD.sub (ws' := [(h0, eM h1 h2 (o_X5_fails (o_X5_areNo p1 p2) false).2 rf kn), (ro, eMR w hc a), (hc, eA cy f)]) [2, 0, 1] (by decide +kernel) rfl
    refine xz_ne (tgt := 47) hx hb dX5_same_24 (by decide +kernel) (fun c_5 => ?_) (fun c_5 => ?_)
    · skip
      refine lv_iconst (v := 0) hx hb dX5_same_47 (by decide +kernel) ?_
      have he : o_X5_same f p1 p2 p3 = (false, (o_X5_fails (o_X5_areNo p1 p2) false).2) := by (rw [o_X5_same, if_pos c_3, if_pos c_5]) <;> rfl
      refine W.widen (k := 0) (n := 0) (by omega) (by omega) ?_
      exact W.zret (v := 0) (ty := .boolean) hx hb hr rfl (fun t ht hW => ⟨⟨_, (), rfl, (by (rw [he]) <;> rfl), (by rw [he]; exact ⟨by rw [ht]; exact hP, hD⟩)⟩, hS.F ht⟩) hS.2.2 dX5_same_48
    · skip
      refine lv_aload_n hx hb dX5_same_27 rfl (lv_at hl 1 rfl) ?_
      refine va_get (D := (dC, dI)) (ci := 6) (v := .ref hc) (C := RX4) (T := TX4) (N := 5) hx hb hts (by decide +kernel) hown hK hP 1 rfl rfl 3 (by decide +kernel) (hts (.fieldLink RX5 74 "EdgefloatsModel$Row" "cells" "[J") (by decide +kernel)) (fun _ h9 => h9) rfl dX5_same_28 ?_
      refine lv_iload_n hx hb dX5_same_31 rfl (lv_at hl 2 rfl) ?_
      refine xa_lald hx hb hK hP 2 0 (f := f) rfl rfl (k := p1.toNatClampNeg) (xm_areNo1 (xm_fails c_5)) rfl dX5_same_32 ?_
      refine lv_aload_n hx hb dX5_same_33 rfl (lv_at hl 1 rfl) ?_
      refine va_get (D := (dC, dI)) (ci := 6) (v := .ref hc) (C := RX4) (T := TX4) (N := 5) hx hb hts (by decide +kernel) hown hK hP 1 rfl rfl 3 (by decide +kernel) (hts (.fieldLink RX5 74 "EdgefloatsModel$Row" "cells" "[J") (by decide +kernel)) (fun _ h9 => h9) rfl dX5_same_34 ?_
      refine lv_iload_n hx hb dX5_same_37 rfl (lv_at hl 3 rfl) ?_
      refine xa_lald hx hb hK hP 2 0 (f := f) rfl rfl (k := p2.toNatClampNeg) (xm_areNo2 (xm_fails c_5)) rfl dX5_same_38 ?_
      refine xc_ne (tgt := 47) hx hb dX5_same_39 dX5_same_40 (by decide +kernel) (fun c_6 => ?_) (fun c_6 => ?_)
      · skip
        refine lv_iconst (v := 0) hx hb dX5_same_47 (by decide +kernel) ?_
        have he : o_X5_same f p1 p2 p3 = (false, (o_X5_fails (o_X5_areNo p1 p2) false).2) := by (rw [o_X5_same, if_pos c_3, if_neg c_5, if_neg c_6]) <;> rfl
        refine W.widen (k := 0) (n := 0) (by omega) (by omega) ?_
        exact W.zret (v := 0) (ty := .boolean) hx hb hr rfl (fun t ht hW => ⟨⟨_, (), rfl, (by (rw [he]) <;> rfl), (by rw [he]; exact ⟨by rw [ht]; exact hP, hD⟩)⟩, hS.F ht⟩) hS.2.2 dX5_same_48
      · skip
        refine lv_iconst (v := 1) hx hb dX5_same_43 (by decide +kernel) ?_
        refine lv_goto (tgt := 48) hx hb dX5_same_44 (by decide +kernel) ?_
        have he : o_X5_same f p1 p2 p3 = (true, (o_X5_fails (o_X5_areNo p1 p2) false).2) := by (rw [o_X5_same, if_pos c_3, if_neg c_5, if_pos c_6]) <;> rfl
        refine W.widen (k := 0) (n := 0) (by omega) (by omega) ?_
        exact W.zret (v := 1) (ty := .boolean) hx hb hr rfl (fun t ht hW => ⟨⟨_, (), rfl, (by (rw [he]) <;> rfl), (by rw [he]; exact ⟨by rw [ht]; exact hP, hD⟩)⟩, hS.F ht⟩) hS.2.2 dX5_same_48
  · skip
    refine lv_iconst (v := 1) hx hb dX5_same_16 (by decide +kernel) ?_
    refine lv_goto (tgt := 21) hx hb dX5_same_17 (by decide +kernel) ?_
    have hPc := hP.sub (ws' := [(h0, eM h1 h2 th rf kn)]) [0] rfl
    have hDc := hD.sub (ws' := [(h0, eM h1 h2 th rf kn)]) [0] (by decide +kernel) rfl
    have hKc := hK.sub (tys' := []) [] rfl
    have hFc := va_free (wc := [(h0, eM h1 h2 th rf kn)]) hD hS hA [0] rfl
    refine va_calli (va_runV (As := [.int (b2i (o_X5_areNo p1 p2)), .int 1]) (rest := []) ⟨hx, hb, hml, hown, hts⟩ (k_X5_fails l dC dI h0 h1 h2 th rf kn H.size N (o_X5_areNo p1 p2) true) (cwV 2 hts gX5_same_X5_fails rfl rfl rfl (by decide +kernel) ⟨Nat.le_of_ble_eq_true rfl, Nat.le_of_ble_eq_true rfl⟩) (xM.preV hKc hPc hDc hAN (Nat.le_trans hN hS.1) (hG.kept hS hAN) (ci := 7) (q0 := 0) rfl rfl) rfl rfl hl.1 rfl (lv_room (Nat.le_of_ble_eq_true rfl)) dX5_same_21 ⟨Nat.le_of_ble_eq_true rfl, Nat.le_of_ble_eq_true rfl⟩) hS (fun q _ h => hFc q h) hFc (fun r_7 u t H locs ht hvm hw hB hz hk hS => ?_)
    replace hw : r_7 = b2i ((o_X5_fails (o_X5_areNo p1 p2) true).1) := hw
    subst r_7
    obtain ⟨hP1, hD1⟩ := hB
    rw [ht] at hP1
    obtain ⟨hP, hD⟩ := va_join (wr := [(ro, eMR w hc a), (hc, eA cy f)]) (w1 := [(h0, eM h1 h2 (o_X5_fails (o_X5_areNo p1 p2) true).2 rf kn)]) hP hD [0] [1, 2] rfl rfl (by decide +kernel) (by decide +kernel) hk hFc hP1 hD1
    have hP := hP.sub (ws' := [(h0, eM h1 h2 (o_X5_fails (o_X5_areNo p1 p2) true).2 rf kn), (ro, eMR w hc a), (hc, eA cy f)]) [2, 0, 1] rfl
    have hD := hD.sub (ws' := [(h0, eM h1 h2 (o_X5_fails (o_X5_areNo p1 p2) true).2 rf kn), (ro, eMR w hc a), (hc, eA cy f)]) [2, 0, 1] (by decide +kernel) rfl
    refine xz_ne (tgt := 47) hx hb dX5_same_24 (by decide +kernel) (fun c_8 => ?_) (fun c_8 => ?_)
    · skip
      refine lv_iconst (v := 0) hx hb dX5_same_47 (by decide +kernel) ?_
      have he : o_X5_same f p1 p2 p3 = (false, (o_X5_fails (o_X5_areNo p1 p2) true).2) := by (rw [o_X5_same, if_neg c_3, if_pos c_8]) <;> rfl
      refine W.widen (k := 0) (n := 0) (by omega) (by omega) ?_
      exact W.zret (v := 0) (ty := .boolean) hx hb hr rfl (fun t ht hW => ⟨⟨_, (), rfl, (by (rw [he]) <;> rfl), (by rw [he]; exact ⟨by rw [ht]; exact hP, hD⟩)⟩, hS.F ht⟩) hS.2.2 dX5_same_48
    · skip
      refine lv_aload_n hx hb dX5_same_27 rfl (lv_at hl 1 rfl) ?_
      refine va_get (D := (dC, dI)) (ci := 6) (v := .ref hc) (C := RX4) (T := TX4) (N := 5) hx hb hts (by decide +kernel) hown hK hP 1 rfl rfl 3 (by decide +kernel) (hts (.fieldLink RX5 74 "EdgefloatsModel$Row" "cells" "[J") (by decide +kernel)) (fun _ h9 => h9) rfl dX5_same_28 ?_
      refine lv_iload_n hx hb dX5_same_31 rfl (lv_at hl 2 rfl) ?_
      refine xa_lald hx hb hK hP 2 0 (f := f) rfl rfl (k := p1.toNatClampNeg) (xm_areNo1 (xm_fails c_8)) rfl dX5_same_32 ?_
      refine lv_aload_n hx hb dX5_same_33 rfl (lv_at hl 1 rfl) ?_
      refine va_get (D := (dC, dI)) (ci := 6) (v := .ref hc) (C := RX4) (T := TX4) (N := 5) hx hb hts (by decide +kernel) hown hK hP 1 rfl rfl 3 (by decide +kernel) (hts (.fieldLink RX5 74 "EdgefloatsModel$Row" "cells" "[J") (by decide +kernel)) (fun _ h9 => h9) rfl dX5_same_34 ?_
      refine lv_iload_n hx hb dX5_same_37 rfl (lv_at hl 3 rfl) ?_
      refine xa_lald hx hb hK hP 2 0 (f := f) rfl rfl (k := p2.toNatClampNeg) (xm_areNo2 (xm_fails c_8)) rfl dX5_same_38 ?_
      refine xc_ne (tgt := 47) hx hb dX5_same_39 dX5_same_40 (by decide +kernel) (fun c_9 => ?_) (fun c_9 => ?_)
      · skip
        refine lv_iconst (v := 0) hx hb dX5_same_47 (by decide +kernel) ?_
        have he : o_X5_same f p1 p2 p3 = (false, (o_X5_fails (o_X5_areNo p1 p2) true).2) := by (rw [o_X5_same, if_neg c_3, if_neg c_8, if_neg c_9]) <;> rfl
        refine W.widen (k := 0) (n := 0) (by omega) (by omega) ?_
        exact W.zret (v := 0) (ty := .boolean) hx hb hr rfl (fun t ht hW => ⟨⟨_, (), rfl, (by (rw [he]) <;> rfl), (by rw [he]; exact ⟨by rw [ht]; exact hP, hD⟩)⟩, hS.F ht⟩) hS.2.2 dX5_same_48
      · skip
        refine lv_iconst (v := 1) hx hb dX5_same_43 (by decide +kernel) ?_
        refine lv_goto (tgt := 48) hx hb dX5_same_44 (by decide +kernel) ?_
        have he : o_X5_same f p1 p2 p3 = (true, (o_X5_fails (o_X5_areNo p1 p2) true).2) := by (rw [o_X5_same, if_neg c_3, if_neg c_8, if_pos c_9]) <;> rfl
        refine W.widen (k := 0) (n := 0) (by omega) (by omega) ?_
        exact W.zret (v := 1) (ty := .boolean) hx hb hr rfl (fun t ht hW => ⟨⟨_, (), rfl, (by (rw [he]) <;> rfl), (by rw [he]; exact ⟨by rw [ht]; exact hP, hD⟩)⟩, hS.F ht⟩) hS.2.2 dX5_same_48
theorem cl_X5_endless_1 : ∀ w ∈ wsX5_endless_r1, w ∈ wsX5_endless := fun _ h => (List.mem_cons_of_mem _ (List.mem_append_left _ (List.mem_append_left _ (List.mem_append_left _ h))))
theorem cl_X5_endless_2 : ∀ w ∈ wsX5_endless_r2, w ∈ wsX5_endless := fun _ h => (List.mem_cons_of_mem _ (List.mem_append_left _ (List.mem_append_left _ (List.mem_append_right _ h))))
theorem cl_X5_endless_3 : ∀ w ∈ wsX40, w ∈ wsX5_endless := fun _ h => (List.mem_cons_of_mem _ (List.mem_append_left _ (List.mem_append_right _ h)))
theorem cl_X5_endless_4 : ∀ w ∈ wsX50, w ∈ wsX5_endless := fun _ h => (List.mem_cons_of_mem _ (List.mem_append_right _ h))
set_option maxRecDepth 20000 in
theorem ggX5_endless_X5_isNo : GoodIn wsX5_endless wsX5_isNo := goodIn_sub (List.forall_mem_cons.mpr ⟨(cl_X5_endless_1 _ (List.mem_of_getElem? (i := 4) rfl)), List.forall_mem_cons.mpr ⟨(cl_X5_endless_1 _ (List.mem_of_getElem? (i := 5) rfl)), List.forall_mem_cons.mpr ⟨(cl_X5_endless_1 _ (List.mem_of_getElem? (i := 6) rfl)), List.forall_mem_cons.mpr ⟨(cl_X5_endless_1 _ (List.mem_of_getElem? (i := 3) rfl)), List.forall_mem_cons.mpr ⟨(cl_X5_endless_1 _ (List.mem_of_getElem? (i := 7) rfl)), fun _ h => absurd h List.not_mem_nil⟩⟩⟩⟩⟩) (by decide +kernel)
set_option maxRecDepth 20000 in
theorem gX5_endless_X5_isNo : GoodIn wsX5_endless (va_wsS RX5 35 yX5_isNo wsX5_isNo) := goodIn_app (goodIn_sub (List.forall_mem_cons.mpr ⟨(cl_X5_endless_1 _ (List.mem_of_getElem? (i := 1) rfl)), List.forall_mem_cons.mpr ⟨(cl_X5_endless_1 _ (List.mem_of_getElem? (i := 2) rfl)), List.forall_mem_cons.mpr ⟨(cl_X5_endless_1 _ (List.mem_of_getElem? (i := 3) rfl)), fun _ h => absurd h List.not_mem_nil⟩⟩⟩) (by decide +kernel)) ggX5_endless_X5_isNo
set_option maxRecDepth 20000 in
theorem ggX5_endless_X5_isIn : GoodIn wsX5_endless wsX5_isIn := goodIn_r _ [8] (by decide +kernel) (by decide +kernel)
set_option maxRecDepth 20000 in
theorem gX5_endless_X5_isIn : GoodIn wsX5_endless (va_wsS RX5 31 yX5_isIn wsX5_isIn) := goodIn_app (goodIn_sub (List.forall_mem_cons.mpr ⟨(cl_X5_endless_1 _ (List.mem_of_getElem? (i := 5) rfl)), List.forall_mem_cons.mpr ⟨(cl_X5_endless_1 _ (List.mem_of_getElem? (i := 6) rfl)), List.forall_mem_cons.mpr ⟨(cl_X5_endless_1 _ (List.mem_of_getElem? (i := 3) rfl)), fun _ h => absurd h List.not_mem_nil⟩⟩⟩) (by decide +kernel)) ggX5_endless_X5_isIn
set_option maxRecDepth 20000 in
theorem ggX5_endless_X5_fails : GoodIn wsX5_endless wsX5_fails := goodIn_sub (List.forall_mem_cons.mpr ⟨(cl_X5_endless_1 _ (List.mem_of_getElem? (i := 11) rfl)), fun w h => (List.mem_append.mp h).elim ((List.forall_mem_cons.mpr ⟨(cl_X5_endless_1 _ (List.mem_of_getElem? (i := 12) rfl)), fun _ h => absurd h List.not_mem_nil⟩) w) ((cl_X5_endless_4) w)⟩) (by decide +kernel)
set_option maxRecDepth 20000 in
theorem gX5_endless_X5_fails : GoodIn wsX5_endless (wsV RX5 42 RX5 yX5_fails wsX5_fails) := goodIn_app (goodIn_sub (List.forall_mem_cons.mpr ⟨(cl_X5_endless_1 _ (List.mem_of_getElem? (i := 8) rfl)), List.forall_mem_cons.mpr ⟨(cl_X5_endless_1 _ (List.mem_of_getElem? (i := 9) rfl)), List.forall_mem_cons.mpr ⟨(cl_X5_endless_1 _ (List.mem_of_getElem? (i := 10) rfl)), List.forall_mem_cons.mpr ⟨(cl_X5_endless_1 _ (List.mem_of_getElem? (i := 3) rfl)), fun _ h => absurd h List.not_mem_nil⟩⟩⟩⟩) (by decide +kernel)) ggX5_endless_X5_fails
set_option maxRecDepth 20000 in
theorem ggX5_endless_X4_isEndless : GoodIn wsX5_endless wsX4_isEndless := goodIn_sub (List.forall_mem_cons.mpr ⟨(cl_X5_endless_1 _ (List.mem_of_getElem? (i := 17) rfl)), fun w h => (List.mem_append.mp h).elim ((List.forall_mem_cons.mpr ⟨(cl_X5_endless_1 _ (List.mem_of_getElem? (i := 18) rfl)), List.forall_mem_cons.mpr ⟨(cl_X5_endless_1 _ (List.mem_of_getElem? (i := 19) rfl)), List.forall_mem_cons.mpr ⟨(cl_X5_endless_1 _ (List.mem_of_getElem? (i := 20) rfl)), List.forall_mem_cons.mpr ⟨(cl_X5_endless_1 _ (List.mem_of_getElem? (i := 16) rfl)), List.forall_mem_cons.mpr ⟨(cl_X5_endless_1 _ (List.mem_of_getElem? (i := 21) rfl)), List.forall_mem_cons.mpr ⟨(cl_X5_endless_1 _ (List.mem_of_getElem? (i := 22) rfl)), List.forall_mem_cons.mpr ⟨(cl_X5_endless_1 _ (List.mem_of_getElem? (i := 23) rfl)), List.forall_mem_cons.mpr ⟨(cl_X5_endless_2 _ (List.mem_of_getElem? (i := 0) rfl)), List.forall_mem_cons.mpr ⟨(cl_X5_endless_2 _ (List.mem_of_getElem? (i := 1) rfl)), List.forall_mem_cons.mpr ⟨(cl_X5_endless_2 _ (List.mem_of_getElem? (i := 2) rfl)), List.forall_mem_cons.mpr ⟨(cl_X5_endless_2 _ (List.mem_of_getElem? (i := 3) rfl)), List.forall_mem_cons.mpr ⟨(cl_X5_endless_2 _ (List.mem_of_getElem? (i := 4) rfl)), List.forall_mem_cons.mpr ⟨(cl_X5_endless_2 _ (List.mem_of_getElem? (i := 5) rfl)), List.forall_mem_cons.mpr ⟨(cl_X5_endless_2 _ (List.mem_of_getElem? (i := 6) rfl)), List.forall_mem_cons.mpr ⟨(cl_X5_endless_2 _ (List.mem_of_getElem? (i := 7) rfl)), List.forall_mem_cons.mpr ⟨(cl_X5_endless_2 _ (List.mem_of_getElem? (i := 8) rfl)), fun _ h => absurd h List.not_mem_nil⟩⟩⟩⟩⟩⟩⟩⟩⟩⟩⟩⟩⟩⟩⟩⟩) w) ((cl_X5_endless_3) w)⟩) (by decide +kernel)
set_option maxRecDepth 20000 in
theorem gX5_endless_X4_isEndless : GoodIn wsX5_endless (wsV RX5 114 RX4 yX4_isEndless wsX4_isEndless) := goodIn_app (goodIn_sub (List.forall_mem_cons.mpr ⟨(cl_X5_endless_1 _ (List.mem_of_getElem? (i := 13) rfl)), List.forall_mem_cons.mpr ⟨(cl_X5_endless_1 _ (List.mem_of_getElem? (i := 14) rfl)), List.forall_mem_cons.mpr ⟨(cl_X5_endless_1 _ (List.mem_of_getElem? (i := 15) rfl)), List.forall_mem_cons.mpr ⟨(cl_X5_endless_1 _ (List.mem_of_getElem? (i := 16) rfl)), fun _ h => absurd h List.not_mem_nil⟩⟩⟩⟩) (by decide +kernel)) ggX5_endless_X4_isEndless
noncomputable def dz_p09_24 : List (Nat × Instr × Nat) := [(0, (.aload_n 0, 1)), (1, (.iload_n 2, 1)), (2, (.invokestatic 35, 3)), (5, (.iload_n 3, 1)), (6, (.iconst 0, 1)), (7, (.iconst 2, 1)), (8, (.invokestatic 31, 3)), (11, (.ifCond .ne 7, 3)), (14, (.iconst 1, 1)), (15, (.goto 4, 3)), (18, (.iconst 0, 1)), (19, (.invokevirtual 42, 3)), (22, (.ifCond .ne 20, 3)), (25, (.aload_n 1, 1)), (26, (.aload_n 1, 1)), (27, (.getfield 74, 3)), (30, (.iload_n 2, 1)), (31, (.laload, 1)), (32, (.invokevirtual 114, 3)), (35, (.ifCond .eq 7, 3)), (38, (.iconst 1, 1)), (39, (.goto 4, 3)), (42, (.iconst 0, 1)), (43, (.ireturn, 1))]
theorem dy_p09_24 : dz_ok cX5_endless dz_p09_24 = true := by decide +kernel
theorem dX5_endless_0 : decode cX5_endless 0 = .ok (.aload_n 0, 1) := dz_at (i := 0) dy_p09_24 rfl
theorem dX5_endless_1 : decode cX5_endless 1 = .ok (.iload_n 2, 1) := dz_at (i := 1) dy_p09_24 rfl
theorem dX5_endless_2 : decode cX5_endless 2 = .ok (.invokestatic 35, 3) := dz_at (i := 2) dy_p09_24 rfl
theorem dX5_endless_5 : decode cX5_endless 5 = .ok (.iload_n 3, 1) := dz_at (i := 3) dy_p09_24 rfl
theorem dX5_endless_6 : decode cX5_endless 6 = .ok (.iconst 0, 1) := dz_at (i := 4) dy_p09_24 rfl
theorem dX5_endless_7 : decode cX5_endless 7 = .ok (.iconst 2, 1) := dz_at (i := 5) dy_p09_24 rfl
theorem dX5_endless_8 : decode cX5_endless 8 = .ok (.invokestatic 31, 3) := dz_at (i := 6) dy_p09_24 rfl
theorem dX5_endless_11 : decode cX5_endless 11 = .ok (.ifCond .ne 7, 3) := dz_at (i := 7) dy_p09_24 rfl
theorem dX5_endless_14 : decode cX5_endless 14 = .ok (.iconst 1, 1) := dz_at (i := 8) dy_p09_24 rfl
theorem dX5_endless_15 : decode cX5_endless 15 = .ok (.goto 4, 3) := dz_at (i := 9) dy_p09_24 rfl
theorem dX5_endless_18 : decode cX5_endless 18 = .ok (.iconst 0, 1) := dz_at (i := 10) dy_p09_24 rfl
theorem dX5_endless_19 : decode cX5_endless 19 = .ok (.invokevirtual 42, 3) := dz_at (i := 11) dy_p09_24 rfl
theorem dX5_endless_22 : decode cX5_endless 22 = .ok (.ifCond .ne 20, 3) := dz_at (i := 12) dy_p09_24 rfl
theorem dX5_endless_25 : decode cX5_endless 25 = .ok (.aload_n 1, 1) := dz_at (i := 13) dy_p09_24 rfl
theorem dX5_endless_26 : decode cX5_endless 26 = .ok (.aload_n 1, 1) := dz_at (i := 14) dy_p09_24 rfl
theorem dX5_endless_27 : decode cX5_endless 27 = .ok (.getfield 74, 3) := dz_at (i := 15) dy_p09_24 rfl
theorem dX5_endless_30 : decode cX5_endless 30 = .ok (.iload_n 2, 1) := dz_at (i := 16) dy_p09_24 rfl
theorem dX5_endless_31 : decode cX5_endless 31 = .ok (.laload, 1) := dz_at (i := 17) dy_p09_24 rfl
theorem dX5_endless_32 : decode cX5_endless 32 = .ok (.invokevirtual 114, 3) := dz_at (i := 18) dy_p09_24 rfl
theorem dX5_endless_35 : decode cX5_endless 35 = .ok (.ifCond .eq 7, 3) := dz_at (i := 19) dy_p09_24 rfl
theorem dX5_endless_38 : decode cX5_endless 38 = .ok (.iconst 1, 1) := dz_at (i := 20) dy_p09_24 rfl
theorem dX5_endless_39 : decode cX5_endless 39 = .ok (.goto 4, 3) := dz_at (i := 21) dy_p09_24 rfl
theorem dX5_endless_42 : decode cX5_endless 42 = .ok (.iconst 0, 1) := dz_at (i := 22) dy_p09_24 rfl
theorem dX5_endless_43 : decode cX5_endless 43 = .ok (.ireturn, 1) := dz_at (i := 23) dy_p09_24 rfl
noncomputable def o_X5_endless (w : Bool) (f : Nat → Int64) (p1 : Int32) (p2 : Int32) : Bool × Int32 :=
  if (o_X5_isIn p2 0 2) = true then (if (o_X5_fails (o_X5_isNo p1) false).1 = true then (false, (o_X5_fails (o_X5_isNo p1) false).2)
    else if (o_X4_isEndless w (f p1.toNatClampNeg)) = true then (true, (o_X5_fails (o_X5_isNo p1) false).2)
    else (false, (o_X5_fails (o_X5_isNo p1) false).2))
  else if (o_X5_fails (o_X5_isNo p1) true).1 = true then (false, (o_X5_fails (o_X5_isNo p1) true).2)
  else if (o_X4_isEndless w (f p1.toNatClampNeg)) = true then (true, (o_X5_fails (o_X5_isNo p1) true).2)
  else (false, (o_X5_fails (o_X5_isNo p1) true).2)
set_option maxHeartbeats 4000000 in
set_option maxRecDepth 100000 in
theorem k_X5_endless (l : Launch) (dC : Nat → ClassId) (dI : Nat → Nat → Nat) (cy : ClassId) (h0 : Nat) (h1 : Nat) (h2 : Nat) (ro : Nat) (hc : Nat) (w : Bool) (a : Int32) (f : Nat → Int64) (th : Int32) (rf : Int32) (kn : Int32) (sz : Nat) (N : Nat) (p1 : Int32) (p2 : Int32) : Met l yX5_endless wsX5_endless ({ frames := 3, cells := 0, slots := 0, locals := 64 }) (va_Pc [.ref h0, .ref ro, .int p1, .int p2] (xM (dC, dI) xCl [(h0, eM h1 h2 th rf kn), (ro, eMR w hc a), (hc, eA cy f)] [(cy, .long)] sz N)) (va_Qi (fun (r : Int32) (_ : Unit) => r = b2i ((o_X5_endless w f p1 p2).1)) (fun _ t => xW (dC, dI) xCl [(h0, eM h1 h2 (o_X5_endless w f p1 p2).2 rf kn), (ro, eMR w hc a), (hc, eA cy f)] (va_A [(h0, eM h1 h2 th rf kn), (ro, eMR w hc a), (hc, eA cy f)] sz) t) (va_A [(h0, eM h1 h2 th rf kn), (ro, eMR w hc a), (hc, eA cy f)] sz)) 0 0 (va_A [(h0, eM h1 h2 th rf kn), (ro, eMR w hc a), (hc, eA cy f)] sz) := by
  refine Met.ofW (cc := cX5_endless) (maxL := 4) (ret := (some .boolean)) (by decide +kernel) rfl ?_
  intro p e s m args below meth c s₁ B hml hv
  obtain ⟨rfl, hsz, hP, hK, hD0, hN, hG⟩ := hv
  have hx := B.exec
  have hb := B.bytes
  have hr := B.returns
  have hts := atoms_spec (ws := wsX5_endless) B.pre
  have hown : s.vm.findClass RX5 = some m.cls := findClass_of_methodNamed B.named
  have hlocks := B.notSynchronized
  subst hsz
  have hAN : ∀ q, va_A [(h0, eM h1 h2 th rf kn), (ro, eMR w hc a), (hc, eA cy f)] s.heap.size q → N ≤ q := xA_N hD0 hN
  have hD := hD0.self (sz := s.heap.size)
  generalize hAe : va_A [(h0, eM h1 h2 th rf kn), (ro, eMR w hc a), (hc, eA cy f)] s.heap.size = A at hD hAN ⊢
  have hA : ∀ q : Nat, s.heap.size ≤ q → A q := fun q h => by rw [← hAe]; exact Or.inr h
  have hS : va_S A s.heap s.heap [] := va_S.rf
  have hP : va_P (dC, dI) xCl [(h0, eM h1 h2 th rf kn), (ro, eMR w hc a), (hc, eA cy f)] s.heap := hP
  have hl := lv_entry ([.ref h0, .ref ro, .int p1, .int p2]) (n := 4) (Nat.le_of_ble_eq_true rfl)
  rw [lg_entry_eq]
  generalize (lg_sl ([.ref h0, .ref ro, .int p1, .int p2]) ++ List.replicate (4 - (lg_sl ([.ref h0, .ref ro, .int p1, .int p2])).length) Slot.unset).toArray = ls at hl ⊢
  have hl : lv_has ls 4 [(0, .ref h0), (1, .ref ro), (2, .int p1), (3, .int p2)] := hl
  refine lv_aload_n hx hb dX5_endless_0 rfl (lv_at hl 0 rfl) ?_
  refine lv_iload_n hx hb dX5_endless_1 rfl (lv_at hl 2 rfl) ?_
  have hPc := hP.sub (ws' := []) [] rfl
  have hKc := hK.sub (tys' := []) [] rfl
  refine va_calli (va_runS (As := [.int p1]) (rest := [.ref h0]) ⟨hx, hb, hml, hown, hts⟩ (k_X5_isNo l dC dI s.heap.size p1) (va_cwS 1 hts gX5_endless_X5_isNo rfl rfl rfl (by decide +kernel) ⟨Nat.le_of_ble_eq_true rfl, Nat.le_of_ble_eq_true rfl⟩) (xB.preS hKc hPc) rfl rfl hl.1 rfl (lv_room (Nat.le_of_ble_eq_true rfl)) dX5_endless_2 ⟨Nat.le_of_ble_eq_true rfl, Nat.le_of_ble_eq_true rfl⟩) hS xA_old (fun q h => hA q (Nat.le_trans hS.1 h)) (fun r_1 u t H locs ht hvm hw hB hz hk hS => ?_)
  replace hw : r_1 = b2i (o_X5_isNo p1) := hw
  subst r_1
  have hP := xP_keep hP hk
  refine lv_iload_n hx hb dX5_endless_5 rfl (lv_at hl 3 rfl) ?_
  refine lv_iconst (v := 0) hx hb dX5_endless_6 (by decide +kernel) ?_
  refine lv_iconst (v := 2) hx hb dX5_endless_7 (by decide +kernel) ?_
  have hPc := hP.sub (ws' := []) [] rfl
  have hKc := hK.sub (tys' := []) [] rfl
  refine va_calli (va_runS (As := [.int p2, .int 0, .int 2]) (rest := [.int (b2i (o_X5_isNo p1)), .ref h0]) ⟨hx, hb, hml, hown, hts⟩ (k_X5_isIn l dC dI H.size p2 0 2) (va_cwS 3 hts gX5_endless_X5_isIn rfl rfl rfl (by decide +kernel) ⟨Nat.le_of_ble_eq_true rfl, Nat.le_of_ble_eq_true rfl⟩) (xB.preS hKc hPc) rfl rfl hl.1 rfl (lv_room (Nat.le_of_ble_eq_true rfl)) dX5_endless_8 ⟨Nat.le_of_ble_eq_true rfl, Nat.le_of_ble_eq_true rfl⟩) hS xA_old (fun q h => hA q (Nat.le_trans hS.1 h)) (fun r_2 u t H locs ht hvm hw hB hz hk hS => ?_)
  replace hw : r_2 = b2i (o_X5_isIn p2 0 2) := hw
  subst r_2
  have hP := xP_keep hP hk
  refine xz_ne (tgt := 18) hx hb dX5_endless_11 (by decide +kernel) (fun c_3 => ?_) (fun c_3 => ?_)
  · skip
    refine lv_iconst (v := 0) hx hb dX5_endless_18 (by decide +kernel) ?_
    have hPc := hP.sub (ws' := [(h0, eM h1 h2 th rf kn)]) [0] rfl
    have hDc := hD.sub (ws' := [(h0, eM h1 h2 th rf kn)]) [0] (by decide +kernel) rfl
    have hKc := hK.sub (tys' := []) [] rfl
    have hFc := va_free (wc := [(h0, eM h1 h2 th rf kn)]) hD hS hA [0] rfl
    refine va_calli (va_runV (As := [.int (b2i (o_X5_isNo p1)), .int 0]) (rest := []) ⟨hx, hb, hml, hown, hts⟩ (k_X5_fails l dC dI h0 h1 h2 th rf kn H.size N (o_X5_isNo p1) false) (cwV 2 hts gX5_endless_X5_fails rfl rfl rfl (by decide +kernel) ⟨Nat.le_of_ble_eq_true rfl, Nat.le_of_ble_eq_true rfl⟩) (xM.preV hKc hPc hDc hAN (Nat.le_trans hN hS.1) (hG.kept hS hAN) (ci := 7) (q0 := 0) rfl rfl) rfl rfl hl.1 rfl (lv_room (Nat.le_of_ble_eq_true rfl)) dX5_endless_19 ⟨Nat.le_of_ble_eq_true rfl, Nat.le_of_ble_eq_true rfl⟩) hS (fun q _ h => hFc q h) hFc (fun r_4 u t H locs ht hvm hw hB hz hk hS => ?_)
    replace hw : r_4 = b2i ((o_X5_fails (o_X5_isNo p1) false).1) := hw
    subst r_4
    obtain ⟨hP1, hD1⟩ := hB
    rw [ht] at hP1
    obtain ⟨hP, hD⟩ := va_join (wr := [(ro, eMR w hc a), (hc, eA cy f)]) (w1 := [(h0, eM h1 h2 (o_X5_fails (o_X5_isNo p1) false).2 rf kn)]) hP hD [0] [1, 2] rfl rfl (by decide +kernel) (by decide +kernel) hk hFc hP1 hD1
    have hP := hP.sub (ws' := [(h0, eM h1 h2 (o_X5_fails (o_X5_isNo p1) false).2 rf kn), (ro, eMR w hc a), (hc, eA cy f)]) [2, 0, 1] rfl
    have hD := hD.sub (ws' := [(h0, eM h1 h2 (o_X5_fails (o_X5_isNo p1) false).2 rf kn), (ro, eMR w hc a), (hc, eA cy f)]) [2, 0, 1] (by decide +kernel) rfl
    refine xz_ne (tgt := 42) hx hb dX5_endless_22 (by decide +kernel) (fun c_5 => ?_) (fun c_5 => ?_)
    · skip
      refine lv_iconst (v := 0) hx hb dX5_endless_42 (by decide +kernel) ?_
      have he : o_X5_endless w f p1 p2 = (false, (o_X5_fails (o_X5_isNo p1) false).2) := by (rw [o_X5_endless, if_pos c_3, if_pos c_5]) <;> rfl
      refine W.widen (k := 0) (n := 0) (by omega) (by omega) ?_
      exact W.zret (v := 0) (ty := .boolean) hx hb hr rfl (fun t ht hW => ⟨⟨_, (), rfl, (by (rw [he]) <;> rfl), (by rw [he]; exact ⟨by rw [ht]; exact hP, hD⟩)⟩, hS.F ht⟩) hS.2.2 dX5_endless_43
    · skip
      refine lv_aload_n hx hb dX5_endless_25 rfl (lv_at hl 1 rfl) ?_
      refine lv_aload_n hx hb dX5_endless_26 rfl (lv_at hl 1 rfl) ?_
      refine va_get (D := (dC, dI)) (ci := 6) (v := .ref hc) (C := RX4) (T := TX4) (N := 5) hx hb hts (by decide +kernel) hown hK hP 1 rfl rfl 3 (by decide +kernel) (hts (.fieldLink RX5 74 "EdgefloatsModel$Row" "cells" "[J") (by decide +kernel)) (fun _ h9 => h9) rfl dX5_endless_27 ?_
      refine lv_iload_n hx hb dX5_endless_30 rfl (lv_at hl 2 rfl) ?_
      refine xa_lald hx hb hK hP 2 0 (f := f) rfl rfl (k := p1.toNatClampNeg) (xm_isNo (xm_fails c_5)) rfl dX5_endless_31 ?_
      have hPc := hP.sub (ws' := [(ro, eMR w hc a), (hc, eA cy f)]) [1, 2] rfl
      have hKc := hK.sub (tys' := [(cy, .long)]) [0] rfl
      refine va_calli (va_runV (As := [.long (f p1.toNatClampNeg)]) (rest := []) ⟨hx, hb, hml, hown, hts⟩ (k_X4_isEndless l dC dI cy ro hc w a f H.size (f p1.toNatClampNeg)) (cwV 1 hts gX5_endless_X4_isEndless rfl rfl rfl (by decide +kernel) ⟨Nat.le_of_ble_eq_true rfl, Nat.le_of_ble_eq_true rfl⟩) (xB.preV hKc hPc (ci := 6) (q0 := 0) rfl rfl) rfl rfl hl.1 rfl (lv_room (Nat.le_of_ble_eq_true rfl)) dX5_endless_32 ⟨Nat.le_of_ble_eq_true rfl, Nat.le_of_ble_eq_true rfl⟩) hS xA_old (fun q h => hA q (Nat.le_trans hS.1 h)) (fun r_6 u t H locs ht hvm hw hB hz hk hS => ?_)
      replace hw : r_6 = b2i (o_X4_isEndless w (f p1.toNatClampNeg)) := hw
      subst r_6
      have hP := xP_keep hP hk
      refine xz_eq (tgt := 42) hx hb dX5_endless_35 (by decide +kernel) (fun c_7 => ?_) (fun c_7 => ?_)
      · skip
        refine lv_iconst (v := 0) hx hb dX5_endless_42 (by decide +kernel) ?_
        have he : o_X5_endless w f p1 p2 = (false, (o_X5_fails (o_X5_isNo p1) false).2) := by (rw [o_X5_endless, if_pos c_3, if_neg c_5, if_neg c_7]) <;> rfl
        refine W.widen (k := 0) (n := 0) (by omega) (by omega) ?_
        exact W.zret (v := 0) (ty := .boolean) hx hb hr rfl (fun t ht hW => ⟨⟨_, (), rfl, (by (rw [he]) <;> rfl), (by rw [he]; exact ⟨by rw [ht]; exact hP, hD⟩)⟩, hS.F ht⟩) hS.2.2 dX5_endless_43
      · skip
        refine lv_iconst (v := 1) hx hb dX5_endless_38 (by decide +kernel) ?_
        refine lv_goto (tgt := 43) hx hb dX5_endless_39 (by decide +kernel) ?_
        have he : o_X5_endless w f p1 p2 = (true, (o_X5_fails (o_X5_isNo p1) false).2) := by (rw [o_X5_endless, if_pos c_3, if_neg c_5, if_pos c_7]) <;> rfl
        refine W.widen (k := 0) (n := 0) (by omega) (by omega) ?_
        exact W.zret (v := 1) (ty := .boolean) hx hb hr rfl (fun t ht hW => ⟨⟨_, (), rfl, (by (rw [he]) <;> rfl), (by rw [he]; exact ⟨by rw [ht]; exact hP, hD⟩)⟩, hS.F ht⟩) hS.2.2 dX5_endless_43
  · skip
    refine lv_iconst (v := 1) hx hb dX5_endless_14 (by decide +kernel) ?_
    refine lv_goto (tgt := 19) hx hb dX5_endless_15 (by decide +kernel) ?_
    have hPc := hP.sub (ws' := [(h0, eM h1 h2 th rf kn)]) [0] rfl
    have hDc := hD.sub (ws' := [(h0, eM h1 h2 th rf kn)]) [0] (by decide +kernel) rfl
    have hKc := hK.sub (tys' := []) [] rfl
    have hFc := va_free (wc := [(h0, eM h1 h2 th rf kn)]) hD hS hA [0] rfl
    refine va_calli (va_runV (As := [.int (b2i (o_X5_isNo p1)), .int 1]) (rest := []) ⟨hx, hb, hml, hown, hts⟩ (k_X5_fails l dC dI h0 h1 h2 th rf kn H.size N (o_X5_isNo p1) true) (cwV 2 hts gX5_endless_X5_fails rfl rfl rfl (by decide +kernel) ⟨Nat.le_of_ble_eq_true rfl, Nat.le_of_ble_eq_true rfl⟩) (xM.preV hKc hPc hDc hAN (Nat.le_trans hN hS.1) (hG.kept hS hAN) (ci := 7) (q0 := 0) rfl rfl) rfl rfl hl.1 rfl (lv_room (Nat.le_of_ble_eq_true rfl)) dX5_endless_19 ⟨Nat.le_of_ble_eq_true rfl, Nat.le_of_ble_eq_true rfl⟩) hS (fun q _ h => hFc q h) hFc (fun r_8 u t H locs ht hvm hw hB hz hk hS => ?_)
    replace hw : r_8 = b2i ((o_X5_fails (o_X5_isNo p1) true).1) := hw
    subst r_8
    obtain ⟨hP1, hD1⟩ := hB
    rw [ht] at hP1
    obtain ⟨hP, hD⟩ := va_join (wr := [(ro, eMR w hc a), (hc, eA cy f)]) (w1 := [(h0, eM h1 h2 (o_X5_fails (o_X5_isNo p1) true).2 rf kn)]) hP hD [0] [1, 2] rfl rfl (by decide +kernel) (by decide +kernel) hk hFc hP1 hD1
    have hP := hP.sub (ws' := [(h0, eM h1 h2 (o_X5_fails (o_X5_isNo p1) true).2 rf kn), (ro, eMR w hc a), (hc, eA cy f)]) [2, 0, 1] rfl
    have hD := hD.sub (ws' := [(h0, eM h1 h2 (o_X5_fails (o_X5_isNo p1) true).2 rf kn), (ro, eMR w hc a), (hc, eA cy f)]) [2, 0, 1] (by decide +kernel) rfl
    refine xz_ne (tgt := 42) hx hb dX5_endless_22 (by decide +kernel) (fun c_9 => ?_) (fun c_9 => ?_)
    · skip
      refine lv_iconst (v := 0) hx hb dX5_endless_42 (by decide +kernel) ?_
      have he : o_X5_endless w f p1 p2 = (false, (o_X5_fails (o_X5_isNo p1) true).2) := by (rw [o_X5_endless, if_neg c_3, if_pos c_9]) <;> rfl
      refine W.widen (k := 0) (n := 0) (by omega) (by omega) ?_
      exact W.zret (v := 0) (ty := .boolean) hx hb hr rfl (fun t ht hW => ⟨⟨_, (), rfl, (by (rw [he]) <;> rfl), (by rw [he]; exact ⟨by rw [ht]; exact hP, hD⟩)⟩, hS.F ht⟩) hS.2.2 dX5_endless_43
    · skip
      refine lv_aload_n hx hb dX5_endless_25 rfl (lv_at hl 1 rfl) ?_
      refine lv_aload_n hx hb dX5_endless_26 rfl (lv_at hl 1 rfl) ?_
      refine va_get (D := (dC, dI)) (ci := 6) (v := .ref hc) (C := RX4) (T := TX4) (N := 5) hx hb hts (by decide +kernel) hown hK hP 1 rfl rfl 3 (by decide +kernel) (hts (.fieldLink RX5 74 "EdgefloatsModel$Row" "cells" "[J") (by decide +kernel)) (fun _ h9 => h9) rfl dX5_endless_27 ?_
      refine lv_iload_n hx hb dX5_endless_30 rfl (lv_at hl 2 rfl) ?_
      refine xa_lald hx hb hK hP 2 0 (f := f) rfl rfl (k := p1.toNatClampNeg) (xm_isNo (xm_fails c_9)) rfl dX5_endless_31 ?_
      have hPc := hP.sub (ws' := [(ro, eMR w hc a), (hc, eA cy f)]) [1, 2] rfl
      have hKc := hK.sub (tys' := [(cy, .long)]) [0] rfl
      refine va_calli (va_runV (As := [.long (f p1.toNatClampNeg)]) (rest := []) ⟨hx, hb, hml, hown, hts⟩ (k_X4_isEndless l dC dI cy ro hc w a f H.size (f p1.toNatClampNeg)) (cwV 1 hts gX5_endless_X4_isEndless rfl rfl rfl (by decide +kernel) ⟨Nat.le_of_ble_eq_true rfl, Nat.le_of_ble_eq_true rfl⟩) (xB.preV hKc hPc (ci := 6) (q0 := 0) rfl rfl) rfl rfl hl.1 rfl (lv_room (Nat.le_of_ble_eq_true rfl)) dX5_endless_32 ⟨Nat.le_of_ble_eq_true rfl, Nat.le_of_ble_eq_true rfl⟩) hS xA_old (fun q h => hA q (Nat.le_trans hS.1 h)) (fun r_10 u t H locs ht hvm hw hB hz hk hS => ?_)
      replace hw : r_10 = b2i (o_X4_isEndless w (f p1.toNatClampNeg)) := hw
      subst r_10
      have hP := xP_keep hP hk
      refine xz_eq (tgt := 42) hx hb dX5_endless_35 (by decide +kernel) (fun c_11 => ?_) (fun c_11 => ?_)
      · skip
        refine lv_iconst (v := 0) hx hb dX5_endless_42 (by decide +kernel) ?_
        have he : o_X5_endless w f p1 p2 = (false, (o_X5_fails (o_X5_isNo p1) true).2) := by (rw [o_X5_endless, if_neg c_3, if_neg c_9, if_neg c_11]) <;> rfl
        refine W.widen (k := 0) (n := 0) (by omega) (by omega) ?_
        exact W.zret (v := 0) (ty := .boolean) hx hb hr rfl (fun t ht hW => ⟨⟨_, (), rfl, (by (rw [he]) <;> rfl), (by rw [he]; exact ⟨by rw [ht]; exact hP, hD⟩)⟩, hS.F ht⟩) hS.2.2 dX5_endless_43
      · skip
        refine lv_iconst (v := 1) hx hb dX5_endless_38 (by decide +kernel) ?_
        refine lv_goto (tgt := 43) hx hb dX5_endless_39 (by decide +kernel) ?_
        have he : o_X5_endless w f p1 p2 = (true, (o_X5_fails (o_X5_isNo p1) true).2) := by (rw [o_X5_endless, if_neg c_3, if_neg c_9, if_pos c_11]) <;> rfl
        refine W.widen (k := 0) (n := 0) (by omega) (by omega) ?_
        exact W.zret (v := 1) (ty := .boolean) hx hb hr rfl (fun t ht hW => ⟨⟨_, (), rfl, (by (rw [he]) <;> rfl), (by rw [he]; exact ⟨by rw [ht]; exact hP, hD⟩)⟩, hS.F ht⟩) hS.2.2 dX5_endless_43
theorem cl_X5_find_1 : ∀ w ∈ [.fieldLink RX5 74 "EdgefloatsModel$Row" "cells" "[J", .methodLink RX5 35 yX5_isNo, .static yX5_isNo, .initialized RX5, .code yX5_isNo cX5_isNo 1 (some .boolean), .methodLink RX5 31 yX5_isIn, .static yX5_isIn, .code yX5_isIn cX5_isIn 3 (some .boolean), .methodLink RX5 42 yX5_fails, .instanceMethod yX5_fails, .selects RX5 yX5_fails yX5_fails, .code yX5_fails cX5_fails 3 (some .boolean), .fieldLink RX5 27 "EdgefloatsModel" "thrown" "I", .methodLink RX5 121 yX4_find, .instanceMethod yX4_find, .selects RX4 yX4_find yX4_find, .initialized RX4, .code yX4_find cX4_find 6 (some .int), .fieldLink RX4 9 "EdgefloatsModel$Row" "cells" "[J"], w ∈ wsX5_find := fun _ h => (List.mem_cons_of_mem _ (List.mem_append_left _ (List.mem_append_left _ h)))
theorem cl_X5_find_2 : ∀ w ∈ wsX40, w ∈ wsX5_find := fun _ h => (List.mem_cons_of_mem _ (List.mem_append_left _ (List.mem_append_right _ h)))
theorem cl_X5_find_3 : ∀ w ∈ wsX50, w ∈ wsX5_find := fun _ h => (List.mem_cons_of_mem _ (List.mem_append_right _ h))
set_option maxRecDepth 20000 in
theorem ggX5_find_X5_isNo : GoodIn wsX5_find wsX5_isNo := goodIn_sub (List.forall_mem_cons.mpr ⟨(cl_X5_find_1 _ (List.mem_of_getElem? (i := 4) rfl)), List.forall_mem_cons.mpr ⟨(cl_X5_find_1 _ (List.mem_of_getElem? (i := 5) rfl)), List.forall_mem_cons.mpr ⟨(cl_X5_find_1 _ (List.mem_of_getElem? (i := 6) rfl)), List.forall_mem_cons.mpr ⟨(cl_X5_find_1 _ (List.mem_of_getElem? (i := 3) rfl)), List.forall_mem_cons.mpr ⟨(cl_X5_find_1 _ (List.mem_of_getElem? (i := 7) rfl)), fun _ h => absurd h List.not_mem_nil⟩⟩⟩⟩⟩) (by decide +kernel)
set_option maxRecDepth 20000 in
theorem gX5_find_X5_isNo : GoodIn wsX5_find (va_wsS RX5 35 yX5_isNo wsX5_isNo) := goodIn_app (goodIn_sub (List.forall_mem_cons.mpr ⟨(cl_X5_find_1 _ (List.mem_of_getElem? (i := 1) rfl)), List.forall_mem_cons.mpr ⟨(cl_X5_find_1 _ (List.mem_of_getElem? (i := 2) rfl)), List.forall_mem_cons.mpr ⟨(cl_X5_find_1 _ (List.mem_of_getElem? (i := 3) rfl)), fun _ h => absurd h List.not_mem_nil⟩⟩⟩) (by decide +kernel)) ggX5_find_X5_isNo
set_option maxRecDepth 20000 in
theorem ggX5_find_X5_fails : GoodIn wsX5_find wsX5_fails := goodIn_sub (List.forall_mem_cons.mpr ⟨(cl_X5_find_1 _ (List.mem_of_getElem? (i := 11) rfl)), fun w h => (List.mem_append.mp h).elim ((List.forall_mem_cons.mpr ⟨(cl_X5_find_1 _ (List.mem_of_getElem? (i := 12) rfl)), fun _ h => absurd h List.not_mem_nil⟩) w) ((cl_X5_find_3) w)⟩) (by decide +kernel)
set_option maxRecDepth 20000 in
theorem gX5_find_X5_fails : GoodIn wsX5_find (wsV RX5 42 RX5 yX5_fails wsX5_fails) := goodIn_app (goodIn_sub (List.forall_mem_cons.mpr ⟨(cl_X5_find_1 _ (List.mem_of_getElem? (i := 8) rfl)), List.forall_mem_cons.mpr ⟨(cl_X5_find_1 _ (List.mem_of_getElem? (i := 9) rfl)), List.forall_mem_cons.mpr ⟨(cl_X5_find_1 _ (List.mem_of_getElem? (i := 10) rfl)), List.forall_mem_cons.mpr ⟨(cl_X5_find_1 _ (List.mem_of_getElem? (i := 3) rfl)), fun _ h => absurd h List.not_mem_nil⟩⟩⟩⟩) (by decide +kernel)) ggX5_find_X5_fails
set_option maxRecDepth 20000 in
theorem ggX5_find_X4_find : GoodIn wsX5_find wsX4_find := goodIn_sub (List.forall_mem_cons.mpr ⟨(cl_X5_find_1 _ (List.mem_of_getElem? (i := 17) rfl)), fun w h => (List.mem_append.mp h).elim ((List.forall_mem_cons.mpr ⟨(cl_X5_find_1 _ (List.mem_of_getElem? (i := 18) rfl)), fun _ h => absurd h List.not_mem_nil⟩) w) ((cl_X5_find_2) w)⟩) (by decide +kernel)
set_option maxRecDepth 20000 in
theorem gX5_find_X4_find : GoodIn wsX5_find (wsV RX5 121 RX4 yX4_find wsX4_find) := goodIn_app (goodIn_sub (List.forall_mem_cons.mpr ⟨(cl_X5_find_1 _ (List.mem_of_getElem? (i := 13) rfl)), List.forall_mem_cons.mpr ⟨(cl_X5_find_1 _ (List.mem_of_getElem? (i := 14) rfl)), List.forall_mem_cons.mpr ⟨(cl_X5_find_1 _ (List.mem_of_getElem? (i := 15) rfl)), List.forall_mem_cons.mpr ⟨(cl_X5_find_1 _ (List.mem_of_getElem? (i := 16) rfl)), fun _ h => absurd h List.not_mem_nil⟩⟩⟩⟩) (by decide +kernel)) ggX5_find_X4_find
noncomputable def dz_p09_25 : List (Nat × Instr × Nat) := [(0, (.aload_n 0, 1)), (1, (.iload_n 2, 1)), (2, (.invokestatic 35, 3)), (5, (.iconst 0, 1)), (6, (.invokevirtual 42, 3)), (9, (.ifCond .eq 7, 3)), (12, (.iconst 0, 1)), (13, (.goto 14, 3)), (16, (.aload_n 1, 1)), (17, (.aload_n 1, 1)), (18, (.getfield 74, 3)), (21, (.iload_n 2, 1)), (22, (.laload, 1)), (23, (.iload_n 3, 1)), (24, (.invokevirtual 121, 3)), (27, (.ireturn, 1))]
theorem dy_p09_25 : dz_ok cX5_find dz_p09_25 = true := by decide +kernel
theorem dX5_find_0 : decode cX5_find 0 = .ok (.aload_n 0, 1) := dz_at (i := 0) dy_p09_25 rfl
theorem dX5_find_1 : decode cX5_find 1 = .ok (.iload_n 2, 1) := dz_at (i := 1) dy_p09_25 rfl
theorem dX5_find_2 : decode cX5_find 2 = .ok (.invokestatic 35, 3) := dz_at (i := 2) dy_p09_25 rfl
theorem dX5_find_5 : decode cX5_find 5 = .ok (.iconst 0, 1) := dz_at (i := 3) dy_p09_25 rfl
theorem dX5_find_6 : decode cX5_find 6 = .ok (.invokevirtual 42, 3) := dz_at (i := 4) dy_p09_25 rfl
theorem dX5_find_9 : decode cX5_find 9 = .ok (.ifCond .eq 7, 3) := dz_at (i := 5) dy_p09_25 rfl
theorem dX5_find_12 : decode cX5_find 12 = .ok (.iconst 0, 1) := dz_at (i := 6) dy_p09_25 rfl
theorem dX5_find_13 : decode cX5_find 13 = .ok (.goto 14, 3) := dz_at (i := 7) dy_p09_25 rfl
theorem dX5_find_16 : decode cX5_find 16 = .ok (.aload_n 1, 1) := dz_at (i := 8) dy_p09_25 rfl
theorem dX5_find_17 : decode cX5_find 17 = .ok (.aload_n 1, 1) := dz_at (i := 9) dy_p09_25 rfl
theorem dX5_find_18 : decode cX5_find 18 = .ok (.getfield 74, 3) := dz_at (i := 10) dy_p09_25 rfl
theorem dX5_find_21 : decode cX5_find 21 = .ok (.iload_n 2, 1) := dz_at (i := 11) dy_p09_25 rfl
theorem dX5_find_22 : decode cX5_find 22 = .ok (.laload, 1) := dz_at (i := 12) dy_p09_25 rfl
theorem dX5_find_23 : decode cX5_find 23 = .ok (.iload_n 3, 1) := dz_at (i := 13) dy_p09_25 rfl
theorem dX5_find_24 : decode cX5_find 24 = .ok (.invokevirtual 121, 3) := dz_at (i := 14) dy_p09_25 rfl
theorem dX5_find_27 : decode cX5_find 27 = .ok (.ireturn, 1) := dz_at (i := 15) dy_p09_25 rfl
noncomputable def o_X5_find (f : Nat → Int64) (p1 : Int32) (p2 : Bool) : Int32 × Int32 :=
  if (o_X5_fails (o_X5_isNo p1) false).1 = true then (0, (o_X5_fails (o_X5_isNo p1) false).2)
  else ((o_X4_find f (f p1.toNatClampNeg) p2), (o_X5_fails (o_X5_isNo p1) false).2)
set_option maxHeartbeats 4000000 in
set_option maxRecDepth 100000 in
theorem k_X5_find (l : Launch) (dC : Nat → ClassId) (dI : Nat → Nat → Nat) (cy : ClassId) (h0 : Nat) (h1 : Nat) (h2 : Nat) (ro : Nat) (hc : Nat) (w : Bool) (a : Int32) (f : Nat → Int64) (th : Int32) (rf : Int32) (kn : Int32) (sz : Nat) (N : Nat) (p1 : Int32) (p2 : Bool) : Met l yX5_find wsX5_find ({ frames := 2, cells := 0, slots := 0, locals := 42 }) (va_Pc [.ref h0, .ref ro, .int p1, .int (b2i p2)] (xM (dC, dI) xCl [(h0, eM h1 h2 th rf kn), (ro, eMR w hc a), (hc, eA cy f)] [(cy, .long)] sz N)) (va_Qi (fun (r : Int32) (_ : Unit) => r = (o_X5_find f p1 p2).1) (fun _ t => xW (dC, dI) xCl [(h0, eM h1 h2 (o_X5_find f p1 p2).2 rf kn), (ro, eMR w hc a), (hc, eA cy f)] (va_A [(h0, eM h1 h2 th rf kn), (ro, eMR w hc a), (hc, eA cy f)] sz) t) (va_A [(h0, eM h1 h2 th rf kn), (ro, eMR w hc a), (hc, eA cy f)] sz)) 0 0 (va_A [(h0, eM h1 h2 th rf kn), (ro, eMR w hc a), (hc, eA cy f)] sz) := by
  refine Met.ofW (cc := cX5_find) (maxL := 4) (ret := (some .int)) (by decide +kernel) rfl ?_
  intro p e s m args below meth c s₁ B hml hv
  obtain ⟨rfl, hsz, hP, hK, hD0, hN, hG⟩ := hv
  have hx := B.exec
  have hb := B.bytes
  have hr := B.returns
  have hts := atoms_spec (ws := wsX5_find) B.pre
  have hown : s.vm.findClass RX5 = some m.cls := findClass_of_methodNamed B.named
  have hlocks := B.notSynchronized
  subst hsz
  have hAN : ∀ q, va_A [(h0, eM h1 h2 th rf kn), (ro, eMR w hc a), (hc, eA cy f)] s.heap.size q → N ≤ q := xA_N hD0 hN
  have hD := hD0.self (sz := s.heap.size)
  generalize hAe : va_A [(h0, eM h1 h2 th rf kn), (ro, eMR w hc a), (hc, eA cy f)] s.heap.size = A at hD hAN ⊢
  have hA : ∀ q : Nat, s.heap.size ≤ q → A q := fun q h => by rw [← hAe]; exact Or.inr h
  have hS : va_S A s.heap s.heap [] := va_S.rf
  have hP : va_P (dC, dI) xCl [(h0, eM h1 h2 th rf kn), (ro, eMR w hc a), (hc, eA cy f)] s.heap := hP
  have hl := lv_entry ([.ref h0, .ref ro, .int p1, .int (b2i p2)]) (n := 4) (Nat.le_of_ble_eq_true rfl)
  rw [lg_entry_eq]
  generalize (lg_sl ([.ref h0, .ref ro, .int p1, .int (b2i p2)]) ++ List.replicate (4 - (lg_sl ([.ref h0, .ref ro, .int p1, .int (b2i p2)])).length) Slot.unset).toArray = ls at hl ⊢
  have hl : lv_has ls 4 [(0, .ref h0), (1, .ref ro), (2, .int p1), (3, .int (b2i p2))] := hl
  refine lv_aload_n hx hb dX5_find_0 rfl (lv_at hl 0 rfl) ?_
  refine lv_iload_n hx hb dX5_find_1 rfl (lv_at hl 2 rfl) ?_
  have hPc := hP.sub (ws' := []) [] rfl
  have hKc := hK.sub (tys' := []) [] rfl
  refine va_calli (va_runS (As := [.int p1]) (rest := [.ref h0]) ⟨hx, hb, hml, hown, hts⟩ (k_X5_isNo l dC dI s.heap.size p1) (va_cwS 1 hts gX5_find_X5_isNo rfl rfl rfl (by decide +kernel) ⟨Nat.le_of_ble_eq_true rfl, Nat.le_of_ble_eq_true rfl⟩) (xB.preS hKc hPc) rfl rfl hl.1 rfl (lv_room (Nat.le_of_ble_eq_true rfl)) dX5_find_2 ⟨Nat.le_of_ble_eq_true rfl, Nat.le_of_ble_eq_true rfl⟩) hS xA_old (fun q h => hA q (Nat.le_trans hS.1 h)) (fun r_1 u t H locs ht hvm hw hB hz hk hS => ?_)
  replace hw : r_1 = b2i (o_X5_isNo p1) := hw
  subst r_1
  have hP := xP_keep hP hk
  refine lv_iconst (v := 0) hx hb dX5_find_5 (by decide +kernel) ?_
  have hPc := hP.sub (ws' := [(h0, eM h1 h2 th rf kn)]) [0] rfl
  have hDc := hD.sub (ws' := [(h0, eM h1 h2 th rf kn)]) [0] (by decide +kernel) rfl
  have hKc := hK.sub (tys' := []) [] rfl
  have hFc := va_free (wc := [(h0, eM h1 h2 th rf kn)]) hD hS hA [0] rfl
  refine va_calli (va_runV (As := [.int (b2i (o_X5_isNo p1)), .int 0]) (rest := []) ⟨hx, hb, hml, hown, hts⟩ (k_X5_fails l dC dI h0 h1 h2 th rf kn H.size N (o_X5_isNo p1) false) (cwV 2 hts gX5_find_X5_fails rfl rfl rfl (by decide +kernel) ⟨Nat.le_of_ble_eq_true rfl, Nat.le_of_ble_eq_true rfl⟩) (xM.preV hKc hPc hDc hAN (Nat.le_trans hN hS.1) (hG.kept hS hAN) (ci := 7) (q0 := 0) rfl rfl) rfl rfl hl.1 rfl (lv_room (Nat.le_of_ble_eq_true rfl)) dX5_find_6 ⟨Nat.le_of_ble_eq_true rfl, Nat.le_of_ble_eq_true rfl⟩) hS (fun q _ h => hFc q h) hFc (fun r_2 u t H locs ht hvm hw hB hz hk hS => ?_)
  replace hw : r_2 = b2i ((o_X5_fails (o_X5_isNo p1) false).1) := hw
  subst r_2
  obtain ⟨hP1, hD1⟩ := hB
  rw [ht] at hP1
  obtain ⟨hP, hD⟩ := va_join (wr := [(ro, eMR w hc a), (hc, eA cy f)]) (w1 := [(h0, eM h1 h2 (o_X5_fails (o_X5_isNo p1) false).2 rf kn)]) hP hD [0] [1, 2] rfl rfl (by decide +kernel) (by decide +kernel) hk hFc hP1 hD1
  have hP := hP.sub (ws' := [(h0, eM h1 h2 (o_X5_fails (o_X5_isNo p1) false).2 rf kn), (ro, eMR w hc a), (hc, eA cy f)]) [2, 0, 1] rfl
  have hD := hD.sub (ws' := [(h0, eM h1 h2 (o_X5_fails (o_X5_isNo p1) false).2 rf kn), (ro, eMR w hc a), (hc, eA cy f)]) [2, 0, 1] (by decide +kernel) rfl
  refine xz_eq (tgt := 16) hx hb dX5_find_9 (by decide +kernel) (fun c_3 => ?_) (fun c_3 => ?_)
  · skip
    refine lv_aload_n hx hb dX5_find_16 rfl (lv_at hl 1 rfl) ?_
    refine lv_aload_n hx hb dX5_find_17 rfl (lv_at hl 1 rfl) ?_
    refine va_get (D := (dC, dI)) (ci := 6) (v := .ref hc) (C := RX4) (T := TX4) (N := 5) hx hb hts (by decide +kernel) hown hK hP 1 rfl rfl 3 (by decide +kernel) (hts (.fieldLink RX5 74 "EdgefloatsModel$Row" "cells" "[J") (by decide +kernel)) (fun _ h9 => h9) rfl dX5_find_18 ?_
    refine lv_iload_n hx hb dX5_find_21 rfl (lv_at hl 2 rfl) ?_
    refine xa_lald hx hb hK hP 2 0 (f := f) rfl rfl (k := p1.toNatClampNeg) (xm_isNo (xm_fails c_3)) rfl dX5_find_22 ?_
    refine lv_iload_n hx hb dX5_find_23 rfl (lv_at hl 3 rfl) ?_
    have hPc := hP.sub (ws' := [(ro, eMR w hc a), (hc, eA cy f)]) [1, 2] rfl
    have hKc := hK.sub (tys' := [(cy, .long)]) [0] rfl
    refine va_calli (va_runV (As := [.long (f p1.toNatClampNeg), .int (b2i p2)]) (rest := []) ⟨hx, hb, hml, hown, hts⟩ (k_X4_find l dC dI cy ro hc w a f H.size (f p1.toNatClampNeg) p2) (cwV 2 hts gX5_find_X4_find rfl rfl rfl (by decide +kernel) ⟨Nat.le_of_ble_eq_true rfl, Nat.le_of_ble_eq_true rfl⟩) (xB.preV hKc hPc (ci := 6) (q0 := 0) rfl rfl) rfl rfl hl.1 rfl (lv_room (Nat.le_of_ble_eq_true rfl)) dX5_find_24 ⟨Nat.le_of_ble_eq_true rfl, Nat.le_of_ble_eq_true rfl⟩) hS xA_old (fun q h => hA q (Nat.le_trans hS.1 h)) (fun r_4 u t H locs ht hvm hw hB hz hk hS => ?_)
    replace hw : r_4 = (o_X4_find f (f p1.toNatClampNeg) p2) := hw
    subst r_4
    have hP := xP_keep hP hk
    have he : o_X5_find f p1 p2 = ((o_X4_find f (f p1.toNatClampNeg) p2), (o_X5_fails (o_X5_isNo p1) false).2) := by (rw [o_X5_find, if_neg c_3]) <;> rfl
    refine W.widen (k := 0) (n := 0) (by omega) (by omega) ?_
    exact W.iret (v := (o_X4_find f (f p1.toNatClampNeg) p2)) hx hb hr (fun t ht hW => ⟨⟨_, (), rfl, (by (rw [he]) <;> rfl), (by rw [he]; exact ⟨by rw [ht]; exact hP, hD⟩)⟩, hS.F ht⟩) hS.2.2 dX5_find_27
  · skip
    refine lv_iconst (v := 0) hx hb dX5_find_12 (by decide +kernel) ?_
    refine lv_goto (tgt := 27) hx hb dX5_find_13 (by decide +kernel) ?_
    have he : o_X5_find f p1 p2 = (0, (o_X5_fails (o_X5_isNo p1) false).2) := by (rw [o_X5_find, if_pos c_3]) <;> rfl
    refine W.widen (k := 0) (n := 0) (by omega) (by omega) ?_
    exact W.iret (v := 0) hx hb hr (fun t ht hW => ⟨⟨_, (), rfl, (by (rw [he]) <;> rfl), (by rw [he]; exact ⟨by rw [ht]; exact hP, hD⟩)⟩, hS.F ht⟩) hS.2.2 dX5_find_27
set_option maxRecDepth 20000 in
theorem ggX5_has_X5_isIn : GoodIn wsX5_has wsX5_isIn := goodIn_r _ [4] (by decide +kernel) (by decide +kernel)
theorem cl_X5_has_1 : ∀ w ∈ wsX5_has_r1, w ∈ wsX5_has := fun _ h => (List.mem_cons_of_mem _ (List.mem_append_left _ (List.mem_append_left _ (List.mem_append_left _ h))))
theorem cl_X5_has_2 : ∀ w ∈ wsX5_has_r2, w ∈ wsX5_has := fun _ h => (List.mem_cons_of_mem _ (List.mem_append_left _ (List.mem_append_left _ (List.mem_append_right _ h))))
theorem cl_X5_has_3 : ∀ w ∈ wsX50, w ∈ wsX5_has := fun _ h => (List.mem_cons_of_mem _ (List.mem_append_left _ (List.mem_append_right _ h)))
theorem cl_X5_has_4 : ∀ w ∈ wsX40, w ∈ wsX5_has := fun _ h => (List.mem_cons_of_mem _ (List.mem_append_right _ h))
set_option maxRecDepth 20000 in
theorem gX5_has_X5_isIn : GoodIn wsX5_has (va_wsS RX5 31 yX5_isIn wsX5_isIn) := goodIn_app (goodIn_sub (List.forall_mem_cons.mpr ⟨(cl_X5_has_1 _ (List.mem_of_getElem? (i := 0) rfl)), List.forall_mem_cons.mpr ⟨(cl_X5_has_1 _ (List.mem_of_getElem? (i := 1) rfl)), List.forall_mem_cons.mpr ⟨(cl_X5_has_1 _ (List.mem_of_getElem? (i := 2) rfl)), fun _ h => absurd h List.not_mem_nil⟩⟩⟩) (by decide +kernel)) ggX5_has_X5_isIn
set_option maxRecDepth 20000 in
theorem ggX5_has_X5_fails : GoodIn wsX5_has wsX5_fails := goodIn_sub (List.forall_mem_cons.mpr ⟨(cl_X5_has_1 _ (List.mem_of_getElem? (i := 7) rfl)), fun w h => (List.mem_append.mp h).elim ((List.forall_mem_cons.mpr ⟨(cl_X5_has_1 _ (List.mem_of_getElem? (i := 8) rfl)), fun _ h => absurd h List.not_mem_nil⟩) w) ((cl_X5_has_3) w)⟩) (by decide +kernel)
set_option maxRecDepth 20000 in
theorem gX5_has_X5_fails : GoodIn wsX5_has (wsV RX5 42 RX5 yX5_fails wsX5_fails) := goodIn_app (goodIn_sub (List.forall_mem_cons.mpr ⟨(cl_X5_has_1 _ (List.mem_of_getElem? (i := 4) rfl)), List.forall_mem_cons.mpr ⟨(cl_X5_has_1 _ (List.mem_of_getElem? (i := 5) rfl)), List.forall_mem_cons.mpr ⟨(cl_X5_has_1 _ (List.mem_of_getElem? (i := 6) rfl)), List.forall_mem_cons.mpr ⟨(cl_X5_has_1 _ (List.mem_of_getElem? (i := 2) rfl)), fun _ h => absurd h List.not_mem_nil⟩⟩⟩⟩) (by decide +kernel)) ggX5_has_X5_fails
set_option maxRecDepth 20000 in
theorem ggX5_has_X4_known : GoodIn wsX5_has wsX4_known := goodIn_sub (List.forall_mem_cons.mpr ⟨(cl_X5_has_1 _ (List.mem_of_getElem? (i := 13) rfl)), fun w h => (List.mem_append.mp h).elim ((List.forall_mem_cons.mpr ⟨(cl_X5_has_1 _ (List.mem_of_getElem? (i := 14) rfl)), List.forall_mem_cons.mpr ⟨(cl_X5_has_1 _ (List.mem_of_getElem? (i := 15) rfl)), List.forall_mem_cons.mpr ⟨(cl_X5_has_1 _ (List.mem_of_getElem? (i := 16) rfl)), List.forall_mem_cons.mpr ⟨(cl_X5_has_1 _ (List.mem_of_getElem? (i := 17) rfl)), List.forall_mem_cons.mpr ⟨(cl_X5_has_1 _ (List.mem_of_getElem? (i := 12) rfl)), List.forall_mem_cons.mpr ⟨(cl_X5_has_1 _ (List.mem_of_getElem? (i := 18) rfl)), List.forall_mem_cons.mpr ⟨(cl_X5_has_1 _ (List.mem_of_getElem? (i := 19) rfl)), List.forall_mem_cons.mpr ⟨(cl_X5_has_1 _ (List.mem_of_getElem? (i := 20) rfl)), List.forall_mem_cons.mpr ⟨(cl_X5_has_1 _ (List.mem_of_getElem? (i := 21) rfl)), List.forall_mem_cons.mpr ⟨(cl_X5_has_1 _ (List.mem_of_getElem? (i := 22) rfl)), List.forall_mem_cons.mpr ⟨(cl_X5_has_1 _ (List.mem_of_getElem? (i := 23) rfl)), fun _ h => absurd h List.not_mem_nil⟩⟩⟩⟩⟩⟩⟩⟩⟩⟩⟩) w) ((cl_X5_has_4) w)⟩) (by decide +kernel)
set_option maxRecDepth 20000 in
theorem gX5_has_X4_known : GoodIn wsX5_has (wsV RX5 66 RX4 yX4_known wsX4_known) := goodIn_app (goodIn_sub (List.forall_mem_cons.mpr ⟨(cl_X5_has_1 _ (List.mem_of_getElem? (i := 9) rfl)), List.forall_mem_cons.mpr ⟨(cl_X5_has_1 _ (List.mem_of_getElem? (i := 10) rfl)), List.forall_mem_cons.mpr ⟨(cl_X5_has_1 _ (List.mem_of_getElem? (i := 11) rfl)), List.forall_mem_cons.mpr ⟨(cl_X5_has_1 _ (List.mem_of_getElem? (i := 12) rfl)), fun _ h => absurd h List.not_mem_nil⟩⟩⟩⟩) (by decide +kernel)) ggX5_has_X4_known
set_option maxRecDepth 20000 in
theorem ggX5_has_X4_find : GoodIn wsX5_has wsX4_find := goodIn_sub (List.forall_mem_cons.mpr ⟨(cl_X5_has_2 _ (List.mem_of_getElem? (i := 3) rfl)), fun w h => (List.mem_append.mp h).elim ((List.forall_mem_cons.mpr ⟨(cl_X5_has_2 _ (List.mem_of_getElem? (i := 4) rfl)), fun _ h => absurd h List.not_mem_nil⟩) w) ((cl_X5_has_4) w)⟩) (by decide +kernel)
set_option maxRecDepth 20000 in
theorem gX5_has_X4_find : GoodIn wsX5_has (wsV RX5 121 RX4 yX4_find wsX4_find) := goodIn_app (goodIn_sub (List.forall_mem_cons.mpr ⟨(cl_X5_has_2 _ (List.mem_of_getElem? (i := 0) rfl)), List.forall_mem_cons.mpr ⟨(cl_X5_has_2 _ (List.mem_of_getElem? (i := 1) rfl)), List.forall_mem_cons.mpr ⟨(cl_X5_has_2 _ (List.mem_of_getElem? (i := 2) rfl)), List.forall_mem_cons.mpr ⟨(cl_X5_has_1 _ (List.mem_of_getElem? (i := 12) rfl)), fun _ h => absurd h List.not_mem_nil⟩⟩⟩⟩) (by decide +kernel)) ggX5_has_X4_find
noncomputable def dz_p09_26 : List (Nat × Instr × Nat) := [(0, (.aload_n 0, 1)), (1, (.iload_n 2, 1)), (2, (.iconst 0, 1)), (3, (.bipush 6, 2)), (5, (.invokestatic 31, 3)), (8, (.ifCond .ne 7, 3)), (11, (.iconst 1, 1)), (12, (.goto 4, 3)), (15, (.iconst 0, 1)), (16, (.iconst 0, 1)), (17, (.invokevirtual 42, 3)), (20, (.ifCond .ne 20, 3)), (23, (.aload_n 1, 1)), (24, (.aload_n 1, 1)), (25, (.iload_n 2, 1)), (26, (.invokevirtual 66, 3)), (29, (.iconst 0, 1)), (30, (.invokevirtual 121, 3)), (33, (.ifCond .lt 7, 3)), (36, (.iconst 1, 1)), (37, (.goto 4, 3)), (40, (.iconst 0, 1)), (41, (.ireturn, 1))]
theorem dy_p09_26 : dz_ok cX5_has dz_p09_26 = true := by decide +kernel
theorem dX5_has_0 : decode cX5_has 0 = .ok (.aload_n 0, 1) := dz_at (i := 0) dy_p09_26 rfl
theorem dX5_has_1 : decode cX5_has 1 = .ok (.iload_n 2, 1) := dz_at (i := 1) dy_p09_26 rfl
theorem dX5_has_2 : decode cX5_has 2 = .ok (.iconst 0, 1) := dz_at (i := 2) dy_p09_26 rfl
theorem dX5_has_3 : decode cX5_has 3 = .ok (.bipush 6, 2) := dz_at (i := 3) dy_p09_26 rfl
theorem dX5_has_5 : decode cX5_has 5 = .ok (.invokestatic 31, 3) := dz_at (i := 4) dy_p09_26 rfl
theorem dX5_has_8 : decode cX5_has 8 = .ok (.ifCond .ne 7, 3) := dz_at (i := 5) dy_p09_26 rfl
theorem dX5_has_11 : decode cX5_has 11 = .ok (.iconst 1, 1) := dz_at (i := 6) dy_p09_26 rfl
theorem dX5_has_12 : decode cX5_has 12 = .ok (.goto 4, 3) := dz_at (i := 7) dy_p09_26 rfl
theorem dX5_has_15 : decode cX5_has 15 = .ok (.iconst 0, 1) := dz_at (i := 8) dy_p09_26 rfl
theorem dX5_has_16 : decode cX5_has 16 = .ok (.iconst 0, 1) := dz_at (i := 9) dy_p09_26 rfl
theorem dX5_has_17 : decode cX5_has 17 = .ok (.invokevirtual 42, 3) := dz_at (i := 10) dy_p09_26 rfl
theorem dX5_has_20 : decode cX5_has 20 = .ok (.ifCond .ne 20, 3) := dz_at (i := 11) dy_p09_26 rfl
theorem dX5_has_23 : decode cX5_has 23 = .ok (.aload_n 1, 1) := dz_at (i := 12) dy_p09_26 rfl
theorem dX5_has_24 : decode cX5_has 24 = .ok (.aload_n 1, 1) := dz_at (i := 13) dy_p09_26 rfl
theorem dX5_has_25 : decode cX5_has 25 = .ok (.iload_n 2, 1) := dz_at (i := 14) dy_p09_26 rfl
theorem dX5_has_26 : decode cX5_has 26 = .ok (.invokevirtual 66, 3) := dz_at (i := 15) dy_p09_26 rfl
theorem dX5_has_29 : decode cX5_has 29 = .ok (.iconst 0, 1) := dz_at (i := 16) dy_p09_26 rfl
theorem dX5_has_30 : decode cX5_has 30 = .ok (.invokevirtual 121, 3) := dz_at (i := 17) dy_p09_26 rfl
theorem dX5_has_33 : decode cX5_has 33 = .ok (.ifCond .lt 7, 3) := dz_at (i := 18) dy_p09_26 rfl
theorem dX5_has_36 : decode cX5_has 36 = .ok (.iconst 1, 1) := dz_at (i := 19) dy_p09_26 rfl
theorem dX5_has_37 : decode cX5_has 37 = .ok (.goto 4, 3) := dz_at (i := 20) dy_p09_26 rfl
theorem dX5_has_40 : decode cX5_has 40 = .ok (.iconst 0, 1) := dz_at (i := 21) dy_p09_26 rfl
theorem dX5_has_41 : decode cX5_has 41 = .ok (.ireturn, 1) := dz_at (i := 22) dy_p09_26 rfl
noncomputable def o_X5_has (w : Bool) (f : Nat → Int64) (p1 : Int32) : Bool × Int32 :=
  if (o_X5_isIn p1 0 6) = true then (if (o_X4_find f (o_X4_known w p1) false) < 0 then (false, (o_X5_fails false false).2)
    else (true, (o_X5_fails false false).2))
  else (false, (o_X5_fails true false).2)
set_option maxHeartbeats 4000000 in
set_option maxRecDepth 100000 in
theorem k_X5_has (l : Launch) (dC : Nat → ClassId) (dI : Nat → Nat → Nat) (cy : ClassId) (h0 : Nat) (h1 : Nat) (h2 : Nat) (ro : Nat) (hc : Nat) (w : Bool) (a : Int32) (f : Nat → Int64) (th : Int32) (rf : Int32) (kn : Int32) (sz : Nat) (N : Nat) (p1 : Int32) : Met l yX5_has wsX5_has ({ frames := 2, cells := 0, slots := 0, locals := 41 }) (va_Pc [.ref h0, .ref ro, .int p1] (xM (dC, dI) xCl [(h0, eM h1 h2 th rf kn), (ro, eMR w hc a), (hc, eA cy f)] [(cy, .long)] sz N)) (va_Qi (fun (r : Int32) (_ : Unit) => r = b2i ((o_X5_has w f p1).1)) (fun _ t => xW (dC, dI) xCl [(h0, eM h1 h2 (o_X5_has w f p1).2 rf kn), (ro, eMR w hc a), (hc, eA cy f)] (va_A [(h0, eM h1 h2 th rf kn), (ro, eMR w hc a), (hc, eA cy f)] sz) t) (va_A [(h0, eM h1 h2 th rf kn), (ro, eMR w hc a), (hc, eA cy f)] sz)) 0 0 (va_A [(h0, eM h1 h2 th rf kn), (ro, eMR w hc a), (hc, eA cy f)] sz) := by
  refine Met.ofW (cc := cX5_has) (maxL := 3) (ret := (some .boolean)) (by decide +kernel) rfl ?_
  intro p e s m args below meth c s₁ B hml hv
  obtain ⟨rfl, hsz, hP, hK, hD0, hN, hG⟩ := hv
  have hx := B.exec
  have hb := B.bytes
  have hr := B.returns
  have hts := atoms_spec (ws := wsX5_has) B.pre
  have hown : s.vm.findClass RX5 = some m.cls := findClass_of_methodNamed B.named
  have hlocks := B.notSynchronized
  subst hsz
  have hAN : ∀ q, va_A [(h0, eM h1 h2 th rf kn), (ro, eMR w hc a), (hc, eA cy f)] s.heap.size q → N ≤ q := xA_N hD0 hN
  have hD := hD0.self (sz := s.heap.size)
  generalize hAe : va_A [(h0, eM h1 h2 th rf kn), (ro, eMR w hc a), (hc, eA cy f)] s.heap.size = A at hD hAN ⊢
  have hA : ∀ q : Nat, s.heap.size ≤ q → A q := fun q h => by rw [← hAe]; exact Or.inr h
  have hS : va_S A s.heap s.heap [] := va_S.rf
  have hP : va_P (dC, dI) xCl [(h0, eM h1 h2 th rf kn), (ro, eMR w hc a), (hc, eA cy f)] s.heap := hP
  have hl := lv_entry ([.ref h0, .ref ro, .int p1]) (n := 3) (Nat.le_of_ble_eq_true rfl)
  rw [lg_entry_eq]
  generalize (lg_sl ([.ref h0, .ref ro, .int p1]) ++ List.replicate (3 - (lg_sl ([.ref h0, .ref ro, .int p1])).length) Slot.unset).toArray = ls at hl ⊢
  have hl : lv_has ls 3 [(0, .ref h0), (1, .ref ro), (2, .int p1)] := hl
  refine lv_aload_n hx hb dX5_has_0 rfl (lv_at hl 0 rfl) ?_
  refine lv_iload_n hx hb dX5_has_1 rfl (lv_at hl 2 rfl) ?_
  refine lv_iconst (v := 0) hx hb dX5_has_2 (by decide +kernel) ?_
  refine lv_bipush (v := 6) hx hb dX5_has_3 (by decide +kernel) ?_
  have hPc := hP.sub (ws' := []) [] rfl
  have hKc := hK.sub (tys' := []) [] rfl
  refine va_calli (va_runS (As := [.int p1, .int 0, .int 6]) (rest := [.ref h0]) ⟨hx, hb, hml, hown, hts⟩ (k_X5_isIn l dC dI s.heap.size p1 0 6) (va_cwS 3 hts gX5_has_X5_isIn rfl rfl rfl (by decide +kernel) ⟨Nat.le_of_ble_eq_true rfl, Nat.le_of_ble_eq_true rfl⟩) (xB.preS hKc hPc) rfl rfl hl.1 rfl (lv_room (Nat.le_of_ble_eq_true rfl)) dX5_has_5 ⟨Nat.le_of_ble_eq_true rfl, Nat.le_of_ble_eq_true rfl⟩) hS xA_old (fun q h => hA q (Nat.le_trans hS.1 h)) (fun r_1 u t H locs ht hvm hw hB hz hk hS => ?_)
  replace hw : r_1 = b2i (o_X5_isIn p1 0 6) := hw
  subst r_1
  have hP := xP_keep hP hk
  refine xz_ne (tgt := 15) hx hb dX5_has_8 (by decide +kernel) (fun c_2 => ?_) (fun c_2 => ?_)
  · skip
    refine lv_iconst (v := 0) hx hb dX5_has_15 (by decide +kernel) ?_
    refine lv_iconst (v := 0) hx hb dX5_has_16 (by decide +kernel) ?_
    have hPc := hP.sub (ws' := [(h0, eM h1 h2 th rf kn)]) [0] rfl
    have hDc := hD.sub (ws' := [(h0, eM h1 h2 th rf kn)]) [0] (by decide +kernel) rfl
    have hKc := hK.sub (tys' := []) [] rfl
    have hFc := va_free (wc := [(h0, eM h1 h2 th rf kn)]) hD hS hA [0] rfl
    refine va_calli (va_runV (As := [.int 0, .int 0]) (rest := []) ⟨hx, hb, hml, hown, hts⟩ (k_X5_fails l dC dI h0 h1 h2 th rf kn H.size N false false) (cwV 2 hts gX5_has_X5_fails rfl rfl rfl (by decide +kernel) ⟨Nat.le_of_ble_eq_true rfl, Nat.le_of_ble_eq_true rfl⟩) (xM.preV hKc hPc hDc hAN (Nat.le_trans hN hS.1) (hG.kept hS hAN) (ci := 7) (q0 := 0) rfl rfl) rfl rfl hl.1 rfl (lv_room (Nat.le_of_ble_eq_true rfl)) dX5_has_17 ⟨Nat.le_of_ble_eq_true rfl, Nat.le_of_ble_eq_true rfl⟩) hS (fun q _ h => hFc q h) hFc (fun r_3 u t H locs ht hvm hw hB hz hk hS => ?_)
    replace hw : r_3 = b2i ((o_X5_fails false false).1) := hw
    subst r_3
    obtain ⟨hP1, hD1⟩ := hB
    rw [ht] at hP1
    obtain ⟨hP, hD⟩ := va_join (wr := [(ro, eMR w hc a), (hc, eA cy f)]) (w1 := [(h0, eM h1 h2 (o_X5_fails false false).2 rf kn)]) hP hD [0] [1, 2] rfl rfl (by decide +kernel) (by decide +kernel) hk hFc hP1 hD1
    have hP := hP.sub (ws' := [(h0, eM h1 h2 (o_X5_fails false false).2 rf kn), (ro, eMR w hc a), (hc, eA cy f)]) [2, 0, 1] rfl
    have hD := hD.sub (ws' := [(h0, eM h1 h2 (o_X5_fails false false).2 rf kn), (ro, eMR w hc a), (hc, eA cy f)]) [2, 0, 1] (by decide +kernel) rfl
    refine xz_ne (tgt := 40) hx hb dX5_has_20 (by decide +kernel) (fun c9 => absurd c9 (by decide +kernel)) (fun c9 => ?_)
    refine lv_aload_n hx hb dX5_has_23 rfl (lv_at hl 1 rfl) ?_
    refine lv_aload_n hx hb dX5_has_24 rfl (lv_at hl 1 rfl) ?_
    refine lv_iload_n hx hb dX5_has_25 rfl (lv_at hl 2 rfl) ?_
    have hPc := hP.sub (ws' := [(ro, eMR w hc a), (hc, eA cy f)]) [1, 2] rfl
    have hKc := hK.sub (tys' := [(cy, .long)]) [0] rfl
    refine va_calll (va_runV (As := [.int p1]) (rest := [.ref ro]) ⟨hx, hb, hml, hown, hts⟩ (k_X4_known l dC dI cy ro hc w a f H.size p1) (cwV 1 hts gX5_has_X4_known rfl rfl rfl (by decide +kernel) ⟨Nat.le_of_ble_eq_true rfl, Nat.le_of_ble_eq_true rfl⟩) (xB.preV hKc hPc (ci := 6) (q0 := 0) rfl rfl) rfl rfl hl.1 rfl (lv_room (Nat.le_of_ble_eq_true rfl)) dX5_has_26 ⟨Nat.le_of_ble_eq_true rfl, Nat.le_of_ble_eq_true rfl⟩) hS xA_old (fun q h => hA q (Nat.le_trans hS.1 h)) (fun r_4 u t H locs ht hvm hw hB hz hk hS => ?_)
    replace hw : r_4 = (o_X4_known w p1) := hw
    subst r_4
    have hP := xP_keep hP hk
    refine lv_iconst (v := 0) hx hb dX5_has_29 (by decide +kernel) ?_
    have hPc := hP.sub (ws' := [(ro, eMR w hc a), (hc, eA cy f)]) [1, 2] rfl
    have hKc := hK.sub (tys' := [(cy, .long)]) [0] rfl
    refine va_calli (va_runV (As := [.long (o_X4_known w p1), .int 0]) (rest := []) ⟨hx, hb, hml, hown, hts⟩ (k_X4_find l dC dI cy ro hc w a f H.size (o_X4_known w p1) false) (cwV 2 hts gX5_has_X4_find rfl rfl rfl (by decide +kernel) ⟨Nat.le_of_ble_eq_true rfl, Nat.le_of_ble_eq_true rfl⟩) (xB.preV hKc hPc (ci := 6) (q0 := 0) rfl rfl) rfl rfl hl.1 rfl (lv_room (Nat.le_of_ble_eq_true rfl)) dX5_has_30 ⟨Nat.le_of_ble_eq_true rfl, Nat.le_of_ble_eq_true rfl⟩) hS xA_old (fun q h => hA q (Nat.le_trans hS.1 h)) (fun r_5 u t H locs ht hvm hw hB hz hk hS => ?_)
    replace hw : r_5 = (o_X4_find f (o_X4_known w p1) false) := hw
    subst r_5
    have hP := xP_keep hP hk
    refine lv_if_lt (tgt := 40) hx hb dX5_has_33 (by decide +kernel) (fun c_6 => ?_) (fun c_6 => ?_)
    · skip
      refine lv_iconst (v := 0) hx hb dX5_has_40 (by decide +kernel) ?_
      have he : o_X5_has w f p1 = (false, (o_X5_fails false false).2) := by (rw [o_X5_has, if_pos c_2, if_pos c_6]) <;> rfl
      refine W.widen (k := 0) (n := 0) (by omega) (by omega) ?_
      exact W.zret (v := 0) (ty := .boolean) hx hb hr rfl (fun t ht hW => ⟨⟨_, (), rfl, (by (rw [he]) <;> rfl), (by rw [he]; exact ⟨by rw [ht]; exact hP, hD⟩)⟩, hS.F ht⟩) hS.2.2 dX5_has_41
    · skip
      refine lv_iconst (v := 1) hx hb dX5_has_36 (by decide +kernel) ?_
      refine lv_goto (tgt := 41) hx hb dX5_has_37 (by decide +kernel) ?_
      have he : o_X5_has w f p1 = (true, (o_X5_fails false false).2) := by (rw [o_X5_has, if_pos c_2, if_neg c_6]) <;> rfl
      refine W.widen (k := 0) (n := 0) (by omega) (by omega) ?_
      exact W.zret (v := 1) (ty := .boolean) hx hb hr rfl (fun t ht hW => ⟨⟨_, (), rfl, (by (rw [he]) <;> rfl), (by rw [he]; exact ⟨by rw [ht]; exact hP, hD⟩)⟩, hS.F ht⟩) hS.2.2 dX5_has_41
  · skip
    refine lv_iconst (v := 1) hx hb dX5_has_11 (by decide +kernel) ?_
    refine lv_goto (tgt := 16) hx hb dX5_has_12 (by decide +kernel) ?_
    refine lv_iconst (v := 0) hx hb dX5_has_16 (by decide +kernel) ?_
    have hPc := hP.sub (ws' := [(h0, eM h1 h2 th rf kn)]) [0] rfl
    have hDc := hD.sub (ws' := [(h0, eM h1 h2 th rf kn)]) [0] (by decide +kernel) rfl
    have hKc := hK.sub (tys' := []) [] rfl
    have hFc := va_free (wc := [(h0, eM h1 h2 th rf kn)]) hD hS hA [0] rfl
    refine va_calli (va_runV (As := [.int 1, .int 0]) (rest := []) ⟨hx, hb, hml, hown, hts⟩ (k_X5_fails l dC dI h0 h1 h2 th rf kn H.size N true false) (cwV 2 hts gX5_has_X5_fails rfl rfl rfl (by decide +kernel) ⟨Nat.le_of_ble_eq_true rfl, Nat.le_of_ble_eq_true rfl⟩) (xM.preV hKc hPc hDc hAN (Nat.le_trans hN hS.1) (hG.kept hS hAN) (ci := 7) (q0 := 0) rfl rfl) rfl rfl hl.1 rfl (lv_room (Nat.le_of_ble_eq_true rfl)) dX5_has_17 ⟨Nat.le_of_ble_eq_true rfl, Nat.le_of_ble_eq_true rfl⟩) hS (fun q _ h => hFc q h) hFc (fun r_7 u t H locs ht hvm hw hB hz hk hS => ?_)
    replace hw : r_7 = b2i ((o_X5_fails true false).1) := hw
    subst r_7
    obtain ⟨hP1, hD1⟩ := hB
    rw [ht] at hP1
    obtain ⟨hP, hD⟩ := va_join (wr := [(ro, eMR w hc a), (hc, eA cy f)]) (w1 := [(h0, eM h1 h2 (o_X5_fails true false).2 rf kn)]) hP hD [0] [1, 2] rfl rfl (by decide +kernel) (by decide +kernel) hk hFc hP1 hD1
    have hP := hP.sub (ws' := [(h0, eM h1 h2 (o_X5_fails true false).2 rf kn), (ro, eMR w hc a), (hc, eA cy f)]) [2, 0, 1] rfl
    have hD := hD.sub (ws' := [(h0, eM h1 h2 (o_X5_fails true false).2 rf kn), (ro, eMR w hc a), (hc, eA cy f)]) [2, 0, 1] (by decide +kernel) rfl
    refine xz_ne (tgt := 40) hx hb dX5_has_20 (by decide +kernel) (fun c9 => ?_) (fun c9 => absurd (by decide +kernel) c9)
    refine lv_iconst (v := 0) hx hb dX5_has_40 (by decide +kernel) ?_
    have he : o_X5_has w f p1 = (false, (o_X5_fails true false).2) := by (rw [o_X5_has, if_neg c_2]) <;> rfl
    refine W.widen (k := 0) (n := 0) (by omega) (by omega) ?_
    exact W.zret (v := 0) (ty := .boolean) hx hb hr rfl (fun t ht hW => ⟨⟨_, (), rfl, (by (rw [he]) <;> rfl), (by rw [he]; exact ⟨by rw [ht]; exact hP, hD⟩)⟩, hS.F ht⟩) hS.2.2 dX5_has_41
theorem cl_X5_count_1 : ∀ w ∈ wsX5_count_r1, w ∈ wsX5_count := fun _ h => (List.mem_cons_of_mem _ (List.mem_append_left _ (List.mem_append_left _ (List.mem_append_left _ h))))
theorem cl_X5_count_2 : ∀ w ∈ wsX5_count_r2, w ∈ wsX5_count := fun _ h => (List.mem_cons_of_mem _ (List.mem_append_left _ (List.mem_append_left _ (List.mem_append_right _ (List.mem_append_left _ h)))))
theorem cl_X5_count_3 : ∀ w ∈ wsX5_count_r3, w ∈ wsX5_count := fun _ h => (List.mem_cons_of_mem _ (List.mem_append_left _ (List.mem_append_left _ (List.mem_append_right _ (List.mem_append_right _ h)))))
theorem cl_X5_count_4 : ∀ w ∈ wsX40, w ∈ wsX5_count := fun _ h => (List.mem_cons_of_mem _ (List.mem_append_left _ (List.mem_append_right _ h)))
theorem cl_X5_count_5 : ∀ w ∈ wsX50, w ∈ wsX5_count := fun _ h => (List.mem_cons_of_mem _ (List.mem_append_right _ h))
set_option maxRecDepth 20000 in
theorem ggX5_count_X5_isNo : GoodIn wsX5_count wsX5_isNo := goodIn_sub (List.forall_mem_cons.mpr ⟨(cl_X5_count_1 _ (List.mem_of_getElem? (i := 4) rfl)), List.forall_mem_cons.mpr ⟨(cl_X5_count_1 _ (List.mem_of_getElem? (i := 5) rfl)), List.forall_mem_cons.mpr ⟨(cl_X5_count_1 _ (List.mem_of_getElem? (i := 6) rfl)), List.forall_mem_cons.mpr ⟨(cl_X5_count_1 _ (List.mem_of_getElem? (i := 3) rfl)), List.forall_mem_cons.mpr ⟨(cl_X5_count_1 _ (List.mem_of_getElem? (i := 7) rfl)), fun _ h => absurd h List.not_mem_nil⟩⟩⟩⟩⟩) (by decide +kernel)
set_option maxRecDepth 20000 in
theorem gX5_count_X5_isNo : GoodIn wsX5_count (va_wsS RX5 35 yX5_isNo wsX5_isNo) := goodIn_app (goodIn_sub (List.forall_mem_cons.mpr ⟨(cl_X5_count_1 _ (List.mem_of_getElem? (i := 1) rfl)), List.forall_mem_cons.mpr ⟨(cl_X5_count_1 _ (List.mem_of_getElem? (i := 2) rfl)), List.forall_mem_cons.mpr ⟨(cl_X5_count_1 _ (List.mem_of_getElem? (i := 3) rfl)), fun _ h => absurd h List.not_mem_nil⟩⟩⟩) (by decide +kernel)) ggX5_count_X5_isNo
set_option maxRecDepth 20000 in
theorem ggX5_count_X5_fails : GoodIn wsX5_count wsX5_fails := goodIn_sub (List.forall_mem_cons.mpr ⟨(cl_X5_count_1 _ (List.mem_of_getElem? (i := 11) rfl)), fun w h => (List.mem_append.mp h).elim ((List.forall_mem_cons.mpr ⟨(cl_X5_count_1 _ (List.mem_of_getElem? (i := 12) rfl)), fun _ h => absurd h List.not_mem_nil⟩) w) ((cl_X5_count_5) w)⟩) (by decide +kernel)
set_option maxRecDepth 20000 in
theorem gX5_count_X5_fails : GoodIn wsX5_count (wsV RX5 42 RX5 yX5_fails wsX5_fails) := goodIn_app (goodIn_sub (List.forall_mem_cons.mpr ⟨(cl_X5_count_1 _ (List.mem_of_getElem? (i := 8) rfl)), List.forall_mem_cons.mpr ⟨(cl_X5_count_1 _ (List.mem_of_getElem? (i := 9) rfl)), List.forall_mem_cons.mpr ⟨(cl_X5_count_1 _ (List.mem_of_getElem? (i := 10) rfl)), List.forall_mem_cons.mpr ⟨(cl_X5_count_1 _ (List.mem_of_getElem? (i := 3) rfl)), fun _ h => absurd h List.not_mem_nil⟩⟩⟩⟩) (by decide +kernel)) ggX5_count_X5_fails
set_option maxRecDepth 20000 in
theorem ggX5_count_X4_count : GoodIn wsX5_count wsX4_count := goodIn_sub (List.forall_mem_cons.mpr ⟨(cl_X5_count_1 _ (List.mem_of_getElem? (i := 17) rfl)), fun w h => (List.mem_append.mp h).elim ((fun w h => (List.mem_append.mp h).elim ((List.forall_mem_cons.mpr ⟨(cl_X5_count_1 _ (List.mem_of_getElem? (i := 18) rfl)), List.forall_mem_cons.mpr ⟨(cl_X5_count_1 _ (List.mem_of_getElem? (i := 19) rfl)), List.forall_mem_cons.mpr ⟨(cl_X5_count_1 _ (List.mem_of_getElem? (i := 20) rfl)), List.forall_mem_cons.mpr ⟨(cl_X5_count_1 _ (List.mem_of_getElem? (i := 21) rfl)), List.forall_mem_cons.mpr ⟨(cl_X5_count_1 _ (List.mem_of_getElem? (i := 22) rfl)), List.forall_mem_cons.mpr ⟨(cl_X5_count_1 _ (List.mem_of_getElem? (i := 23) rfl)), List.forall_mem_cons.mpr ⟨(cl_X5_count_2 _ (List.mem_of_getElem? (i := 0) rfl)), List.forall_mem_cons.mpr ⟨(cl_X5_count_2 _ (List.mem_of_getElem? (i := 1) rfl)), List.forall_mem_cons.mpr ⟨(cl_X5_count_2 _ (List.mem_of_getElem? (i := 2) rfl)), List.forall_mem_cons.mpr ⟨(cl_X5_count_1 _ (List.mem_of_getElem? (i := 16) rfl)), List.forall_mem_cons.mpr ⟨(cl_X5_count_2 _ (List.mem_of_getElem? (i := 3) rfl)), List.forall_mem_cons.mpr ⟨(cl_X5_count_2 _ (List.mem_of_getElem? (i := 4) rfl)), List.forall_mem_cons.mpr ⟨(cl_X5_count_2 _ (List.mem_of_getElem? (i := 5) rfl)), List.forall_mem_cons.mpr ⟨(cl_X5_count_2 _ (List.mem_of_getElem? (i := 6) rfl)), List.forall_mem_cons.mpr ⟨(cl_X5_count_2 _ (List.mem_of_getElem? (i := 7) rfl)), List.forall_mem_cons.mpr ⟨(cl_X5_count_2 _ (List.mem_of_getElem? (i := 8) rfl)), List.forall_mem_cons.mpr ⟨(cl_X5_count_2 _ (List.mem_of_getElem? (i := 9) rfl)), List.forall_mem_cons.mpr ⟨(cl_X5_count_2 _ (List.mem_of_getElem? (i := 10) rfl)), List.forall_mem_cons.mpr ⟨(cl_X5_count_2 _ (List.mem_of_getElem? (i := 11) rfl)), List.forall_mem_cons.mpr ⟨(cl_X5_count_2 _ (List.mem_of_getElem? (i := 12) rfl)), List.forall_mem_cons.mpr ⟨(cl_X5_count_2 _ (List.mem_of_getElem? (i := 13) rfl)), List.forall_mem_cons.mpr ⟨(cl_X5_count_2 _ (List.mem_of_getElem? (i := 14) rfl)), List.forall_mem_cons.mpr ⟨(cl_X5_count_2 _ (List.mem_of_getElem? (i := 15) rfl)), List.forall_mem_cons.mpr ⟨(cl_X5_count_2 _ (List.mem_of_getElem? (i := 16) rfl)), fun _ h => absurd h List.not_mem_nil⟩⟩⟩⟩⟩⟩⟩⟩⟩⟩⟩⟩⟩⟩⟩⟩⟩⟩⟩⟩⟩⟩⟩⟩) w) ((List.forall_mem_cons.mpr ⟨(cl_X5_count_2 _ (List.mem_of_getElem? (i := 17) rfl)), List.forall_mem_cons.mpr ⟨(cl_X5_count_2 _ (List.mem_of_getElem? (i := 18) rfl)), List.forall_mem_cons.mpr ⟨(cl_X5_count_2 _ (List.mem_of_getElem? (i := 19) rfl)), List.forall_mem_cons.mpr ⟨(cl_X5_count_2 _ (List.mem_of_getElem? (i := 20) rfl)), List.forall_mem_cons.mpr ⟨(cl_X5_count_2 _ (List.mem_of_getElem? (i := 21) rfl)), List.forall_mem_cons.mpr ⟨(cl_X5_count_2 _ (List.mem_of_getElem? (i := 22) rfl)), List.forall_mem_cons.mpr ⟨(cl_X5_count_2 _ (List.mem_of_getElem? (i := 23) rfl)), List.forall_mem_cons.mpr ⟨(cl_X5_count_3 _ (List.mem_of_getElem? (i := 0) rfl)), List.forall_mem_cons.mpr ⟨(cl_X5_count_3 _ (List.mem_of_getElem? (i := 1) rfl)), List.forall_mem_cons.mpr ⟨(cl_X5_count_3 _ (List.mem_of_getElem? (i := 2) rfl)), List.forall_mem_cons.mpr ⟨(cl_X5_count_3 _ (List.mem_of_getElem? (i := 3) rfl)), List.forall_mem_cons.mpr ⟨(cl_X5_count_3 _ (List.mem_of_getElem? (i := 4) rfl)), fun _ h => absurd h List.not_mem_nil⟩⟩⟩⟩⟩⟩⟩⟩⟩⟩⟩⟩) w)) w) ((cl_X5_count_4) w)⟩) (by decide +kernel)
set_option maxRecDepth 20000 in
theorem gX5_count_X4_count : GoodIn wsX5_count (wsV RX5 117 RX4 yX4_count wsX4_count) := goodIn_app (goodIn_sub (List.forall_mem_cons.mpr ⟨(cl_X5_count_1 _ (List.mem_of_getElem? (i := 13) rfl)), List.forall_mem_cons.mpr ⟨(cl_X5_count_1 _ (List.mem_of_getElem? (i := 14) rfl)), List.forall_mem_cons.mpr ⟨(cl_X5_count_1 _ (List.mem_of_getElem? (i := 15) rfl)), List.forall_mem_cons.mpr ⟨(cl_X5_count_1 _ (List.mem_of_getElem? (i := 16) rfl)), fun _ h => absurd h List.not_mem_nil⟩⟩⟩⟩) (by decide +kernel)) ggX5_count_X4_count
noncomputable def dz_p09_27 : List (Nat × Instr × Nat) := [(0, (.aload_n 0, 1)), (1, (.iload_n 2, 1)), (2, (.invokestatic 35, 3)), (5, (.iconst 0, 1)), (6, (.invokevirtual 42, 3)), (9, (.ifCond .eq 7, 3)), (12, (.iconst 0, 1)), (13, (.goto 13, 3)), (16, (.aload_n 1, 1)), (17, (.aload_n 1, 1)), (18, (.getfield 74, 3)), (21, (.iload_n 2, 1)), (22, (.laload, 1)), (23, (.invokevirtual 117, 3)), (26, (.ireturn, 1))]
theorem dy_p09_27 : dz_ok cX5_count dz_p09_27 = true := by decide +kernel
theorem dX5_count_0 : decode cX5_count 0 = .ok (.aload_n 0, 1) := dz_at (i := 0) dy_p09_27 rfl
theorem dX5_count_1 : decode cX5_count 1 = .ok (.iload_n 2, 1) := dz_at (i := 1) dy_p09_27 rfl
theorem dX5_count_2 : decode cX5_count 2 = .ok (.invokestatic 35, 3) := dz_at (i := 2) dy_p09_27 rfl
theorem dX5_count_5 : decode cX5_count 5 = .ok (.iconst 0, 1) := dz_at (i := 3) dy_p09_27 rfl
theorem dX5_count_6 : decode cX5_count 6 = .ok (.invokevirtual 42, 3) := dz_at (i := 4) dy_p09_27 rfl
theorem dX5_count_9 : decode cX5_count 9 = .ok (.ifCond .eq 7, 3) := dz_at (i := 5) dy_p09_27 rfl
theorem dX5_count_12 : decode cX5_count 12 = .ok (.iconst 0, 1) := dz_at (i := 6) dy_p09_27 rfl
theorem dX5_count_13 : decode cX5_count 13 = .ok (.goto 13, 3) := dz_at (i := 7) dy_p09_27 rfl
theorem dX5_count_16 : decode cX5_count 16 = .ok (.aload_n 1, 1) := dz_at (i := 8) dy_p09_27 rfl
theorem dX5_count_17 : decode cX5_count 17 = .ok (.aload_n 1, 1) := dz_at (i := 9) dy_p09_27 rfl
theorem dX5_count_18 : decode cX5_count 18 = .ok (.getfield 74, 3) := dz_at (i := 10) dy_p09_27 rfl
theorem dX5_count_21 : decode cX5_count 21 = .ok (.iload_n 2, 1) := dz_at (i := 11) dy_p09_27 rfl
theorem dX5_count_22 : decode cX5_count 22 = .ok (.laload, 1) := dz_at (i := 12) dy_p09_27 rfl
theorem dX5_count_23 : decode cX5_count 23 = .ok (.invokevirtual 117, 3) := dz_at (i := 13) dy_p09_27 rfl
theorem dX5_count_26 : decode cX5_count 26 = .ok (.ireturn, 1) := dz_at (i := 14) dy_p09_27 rfl
noncomputable def o_X5_count (w : Bool) (f : Nat → Int64) (p1 : Int32) : Int32 × Int32 :=
  if (o_X5_fails (o_X5_isNo p1) false).1 = true then (0, (o_X5_fails (o_X5_isNo p1) false).2)
  else ((o_X4_count w (f p1.toNatClampNeg)), (o_X5_fails (o_X5_isNo p1) false).2)
set_option maxHeartbeats 4000000 in
set_option maxRecDepth 100000 in
theorem k_X5_count (l : Launch) (dC : Nat → ClassId) (dI : Nat → Nat → Nat) (cy : ClassId) (h0 : Nat) (h1 : Nat) (h2 : Nat) (ro : Nat) (hc : Nat) (w : Bool) (a : Int32) (f : Nat → Int64) (th : Int32) (rf : Int32) (kn : Int32) (sz : Nat) (N : Nat) (p1 : Int32) (hokf : okF w f) : Met l yX5_count wsX5_count ({ frames := 4, cells := 0, slots := 0, locals := 92 }) (va_Pc [.ref h0, .ref ro, .int p1] (xM (dC, dI) xCl [(h0, eM h1 h2 th rf kn), (ro, eMR w hc a), (hc, eA cy f)] [(cy, .long)] sz N)) (va_Qi (fun (r : Int32) (_ : Unit) => r = (o_X5_count w f p1).1) (fun _ t => xW (dC, dI) xCl [(h0, eM h1 h2 (o_X5_count w f p1).2 rf kn), (ro, eMR w hc a), (hc, eA cy f)] (va_A [(h0, eM h1 h2 th rf kn), (ro, eMR w hc a), (hc, eA cy f)] sz) t) (va_A [(h0, eM h1 h2 th rf kn), (ro, eMR w hc a), (hc, eA cy f)] sz)) 0 0 (va_A [(h0, eM h1 h2 th rf kn), (ro, eMR w hc a), (hc, eA cy f)] sz) := by
  refine Met.ofW (cc := cX5_count) (maxL := 3) (ret := (some .int)) (by decide +kernel) rfl ?_
  intro p e s m args below meth c s₁ B hml hv
  obtain ⟨rfl, hsz, hP, hK, hD0, hN, hG⟩ := hv
  have hx := B.exec
  have hb := B.bytes
  have hr := B.returns
  have hts := atoms_spec (ws := wsX5_count) B.pre
  have hown : s.vm.findClass RX5 = some m.cls := findClass_of_methodNamed B.named
  have hlocks := B.notSynchronized
  subst hsz
  have hAN : ∀ q, va_A [(h0, eM h1 h2 th rf kn), (ro, eMR w hc a), (hc, eA cy f)] s.heap.size q → N ≤ q := xA_N hD0 hN
  have hD := hD0.self (sz := s.heap.size)
  generalize hAe : va_A [(h0, eM h1 h2 th rf kn), (ro, eMR w hc a), (hc, eA cy f)] s.heap.size = A at hD hAN ⊢
  have hA : ∀ q : Nat, s.heap.size ≤ q → A q := fun q h => by rw [← hAe]; exact Or.inr h
  have hS : va_S A s.heap s.heap [] := va_S.rf
  have hP : va_P (dC, dI) xCl [(h0, eM h1 h2 th rf kn), (ro, eMR w hc a), (hc, eA cy f)] s.heap := hP
  have hl := lv_entry ([.ref h0, .ref ro, .int p1]) (n := 3) (Nat.le_of_ble_eq_true rfl)
  rw [lg_entry_eq]
  generalize (lg_sl ([.ref h0, .ref ro, .int p1]) ++ List.replicate (3 - (lg_sl ([.ref h0, .ref ro, .int p1])).length) Slot.unset).toArray = ls at hl ⊢
  have hl : lv_has ls 3 [(0, .ref h0), (1, .ref ro), (2, .int p1)] := hl
  refine lv_aload_n hx hb dX5_count_0 rfl (lv_at hl 0 rfl) ?_
  refine lv_iload_n hx hb dX5_count_1 rfl (lv_at hl 2 rfl) ?_
  have hPc := hP.sub (ws' := []) [] rfl
  have hKc := hK.sub (tys' := []) [] rfl
  refine va_calli (va_runS (As := [.int p1]) (rest := [.ref h0]) ⟨hx, hb, hml, hown, hts⟩ (k_X5_isNo l dC dI s.heap.size p1) (va_cwS 1 hts gX5_count_X5_isNo rfl rfl rfl (by decide +kernel) ⟨Nat.le_of_ble_eq_true rfl, Nat.le_of_ble_eq_true rfl⟩) (xB.preS hKc hPc) rfl rfl hl.1 rfl (lv_room (Nat.le_of_ble_eq_true rfl)) dX5_count_2 ⟨Nat.le_of_ble_eq_true rfl, Nat.le_of_ble_eq_true rfl⟩) hS xA_old (fun q h => hA q (Nat.le_trans hS.1 h)) (fun r_1 u t H locs ht hvm hw hB hz hk hS => ?_)
  replace hw : r_1 = b2i (o_X5_isNo p1) := hw
  subst r_1
  have hP := xP_keep hP hk
  refine lv_iconst (v := 0) hx hb dX5_count_5 (by decide +kernel) ?_
  have hPc := hP.sub (ws' := [(h0, eM h1 h2 th rf kn)]) [0] rfl
  have hDc := hD.sub (ws' := [(h0, eM h1 h2 th rf kn)]) [0] (by decide +kernel) rfl
  have hKc := hK.sub (tys' := []) [] rfl
  have hFc := va_free (wc := [(h0, eM h1 h2 th rf kn)]) hD hS hA [0] rfl
  refine va_calli (va_runV (As := [.int (b2i (o_X5_isNo p1)), .int 0]) (rest := []) ⟨hx, hb, hml, hown, hts⟩ (k_X5_fails l dC dI h0 h1 h2 th rf kn H.size N (o_X5_isNo p1) false) (cwV 2 hts gX5_count_X5_fails rfl rfl rfl (by decide +kernel) ⟨Nat.le_of_ble_eq_true rfl, Nat.le_of_ble_eq_true rfl⟩) (xM.preV hKc hPc hDc hAN (Nat.le_trans hN hS.1) (hG.kept hS hAN) (ci := 7) (q0 := 0) rfl rfl) rfl rfl hl.1 rfl (lv_room (Nat.le_of_ble_eq_true rfl)) dX5_count_6 ⟨Nat.le_of_ble_eq_true rfl, Nat.le_of_ble_eq_true rfl⟩) hS (fun q _ h => hFc q h) hFc (fun r_2 u t H locs ht hvm hw hB hz hk hS => ?_)
  replace hw : r_2 = b2i ((o_X5_fails (o_X5_isNo p1) false).1) := hw
  subst r_2
  obtain ⟨hP1, hD1⟩ := hB
  rw [ht] at hP1
  obtain ⟨hP, hD⟩ := va_join (wr := [(ro, eMR w hc a), (hc, eA cy f)]) (w1 := [(h0, eM h1 h2 (o_X5_fails (o_X5_isNo p1) false).2 rf kn)]) hP hD [0] [1, 2] rfl rfl (by decide +kernel) (by decide +kernel) hk hFc hP1 hD1
  have hP := hP.sub (ws' := [(h0, eM h1 h2 (o_X5_fails (o_X5_isNo p1) false).2 rf kn), (ro, eMR w hc a), (hc, eA cy f)]) [2, 0, 1] rfl
  have hD := hD.sub (ws' := [(h0, eM h1 h2 (o_X5_fails (o_X5_isNo p1) false).2 rf kn), (ro, eMR w hc a), (hc, eA cy f)]) [2, 0, 1] (by decide +kernel) rfl
  refine xz_eq (tgt := 16) hx hb dX5_count_9 (by decide +kernel) (fun c_3 => ?_) (fun c_3 => ?_)
  · skip
    refine lv_aload_n hx hb dX5_count_16 rfl (lv_at hl 1 rfl) ?_
    refine lv_aload_n hx hb dX5_count_17 rfl (lv_at hl 1 rfl) ?_
    refine va_get (D := (dC, dI)) (ci := 6) (v := .ref hc) (C := RX4) (T := TX4) (N := 5) hx hb hts (by decide +kernel) hown hK hP 1 rfl rfl 3 (by decide +kernel) (hts (.fieldLink RX5 74 "EdgefloatsModel$Row" "cells" "[J") (by decide +kernel)) (fun _ h9 => h9) rfl dX5_count_18 ?_
    refine lv_iload_n hx hb dX5_count_21 rfl (lv_at hl 2 rfl) ?_
    refine xa_lald hx hb hK hP 2 0 (f := f) rfl rfl (k := p1.toNatClampNeg) (xm_isNo (xm_fails c_3)) rfl dX5_count_22 ?_
    have hPc := hP.sub (ws' := [(ro, eMR w hc a), (hc, eA cy f)]) [1, 2] rfl
    have hKc := hK.sub (tys' := [(cy, .long)]) [0] rfl
    refine va_calli (va_runV (As := [.long (f p1.toNatClampNeg)]) (rest := []) ⟨hx, hb, hml, hown, hts⟩ (k_X4_count l dC dI cy ro hc w a f H.size (f p1.toNatClampNeg) (hokf _ (xm_lt (xm_isNo (xm_fails c_3))))) (cwV 1 hts gX5_count_X4_count rfl rfl rfl (by decide +kernel) ⟨Nat.le_of_ble_eq_true rfl, Nat.le_of_ble_eq_true rfl⟩) (xB.preV hKc hPc (ci := 6) (q0 := 0) rfl rfl) rfl rfl hl.1 rfl (lv_room (Nat.le_of_ble_eq_true rfl)) dX5_count_23 ⟨Nat.le_of_ble_eq_true rfl, Nat.le_of_ble_eq_true rfl⟩) hS xA_old (fun q h => hA q (Nat.le_trans hS.1 h)) (fun r_4 u t H locs ht hvm hw hB hz hk hS => ?_)
    replace hw : r_4 = (o_X4_count w (f p1.toNatClampNeg)) := hw
    subst r_4
    have hP := xP_keep hP hk
    have he : o_X5_count w f p1 = ((o_X4_count w (f p1.toNatClampNeg)), (o_X5_fails (o_X5_isNo p1) false).2) := by (rw [o_X5_count, if_neg c_3]) <;> rfl
    refine W.widen (k := 0) (n := 0) (by omega) (by omega) ?_
    exact W.iret (v := (o_X4_count w (f p1.toNatClampNeg))) hx hb hr (fun t ht hW => ⟨⟨_, (), rfl, (by (rw [he]) <;> rfl), (by rw [he]; exact ⟨by rw [ht]; exact hP, hD⟩)⟩, hS.F ht⟩) hS.2.2 dX5_count_26
  · skip
    refine lv_iconst (v := 0) hx hb dX5_count_12 (by decide +kernel) ?_
    refine lv_goto (tgt := 26) hx hb dX5_count_13 (by decide +kernel) ?_
    have he : o_X5_count w f p1 = (0, (o_X5_fails (o_X5_isNo p1) false).2) := by (rw [o_X5_count, if_pos c_3]) <;> rfl
    refine W.widen (k := 0) (n := 0) (by omega) (by omega) ?_
    exact W.iret (v := 0) hx hb hr (fun t ht hW => ⟨⟨_, (), rfl, (by (rw [he]) <;> rfl), (by rw [he]; exact ⟨by rw [ht]; exact hP, hD⟩)⟩, hS.F ht⟩) hS.2.2 dX5_count_26
theorem cl_X5_areLike_1 : ∀ w ∈ [.methodLink RX5 107 yX4_value, .instanceMethod yX4_value, .selects RX4 yX4_value yX4_value, .initialized RX4, .code yX4_value cX4_value 3 (some .long), .methodLink RX4 39 yX4_isBelowZero, .instanceMethod yX4_isBelowZero, .selects RX4 yX4_isBelowZero yX4_isBelowZero, .code yX4_isBelowZero cX4_isBelowZero 3 (some .boolean), .methodLink RX4 26 yX4_sign, .instanceMethod yX4_sign, .selects RX4 yX4_sign yX4_sign, .code yX4_sign cX4_sign 1 (some .long), .fieldLink RX4 15 "EdgefloatsModel$Row" "exponents" "I", .fieldLink RX4 19 "EdgefloatsModel$Row" "fractions" "I", .methodLink RX4 32 yX4_size, .instanceMethod yX4_size, .selects RX4 yX4_size yX4_size, .code yX4_size cX4_size 3 (some .long), .constantLong RX4 30 (-1)], w ∈ wsX5_areLike := fun _ h => (List.mem_cons_of_mem _ (List.mem_append_left _ h))
theorem cl_X5_areLike_2 : ∀ w ∈ wsX40, w ∈ wsX5_areLike := fun _ h => (List.mem_cons_of_mem _ (List.mem_append_right _ h))
set_option maxRecDepth 20000 in
theorem ggX5_areLike_X4_value : GoodIn wsX5_areLike wsX4_value := goodIn_sub (List.forall_mem_cons.mpr ⟨(cl_X5_areLike_1 _ (List.mem_of_getElem? (i := 4) rfl)), fun w h => (List.mem_append.mp h).elim ((List.forall_mem_cons.mpr ⟨(cl_X5_areLike_1 _ (List.mem_of_getElem? (i := 5) rfl)), List.forall_mem_cons.mpr ⟨(cl_X5_areLike_1 _ (List.mem_of_getElem? (i := 6) rfl)), List.forall_mem_cons.mpr ⟨(cl_X5_areLike_1 _ (List.mem_of_getElem? (i := 7) rfl)), List.forall_mem_cons.mpr ⟨(cl_X5_areLike_1 _ (List.mem_of_getElem? (i := 3) rfl)), List.forall_mem_cons.mpr ⟨(cl_X5_areLike_1 _ (List.mem_of_getElem? (i := 8) rfl)), List.forall_mem_cons.mpr ⟨(cl_X5_areLike_1 _ (List.mem_of_getElem? (i := 9) rfl)), List.forall_mem_cons.mpr ⟨(cl_X5_areLike_1 _ (List.mem_of_getElem? (i := 10) rfl)), List.forall_mem_cons.mpr ⟨(cl_X5_areLike_1 _ (List.mem_of_getElem? (i := 11) rfl)), List.forall_mem_cons.mpr ⟨(cl_X5_areLike_1 _ (List.mem_of_getElem? (i := 12) rfl)), List.forall_mem_cons.mpr ⟨(cl_X5_areLike_1 _ (List.mem_of_getElem? (i := 13) rfl)), List.forall_mem_cons.mpr ⟨(cl_X5_areLike_1 _ (List.mem_of_getElem? (i := 14) rfl)), List.forall_mem_cons.mpr ⟨(cl_X5_areLike_1 _ (List.mem_of_getElem? (i := 15) rfl)), List.forall_mem_cons.mpr ⟨(cl_X5_areLike_1 _ (List.mem_of_getElem? (i := 16) rfl)), List.forall_mem_cons.mpr ⟨(cl_X5_areLike_1 _ (List.mem_of_getElem? (i := 17) rfl)), List.forall_mem_cons.mpr ⟨(cl_X5_areLike_1 _ (List.mem_of_getElem? (i := 18) rfl)), List.forall_mem_cons.mpr ⟨(cl_X5_areLike_1 _ (List.mem_of_getElem? (i := 19) rfl)), fun _ h => absurd h List.not_mem_nil⟩⟩⟩⟩⟩⟩⟩⟩⟩⟩⟩⟩⟩⟩⟩⟩) w) ((cl_X5_areLike_2) w)⟩) (by decide +kernel)
set_option maxRecDepth 20000 in
theorem gX5_areLike_X4_value : GoodIn wsX5_areLike (wsV RX5 107 RX4 yX4_value wsX4_value) := goodIn_app (goodIn_sub (List.forall_mem_cons.mpr ⟨(cl_X5_areLike_1 _ (List.mem_of_getElem? (i := 0) rfl)), List.forall_mem_cons.mpr ⟨(cl_X5_areLike_1 _ (List.mem_of_getElem? (i := 1) rfl)), List.forall_mem_cons.mpr ⟨(cl_X5_areLike_1 _ (List.mem_of_getElem? (i := 2) rfl)), List.forall_mem_cons.mpr ⟨(cl_X5_areLike_1 _ (List.mem_of_getElem? (i := 3) rfl)), fun _ h => absurd h List.not_mem_nil⟩⟩⟩⟩) (by decide +kernel)) ggX5_areLike_X4_value
noncomputable def dz_p09_28 : List (Nat × Instr × Nat) := [(0, (.aload_n 0, 1)), (1, (.lload_n 1, 1)), (2, (.invokevirtual 107, 3)), (5, (.aload_n 0, 1)), (6, (.lload_n 3, 1)), (7, (.invokevirtual 107, 3)), (10, (.lcmp, 1)), (11, (.ifCond .ne 7, 3)), (14, (.iconst 1, 1)), (15, (.goto 4, 3)), (18, (.iconst 0, 1)), (19, (.ireturn, 1))]
theorem dy_p09_28 : dz_ok cX5_areLike dz_p09_28 = true := by decide +kernel
theorem dX5_areLike_0 : decode cX5_areLike 0 = .ok (.aload_n 0, 1) := dz_at (i := 0) dy_p09_28 rfl
theorem dX5_areLike_1 : decode cX5_areLike 1 = .ok (.lload_n 1, 1) := dz_at (i := 1) dy_p09_28 rfl
theorem dX5_areLike_2 : decode cX5_areLike 2 = .ok (.invokevirtual 107, 3) := dz_at (i := 2) dy_p09_28 rfl
theorem dX5_areLike_5 : decode cX5_areLike 5 = .ok (.aload_n 0, 1) := dz_at (i := 3) dy_p09_28 rfl
theorem dX5_areLike_6 : decode cX5_areLike 6 = .ok (.lload_n 3, 1) := dz_at (i := 4) dy_p09_28 rfl
theorem dX5_areLike_7 : decode cX5_areLike 7 = .ok (.invokevirtual 107, 3) := dz_at (i := 5) dy_p09_28 rfl
theorem dX5_areLike_10 : decode cX5_areLike 10 = .ok (.lcmp, 1) := dz_at (i := 6) dy_p09_28 rfl
theorem dX5_areLike_11 : decode cX5_areLike 11 = .ok (.ifCond .ne 7, 3) := dz_at (i := 7) dy_p09_28 rfl
theorem dX5_areLike_14 : decode cX5_areLike 14 = .ok (.iconst 1, 1) := dz_at (i := 8) dy_p09_28 rfl
theorem dX5_areLike_15 : decode cX5_areLike 15 = .ok (.goto 4, 3) := dz_at (i := 9) dy_p09_28 rfl
theorem dX5_areLike_18 : decode cX5_areLike 18 = .ok (.iconst 0, 1) := dz_at (i := 10) dy_p09_28 rfl
theorem dX5_areLike_19 : decode cX5_areLike 19 = .ok (.ireturn, 1) := dz_at (i := 11) dy_p09_28 rfl
noncomputable def o_X5_areLike (w : Bool) (p1 : Int64) (p2 : Int64) : Bool :=
  if (o_X4_value w p1) = (o_X4_value w p2) then true
  else false
set_option maxHeartbeats 4000000 in
set_option maxRecDepth 100000 in
theorem k_X5_areLike (l : Launch) (dC : Nat → ClassId) (dI : Nat → Nat → Nat) (cy : ClassId) (ro : Nat) (hc : Nat) (w : Bool) (a : Int32) (f : Nat → Int64) (sz : Nat) (p1 : Int64) (p2 : Int64) : Met l yX5_areLike wsX5_areLike ({ frames := 3, cells := 0, slots := 0, locals := 64 }) (va_Pc [.ref ro, .long p1, .long p2] (xB (dC, dI) xCl [(ro, eMR w hc a), (hc, eA cy f)] [(cy, .long)] sz)) (va_Qi (fun (r : Int32) (_ : Unit) => r = b2i (o_X5_areLike w p1 p2)) (fun _ _ => True) (aN sz)) 0 0 (aN sz) := by
  refine Met.ofW (cc := cX5_areLike) (maxL := 5) (ret := (some .boolean)) (by decide +kernel) rfl ?_
  intro p e s m args below meth c s₁ B hml hv
  obtain ⟨rfl, hsz, hP, hK⟩ := hv
  have hx := B.exec
  have hb := B.bytes
  have hr := B.returns
  have hts := atoms_spec (ws := wsX5_areLike) B.pre
  have hown : s.vm.findClass RX5 = some m.cls := findClass_of_methodNamed B.named
  have hlocks := B.notSynchronized
  subst hsz
  have hA : ∀ q : Nat, s.heap.size ≤ q → aN s.heap.size q := fun _ h => h
  have hS : va_S (aN s.heap.size) s.heap s.heap [] := va_S.rf
  have hP : va_P (dC, dI) xCl [(ro, eMR w hc a), (hc, eA cy f)] s.heap := hP
  have hl := lv_entry ([.ref ro, .long p1, .long p2]) (n := 5) (Nat.le_of_ble_eq_true rfl)
  rw [lg_entry_eq]
  generalize (lg_sl ([.ref ro, .long p1, .long p2]) ++ List.replicate (5 - (lg_sl ([.ref ro, .long p1, .long p2])).length) Slot.unset).toArray = ls at hl ⊢
  have hl : lv_has ls 5 [(0, .ref ro), (1, .long p1), (3, .long p2)] := hl
  refine lv_aload_n hx hb dX5_areLike_0 rfl (lv_at hl 0 rfl) ?_
  refine lv_lload_n hx hb dX5_areLike_1 rfl (lv_at hl 1 rfl) ?_
  have hPc := hP.sub (ws' := [(ro, eMR w hc a), (hc, eA cy f)]) [0, 1] rfl
  have hKc := hK.sub (tys' := [(cy, .long)]) [0] rfl
  refine va_calll (va_runV (As := [.long p1]) (rest := []) ⟨hx, hb, hml, hown, hts⟩ (k_X4_value l dC dI cy ro hc w a f s.heap.size p1) (cwV 1 hts gX5_areLike_X4_value rfl rfl rfl (by decide +kernel) ⟨Nat.le_of_ble_eq_true rfl, Nat.le_of_ble_eq_true rfl⟩) (xB.preV hKc hPc (ci := 6) (q0 := 0) rfl rfl) rfl rfl hl.1 rfl (lv_room (Nat.le_of_ble_eq_true rfl)) dX5_areLike_2 ⟨Nat.le_of_ble_eq_true rfl, Nat.le_of_ble_eq_true rfl⟩) hS xA_old (fun q h => hA q (Nat.le_trans hS.1 h)) (fun r_1 u t H locs ht hvm hw hB hz hk hS => ?_)
  replace hw : r_1 = (o_X4_value w p1) := hw
  subst r_1
  have hP := xP_keep hP hk
  refine lv_aload_n hx hb dX5_areLike_5 rfl (lv_at hl 0 rfl) ?_
  refine lv_lload_n hx hb dX5_areLike_6 rfl (lv_at hl 2 rfl) ?_
  have hPc := hP.sub (ws' := [(ro, eMR w hc a), (hc, eA cy f)]) [0, 1] rfl
  have hKc := hK.sub (tys' := [(cy, .long)]) [0] rfl
  refine va_calll (va_runV (As := [.long p2]) (rest := [.long (o_X4_value w p1)]) ⟨hx, hb, hml, hown, hts⟩ (k_X4_value l dC dI cy ro hc w a f H.size p2) (cwV 1 hts gX5_areLike_X4_value rfl rfl rfl (by decide +kernel) ⟨Nat.le_of_ble_eq_true rfl, Nat.le_of_ble_eq_true rfl⟩) (xB.preV hKc hPc (ci := 6) (q0 := 0) rfl rfl) rfl rfl hl.1 rfl (lv_room (Nat.le_of_ble_eq_true rfl)) dX5_areLike_7 ⟨Nat.le_of_ble_eq_true rfl, Nat.le_of_ble_eq_true rfl⟩) hS xA_old (fun q h => hA q (Nat.le_trans hS.1 h)) (fun r_2 u t H locs ht hvm hw hB hz hk hS => ?_)
  replace hw : r_2 = (o_X4_value w p2) := hw
  subst r_2
  have hP := xP_keep hP hk
  refine xc_ne (tgt := 18) hx hb dX5_areLike_10 dX5_areLike_11 (by decide +kernel) (fun c_3 => ?_) (fun c_3 => ?_)
  · skip
    refine lv_iconst (v := 0) hx hb dX5_areLike_18 (by decide +kernel) ?_
    have he : o_X5_areLike w p1 p2 = false := by (rw [o_X5_areLike, if_neg c_3]) <;> rfl
    refine W.widen (k := 0) (n := 0) (by omega) (by omega) ?_
    exact W.zret (v := 0) (ty := .boolean) hx hb hr rfl (fun t ht hW => ⟨⟨_, (), rfl, (by (rw [he]) <;> rfl), trivial⟩, hS.F ht⟩) hS.2.2 dX5_areLike_19
  · skip
    refine lv_iconst (v := 1) hx hb dX5_areLike_14 (by decide +kernel) ?_
    refine lv_goto (tgt := 19) hx hb dX5_areLike_15 (by decide +kernel) ?_
    have he : o_X5_areLike w p1 p2 = true := by (rw [o_X5_areLike, if_pos c_3]) <;> rfl
    refine W.widen (k := 0) (n := 0) (by omega) (by omega) ?_
    exact W.zret (v := 1) (ty := .boolean) hx hb hr rfl (fun t ht hW => ⟨⟨_, (), rfl, (by (rw [he]) <;> rfl), trivial⟩, hS.F ht⟩) hS.2.2 dX5_areLike_19
theorem cl_X5_like_1 : ∀ w ∈ wsX5_like_r1, w ∈ wsX5_like := fun _ h => (List.mem_cons_of_mem _ (List.mem_append_left _ (List.mem_append_left _ (List.mem_append_left _ h))))
theorem cl_X5_like_2 : ∀ w ∈ wsX5_like_r2, w ∈ wsX5_like := fun _ h => (List.mem_cons_of_mem _ (List.mem_append_left _ (List.mem_append_left _ (List.mem_append_right _ h))))
theorem cl_X5_like_3 : ∀ w ∈ wsX40, w ∈ wsX5_like := fun _ h => (List.mem_cons_of_mem _ (List.mem_append_left _ (List.mem_append_right _ h)))
theorem cl_X5_like_4 : ∀ w ∈ wsX50, w ∈ wsX5_like := fun _ h => (List.mem_cons_of_mem _ (List.mem_append_right _ h))
set_option maxRecDepth 20000 in
theorem ggX5_like_X5_areNo : GoodIn wsX5_like wsX5_areNo := goodIn_sub (List.forall_mem_cons.mpr ⟨(cl_X5_like_1 _ (List.mem_of_getElem? (i := 4) rfl)), List.forall_mem_cons.mpr ⟨(cl_X5_like_1 _ (List.mem_of_getElem? (i := 5) rfl)), List.forall_mem_cons.mpr ⟨(cl_X5_like_1 _ (List.mem_of_getElem? (i := 6) rfl)), List.forall_mem_cons.mpr ⟨(cl_X5_like_1 _ (List.mem_of_getElem? (i := 3) rfl)), List.forall_mem_cons.mpr ⟨(cl_X5_like_1 _ (List.mem_of_getElem? (i := 7) rfl)), List.forall_mem_cons.mpr ⟨(cl_X5_like_1 _ (List.mem_of_getElem? (i := 8) rfl)), List.forall_mem_cons.mpr ⟨(cl_X5_like_1 _ (List.mem_of_getElem? (i := 9) rfl)), List.forall_mem_cons.mpr ⟨(cl_X5_like_1 _ (List.mem_of_getElem? (i := 10) rfl)), fun _ h => absurd h List.not_mem_nil⟩⟩⟩⟩⟩⟩⟩⟩) (by decide +kernel)
set_option maxRecDepth 20000 in
theorem gX5_like_X5_areNo : GoodIn wsX5_like (va_wsS RX5 70 yX5_areNo wsX5_areNo) := goodIn_app (goodIn_sub (List.forall_mem_cons.mpr ⟨(cl_X5_like_1 _ (List.mem_of_getElem? (i := 1) rfl)), List.forall_mem_cons.mpr ⟨(cl_X5_like_1 _ (List.mem_of_getElem? (i := 2) rfl)), List.forall_mem_cons.mpr ⟨(cl_X5_like_1 _ (List.mem_of_getElem? (i := 3) rfl)), fun _ h => absurd h List.not_mem_nil⟩⟩⟩) (by decide +kernel)) ggX5_like_X5_areNo
set_option maxRecDepth 20000 in
theorem ggX5_like_X5_fails : GoodIn wsX5_like wsX5_fails := goodIn_sub (List.forall_mem_cons.mpr ⟨(cl_X5_like_1 _ (List.mem_of_getElem? (i := 14) rfl)), fun w h => (List.mem_append.mp h).elim ((List.forall_mem_cons.mpr ⟨(cl_X5_like_1 _ (List.mem_of_getElem? (i := 15) rfl)), fun _ h => absurd h List.not_mem_nil⟩) w) ((cl_X5_like_4) w)⟩) (by decide +kernel)
set_option maxRecDepth 20000 in
theorem gX5_like_X5_fails : GoodIn wsX5_like (wsV RX5 42 RX5 yX5_fails wsX5_fails) := goodIn_app (goodIn_sub (List.forall_mem_cons.mpr ⟨(cl_X5_like_1 _ (List.mem_of_getElem? (i := 11) rfl)), List.forall_mem_cons.mpr ⟨(cl_X5_like_1 _ (List.mem_of_getElem? (i := 12) rfl)), List.forall_mem_cons.mpr ⟨(cl_X5_like_1 _ (List.mem_of_getElem? (i := 13) rfl)), List.forall_mem_cons.mpr ⟨(cl_X5_like_1 _ (List.mem_of_getElem? (i := 3) rfl)), fun _ h => absurd h List.not_mem_nil⟩⟩⟩⟩) (by decide +kernel)) ggX5_like_X5_fails
set_option maxRecDepth 20000 in
theorem ggX5_like_X5_areLike : GoodIn wsX5_like wsX5_areLike := goodIn_sub (List.forall_mem_cons.mpr ⟨(cl_X5_like_1 _ (List.mem_of_getElem? (i := 18) rfl)), fun w h => (List.mem_append.mp h).elim ((List.forall_mem_cons.mpr ⟨(cl_X5_like_1 _ (List.mem_of_getElem? (i := 19) rfl)), List.forall_mem_cons.mpr ⟨(cl_X5_like_1 _ (List.mem_of_getElem? (i := 20) rfl)), List.forall_mem_cons.mpr ⟨(cl_X5_like_1 _ (List.mem_of_getElem? (i := 21) rfl)), List.forall_mem_cons.mpr ⟨(cl_X5_like_1 _ (List.mem_of_getElem? (i := 22) rfl)), List.forall_mem_cons.mpr ⟨(cl_X5_like_1 _ (List.mem_of_getElem? (i := 23) rfl)), List.forall_mem_cons.mpr ⟨(cl_X5_like_2 _ (List.mem_of_getElem? (i := 0) rfl)), List.forall_mem_cons.mpr ⟨(cl_X5_like_2 _ (List.mem_of_getElem? (i := 1) rfl)), List.forall_mem_cons.mpr ⟨(cl_X5_like_2 _ (List.mem_of_getElem? (i := 2) rfl)), List.forall_mem_cons.mpr ⟨(cl_X5_like_2 _ (List.mem_of_getElem? (i := 3) rfl)), List.forall_mem_cons.mpr ⟨(cl_X5_like_2 _ (List.mem_of_getElem? (i := 4) rfl)), List.forall_mem_cons.mpr ⟨(cl_X5_like_2 _ (List.mem_of_getElem? (i := 5) rfl)), List.forall_mem_cons.mpr ⟨(cl_X5_like_2 _ (List.mem_of_getElem? (i := 6) rfl)), List.forall_mem_cons.mpr ⟨(cl_X5_like_2 _ (List.mem_of_getElem? (i := 7) rfl)), List.forall_mem_cons.mpr ⟨(cl_X5_like_2 _ (List.mem_of_getElem? (i := 8) rfl)), List.forall_mem_cons.mpr ⟨(cl_X5_like_2 _ (List.mem_of_getElem? (i := 9) rfl)), List.forall_mem_cons.mpr ⟨(cl_X5_like_2 _ (List.mem_of_getElem? (i := 10) rfl)), List.forall_mem_cons.mpr ⟨(cl_X5_like_2 _ (List.mem_of_getElem? (i := 11) rfl)), List.forall_mem_cons.mpr ⟨(cl_X5_like_2 _ (List.mem_of_getElem? (i := 12) rfl)), List.forall_mem_cons.mpr ⟨(cl_X5_like_2 _ (List.mem_of_getElem? (i := 13) rfl)), List.forall_mem_cons.mpr ⟨(cl_X5_like_2 _ (List.mem_of_getElem? (i := 14) rfl)), fun _ h => absurd h List.not_mem_nil⟩⟩⟩⟩⟩⟩⟩⟩⟩⟩⟩⟩⟩⟩⟩⟩⟩⟩⟩⟩) w) ((cl_X5_like_3) w)⟩) (by decide +kernel)
set_option maxRecDepth 20000 in
theorem gX5_like_X5_areLike : GoodIn wsX5_like (va_wsS RX5 110 yX5_areLike wsX5_areLike) := goodIn_app (goodIn_sub (List.forall_mem_cons.mpr ⟨(cl_X5_like_1 _ (List.mem_of_getElem? (i := 16) rfl)), List.forall_mem_cons.mpr ⟨(cl_X5_like_1 _ (List.mem_of_getElem? (i := 17) rfl)), List.forall_mem_cons.mpr ⟨(cl_X5_like_1 _ (List.mem_of_getElem? (i := 3) rfl)), fun _ h => absurd h List.not_mem_nil⟩⟩⟩) (by decide +kernel)) ggX5_like_X5_areLike
noncomputable def dz_p09_29 : List (Nat × Instr × Nat) := [(0, (.aload_n 0, 1)), (1, (.iload_n 2, 1)), (2, (.iload_n 3, 1)), (3, (.invokestatic 70, 3)), (6, (.iconst 0, 1)), (7, (.invokevirtual 42, 3)), (10, (.ifCond .ne 26, 3)), (13, (.aload_n 1, 1)), (14, (.aload_n 1, 1)), (15, (.getfield 74, 3)), (18, (.iload_n 2, 1)), (19, (.laload, 1)), (20, (.aload_n 1, 1)), (21, (.getfield 74, 3)), (24, (.iload_n 3, 1)), (25, (.laload, 1)), (26, (.invokestatic 110, 3)), (29, (.ifCond .eq 7, 3)), (32, (.iconst 1, 1)), (33, (.goto 4, 3)), (36, (.iconst 0, 1)), (37, (.ireturn, 1))]
theorem dy_p09_29 : dz_ok cX5_like dz_p09_29 = true := by decide +kernel
theorem dX5_like_0 : decode cX5_like 0 = .ok (.aload_n 0, 1) := dz_at (i := 0) dy_p09_29 rfl
theorem dX5_like_1 : decode cX5_like 1 = .ok (.iload_n 2, 1) := dz_at (i := 1) dy_p09_29 rfl
theorem dX5_like_2 : decode cX5_like 2 = .ok (.iload_n 3, 1) := dz_at (i := 2) dy_p09_29 rfl
theorem dX5_like_3 : decode cX5_like 3 = .ok (.invokestatic 70, 3) := dz_at (i := 3) dy_p09_29 rfl
theorem dX5_like_6 : decode cX5_like 6 = .ok (.iconst 0, 1) := dz_at (i := 4) dy_p09_29 rfl
theorem dX5_like_7 : decode cX5_like 7 = .ok (.invokevirtual 42, 3) := dz_at (i := 5) dy_p09_29 rfl
theorem dX5_like_10 : decode cX5_like 10 = .ok (.ifCond .ne 26, 3) := dz_at (i := 6) dy_p09_29 rfl
theorem dX5_like_13 : decode cX5_like 13 = .ok (.aload_n 1, 1) := dz_at (i := 7) dy_p09_29 rfl
theorem dX5_like_14 : decode cX5_like 14 = .ok (.aload_n 1, 1) := dz_at (i := 8) dy_p09_29 rfl
theorem dX5_like_15 : decode cX5_like 15 = .ok (.getfield 74, 3) := dz_at (i := 9) dy_p09_29 rfl
theorem dX5_like_18 : decode cX5_like 18 = .ok (.iload_n 2, 1) := dz_at (i := 10) dy_p09_29 rfl
theorem dX5_like_19 : decode cX5_like 19 = .ok (.laload, 1) := dz_at (i := 11) dy_p09_29 rfl
theorem dX5_like_20 : decode cX5_like 20 = .ok (.aload_n 1, 1) := dz_at (i := 12) dy_p09_29 rfl
theorem dX5_like_21 : decode cX5_like 21 = .ok (.getfield 74, 3) := dz_at (i := 13) dy_p09_29 rfl
theorem dX5_like_24 : decode cX5_like 24 = .ok (.iload_n 3, 1) := dz_at (i := 14) dy_p09_29 rfl
theorem dX5_like_25 : decode cX5_like 25 = .ok (.laload, 1) := dz_at (i := 15) dy_p09_29 rfl
theorem dX5_like_26 : decode cX5_like 26 = .ok (.invokestatic 110, 3) := dz_at (i := 16) dy_p09_29 rfl
theorem dX5_like_29 : decode cX5_like 29 = .ok (.ifCond .eq 7, 3) := dz_at (i := 17) dy_p09_29 rfl
theorem dX5_like_32 : decode cX5_like 32 = .ok (.iconst 1, 1) := dz_at (i := 18) dy_p09_29 rfl
theorem dX5_like_33 : decode cX5_like 33 = .ok (.goto 4, 3) := dz_at (i := 19) dy_p09_29 rfl
theorem dX5_like_36 : decode cX5_like 36 = .ok (.iconst 0, 1) := dz_at (i := 20) dy_p09_29 rfl
theorem dX5_like_37 : decode cX5_like 37 = .ok (.ireturn, 1) := dz_at (i := 21) dy_p09_29 rfl
noncomputable def o_X5_like (w : Bool) (f : Nat → Int64) (p1 : Int32) (p2 : Int32) : Bool × Int32 :=
  if (o_X5_fails (o_X5_areNo p1 p2) false).1 = true then (false, (o_X5_fails (o_X5_areNo p1 p2) false).2)
  else if (o_X5_areLike w (f p1.toNatClampNeg) (f p2.toNatClampNeg)) = true then (true, (o_X5_fails (o_X5_areNo p1 p2) false).2)
  else (false, (o_X5_fails (o_X5_areNo p1 p2) false).2)
set_option maxHeartbeats 4000000 in
set_option maxRecDepth 100000 in
theorem k_X5_like (l : Launch) (dC : Nat → ClassId) (dI : Nat → Nat → Nat) (cy : ClassId) (h0 : Nat) (h1 : Nat) (h2 : Nat) (ro : Nat) (hc : Nat) (w : Bool) (a : Int32) (f : Nat → Int64) (th : Int32) (rf : Int32) (kn : Int32) (sz : Nat) (N : Nat) (p1 : Int32) (p2 : Int32) : Met l yX5_like wsX5_like ({ frames := 4, cells := 0, slots := 0, locals := 88 }) (va_Pc [.ref h0, .ref ro, .int p1, .int p2] (xM (dC, dI) xCl [(h0, eM h1 h2 th rf kn), (ro, eMR w hc a), (hc, eA cy f)] [(cy, .long)] sz N)) (va_Qi (fun (r : Int32) (_ : Unit) => r = b2i ((o_X5_like w f p1 p2).1)) (fun _ t => xW (dC, dI) xCl [(h0, eM h1 h2 (o_X5_like w f p1 p2).2 rf kn), (ro, eMR w hc a), (hc, eA cy f)] (va_A [(h0, eM h1 h2 th rf kn), (ro, eMR w hc a), (hc, eA cy f)] sz) t) (va_A [(h0, eM h1 h2 th rf kn), (ro, eMR w hc a), (hc, eA cy f)] sz)) 0 0 (va_A [(h0, eM h1 h2 th rf kn), (ro, eMR w hc a), (hc, eA cy f)] sz) := by
  refine Met.ofW (cc := cX5_like) (maxL := 4) (ret := (some .boolean)) (by decide +kernel) rfl ?_
  intro p e s m args below meth c s₁ B hml hv
  obtain ⟨rfl, hsz, hP, hK, hD0, hN, hG⟩ := hv
  have hx := B.exec
  have hb := B.bytes
  have hr := B.returns
  have hts := atoms_spec (ws := wsX5_like) B.pre
  have hown : s.vm.findClass RX5 = some m.cls := findClass_of_methodNamed B.named
  have hlocks := B.notSynchronized
  subst hsz
  have hAN : ∀ q, va_A [(h0, eM h1 h2 th rf kn), (ro, eMR w hc a), (hc, eA cy f)] s.heap.size q → N ≤ q := xA_N hD0 hN
  have hD := hD0.self (sz := s.heap.size)
  generalize hAe : va_A [(h0, eM h1 h2 th rf kn), (ro, eMR w hc a), (hc, eA cy f)] s.heap.size = A at hD hAN ⊢
  have hA : ∀ q : Nat, s.heap.size ≤ q → A q := fun q h => by rw [← hAe]; exact Or.inr h
  have hS : va_S A s.heap s.heap [] := va_S.rf
  have hP : va_P (dC, dI) xCl [(h0, eM h1 h2 th rf kn), (ro, eMR w hc a), (hc, eA cy f)] s.heap := hP
  have hl := lv_entry ([.ref h0, .ref ro, .int p1, .int p2]) (n := 4) (Nat.le_of_ble_eq_true rfl)
  rw [lg_entry_eq]
  generalize (lg_sl ([.ref h0, .ref ro, .int p1, .int p2]) ++ List.replicate (4 - (lg_sl ([.ref h0, .ref ro, .int p1, .int p2])).length) Slot.unset).toArray = ls at hl ⊢
  have hl : lv_has ls 4 [(0, .ref h0), (1, .ref ro), (2, .int p1), (3, .int p2)] := hl
  refine lv_aload_n hx hb dX5_like_0 rfl (lv_at hl 0 rfl) ?_
  refine lv_iload_n hx hb dX5_like_1 rfl (lv_at hl 2 rfl) ?_
  refine lv_iload_n hx hb dX5_like_2 rfl (lv_at hl 3 rfl) ?_
  have hPc := hP.sub (ws' := []) [] rfl
  have hKc := hK.sub (tys' := []) [] rfl
  refine va_calli (va_runS (As := [.int p1, .int p2]) (rest := [.ref h0]) ⟨hx, hb, hml, hown, hts⟩ (k_X5_areNo l dC dI s.heap.size p1 p2) (va_cwS 2 hts gX5_like_X5_areNo rfl rfl rfl (by decide +kernel) ⟨Nat.le_of_ble_eq_true rfl, Nat.le_of_ble_eq_true rfl⟩) (xB.preS hKc hPc) rfl rfl hl.1 rfl (lv_room (Nat.le_of_ble_eq_true rfl)) dX5_like_3 ⟨Nat.le_of_ble_eq_true rfl, Nat.le_of_ble_eq_true rfl⟩) hS xA_old (fun q h => hA q (Nat.le_trans hS.1 h)) (fun r_1 u t H locs ht hvm hw hB hz hk hS => ?_)
  replace hw : r_1 = b2i (o_X5_areNo p1 p2) := hw
  subst r_1
  have hP := xP_keep hP hk
  refine lv_iconst (v := 0) hx hb dX5_like_6 (by decide +kernel) ?_
  have hPc := hP.sub (ws' := [(h0, eM h1 h2 th rf kn)]) [0] rfl
  have hDc := hD.sub (ws' := [(h0, eM h1 h2 th rf kn)]) [0] (by decide +kernel) rfl
  have hKc := hK.sub (tys' := []) [] rfl
  have hFc := va_free (wc := [(h0, eM h1 h2 th rf kn)]) hD hS hA [0] rfl
  refine va_calli (va_runV (As := [.int (b2i (o_X5_areNo p1 p2)), .int 0]) (rest := []) ⟨hx, hb, hml, hown, hts⟩ (k_X5_fails l dC dI h0 h1 h2 th rf kn H.size N (o_X5_areNo p1 p2) false) (cwV 2 hts gX5_like_X5_fails rfl rfl rfl (by decide +kernel) ⟨Nat.le_of_ble_eq_true rfl, Nat.le_of_ble_eq_true rfl⟩) (xM.preV hKc hPc hDc hAN (Nat.le_trans hN hS.1) (hG.kept hS hAN) (ci := 7) (q0 := 0) rfl rfl) rfl rfl hl.1 rfl (lv_room (Nat.le_of_ble_eq_true rfl)) dX5_like_7 ⟨Nat.le_of_ble_eq_true rfl, Nat.le_of_ble_eq_true rfl⟩) hS (fun q _ h => hFc q h) hFc (fun r_2 u t H locs ht hvm hw hB hz hk hS => ?_)
  replace hw : r_2 = b2i ((o_X5_fails (o_X5_areNo p1 p2) false).1) := hw
  subst r_2
  obtain ⟨hP1, hD1⟩ := hB
  rw [ht] at hP1
  obtain ⟨hP, hD⟩ := va_join (wr := [(ro, eMR w hc a), (hc, eA cy f)]) (w1 := [(h0, eM h1 h2 (o_X5_fails (o_X5_areNo p1 p2) false).2 rf kn)]) hP hD [0] [1, 2] rfl rfl (by decide +kernel) (by decide +kernel) hk hFc hP1 hD1
  have hP := hP.sub (ws' := [(h0, eM h1 h2 (o_X5_fails (o_X5_areNo p1 p2) false).2 rf kn), (ro, eMR w hc a), (hc, eA cy f)]) [2, 0, 1] rfl
  have hD := hD.sub (ws' := [(h0, eM h1 h2 (o_X5_fails (o_X5_areNo p1 p2) false).2 rf kn), (ro, eMR w hc a), (hc, eA cy f)]) [2, 0, 1] (by decide +kernel) rfl
  refine xz_ne (tgt := 36) hx hb dX5_like_10 (by decide +kernel) (fun c_3 => ?_) (fun c_3 => ?_)
  · skip
    refine lv_iconst (v := 0) hx hb dX5_like_36 (by decide +kernel) ?_
    have he : o_X5_like w f p1 p2 = (false, (o_X5_fails (o_X5_areNo p1 p2) false).2) := by (rw [o_X5_like, if_pos c_3]) <;> rfl
    refine W.widen (k := 0) (n := 0) (by omega) (by omega) ?_
    exact W.zret (v := 0) (ty := .boolean) hx hb hr rfl (fun t ht hW => ⟨⟨_, (), rfl, (by (rw [he]) <;> rfl), (by rw [he]; exact ⟨by rw [ht]; exact hP, hD⟩)⟩, hS.F ht⟩) hS.2.2 dX5_like_37
  · skip
    refine lv_aload_n hx hb dX5_like_13 rfl (lv_at hl 1 rfl) ?_
    refine lv_aload_n hx hb dX5_like_14 rfl (lv_at hl 1 rfl) ?_
    refine va_get (D := (dC, dI)) (ci := 6) (v := .ref hc) (C := RX4) (T := TX4) (N := 5) hx hb hts (by decide +kernel) hown hK hP 1 rfl rfl 3 (by decide +kernel) (hts (.fieldLink RX5 74 "EdgefloatsModel$Row" "cells" "[J") (by decide +kernel)) (fun _ h9 => h9) rfl dX5_like_15 ?_
    refine lv_iload_n hx hb dX5_like_18 rfl (lv_at hl 2 rfl) ?_
    refine xa_lald hx hb hK hP 2 0 (f := f) rfl rfl (k := p1.toNatClampNeg) (xm_areNo1 (xm_fails c_3)) rfl dX5_like_19 ?_
    refine lv_aload_n hx hb dX5_like_20 rfl (lv_at hl 1 rfl) ?_
    refine va_get (D := (dC, dI)) (ci := 6) (v := .ref hc) (C := RX4) (T := TX4) (N := 5) hx hb hts (by decide +kernel) hown hK hP 1 rfl rfl 3 (by decide +kernel) (hts (.fieldLink RX5 74 "EdgefloatsModel$Row" "cells" "[J") (by decide +kernel)) (fun _ h9 => h9) rfl dX5_like_21 ?_
    refine lv_iload_n hx hb dX5_like_24 rfl (lv_at hl 3 rfl) ?_
    refine xa_lald hx hb hK hP 2 0 (f := f) rfl rfl (k := p2.toNatClampNeg) (xm_areNo2 (xm_fails c_3)) rfl dX5_like_25 ?_
    have hPc := hP.sub (ws' := [(ro, eMR w hc a), (hc, eA cy f)]) [1, 2] rfl
    have hKc := hK.sub (tys' := [(cy, .long)]) [0] rfl
    refine va_calli (va_runS (As := [.ref ro, .long (f p1.toNatClampNeg), .long (f p2.toNatClampNeg)]) (rest := []) ⟨hx, hb, hml, hown, hts⟩ (k_X5_areLike l dC dI cy ro hc w a f H.size (f p1.toNatClampNeg) (f p2.toNatClampNeg)) (va_cwS 3 hts gX5_like_X5_areLike rfl rfl rfl (by decide +kernel) ⟨Nat.le_of_ble_eq_true rfl, Nat.le_of_ble_eq_true rfl⟩) (xB.preS hKc hPc) rfl rfl hl.1 rfl (lv_room (Nat.le_of_ble_eq_true rfl)) dX5_like_26 ⟨Nat.le_of_ble_eq_true rfl, Nat.le_of_ble_eq_true rfl⟩) hS xA_old (fun q h => hA q (Nat.le_trans hS.1 h)) (fun r_4 u t H locs ht hvm hw hB hz hk hS => ?_)
    replace hw : r_4 = b2i (o_X5_areLike w (f p1.toNatClampNeg) (f p2.toNatClampNeg)) := hw
    subst r_4
    have hP := xP_keep hP hk
    refine xz_eq (tgt := 36) hx hb dX5_like_29 (by decide +kernel) (fun c_5 => ?_) (fun c_5 => ?_)
    · skip
      refine lv_iconst (v := 0) hx hb dX5_like_36 (by decide +kernel) ?_
      have he : o_X5_like w f p1 p2 = (false, (o_X5_fails (o_X5_areNo p1 p2) false).2) := by (rw [o_X5_like, if_neg c_3, if_neg c_5]) <;> rfl
      refine W.widen (k := 0) (n := 0) (by omega) (by omega) ?_
      exact W.zret (v := 0) (ty := .boolean) hx hb hr rfl (fun t ht hW => ⟨⟨_, (), rfl, (by (rw [he]) <;> rfl), (by rw [he]; exact ⟨by rw [ht]; exact hP, hD⟩)⟩, hS.F ht⟩) hS.2.2 dX5_like_37
    · skip
      refine lv_iconst (v := 1) hx hb dX5_like_32 (by decide +kernel) ?_
      refine lv_goto (tgt := 37) hx hb dX5_like_33 (by decide +kernel) ?_
      have he : o_X5_like w f p1 p2 = (true, (o_X5_fails (o_X5_areNo p1 p2) false).2) := by (rw [o_X5_like, if_neg c_3, if_pos c_5]) <;> rfl
      refine W.widen (k := 0) (n := 0) (by omega) (by omega) ?_
      exact W.zret (v := 1) (ty := .boolean) hx hb hr rfl (fun t ht hW => ⟨⟨_, (), rfl, (by (rw [he]) <;> rfl), (by rw [he]; exact ⟨by rw [ht]; exact hP, hD⟩)⟩, hS.F ht⟩) hS.2.2 dX5_like_37
theorem cl_X5_below_1 : ∀ w ∈ wsX5_below_r1, w ∈ wsX5_below := fun _ h => (List.mem_cons_of_mem _ (List.mem_append_left _ (List.mem_append_left _ (List.mem_append_left _ h))))
theorem cl_X5_below_2 : ∀ w ∈ wsX5_below_r2, w ∈ wsX5_below := fun _ h => (List.mem_cons_of_mem _ (List.mem_append_left _ (List.mem_append_left _ (List.mem_append_right _ h))))
theorem cl_X5_below_3 : ∀ w ∈ wsX40, w ∈ wsX5_below := fun _ h => (List.mem_cons_of_mem _ (List.mem_append_left _ (List.mem_append_right _ h)))
theorem cl_X5_below_4 : ∀ w ∈ wsX50, w ∈ wsX5_below := fun _ h => (List.mem_cons_of_mem _ (List.mem_append_right _ h))
set_option maxRecDepth 20000 in
theorem ggX5_below_X5_areNo : GoodIn wsX5_below wsX5_areNo := goodIn_sub (List.forall_mem_cons.mpr ⟨(cl_X5_below_1 _ (List.mem_of_getElem? (i := 4) rfl)), List.forall_mem_cons.mpr ⟨(cl_X5_below_1 _ (List.mem_of_getElem? (i := 5) rfl)), List.forall_mem_cons.mpr ⟨(cl_X5_below_1 _ (List.mem_of_getElem? (i := 6) rfl)), List.forall_mem_cons.mpr ⟨(cl_X5_below_1 _ (List.mem_of_getElem? (i := 3) rfl)), List.forall_mem_cons.mpr ⟨(cl_X5_below_1 _ (List.mem_of_getElem? (i := 7) rfl)), List.forall_mem_cons.mpr ⟨(cl_X5_below_1 _ (List.mem_of_getElem? (i := 8) rfl)), List.forall_mem_cons.mpr ⟨(cl_X5_below_1 _ (List.mem_of_getElem? (i := 9) rfl)), List.forall_mem_cons.mpr ⟨(cl_X5_below_1 _ (List.mem_of_getElem? (i := 10) rfl)), fun _ h => absurd h List.not_mem_nil⟩⟩⟩⟩⟩⟩⟩⟩) (by decide +kernel)
set_option maxRecDepth 20000 in
theorem gX5_below_X5_areNo : GoodIn wsX5_below (va_wsS RX5 70 yX5_areNo wsX5_areNo) := goodIn_app (goodIn_sub (List.forall_mem_cons.mpr ⟨(cl_X5_below_1 _ (List.mem_of_getElem? (i := 1) rfl)), List.forall_mem_cons.mpr ⟨(cl_X5_below_1 _ (List.mem_of_getElem? (i := 2) rfl)), List.forall_mem_cons.mpr ⟨(cl_X5_below_1 _ (List.mem_of_getElem? (i := 3) rfl)), fun _ h => absurd h List.not_mem_nil⟩⟩⟩) (by decide +kernel)) ggX5_below_X5_areNo
set_option maxRecDepth 20000 in
theorem ggX5_below_X5_fails : GoodIn wsX5_below wsX5_fails := goodIn_sub (List.forall_mem_cons.mpr ⟨(cl_X5_below_1 _ (List.mem_of_getElem? (i := 14) rfl)), fun w h => (List.mem_append.mp h).elim ((List.forall_mem_cons.mpr ⟨(cl_X5_below_1 _ (List.mem_of_getElem? (i := 15) rfl)), fun _ h => absurd h List.not_mem_nil⟩) w) ((cl_X5_below_4) w)⟩) (by decide +kernel)
set_option maxRecDepth 20000 in
theorem gX5_below_X5_fails : GoodIn wsX5_below (wsV RX5 42 RX5 yX5_fails wsX5_fails) := goodIn_app (goodIn_sub (List.forall_mem_cons.mpr ⟨(cl_X5_below_1 _ (List.mem_of_getElem? (i := 11) rfl)), List.forall_mem_cons.mpr ⟨(cl_X5_below_1 _ (List.mem_of_getElem? (i := 12) rfl)), List.forall_mem_cons.mpr ⟨(cl_X5_below_1 _ (List.mem_of_getElem? (i := 13) rfl)), List.forall_mem_cons.mpr ⟨(cl_X5_below_1 _ (List.mem_of_getElem? (i := 3) rfl)), fun _ h => absurd h List.not_mem_nil⟩⟩⟩⟩) (by decide +kernel)) ggX5_below_X5_fails
set_option maxRecDepth 20000 in
theorem ggX5_below_X4_value : GoodIn wsX5_below wsX4_value := goodIn_sub (List.forall_mem_cons.mpr ⟨(cl_X5_below_1 _ (List.mem_of_getElem? (i := 20) rfl)), fun w h => (List.mem_append.mp h).elim ((List.forall_mem_cons.mpr ⟨(cl_X5_below_1 _ (List.mem_of_getElem? (i := 21) rfl)), List.forall_mem_cons.mpr ⟨(cl_X5_below_1 _ (List.mem_of_getElem? (i := 22) rfl)), List.forall_mem_cons.mpr ⟨(cl_X5_below_1 _ (List.mem_of_getElem? (i := 23) rfl)), List.forall_mem_cons.mpr ⟨(cl_X5_below_1 _ (List.mem_of_getElem? (i := 19) rfl)), List.forall_mem_cons.mpr ⟨(cl_X5_below_2 _ (List.mem_of_getElem? (i := 0) rfl)), List.forall_mem_cons.mpr ⟨(cl_X5_below_2 _ (List.mem_of_getElem? (i := 1) rfl)), List.forall_mem_cons.mpr ⟨(cl_X5_below_2 _ (List.mem_of_getElem? (i := 2) rfl)), List.forall_mem_cons.mpr ⟨(cl_X5_below_2 _ (List.mem_of_getElem? (i := 3) rfl)), List.forall_mem_cons.mpr ⟨(cl_X5_below_2 _ (List.mem_of_getElem? (i := 4) rfl)), List.forall_mem_cons.mpr ⟨(cl_X5_below_2 _ (List.mem_of_getElem? (i := 5) rfl)), List.forall_mem_cons.mpr ⟨(cl_X5_below_2 _ (List.mem_of_getElem? (i := 6) rfl)), List.forall_mem_cons.mpr ⟨(cl_X5_below_2 _ (List.mem_of_getElem? (i := 7) rfl)), List.forall_mem_cons.mpr ⟨(cl_X5_below_2 _ (List.mem_of_getElem? (i := 8) rfl)), List.forall_mem_cons.mpr ⟨(cl_X5_below_2 _ (List.mem_of_getElem? (i := 9) rfl)), List.forall_mem_cons.mpr ⟨(cl_X5_below_2 _ (List.mem_of_getElem? (i := 10) rfl)), List.forall_mem_cons.mpr ⟨(cl_X5_below_2 _ (List.mem_of_getElem? (i := 11) rfl)), fun _ h => absurd h List.not_mem_nil⟩⟩⟩⟩⟩⟩⟩⟩⟩⟩⟩⟩⟩⟩⟩⟩) w) ((cl_X5_below_3) w)⟩) (by decide +kernel)
set_option maxRecDepth 20000 in
theorem gX5_below_X4_value : GoodIn wsX5_below (wsV RX5 107 RX4 yX4_value wsX4_value) := goodIn_app (goodIn_sub (List.forall_mem_cons.mpr ⟨(cl_X5_below_1 _ (List.mem_of_getElem? (i := 16) rfl)), List.forall_mem_cons.mpr ⟨(cl_X5_below_1 _ (List.mem_of_getElem? (i := 17) rfl)), List.forall_mem_cons.mpr ⟨(cl_X5_below_1 _ (List.mem_of_getElem? (i := 18) rfl)), List.forall_mem_cons.mpr ⟨(cl_X5_below_1 _ (List.mem_of_getElem? (i := 19) rfl)), fun _ h => absurd h List.not_mem_nil⟩⟩⟩⟩) (by decide +kernel)) ggX5_below_X4_value
noncomputable def dz_p09_30 : List (Nat × Instr × Nat) := [(0, (.aload_n 0, 1)), (1, (.iload_n 2, 1)), (2, (.iload_n 3, 1)), (3, (.invokestatic 70, 3)), (6, (.iconst 0, 1)), (7, (.invokevirtual 42, 3)), (10, (.ifCond .eq 5, 3)), (13, (.iconst 0, 1)), (14, (.ireturn, 1)), (15, (.aload_n 1, 1)), (16, (.aload_n 1, 1)), (17, (.getfield 74, 3)), (20, (.iload_n 2, 1)), (21, (.laload, 1)), (22, (.invokevirtual 107, 3)), (25, (.lstore 5, 2)), (27, (.aload_n 1, 1)), (28, (.aload_n 1, 1)), (29, (.getfield 74, 3)), (32, (.iload_n 3, 1)), (33, (.laload, 1)), (34, (.invokevirtual 107, 3)), (37, (.lstore 7, 2)), (39, (.lload 5, 2)), (41, (.lload 7, 2)), (43, (.lcmp, 1)), (44, (.ifCond .lt 16, 3)), (47, (.iload 4, 2)), (49, (.ifCond .eq 15, 3)), (52, (.lload 5, 2)), (54, (.lload 7, 2)), (56, (.lcmp, 1)), (57, (.ifCond .ne 7, 3)), (60, (.iconst 1, 1)), (61, (.goto 4, 3)), (64, (.iconst 0, 1)), (65, (.ireturn, 1))]
theorem dy_p09_30 : dz_ok cX5_below dz_p09_30 = true := by decide +kernel
theorem dX5_below_0 : decode cX5_below 0 = .ok (.aload_n 0, 1) := dz_at (i := 0) dy_p09_30 rfl
theorem dX5_below_1 : decode cX5_below 1 = .ok (.iload_n 2, 1) := dz_at (i := 1) dy_p09_30 rfl
theorem dX5_below_2 : decode cX5_below 2 = .ok (.iload_n 3, 1) := dz_at (i := 2) dy_p09_30 rfl
theorem dX5_below_3 : decode cX5_below 3 = .ok (.invokestatic 70, 3) := dz_at (i := 3) dy_p09_30 rfl
theorem dX5_below_6 : decode cX5_below 6 = .ok (.iconst 0, 1) := dz_at (i := 4) dy_p09_30 rfl
theorem dX5_below_7 : decode cX5_below 7 = .ok (.invokevirtual 42, 3) := dz_at (i := 5) dy_p09_30 rfl
theorem dX5_below_10 : decode cX5_below 10 = .ok (.ifCond .eq 5, 3) := dz_at (i := 6) dy_p09_30 rfl
theorem dX5_below_13 : decode cX5_below 13 = .ok (.iconst 0, 1) := dz_at (i := 7) dy_p09_30 rfl
theorem dX5_below_14 : decode cX5_below 14 = .ok (.ireturn, 1) := dz_at (i := 8) dy_p09_30 rfl
theorem dX5_below_15 : decode cX5_below 15 = .ok (.aload_n 1, 1) := dz_at (i := 9) dy_p09_30 rfl
theorem dX5_below_16 : decode cX5_below 16 = .ok (.aload_n 1, 1) := dz_at (i := 10) dy_p09_30 rfl
theorem dX5_below_17 : decode cX5_below 17 = .ok (.getfield 74, 3) := dz_at (i := 11) dy_p09_30 rfl
theorem dX5_below_20 : decode cX5_below 20 = .ok (.iload_n 2, 1) := dz_at (i := 12) dy_p09_30 rfl
theorem dX5_below_21 : decode cX5_below 21 = .ok (.laload, 1) := dz_at (i := 13) dy_p09_30 rfl
theorem dX5_below_22 : decode cX5_below 22 = .ok (.invokevirtual 107, 3) := dz_at (i := 14) dy_p09_30 rfl
theorem dX5_below_25 : decode cX5_below 25 = .ok (.lstore 5, 2) := dz_at (i := 15) dy_p09_30 rfl
theorem dX5_below_27 : decode cX5_below 27 = .ok (.aload_n 1, 1) := dz_at (i := 16) dy_p09_30 rfl
theorem dX5_below_28 : decode cX5_below 28 = .ok (.aload_n 1, 1) := dz_at (i := 17) dy_p09_30 rfl
theorem dX5_below_29 : decode cX5_below 29 = .ok (.getfield 74, 3) := dz_at (i := 18) dy_p09_30 rfl
theorem dX5_below_32 : decode cX5_below 32 = .ok (.iload_n 3, 1) := dz_at (i := 19) dy_p09_30 rfl
theorem dX5_below_33 : decode cX5_below 33 = .ok (.laload, 1) := dz_at (i := 20) dy_p09_30 rfl
theorem dX5_below_34 : decode cX5_below 34 = .ok (.invokevirtual 107, 3) := dz_at (i := 21) dy_p09_30 rfl
theorem dX5_below_37 : decode cX5_below 37 = .ok (.lstore 7, 2) := dz_at (i := 22) dy_p09_30 rfl
theorem dX5_below_39 : decode cX5_below 39 = .ok (.lload 5, 2) := dz_at (i := 23) dy_p09_30 rfl
theorem dX5_below_41 : decode cX5_below 41 = .ok (.lload 7, 2) := dz_at (i := 24) dy_p09_30 rfl
theorem dX5_below_43 : decode cX5_below 43 = .ok (.lcmp, 1) := dz_at (i := 25) dy_p09_30 rfl
theorem dX5_below_44 : decode cX5_below 44 = .ok (.ifCond .lt 16, 3) := dz_at (i := 26) dy_p09_30 rfl
theorem dX5_below_47 : decode cX5_below 47 = .ok (.iload 4, 2) := dz_at (i := 27) dy_p09_30 rfl
theorem dX5_below_49 : decode cX5_below 49 = .ok (.ifCond .eq 15, 3) := dz_at (i := 28) dy_p09_30 rfl
theorem dX5_below_52 : decode cX5_below 52 = .ok (.lload 5, 2) := dz_at (i := 29) dy_p09_30 rfl
theorem dX5_below_54 : decode cX5_below 54 = .ok (.lload 7, 2) := dz_at (i := 30) dy_p09_30 rfl
theorem dX5_below_56 : decode cX5_below 56 = .ok (.lcmp, 1) := dz_at (i := 31) dy_p09_30 rfl
theorem dX5_below_57 : decode cX5_below 57 = .ok (.ifCond .ne 7, 3) := dz_at (i := 32) dy_p09_30 rfl
theorem dX5_below_60 : decode cX5_below 60 = .ok (.iconst 1, 1) := dz_at (i := 33) dy_p09_30 rfl
theorem dX5_below_61 : decode cX5_below 61 = .ok (.goto 4, 3) := dz_at (i := 34) dy_p09_30 rfl
theorem dX5_below_64 : decode cX5_below 64 = .ok (.iconst 0, 1) := dz_at (i := 35) dy_p09_30 rfl
theorem dX5_below_65 : decode cX5_below 65 = .ok (.ireturn, 1) := dz_at (i := 36) dy_p09_30 rfl
noncomputable def o_X5_below (w : Bool) (f : Nat → Int64) (p1 : Int32) (p2 : Int32) (p3 : Bool) : Bool × Int32 :=
  if (o_X5_fails (o_X5_areNo p1 p2) false).1 = true then (false, (o_X5_fails (o_X5_areNo p1 p2) false).2)
  else if (o_X4_value w (f p1.toNatClampNeg)) < (o_X4_value w (f p2.toNatClampNeg)) then (true, (o_X5_fails (o_X5_areNo p1 p2) false).2)
  else if p3 = true then (if (o_X4_value w (f p1.toNatClampNeg)) = (o_X4_value w (f p2.toNatClampNeg)) then (true, (o_X5_fails (o_X5_areNo p1 p2) false).2)
    else (false, (o_X5_fails (o_X5_areNo p1 p2) false).2))
  else (false, (o_X5_fails (o_X5_areNo p1 p2) false).2)
set_option maxHeartbeats 4000000 in
set_option maxRecDepth 100000 in
theorem k_X5_below (l : Launch) (dC : Nat → ClassId) (dI : Nat → Nat → Nat) (cy : ClassId) (h0 : Nat) (h1 : Nat) (h2 : Nat) (ro : Nat) (hc : Nat) (w : Bool) (a : Int32) (f : Nat → Int64) (th : Int32) (rf : Int32) (kn : Int32) (sz : Nat) (N : Nat) (p1 : Int32) (p2 : Int32) (p3 : Bool) : Met l yX5_below wsX5_below ({ frames := 3, cells := 0, slots := 0, locals := 64 }) (va_Pc [.ref h0, .ref ro, .int p1, .int p2, .int (b2i p3)] (xM (dC, dI) xCl [(h0, eM h1 h2 th rf kn), (ro, eMR w hc a), (hc, eA cy f)] [(cy, .long)] sz N)) (va_Qi (fun (r : Int32) (_ : Unit) => r = b2i ((o_X5_below w f p1 p2 p3).1)) (fun _ t => xW (dC, dI) xCl [(h0, eM h1 h2 (o_X5_below w f p1 p2 p3).2 rf kn), (ro, eMR w hc a), (hc, eA cy f)] (va_A [(h0, eM h1 h2 th rf kn), (ro, eMR w hc a), (hc, eA cy f)] sz) t) (va_A [(h0, eM h1 h2 th rf kn), (ro, eMR w hc a), (hc, eA cy f)] sz)) 0 0 (va_A [(h0, eM h1 h2 th rf kn), (ro, eMR w hc a), (hc, eA cy f)] sz) := by
  refine Met.ofW (cc := cX5_below) (maxL := 9) (ret := (some .boolean)) (by decide +kernel) rfl ?_
  intro p e s m args below meth c s₁ B hml hv
  obtain ⟨rfl, hsz, hP, hK, hD0, hN, hG⟩ := hv
  have hx := B.exec
  have hb := B.bytes
  have hr := B.returns
  have hts := atoms_spec (ws := wsX5_below) B.pre
  have hown : s.vm.findClass RX5 = some m.cls := findClass_of_methodNamed B.named
  have hlocks := B.notSynchronized
  subst hsz
  have hAN : ∀ q, va_A [(h0, eM h1 h2 th rf kn), (ro, eMR w hc a), (hc, eA cy f)] s.heap.size q → N ≤ q := xA_N hD0 hN
  have hD := hD0.self (sz := s.heap.size)
  generalize hAe : va_A [(h0, eM h1 h2 th rf kn), (ro, eMR w hc a), (hc, eA cy f)] s.heap.size = A at hD hAN ⊢
  have hA : ∀ q : Nat, s.heap.size ≤ q → A q := fun q h => by rw [← hAe]; exact Or.inr h
  have hS : va_S A s.heap s.heap [] := va_S.rf
  have hP : va_P (dC, dI) xCl [(h0, eM h1 h2 th rf kn), (ro, eMR w hc a), (hc, eA cy f)] s.heap := hP
  have hl := lv_entry ([.ref h0, .ref ro, .int p1, .int p2, .int (b2i p3)]) (n := 9) (Nat.le_of_ble_eq_true rfl)
  rw [lg_entry_eq]
  generalize (lg_sl ([.ref h0, .ref ro, .int p1, .int p2, .int (b2i p3)]) ++ List.replicate (9 - (lg_sl ([.ref h0, .ref ro, .int p1, .int p2, .int (b2i p3)])).length) Slot.unset).toArray = ls at hl ⊢
  have hl : lv_has ls 9 [(0, .ref h0), (1, .ref ro), (2, .int p1), (3, .int p2), (4, .int (b2i p3))] := hl
  refine lv_aload_n hx hb dX5_below_0 rfl (lv_at hl 0 rfl) ?_
  refine lv_iload_n hx hb dX5_below_1 rfl (lv_at hl 2 rfl) ?_
  refine lv_iload_n hx hb dX5_below_2 rfl (lv_at hl 3 rfl) ?_
  have hPc := hP.sub (ws' := []) [] rfl
  have hKc := hK.sub (tys' := []) [] rfl
  refine va_calli (va_runS (As := [.int p1, .int p2]) (rest := [.ref h0]) ⟨hx, hb, hml, hown, hts⟩ (k_X5_areNo l dC dI s.heap.size p1 p2) (va_cwS 2 hts gX5_below_X5_areNo rfl rfl rfl (by decide +kernel) ⟨Nat.le_of_ble_eq_true rfl, Nat.le_of_ble_eq_true rfl⟩) (xB.preS hKc hPc) rfl rfl hl.1 rfl (lv_room (Nat.le_of_ble_eq_true rfl)) dX5_below_3 ⟨Nat.le_of_ble_eq_true rfl, Nat.le_of_ble_eq_true rfl⟩) hS xA_old (fun q h => hA q (Nat.le_trans hS.1 h)) (fun r_1 u t H locs ht hvm hw hB hz hk hS => ?_)
  replace hw : r_1 = b2i (o_X5_areNo p1 p2) := hw
  subst r_1
  have hP := xP_keep hP hk
  refine lv_iconst (v := 0) hx hb dX5_below_6 (by decide +kernel) ?_
  have hPc := hP.sub (ws' := [(h0, eM h1 h2 th rf kn)]) [0] rfl
  have hDc := hD.sub (ws' := [(h0, eM h1 h2 th rf kn)]) [0] (by decide +kernel) rfl
  have hKc := hK.sub (tys' := []) [] rfl
  have hFc := va_free (wc := [(h0, eM h1 h2 th rf kn)]) hD hS hA [0] rfl
  refine va_calli (va_runV (As := [.int (b2i (o_X5_areNo p1 p2)), .int 0]) (rest := []) ⟨hx, hb, hml, hown, hts⟩ (k_X5_fails l dC dI h0 h1 h2 th rf kn H.size N (o_X5_areNo p1 p2) false) (cwV 2 hts gX5_below_X5_fails rfl rfl rfl (by decide +kernel) ⟨Nat.le_of_ble_eq_true rfl, Nat.le_of_ble_eq_true rfl⟩) (xM.preV hKc hPc hDc hAN (Nat.le_trans hN hS.1) (hG.kept hS hAN) (ci := 7) (q0 := 0) rfl rfl) rfl rfl hl.1 rfl (lv_room (Nat.le_of_ble_eq_true rfl)) dX5_below_7 ⟨Nat.le_of_ble_eq_true rfl, Nat.le_of_ble_eq_true rfl⟩) hS (fun q _ h => hFc q h) hFc (fun r_2 u t H locs ht hvm hw hB hz hk hS => ?_)
  replace hw : r_2 = b2i ((o_X5_fails (o_X5_areNo p1 p2) false).1) := hw
  subst r_2
  obtain ⟨hP1, hD1⟩ := hB
  rw [ht] at hP1
  obtain ⟨hP, hD⟩ := va_join (wr := [(ro, eMR w hc a), (hc, eA cy f)]) (w1 := [(h0, eM h1 h2 (o_X5_fails (o_X5_areNo p1 p2) false).2 rf kn)]) hP hD [0] [1, 2] rfl rfl (by decide +kernel) (by decide +kernel) hk hFc hP1 hD1
  have hP := hP.sub (ws' := [(h0, eM h1 h2 (o_X5_fails (o_X5_areNo p1 p2) false).2 rf kn), (ro, eMR w hc a), (hc, eA cy f)]) [2, 0, 1] rfl
  have hD := hD.sub (ws' := [(h0, eM h1 h2 (o_X5_fails (o_X5_areNo p1 p2) false).2 rf kn), (ro, eMR w hc a), (hc, eA cy f)]) [2, 0, 1] (by decide +kernel) rfl
  refine xz_eq (tgt := 15) hx hb dX5_below_10 (by decide +kernel) (fun c_3 => ?_) (fun c_3 => ?_)
  · skip
    refine lv_aload_n hx hb dX5_below_15 rfl (lv_at hl 1 rfl) ?_
    refine lv_aload_n hx hb dX5_below_16 rfl (lv_at hl 1 rfl) ?_
    refine va_get (D := (dC, dI)) (ci := 6) (v := .ref hc) (C := RX4) (T := TX4) (N := 5) hx hb hts (by decide +kernel) hown hK hP 1 rfl rfl 3 (by decide +kernel) (hts (.fieldLink RX5 74 "EdgefloatsModel$Row" "cells" "[J") (by decide +kernel)) (fun _ h9 => h9) rfl dX5_below_17 ?_
    refine lv_iload_n hx hb dX5_below_20 rfl (lv_at hl 2 rfl) ?_
    refine xa_lald hx hb hK hP 2 0 (f := f) rfl rfl (k := p1.toNatClampNeg) (xm_areNo1 (xm_fails c_3)) rfl dX5_below_21 ?_
    have hPc := hP.sub (ws' := [(ro, eMR w hc a), (hc, eA cy f)]) [1, 2] rfl
    have hKc := hK.sub (tys' := [(cy, .long)]) [0] rfl
    refine va_calll (va_runV (As := [.long (f p1.toNatClampNeg)]) (rest := []) ⟨hx, hb, hml, hown, hts⟩ (k_X4_value l dC dI cy ro hc w a f H.size (f p1.toNatClampNeg)) (cwV 1 hts gX5_below_X4_value rfl rfl rfl (by decide +kernel) ⟨Nat.le_of_ble_eq_true rfl, Nat.le_of_ble_eq_true rfl⟩) (xB.preV hKc hPc (ci := 6) (q0 := 0) rfl rfl) rfl rfl hl.1 rfl (lv_room (Nat.le_of_ble_eq_true rfl)) dX5_below_22 ⟨Nat.le_of_ble_eq_true rfl, Nat.le_of_ble_eq_true rfl⟩) hS xA_old (fun q h => hA q (Nat.le_trans hS.1 h)) (fun r_4 u t H locs ht hvm hw hB hz hk hS => ?_)
    replace hw : r_4 = (o_X4_value w (f p1.toNatClampNeg)) := hw
    subst r_4
    have hP := xP_keep hP hk
    refine lv_lstore (lv' := [(5, .long (o_X4_value w (f p1.toNatClampNeg))), (0, .ref h0), (1, .ref ro), (2, .int p1), (3, .int p2), (4, .int (b2i p3))]) hx hb dX5_below_25 hl (by decide +kernel) rfl (fun ls hl => ?_)
    refine lv_aload_n hx hb dX5_below_27 rfl (lv_at hl 2 rfl) ?_
    refine lv_aload_n hx hb dX5_below_28 rfl (lv_at hl 2 rfl) ?_
    refine va_get (D := (dC, dI)) (ci := 6) (v := .ref hc) (C := RX4) (T := TX4) (N := 5) hx hb hts (by decide +kernel) hown hK hP 1 rfl rfl 3 (by decide +kernel) (hts (.fieldLink RX5 74 "EdgefloatsModel$Row" "cells" "[J") (by decide +kernel)) (fun _ h9 => h9) rfl dX5_below_29 ?_
    refine lv_iload_n hx hb dX5_below_32 rfl (lv_at hl 4 rfl) ?_
    refine xa_lald hx hb hK hP 2 0 (f := f) rfl rfl (k := p2.toNatClampNeg) (xm_areNo2 (xm_fails c_3)) rfl dX5_below_33 ?_
    have hPc := hP.sub (ws' := [(ro, eMR w hc a), (hc, eA cy f)]) [1, 2] rfl
    have hKc := hK.sub (tys' := [(cy, .long)]) [0] rfl
    refine va_calll (va_runV (As := [.long (f p2.toNatClampNeg)]) (rest := []) ⟨hx, hb, hml, hown, hts⟩ (k_X4_value l dC dI cy ro hc w a f H.size (f p2.toNatClampNeg)) (cwV 1 hts gX5_below_X4_value rfl rfl rfl (by decide +kernel) ⟨Nat.le_of_ble_eq_true rfl, Nat.le_of_ble_eq_true rfl⟩) (xB.preV hKc hPc (ci := 6) (q0 := 0) rfl rfl) rfl rfl hl.1 rfl (lv_room (Nat.le_of_ble_eq_true rfl)) dX5_below_34 ⟨Nat.le_of_ble_eq_true rfl, Nat.le_of_ble_eq_true rfl⟩) hS xA_old (fun q h => hA q (Nat.le_trans hS.1 h)) (fun r_5 u t H locs ht hvm hw hB hz hk hS => ?_)
    replace hw : r_5 = (o_X4_value w (f p2.toNatClampNeg)) := hw
    subst r_5
    have hP := xP_keep hP hk
    refine lv_lstore (lv' := [(7, .long (o_X4_value w (f p2.toNatClampNeg))), (5, .long (o_X4_value w (f p1.toNatClampNeg))), (0, .ref h0), (1, .ref ro), (2, .int p1), (3, .int p2), (4, .int (b2i p3))]) hx hb dX5_below_37 hl (by decide +kernel) rfl (fun ls hl => ?_)
    refine lv_lload hx hb dX5_below_39 (lv_at hl 1 rfl) ?_
    refine lv_lload hx hb dX5_below_41 (lv_at hl 0 rfl) ?_
    refine xc_lt (tgt := 60) hx hb dX5_below_43 dX5_below_44 (by decide +kernel) (fun c_6 => ?_) (fun c_6 => ?_)
    · skip
      refine lv_iconst (v := 1) hx hb dX5_below_60 (by decide +kernel) ?_
      refine lv_goto (tgt := 65) hx hb dX5_below_61 (by decide +kernel) ?_
      have he : o_X5_below w f p1 p2 p3 = (true, (o_X5_fails (o_X5_areNo p1 p2) false).2) := by (rw [o_X5_below, if_neg c_3, if_pos c_6]) <;> rfl
      refine W.widen (k := 0) (n := 0) (by omega) (by omega) ?_
      exact W.zret (v := 1) (ty := .boolean) hx hb hr rfl (fun t ht hW => ⟨⟨_, (), rfl, (by (rw [he]) <;> rfl), (by rw [he]; exact ⟨by rw [ht]; exact hP, hD⟩)⟩, hS.F ht⟩) hS.2.2 dX5_below_65
    · skip
      refine lv_iload hx hb dX5_below_47 (lv_at hl 6 rfl) ?_
      refine xz_eq (tgt := 64) hx hb dX5_below_49 (by decide +kernel) (fun c_7 => ?_) (fun c_7 => ?_)
      · skip
        refine lv_iconst (v := 0) hx hb dX5_below_64 (by decide +kernel) ?_
        have he : o_X5_below w f p1 p2 p3 = (false, (o_X5_fails (o_X5_areNo p1 p2) false).2) := by (rw [o_X5_below, if_neg c_3, if_neg c_6, if_neg c_7]) <;> rfl
        refine W.widen (k := 0) (n := 0) (by omega) (by omega) ?_
        exact W.zret (v := 0) (ty := .boolean) hx hb hr rfl (fun t ht hW => ⟨⟨_, (), rfl, (by (rw [he]) <;> rfl), (by rw [he]; exact ⟨by rw [ht]; exact hP, hD⟩)⟩, hS.F ht⟩) hS.2.2 dX5_below_65
      · skip
        refine lv_lload hx hb dX5_below_52 (lv_at hl 1 rfl) ?_
        refine lv_lload hx hb dX5_below_54 (lv_at hl 0 rfl) ?_
        refine xc_ne (tgt := 64) hx hb dX5_below_56 dX5_below_57 (by decide +kernel) (fun c_8 => ?_) (fun c_8 => ?_)
        · skip
          refine lv_iconst (v := 0) hx hb dX5_below_64 (by decide +kernel) ?_
          have he : o_X5_below w f p1 p2 p3 = (false, (o_X5_fails (o_X5_areNo p1 p2) false).2) := by (rw [o_X5_below, if_neg c_3, if_neg c_6, if_pos c_7, if_neg c_8]) <;> rfl
          refine W.widen (k := 0) (n := 0) (by omega) (by omega) ?_
          exact W.zret (v := 0) (ty := .boolean) hx hb hr rfl (fun t ht hW => ⟨⟨_, (), rfl, (by (rw [he]) <;> rfl), (by rw [he]; exact ⟨by rw [ht]; exact hP, hD⟩)⟩, hS.F ht⟩) hS.2.2 dX5_below_65
        · skip
          refine lv_iconst (v := 1) hx hb dX5_below_60 (by decide +kernel) ?_
          refine lv_goto (tgt := 65) hx hb dX5_below_61 (by decide +kernel) ?_
          have he : o_X5_below w f p1 p2 p3 = (true, (o_X5_fails (o_X5_areNo p1 p2) false).2) := by (rw [o_X5_below, if_neg c_3, if_neg c_6, if_pos c_7, if_pos c_8]) <;> rfl
          refine W.widen (k := 0) (n := 0) (by omega) (by omega) ?_
          exact W.zret (v := 1) (ty := .boolean) hx hb hr rfl (fun t ht hW => ⟨⟨_, (), rfl, (by (rw [he]) <;> rfl), (by rw [he]; exact ⟨by rw [ht]; exact hP, hD⟩)⟩, hS.F ht⟩) hS.2.2 dX5_below_65
  · skip
    refine lv_iconst (v := 0) hx hb dX5_below_13 (by decide +kernel) ?_
    have he : o_X5_below w f p1 p2 p3 = (false, (o_X5_fails (o_X5_areNo p1 p2) false).2) := by (rw [o_X5_below, if_pos c_3]) <;> rfl
    refine W.widen (k := 0) (n := 0) (by omega) (by omega) ?_
    exact W.zret (v := 0) (ty := .boolean) hx hb hr rfl (fun t ht hW => ⟨⟨_, (), rfl, (by (rw [he]) <;> rfl), (by rw [he]; exact ⟨by rw [ht]; exact hP, hD⟩)⟩, hS.F ht⟩) hS.2.2 dX5_below_14
