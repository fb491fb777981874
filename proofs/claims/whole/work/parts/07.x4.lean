noncomputable def dz_p07_1 : List (Nat × Instr × Nat) := [(0, (.lconst 1, 1)), (1, (.aload_n 0, 1)), (2, (.getfield 15, 3)), (5, (.aload_n 0, 1)), (6, (.getfield 19, 3)), (9, (.iadd, 1)), (10, (.lshl, 1)), (11, (.lreturn, 1))]
theorem dy_p07_1 : dz_ok cX4_sign dz_p07_1 = true := by decide +kernel
theorem dX4_sign_0 : decode cX4_sign 0 = .ok (.lconst 1, 1) := dz_at (i := 0) dy_p07_1 rfl
theorem dX4_sign_1 : decode cX4_sign 1 = .ok (.aload_n 0, 1) := dz_at (i := 1) dy_p07_1 rfl
theorem dX4_sign_2 : decode cX4_sign 2 = .ok (.getfield 15, 3) := dz_at (i := 2) dy_p07_1 rfl
theorem dX4_sign_5 : decode cX4_sign 5 = .ok (.aload_n 0, 1) := dz_at (i := 3) dy_p07_1 rfl
theorem dX4_sign_6 : decode cX4_sign 6 = .ok (.getfield 19, 3) := dz_at (i := 4) dy_p07_1 rfl
theorem dX4_sign_9 : decode cX4_sign 9 = .ok (.iadd, 1) := dz_at (i := 5) dy_p07_1 rfl
theorem dX4_sign_10 : decode cX4_sign 10 = .ok (.lshl, 1) := dz_at (i := 6) dy_p07_1 rfl
theorem dX4_sign_11 : decode cX4_sign 11 = .ok (.lreturn, 1) := dz_at (i := 7) dy_p07_1 rfl
noncomputable def o_X4_sign (w : Bool)  : Int64 :=
  (jLshl 1 ((mEx w) + (mFr w)))
set_option maxHeartbeats 4000000 in
set_option maxRecDepth 100000 in
theorem k_X4_sign (l : Launch) (dC : Nat → ClassId) (dI : Nat → Nat → Nat) (cy : ClassId) (h0 : Nat) (hc : Nat) (w : Bool) (a : Int32) (f : Nat → Int64) (sz : Nat)  : Met l yX4_sign wsX4_sign ({ frames := 0, cells := 0, slots := 0, locals := 0 }) (va_Pc [.ref h0] (xB (dC, dI) xCl [(h0, eMR w hc a), (hc, eA cy f)] [(cy, .long)] sz)) (va_Ql (fun (r : Int64) (_ : Unit) => r = (o_X4_sign w)) (fun _ _ => True) (aN sz)) 0 0 (aN sz) := by
  refine Met.ofW (cc := cX4_sign) (maxL := 1) (ret := (some .long)) (by decide +kernel) rfl ?_
  intro p e s m args below meth c s₁ B hml hv
  obtain ⟨rfl, hsz, hP, hK⟩ := hv
  have hx := B.exec
  have hb := B.bytes
  have hr := B.returns
  have hts := atoms_spec (ws := wsX4_sign) B.pre
  have hown : s.vm.findClass RX4 = some m.cls := findClass_of_methodNamed B.named
  have hlocks := B.notSynchronized
  subst hsz
  have hA : ∀ q : Nat, s.heap.size ≤ q → aN s.heap.size q := fun _ h => h
  have hS : va_S (aN s.heap.size) s.heap s.heap [] := va_S.rf
  have hP : va_P (dC, dI) xCl [(h0, eMR w hc a), (hc, eA cy f)] s.heap := hP
  have hl := lv_entry ([.ref h0]) (n := 1) (Nat.le_of_ble_eq_true rfl)
  rw [lg_entry_eq]
  generalize (lg_sl ([.ref h0]) ++ List.replicate (1 - (lg_sl ([.ref h0])).length) Slot.unset).toArray = ls at hl ⊢
  have hl : lv_has ls 1 [(0, .ref h0)] := hl
  refine lv_lconst (v := 1) hx hb dX4_sign_0 (by decide +kernel) ?_
  refine lv_aload_n hx hb dX4_sign_1 rfl (lv_at hl 0 rfl) ?_
  refine va_get (D := (dC, dI)) (ci := 6) (v := .int (mEx w)) (C := RX4) (T := TX4) (N := 5) hx hb hts (by decide +kernel) hown hK hP 0 rfl rfl 0 (by decide +kernel) (hts (.fieldLink RX4 15 "EdgefloatsModel$Row" "exponents" "I") (by decide +kernel)) (fun _ h9 => h9) rfl dX4_sign_2 ?_
  refine lv_aload_n hx hb dX4_sign_5 rfl (lv_at hl 0 rfl) ?_
  refine va_get (D := (dC, dI)) (ci := 6) (v := .int (mFr w)) (C := RX4) (T := TX4) (N := 5) hx hb hts (by decide +kernel) hown hK hP 0 rfl rfl 1 (by decide +kernel) (hts (.fieldLink RX4 19 "EdgefloatsModel$Row" "fractions" "I") (by decide +kernel)) (fun _ h9 => h9) rfl dX4_sign_6 ?_
  refine lv_iadd hx hb dX4_sign_9 ?_
  refine lv_lshl (v := (jLshl 1 ((mEx w) + (mFr w)))) hx hb dX4_sign_10 rfl ?_
  have he : o_X4_sign w = (jLshl 1 ((mEx w) + (mFr w))) := by (rw [o_X4_sign]) <;> rfl
  refine W.widen (k := 0) (n := 0) (by omega) (by omega) ?_
  exact W.lret (v := (jLshl 1 ((mEx w) + (mFr w)))) hx hb hr (fun t ht hW => ⟨⟨_, (), rfl, (by (rw [he]) <;> rfl), trivial⟩, hS.F ht⟩) hS.2.2 dX4_sign_11
theorem cl_X4_size_1 : ∀ w ∈ [.constantLong RX4 30 (-1), .methodLink RX4 26 yX4_sign, .instanceMethod yX4_sign, .selects RX4 yX4_sign yX4_sign, .initialized RX4, .code yX4_sign cX4_sign 1 (some .long), .fieldLink RX4 15 "EdgefloatsModel$Row" "exponents" "I", .fieldLink RX4 19 "EdgefloatsModel$Row" "fractions" "I"], w ∈ wsX4_size := fun _ h => (List.mem_cons_of_mem _ (List.mem_append_left _ h))
theorem cl_X4_size_2 : ∀ w ∈ wsX40, w ∈ wsX4_size := fun _ h => (List.mem_cons_of_mem _ (List.mem_append_right _ h))
set_option maxRecDepth 20000 in
theorem ggX4_size_X4_sign : GoodIn wsX4_size wsX4_sign := goodIn_sub (List.forall_mem_cons.mpr ⟨(cl_X4_size_1 _ (List.mem_of_getElem? (i := 5) rfl)), fun w h => (List.mem_append.mp h).elim ((List.forall_mem_cons.mpr ⟨(cl_X4_size_1 _ (List.mem_of_getElem? (i := 6) rfl)), List.forall_mem_cons.mpr ⟨(cl_X4_size_1 _ (List.mem_of_getElem? (i := 7) rfl)), fun _ h => absurd h List.not_mem_nil⟩⟩) w) ((cl_X4_size_2) w)⟩) (by decide +kernel)
set_option maxRecDepth 20000 in
theorem gX4_size_X4_sign : GoodIn wsX4_size (wsV RX4 26 RX4 yX4_sign wsX4_sign) := goodIn_app (goodIn_sub (List.forall_mem_cons.mpr ⟨(cl_X4_size_1 _ (List.mem_of_getElem? (i := 1) rfl)), List.forall_mem_cons.mpr ⟨(cl_X4_size_1 _ (List.mem_of_getElem? (i := 2) rfl)), List.forall_mem_cons.mpr ⟨(cl_X4_size_1 _ (List.mem_of_getElem? (i := 3) rfl)), List.forall_mem_cons.mpr ⟨(cl_X4_size_1 _ (List.mem_of_getElem? (i := 4) rfl)), fun _ h => absurd h List.not_mem_nil⟩⟩⟩⟩) (by decide +kernel)) ggX4_size_X4_sign
noncomputable def dz_p07_2 : List (Nat × Instr × Nat) := [(0, (.lload_n 1, 1)), (1, (.aload_n 0, 1)), (2, (.invokevirtual 26, 3)), (5, (.ldc2_w 30, 3)), (8, (.lxor, 1)), (9, (.land, 1)), (10, (.lreturn, 1))]
theorem dy_p07_2 : dz_ok cX4_size dz_p07_2 = true := by decide +kernel
theorem dX4_size_0 : decode cX4_size 0 = .ok (.lload_n 1, 1) := dz_at (i := 0) dy_p07_2 rfl
theorem dX4_size_1 : decode cX4_size 1 = .ok (.aload_n 0, 1) := dz_at (i := 1) dy_p07_2 rfl
theorem dX4_size_2 : decode cX4_size 2 = .ok (.invokevirtual 26, 3) := dz_at (i := 2) dy_p07_2 rfl
theorem dX4_size_5 : decode cX4_size 5 = .ok (.ldc2_w 30, 3) := dz_at (i := 3) dy_p07_2 rfl
theorem dX4_size_8 : decode cX4_size 8 = .ok (.lxor, 1) := dz_at (i := 4) dy_p07_2 rfl
theorem dX4_size_9 : decode cX4_size 9 = .ok (.land, 1) := dz_at (i := 5) dy_p07_2 rfl
theorem dX4_size_10 : decode cX4_size 10 = .ok (.lreturn, 1) := dz_at (i := 6) dy_p07_2 rfl
noncomputable def o_X4_size (w : Bool) (p0 : Int64) : Int64 :=
  (p0 &&& ((o_X4_sign w) ^^^ (-1)))
set_option maxHeartbeats 4000000 in
set_option maxRecDepth 100000 in
theorem k_X4_size (l : Launch) (dC : Nat → ClassId) (dI : Nat → Nat → Nat) (cy : ClassId) (h0 : Nat) (hc : Nat) (w : Bool) (a : Int32) (f : Nat → Int64) (sz : Nat) (p0 : Int64) : Met l yX4_size wsX4_size ({ frames := 1, cells := 0, slots := 0, locals := 20 }) (va_Pc [.ref h0, .long p0] (xB (dC, dI) xCl [(h0, eMR w hc a), (hc, eA cy f)] [(cy, .long)] sz)) (va_Ql (fun (r : Int64) (_ : Unit) => r = (o_X4_size w p0)) (fun _ _ => True) (aN sz)) 0 0 (aN sz) := by
  refine Met.ofW (cc := cX4_size) (maxL := 3) (ret := (some .long)) (by decide +kernel) rfl ?_
  intro p e s m args below meth c s₁ B hml hv
  obtain ⟨rfl, hsz, hP, hK⟩ := hv
  have hx := B.exec
  have hb := B.bytes
  have hr := B.returns
  have hts := atoms_spec (ws := wsX4_size) B.pre
  have hown : s.vm.findClass RX4 = some m.cls := findClass_of_methodNamed B.named
  have hlocks := B.notSynchronized
  subst hsz
  have hA : ∀ q : Nat, s.heap.size ≤ q → aN s.heap.size q := fun _ h => h
  have hS : va_S (aN s.heap.size) s.heap s.heap [] := va_S.rf
  have hP : va_P (dC, dI) xCl [(h0, eMR w hc a), (hc, eA cy f)] s.heap := hP
  have hl := lv_entry ([.ref h0, .long p0]) (n := 3) (Nat.le_of_ble_eq_true rfl)
  rw [lg_entry_eq]
  generalize (lg_sl ([.ref h0, .long p0]) ++ List.replicate (3 - (lg_sl ([.ref h0, .long p0])).length) Slot.unset).toArray = ls at hl ⊢
  have hl : lv_has ls 3 [(0, .ref h0), (1, .long p0)] := hl
  refine lv_lload_n hx hb dX4_size_0 rfl (lv_at hl 1 rfl) ?_
  refine lv_aload_n hx hb dX4_size_1 rfl (lv_at hl 0 rfl) ?_
  have hPc := hP.sub (ws' := [(h0, eMR w hc a), (hc, eA cy f)]) [0, 1] rfl
  have hKc := hK.sub (tys' := [(cy, .long)]) [0] rfl
  refine va_calll (va_runV (As := []) (rest := [.long p0]) ⟨hx, hb, hml, hown, hts⟩ (k_X4_sign l dC dI cy h0 hc w a f s.heap.size) (cwV 0 hts gX4_size_X4_sign rfl rfl rfl (by decide +kernel) ⟨Nat.le_of_ble_eq_true rfl, Nat.le_of_ble_eq_true rfl⟩) (xB.preV hKc hPc (ci := 6) (q0 := 0) rfl rfl) rfl rfl hl.1 rfl (lv_room (Nat.le_of_ble_eq_true rfl)) dX4_size_2 ⟨Nat.le_of_ble_eq_true rfl, Nat.le_of_ble_eq_true rfl⟩) hS xA_old (fun q h => hA q (Nat.le_trans hS.1 h)) (fun r_1 u t H locs ht hvm hw hB hz hk hS => ?_)
  replace hw : r_1 = (o_X4_sign w) := hw
  subst r_1
  have hP := xP_keep hP hk
  refine lv_ldc2 (own := RX4) (index := 30) (v := (-1)) hx hb hown (hts (.constantLong RX4 30 (-1)) (by decide +kernel)) dX4_size_5 ?_
  refine lv_lxor hx hb dX4_size_8 ?_
  refine lv_land hx hb dX4_size_9 ?_
  have he : o_X4_size w p0 = (p0 &&& ((o_X4_sign w) ^^^ (-1))) := by (rw [o_X4_size]) <;> rfl
  refine W.widen (k := 0) (n := 0) (by omega) (by omega) ?_
  exact W.lret (v := (p0 &&& ((o_X4_sign w) ^^^ (-1)))) hx hb hr (fun t ht hW => ⟨⟨_, (), rfl, (by (rw [he]) <;> rfl), trivial⟩, hS.F ht⟩) hS.2.2 dX4_size_10
theorem cl_X4_isBelowZero_1 : ∀ w ∈ [.methodLink RX4 26 yX4_sign, .instanceMethod yX4_sign, .selects RX4 yX4_sign yX4_sign, .initialized RX4, .code yX4_sign cX4_sign 1 (some .long), .fieldLink RX4 15 "EdgefloatsModel$Row" "exponents" "I", .fieldLink RX4 19 "EdgefloatsModel$Row" "fractions" "I"], w ∈ wsX4_isBelowZero := fun _ h => (List.mem_cons_of_mem _ (List.mem_append_left _ h))
theorem cl_X4_isBelowZero_2 : ∀ w ∈ wsX40, w ∈ wsX4_isBelowZero := fun _ h => (List.mem_cons_of_mem _ (List.mem_append_right _ h))
set_option maxRecDepth 20000 in
theorem ggX4_isBelowZero_X4_sign : GoodIn wsX4_isBelowZero wsX4_sign := goodIn_sub (List.forall_mem_cons.mpr ⟨(cl_X4_isBelowZero_1 _ (List.mem_of_getElem? (i := 4) rfl)), fun w h => (List.mem_append.mp h).elim ((List.forall_mem_cons.mpr ⟨(cl_X4_isBelowZero_1 _ (List.mem_of_getElem? (i := 5) rfl)), List.forall_mem_cons.mpr ⟨(cl_X4_isBelowZero_1 _ (List.mem_of_getElem? (i := 6) rfl)), fun _ h => absurd h List.not_mem_nil⟩⟩) w) ((cl_X4_isBelowZero_2) w)⟩) (by decide +kernel)
set_option maxRecDepth 20000 in
theorem gX4_isBelowZero_X4_sign : GoodIn wsX4_isBelowZero (wsV RX4 26 RX4 yX4_sign wsX4_sign) := goodIn_app (goodIn_sub (List.forall_mem_cons.mpr ⟨(cl_X4_isBelowZero_1 _ (List.mem_of_getElem? (i := 0) rfl)), List.forall_mem_cons.mpr ⟨(cl_X4_isBelowZero_1 _ (List.mem_of_getElem? (i := 1) rfl)), List.forall_mem_cons.mpr ⟨(cl_X4_isBelowZero_1 _ (List.mem_of_getElem? (i := 2) rfl)), List.forall_mem_cons.mpr ⟨(cl_X4_isBelowZero_1 _ (List.mem_of_getElem? (i := 3) rfl)), fun _ h => absurd h List.not_mem_nil⟩⟩⟩⟩) (by decide +kernel)) ggX4_isBelowZero_X4_sign
noncomputable def dz_p07_3 : List (Nat × Instr × Nat) := [(0, (.lload_n 1, 1)), (1, (.aload_n 0, 1)), (2, (.invokevirtual 26, 3)), (5, (.land, 1)), (6, (.lconst 0, 1)), (7, (.lcmp, 1)), (8, (.ifCond .eq 7, 3)), (11, (.iconst 1, 1)), (12, (.goto 4, 3)), (15, (.iconst 0, 1)), (16, (.ireturn, 1))]
theorem dy_p07_3 : dz_ok cX4_isBelowZero dz_p07_3 = true := by decide +kernel
theorem dX4_isBelowZero_0 : decode cX4_isBelowZero 0 = .ok (.lload_n 1, 1) := dz_at (i := 0) dy_p07_3 rfl
theorem dX4_isBelowZero_1 : decode cX4_isBelowZero 1 = .ok (.aload_n 0, 1) := dz_at (i := 1) dy_p07_3 rfl
theorem dX4_isBelowZero_2 : decode cX4_isBelowZero 2 = .ok (.invokevirtual 26, 3) := dz_at (i := 2) dy_p07_3 rfl
theorem dX4_isBelowZero_5 : decode cX4_isBelowZero 5 = .ok (.land, 1) := dz_at (i := 3) dy_p07_3 rfl
theorem dX4_isBelowZero_6 : decode cX4_isBelowZero 6 = .ok (.lconst 0, 1) := dz_at (i := 4) dy_p07_3 rfl
theorem dX4_isBelowZero_7 : decode cX4_isBelowZero 7 = .ok (.lcmp, 1) := dz_at (i := 5) dy_p07_3 rfl
theorem dX4_isBelowZero_8 : decode cX4_isBelowZero 8 = .ok (.ifCond .eq 7, 3) := dz_at (i := 6) dy_p07_3 rfl
theorem dX4_isBelowZero_11 : decode cX4_isBelowZero 11 = .ok (.iconst 1, 1) := dz_at (i := 7) dy_p07_3 rfl
theorem dX4_isBelowZero_12 : decode cX4_isBelowZero 12 = .ok (.goto 4, 3) := dz_at (i := 8) dy_p07_3 rfl
theorem dX4_isBelowZero_15 : decode cX4_isBelowZero 15 = .ok (.iconst 0, 1) := dz_at (i := 9) dy_p07_3 rfl
theorem dX4_isBelowZero_16 : decode cX4_isBelowZero 16 = .ok (.ireturn, 1) := dz_at (i := 10) dy_p07_3 rfl
noncomputable def o_X4_isBelowZero (w : Bool) (p0 : Int64) : Bool :=
  if (p0 &&& (o_X4_sign w)) = 0 then false
  else true
set_option maxHeartbeats 4000000 in
set_option maxRecDepth 100000 in
theorem k_X4_isBelowZero (l : Launch) (dC : Nat → ClassId) (dI : Nat → Nat → Nat) (cy : ClassId) (h0 : Nat) (hc : Nat) (w : Bool) (a : Int32) (f : Nat → Int64) (sz : Nat) (p0 : Int64) : Met l yX4_isBelowZero wsX4_isBelowZero ({ frames := 1, cells := 0, slots := 0, locals := 20 }) (va_Pc [.ref h0, .long p0] (xB (dC, dI) xCl [(h0, eMR w hc a), (hc, eA cy f)] [(cy, .long)] sz)) (va_Qi (fun (r : Int32) (_ : Unit) => r = b2i (o_X4_isBelowZero w p0)) (fun _ _ => True) (aN sz)) 0 0 (aN sz) := by
  refine Met.ofW (cc := cX4_isBelowZero) (maxL := 3) (ret := (some .boolean)) (by decide +kernel) rfl ?_
  intro p e s m args below meth c s₁ B hml hv
  obtain ⟨rfl, hsz, hP, hK⟩ := hv
  have hx := B.exec
  have hb := B.bytes
  have hr := B.returns
  have hts := atoms_spec (ws := wsX4_isBelowZero) B.pre
  have hown : s.vm.findClass RX4 = some m.cls := findClass_of_methodNamed B.named
  have hlocks := B.notSynchronized
  subst hsz
  have hA : ∀ q : Nat, s.heap.size ≤ q → aN s.heap.size q := fun _ h => h
  have hS : va_S (aN s.heap.size) s.heap s.heap [] := va_S.rf
  have hP : va_P (dC, dI) xCl [(h0, eMR w hc a), (hc, eA cy f)] s.heap := hP
  have hl := lv_entry ([.ref h0, .long p0]) (n := 3) (Nat.le_of_ble_eq_true rfl)
  rw [lg_entry_eq]
  generalize (lg_sl ([.ref h0, .long p0]) ++ List.replicate (3 - (lg_sl ([.ref h0, .long p0])).length) Slot.unset).toArray = ls at hl ⊢
  have hl : lv_has ls 3 [(0, .ref h0), (1, .long p0)] := hl
  refine lv_lload_n hx hb dX4_isBelowZero_0 rfl (lv_at hl 1 rfl) ?_
  refine lv_aload_n hx hb dX4_isBelowZero_1 rfl (lv_at hl 0 rfl) ?_
  have hPc := hP.sub (ws' := [(h0, eMR w hc a), (hc, eA cy f)]) [0, 1] rfl
  have hKc := hK.sub (tys' := [(cy, .long)]) [0] rfl
  refine va_calll (va_runV (As := []) (rest := [.long p0]) ⟨hx, hb, hml, hown, hts⟩ (k_X4_sign l dC dI cy h0 hc w a f s.heap.size) (cwV 0 hts gX4_isBelowZero_X4_sign rfl rfl rfl (by decide +kernel) ⟨Nat.le_of_ble_eq_true rfl, Nat.le_of_ble_eq_true rfl⟩) (xB.preV hKc hPc (ci := 6) (q0 := 0) rfl rfl) rfl rfl hl.1 rfl (lv_room (Nat.le_of_ble_eq_true rfl)) dX4_isBelowZero_2 ⟨Nat.le_of_ble_eq_true rfl, Nat.le_of_ble_eq_true rfl⟩) hS xA_old (fun q h => hA q (Nat.le_trans hS.1 h)) (fun r_1 u t H locs ht hvm hw hB hz hk hS => ?_)
  replace hw : r_1 = (o_X4_sign w) := hw
  subst r_1
  have hP := xP_keep hP hk
  refine lv_land hx hb dX4_isBelowZero_5 ?_
  refine lv_lconst (v := 0) hx hb dX4_isBelowZero_6 (by decide +kernel) ?_
  refine xc_eq (tgt := 15) hx hb dX4_isBelowZero_7 dX4_isBelowZero_8 (by decide +kernel) (fun c_2 => ?_) (fun c_2 => ?_)
  · skip
    refine lv_iconst (v := 0) hx hb dX4_isBelowZero_15 (by decide +kernel) ?_
    have he : o_X4_isBelowZero w p0 = false := by (rw [o_X4_isBelowZero, if_pos c_2]) <;> rfl
    refine W.widen (k := 0) (n := 0) (by omega) (by omega) ?_
    exact W.zret (v := 0) (ty := .boolean) hx hb hr rfl (fun t ht hW => ⟨⟨_, (), rfl, (by (rw [he]) <;> rfl), trivial⟩, hS.F ht⟩) hS.2.2 dX4_isBelowZero_16
  · skip
    refine lv_iconst (v := 1) hx hb dX4_isBelowZero_11 (by decide +kernel) ?_
    refine lv_goto (tgt := 16) hx hb dX4_isBelowZero_12 (by decide +kernel) ?_
    have he : o_X4_isBelowZero w p0 = true := by (rw [o_X4_isBelowZero, if_neg c_2]) <;> rfl
    refine W.widen (k := 0) (n := 0) (by omega) (by omega) ?_
    exact W.zret (v := 1) (ty := .boolean) hx hb hr rfl (fun t ht hW => ⟨⟨_, (), rfl, (by (rw [he]) <;> rfl), trivial⟩, hS.F ht⟩) hS.2.2 dX4_isBelowZero_16
noncomputable def dz_p07_4 : List (Nat × Instr × Nat) := [(0, (.lconst 1, 1)), (1, (.aload_n 0, 1)), (2, (.getfield 15, 3)), (5, (.lshl, 1)), (6, (.lconst 1, 1)), (7, (.lsub, 1)), (8, (.aload_n 0, 1)), (9, (.getfield 19, 3)), (12, (.lshl, 1)), (13, (.lreturn, 1))]
theorem dy_p07_4 : dz_ok cX4_endless dz_p07_4 = true := by decide +kernel
theorem dX4_endless_0 : decode cX4_endless 0 = .ok (.lconst 1, 1) := dz_at (i := 0) dy_p07_4 rfl
theorem dX4_endless_1 : decode cX4_endless 1 = .ok (.aload_n 0, 1) := dz_at (i := 1) dy_p07_4 rfl
theorem dX4_endless_2 : decode cX4_endless 2 = .ok (.getfield 15, 3) := dz_at (i := 2) dy_p07_4 rfl
theorem dX4_endless_5 : decode cX4_endless 5 = .ok (.lshl, 1) := dz_at (i := 3) dy_p07_4 rfl
theorem dX4_endless_6 : decode cX4_endless 6 = .ok (.lconst 1, 1) := dz_at (i := 4) dy_p07_4 rfl
theorem dX4_endless_7 : decode cX4_endless 7 = .ok (.lsub, 1) := dz_at (i := 5) dy_p07_4 rfl
theorem dX4_endless_8 : decode cX4_endless 8 = .ok (.aload_n 0, 1) := dz_at (i := 6) dy_p07_4 rfl
theorem dX4_endless_9 : decode cX4_endless 9 = .ok (.getfield 19, 3) := dz_at (i := 7) dy_p07_4 rfl
theorem dX4_endless_12 : decode cX4_endless 12 = .ok (.lshl, 1) := dz_at (i := 8) dy_p07_4 rfl
theorem dX4_endless_13 : decode cX4_endless 13 = .ok (.lreturn, 1) := dz_at (i := 9) dy_p07_4 rfl
noncomputable def o_X4_endless (w : Bool)  : Int64 :=
  (jLshl ((jLshl 1 (mEx w)) - 1) (mFr w))
set_option maxHeartbeats 4000000 in
set_option maxRecDepth 100000 in
theorem k_X4_endless (l : Launch) (dC : Nat → ClassId) (dI : Nat → Nat → Nat) (cy : ClassId) (h0 : Nat) (hc : Nat) (w : Bool) (a : Int32) (f : Nat → Int64) (sz : Nat)  : Met l yX4_endless wsX4_endless ({ frames := 0, cells := 0, slots := 0, locals := 0 }) (va_Pc [.ref h0] (xB (dC, dI) xCl [(h0, eMR w hc a), (hc, eA cy f)] [(cy, .long)] sz)) (va_Ql (fun (r : Int64) (_ : Unit) => r = (o_X4_endless w)) (fun _ _ => True) (aN sz)) 0 0 (aN sz) := by
  refine Met.ofW (cc := cX4_endless) (maxL := 1) (ret := (some .long)) (by decide +kernel) rfl ?_
  intro p e s m args below meth c s₁ B hml hv
  obtain ⟨rfl, hsz, hP, hK⟩ := hv
  have hx := B.exec
  have hb := B.bytes
  have hr := B.returns
  have hts := atoms_spec (ws := wsX4_endless) B.pre
  have hown : s.vm.findClass RX4 = some m.cls := findClass_of_methodNamed B.named
  have hlocks := B.notSynchronized
  subst hsz
  have hA : ∀ q : Nat, s.heap.size ≤ q → aN s.heap.size q := fun _ h => h
  have hS : va_S (aN s.heap.size) s.heap s.heap [] := va_S.rf
  have hP : va_P (dC, dI) xCl [(h0, eMR w hc a), (hc, eA cy f)] s.heap := hP
  have hl := lv_entry ([.ref h0]) (n := 1) (Nat.le_of_ble_eq_true rfl)
  rw [lg_entry_eq]
  generalize (lg_sl ([.ref h0]) ++ List.replicate (1 - (lg_sl ([.ref h0])).length) Slot.unset).toArray = ls at hl ⊢
  have hl : lv_has ls 1 [(0, .ref h0)] := hl
  refine lv_lconst (v := 1) hx hb dX4_endless_0 (by decide +kernel) ?_
  refine lv_aload_n hx hb dX4_endless_1 rfl (lv_at hl 0 rfl) ?_
  refine va_get (D := (dC, dI)) (ci := 6) (v := .int (mEx w)) (C := RX4) (T := TX4) (N := 5) hx hb hts (by decide +kernel) hown hK hP 0 rfl rfl 0 (by decide +kernel) (hts (.fieldLink RX4 15 "EdgefloatsModel$Row" "exponents" "I") (by decide +kernel)) (fun _ h9 => h9) rfl dX4_endless_2 ?_
  refine lv_lshl (v := (jLshl 1 (mEx w))) hx hb dX4_endless_5 rfl ?_
  refine lv_lconst (v := 1) hx hb dX4_endless_6 (by decide +kernel) ?_
  refine lv_lsub hx hb dX4_endless_7 ?_
  refine lv_aload_n hx hb dX4_endless_8 rfl (lv_at hl 0 rfl) ?_
  refine va_get (D := (dC, dI)) (ci := 6) (v := .int (mFr w)) (C := RX4) (T := TX4) (N := 5) hx hb hts (by decide +kernel) hown hK hP 0 rfl rfl 1 (by decide +kernel) (hts (.fieldLink RX4 19 "EdgefloatsModel$Row" "fractions" "I") (by decide +kernel)) (fun _ h9 => h9) rfl dX4_endless_9 ?_
  refine lv_lshl (v := (jLshl ((jLshl 1 (mEx w)) - 1) (mFr w))) hx hb dX4_endless_12 rfl ?_
  have he : o_X4_endless w = (jLshl ((jLshl 1 (mEx w)) - 1) (mFr w)) := by (rw [o_X4_endless]) <;> rfl
  refine W.widen (k := 0) (n := 0) (by omega) (by omega) ?_
  exact W.lret (v := (jLshl ((jLshl 1 (mEx w)) - 1) (mFr w))) hx hb hr (fun t ht hW => ⟨⟨_, (), rfl, (by (rw [he]) <;> rfl), trivial⟩, hS.F ht⟩) hS.2.2 dX4_endless_13
theorem cl_X4_exponent_1 : ∀ w ∈ [.fieldLink RX4 19 "EdgefloatsModel$Row" "fractions" "I", .methodLink RX4 32 yX4_size, .instanceMethod yX4_size, .selects RX4 yX4_size yX4_size, .initialized RX4, .code yX4_size cX4_size 3 (some .long), .constantLong RX4 30 (-1), .methodLink RX4 26 yX4_sign, .instanceMethod yX4_sign, .selects RX4 yX4_sign yX4_sign, .code yX4_sign cX4_sign 1 (some .long), .fieldLink RX4 15 "EdgefloatsModel$Row" "exponents" "I"], w ∈ wsX4_exponent := fun _ h => (List.mem_cons_of_mem _ (List.mem_append_left _ h))
theorem cl_X4_exponent_2 : ∀ w ∈ wsX40, w ∈ wsX4_exponent := fun _ h => (List.mem_cons_of_mem _ (List.mem_append_right _ h))
set_option maxRecDepth 20000 in
theorem ggX4_exponent_X4_size : GoodIn wsX4_exponent wsX4_size := goodIn_sub (List.forall_mem_cons.mpr ⟨(cl_X4_exponent_1 _ (List.mem_of_getElem? (i := 5) rfl)), fun w h => (List.mem_append.mp h).elim ((List.forall_mem_cons.mpr ⟨(cl_X4_exponent_1 _ (List.mem_of_getElem? (i := 6) rfl)), List.forall_mem_cons.mpr ⟨(cl_X4_exponent_1 _ (List.mem_of_getElem? (i := 7) rfl)), List.forall_mem_cons.mpr ⟨(cl_X4_exponent_1 _ (List.mem_of_getElem? (i := 8) rfl)), List.forall_mem_cons.mpr ⟨(cl_X4_exponent_1 _ (List.mem_of_getElem? (i := 9) rfl)), List.forall_mem_cons.mpr ⟨(cl_X4_exponent_1 _ (List.mem_of_getElem? (i := 4) rfl)), List.forall_mem_cons.mpr ⟨(cl_X4_exponent_1 _ (List.mem_of_getElem? (i := 10) rfl)), List.forall_mem_cons.mpr ⟨(cl_X4_exponent_1 _ (List.mem_of_getElem? (i := 11) rfl)), List.forall_mem_cons.mpr ⟨(cl_X4_exponent_1 _ (List.mem_of_getElem? (i := 0) rfl)), fun _ h => absurd h List.not_mem_nil⟩⟩⟩⟩⟩⟩⟩⟩) w) ((cl_X4_exponent_2) w)⟩) (by decide +kernel)
set_option maxRecDepth 20000 in
theorem gX4_exponent_X4_size : GoodIn wsX4_exponent (wsV RX4 32 RX4 yX4_size wsX4_size) := goodIn_app (goodIn_sub (List.forall_mem_cons.mpr ⟨(cl_X4_exponent_1 _ (List.mem_of_getElem? (i := 1) rfl)), List.forall_mem_cons.mpr ⟨(cl_X4_exponent_1 _ (List.mem_of_getElem? (i := 2) rfl)), List.forall_mem_cons.mpr ⟨(cl_X4_exponent_1 _ (List.mem_of_getElem? (i := 3) rfl)), List.forall_mem_cons.mpr ⟨(cl_X4_exponent_1 _ (List.mem_of_getElem? (i := 4) rfl)), fun _ h => absurd h List.not_mem_nil⟩⟩⟩⟩) (by decide +kernel)) ggX4_exponent_X4_size
noncomputable def dz_p07_5 : List (Nat × Instr × Nat) := [(0, (.aload_n 0, 1)), (1, (.lload_n 1, 1)), (2, (.invokevirtual 32, 3)), (5, (.aload_n 0, 1)), (6, (.getfield 19, 3)), (9, (.lshr, 1)), (10, (.lreturn, 1))]
theorem dy_p07_5 : dz_ok cX4_exponent dz_p07_5 = true := by decide +kernel
theorem dX4_exponent_0 : decode cX4_exponent 0 = .ok (.aload_n 0, 1) := dz_at (i := 0) dy_p07_5 rfl
theorem dX4_exponent_1 : decode cX4_exponent 1 = .ok (.lload_n 1, 1) := dz_at (i := 1) dy_p07_5 rfl
theorem dX4_exponent_2 : decode cX4_exponent 2 = .ok (.invokevirtual 32, 3) := dz_at (i := 2) dy_p07_5 rfl
theorem dX4_exponent_5 : decode cX4_exponent 5 = .ok (.aload_n 0, 1) := dz_at (i := 3) dy_p07_5 rfl
theorem dX4_exponent_6 : decode cX4_exponent 6 = .ok (.getfield 19, 3) := dz_at (i := 4) dy_p07_5 rfl
theorem dX4_exponent_9 : decode cX4_exponent 9 = .ok (.lshr, 1) := dz_at (i := 5) dy_p07_5 rfl
theorem dX4_exponent_10 : decode cX4_exponent 10 = .ok (.lreturn, 1) := dz_at (i := 6) dy_p07_5 rfl
noncomputable def o_X4_exponent (w : Bool) (p0 : Int64) : Int64 :=
  (jLshr (o_X4_size w p0) (mFr w))
set_option maxHeartbeats 4000000 in
set_option maxRecDepth 100000 in
theorem k_X4_exponent (l : Launch) (dC : Nat → ClassId) (dI : Nat → Nat → Nat) (cy : ClassId) (h0 : Nat) (hc : Nat) (w : Bool) (a : Int32) (f : Nat → Int64) (sz : Nat) (p0 : Int64) : Met l yX4_exponent wsX4_exponent ({ frames := 2, cells := 0, slots := 0, locals := 42 }) (va_Pc [.ref h0, .long p0] (xB (dC, dI) xCl [(h0, eMR w hc a), (hc, eA cy f)] [(cy, .long)] sz)) (va_Ql (fun (r : Int64) (_ : Unit) => r = (o_X4_exponent w p0)) (fun _ _ => True) (aN sz)) 0 0 (aN sz) := by
  refine Met.ofW (cc := cX4_exponent) (maxL := 3) (ret := (some .long)) (by decide +kernel) rfl ?_
  intro p e s m args below meth c s₁ B hml hv
  obtain ⟨rfl, hsz, hP, hK⟩ := hv
  have hx := B.exec
  have hb := B.bytes
  have hr := B.returns
  have hts := atoms_spec (ws := wsX4_exponent) B.pre
  have hown : s.vm.findClass RX4 = some m.cls := findClass_of_methodNamed B.named
  have hlocks := B.notSynchronized
  subst hsz
  have hA : ∀ q : Nat, s.heap.size ≤ q → aN s.heap.size q := fun _ h => h
  have hS : va_S (aN s.heap.size) s.heap s.heap [] := va_S.rf
  have hP : va_P (dC, dI) xCl [(h0, eMR w hc a), (hc, eA cy f)] s.heap := hP
  have hl := lv_entry ([.ref h0, .long p0]) (n := 3) (Nat.le_of_ble_eq_true rfl)
  rw [lg_entry_eq]
  generalize (lg_sl ([.ref h0, .long p0]) ++ List.replicate (3 - (lg_sl ([.ref h0, .long p0])).length) Slot.unset).toArray = ls at hl ⊢
  have hl : lv_has ls 3 [(0, .ref h0), (1, .long p0)] := hl
  refine lv_aload_n hx hb dX4_exponent_0 rfl (lv_at hl 0 rfl) ?_
  refine lv_lload_n hx hb dX4_exponent_1 rfl (lv_at hl 1 rfl) ?_
  have hPc := hP.sub (ws' := [(h0, eMR w hc a), (hc, eA cy f)]) [0, 1] rfl
  have hKc := hK.sub (tys' := [(cy, .long)]) [0] rfl
  refine va_calll (va_runV (As := [.long p0]) (rest := []) ⟨hx, hb, hml, hown, hts⟩ (k_X4_size l dC dI cy h0 hc w a f s.heap.size p0) (cwV 1 hts gX4_exponent_X4_size rfl rfl rfl (by decide +kernel) ⟨Nat.le_of_ble_eq_true rfl, Nat.le_of_ble_eq_true rfl⟩) (xB.preV hKc hPc (ci := 6) (q0 := 0) rfl rfl) rfl rfl hl.1 rfl (lv_room (Nat.le_of_ble_eq_true rfl)) dX4_exponent_2 ⟨Nat.le_of_ble_eq_true rfl, Nat.le_of_ble_eq_true rfl⟩) hS xA_old (fun q h => hA q (Nat.le_trans hS.1 h)) (fun r_1 u t H locs ht hvm hw hB hz hk hS => ?_)
  replace hw : r_1 = (o_X4_size w p0) := hw
  subst r_1
  have hP := xP_keep hP hk
  refine lv_aload_n hx hb dX4_exponent_5 rfl (lv_at hl 0 rfl) ?_
  refine va_get (D := (dC, dI)) (ci := 6) (v := .int (mFr w)) (C := RX4) (T := TX4) (N := 5) hx hb hts (by decide +kernel) hown hK hP 0 rfl rfl 1 (by decide +kernel) (hts (.fieldLink RX4 19 "EdgefloatsModel$Row" "fractions" "I") (by decide +kernel)) (fun _ h9 => h9) rfl dX4_exponent_6 ?_
  refine lv_lshr (v := (jLshr (o_X4_size w p0) (mFr w))) hx hb dX4_exponent_9 rfl ?_
  have he : o_X4_exponent w p0 = (jLshr (o_X4_size w p0) (mFr w)) := by (rw [o_X4_exponent]) <;> rfl
  refine W.widen (k := 0) (n := 0) (by omega) (by omega) ?_
  exact W.lret (v := (jLshr (o_X4_size w p0) (mFr w))) hx hb hr (fun t ht hW => ⟨⟨_, (), rfl, (by (rw [he]) <;> rfl), trivial⟩, hS.F ht⟩) hS.2.2 dX4_exponent_10
noncomputable def dz_p07_6 : List (Nat × Instr × Nat) := [(0, (.lload_n 1, 1)), (1, (.lconst 1, 1)), (2, (.aload_n 0, 1)), (3, (.getfield 19, 3)), (6, (.lshl, 1)), (7, (.lconst 1, 1)), (8, (.lsub, 1)), (9, (.land, 1)), (10, (.lreturn, 1))]
theorem dy_p07_6 : dz_ok cX4_fraction dz_p07_6 = true := by decide +kernel
theorem dX4_fraction_0 : decode cX4_fraction 0 = .ok (.lload_n 1, 1) := dz_at (i := 0) dy_p07_6 rfl
theorem dX4_fraction_1 : decode cX4_fraction 1 = .ok (.lconst 1, 1) := dz_at (i := 1) dy_p07_6 rfl
theorem dX4_fraction_2 : decode cX4_fraction 2 = .ok (.aload_n 0, 1) := dz_at (i := 2) dy_p07_6 rfl
theorem dX4_fraction_3 : decode cX4_fraction 3 = .ok (.getfield 19, 3) := dz_at (i := 3) dy_p07_6 rfl
theorem dX4_fraction_6 : decode cX4_fraction 6 = .ok (.lshl, 1) := dz_at (i := 4) dy_p07_6 rfl
theorem dX4_fraction_7 : decode cX4_fraction 7 = .ok (.lconst 1, 1) := dz_at (i := 5) dy_p07_6 rfl
theorem dX4_fraction_8 : decode cX4_fraction 8 = .ok (.lsub, 1) := dz_at (i := 6) dy_p07_6 rfl
theorem dX4_fraction_9 : decode cX4_fraction 9 = .ok (.land, 1) := dz_at (i := 7) dy_p07_6 rfl
theorem dX4_fraction_10 : decode cX4_fraction 10 = .ok (.lreturn, 1) := dz_at (i := 8) dy_p07_6 rfl
noncomputable def o_X4_fraction (w : Bool) (p0 : Int64) : Int64 :=
  (p0 &&& ((jLshl 1 (mFr w)) - 1))
set_option maxHeartbeats 4000000 in
set_option maxRecDepth 100000 in
theorem k_X4_fraction (l : Launch) (dC : Nat → ClassId) (dI : Nat → Nat → Nat) (cy : ClassId) (h0 : Nat) (hc : Nat) (w : Bool) (a : Int32) (f : Nat → Int64) (sz : Nat) (p0 : Int64) : Met l yX4_fraction wsX4_fraction ({ frames := 0, cells := 0, slots := 0, locals := 0 }) (va_Pc [.ref h0, .long p0] (xB (dC, dI) xCl [(h0, eMR w hc a), (hc, eA cy f)] [(cy, .long)] sz)) (va_Ql (fun (r : Int64) (_ : Unit) => r = (o_X4_fraction w p0)) (fun _ _ => True) (aN sz)) 0 0 (aN sz) := by
  refine Met.ofW (cc := cX4_fraction) (maxL := 3) (ret := (some .long)) (by decide +kernel) rfl ?_
  intro p e s m args below meth c s₁ B hml hv
  obtain ⟨rfl, hsz, hP, hK⟩ := hv
  have hx := B.exec
  have hb := B.bytes
  have hr := B.returns
  have hts := atoms_spec (ws := wsX4_fraction) B.pre
  have hown : s.vm.findClass RX4 = some m.cls := findClass_of_methodNamed B.named
  have hlocks := B.notSynchronized
  subst hsz
  have hA : ∀ q : Nat, s.heap.size ≤ q → aN s.heap.size q := fun _ h => h
  have hS : va_S (aN s.heap.size) s.heap s.heap [] := va_S.rf
  have hP : va_P (dC, dI) xCl [(h0, eMR w hc a), (hc, eA cy f)] s.heap := hP
  have hl := lv_entry ([.ref h0, .long p0]) (n := 3) (Nat.le_of_ble_eq_true rfl)
  rw [lg_entry_eq]
  generalize (lg_sl ([.ref h0, .long p0]) ++ List.replicate (3 - (lg_sl ([.ref h0, .long p0])).length) Slot.unset).toArray = ls at hl ⊢
  have hl : lv_has ls 3 [(0, .ref h0), (1, .long p0)] := hl
  refine lv_lload_n hx hb dX4_fraction_0 rfl (lv_at hl 1 rfl) ?_
  refine lv_lconst (v := 1) hx hb dX4_fraction_1 (by decide +kernel) ?_
  refine lv_aload_n hx hb dX4_fraction_2 rfl (lv_at hl 0 rfl) ?_
  refine va_get (D := (dC, dI)) (ci := 6) (v := .int (mFr w)) (C := RX4) (T := TX4) (N := 5) hx hb hts (by decide +kernel) hown hK hP 0 rfl rfl 1 (by decide +kernel) (hts (.fieldLink RX4 19 "EdgefloatsModel$Row" "fractions" "I") (by decide +kernel)) (fun _ h9 => h9) rfl dX4_fraction_3 ?_
  refine lv_lshl (v := (jLshl 1 (mFr w))) hx hb dX4_fraction_6 rfl ?_
  refine lv_lconst (v := 1) hx hb dX4_fraction_7 (by decide +kernel) ?_
  refine lv_lsub hx hb dX4_fraction_8 ?_
  refine lv_land hx hb dX4_fraction_9 ?_
  have he : o_X4_fraction w p0 = (p0 &&& ((jLshl 1 (mFr w)) - 1)) := by (rw [o_X4_fraction]) <;> rfl
  refine W.widen (k := 0) (n := 0) (by omega) (by omega) ?_
  exact W.lret (v := (p0 &&& ((jLshl 1 (mFr w)) - 1))) hx hb hr (fun t ht hW => ⟨⟨_, (), rfl, (by (rw [he]) <;> rfl), trivial⟩, hS.F ht⟩) hS.2.2 dX4_fraction_10
theorem cl_X4_isEndless_1 : ∀ w ∈ [.methodLink RX4 32 yX4_size, .instanceMethod yX4_size, .selects RX4 yX4_size yX4_size, .initialized RX4, .code yX4_size cX4_size 3 (some .long), .constantLong RX4 30 (-1), .methodLink RX4 26 yX4_sign, .instanceMethod yX4_sign, .selects RX4 yX4_sign yX4_sign, .code yX4_sign cX4_sign 1 (some .long), .fieldLink RX4 15 "EdgefloatsModel$Row" "exponents" "I", .fieldLink RX4 19 "EdgefloatsModel$Row" "fractions" "I", .methodLink RX4 36 yX4_endless, .instanceMethod yX4_endless, .selects RX4 yX4_endless yX4_endless, .code yX4_endless cX4_endless 1 (some .long)], w ∈ wsX4_isEndless := fun _ h => (List.mem_cons_of_mem _ (List.mem_append_left _ h))
theorem cl_X4_isEndless_2 : ∀ w ∈ wsX40, w ∈ wsX4_isEndless := fun _ h => (List.mem_cons_of_mem _ (List.mem_append_right _ h))
set_option maxRecDepth 20000 in
theorem ggX4_isEndless_X4_size : GoodIn wsX4_isEndless wsX4_size := goodIn_sub (List.forall_mem_cons.mpr ⟨(cl_X4_isEndless_1 _ (List.mem_of_getElem? (i := 4) rfl)), fun w h => (List.mem_append.mp h).elim ((List.forall_mem_cons.mpr ⟨(cl_X4_isEndless_1 _ (List.mem_of_getElem? (i := 5) rfl)), List.forall_mem_cons.mpr ⟨(cl_X4_isEndless_1 _ (List.mem_of_getElem? (i := 6) rfl)), List.forall_mem_cons.mpr ⟨(cl_X4_isEndless_1 _ (List.mem_of_getElem? (i := 7) rfl)), List.forall_mem_cons.mpr ⟨(cl_X4_isEndless_1 _ (List.mem_of_getElem? (i := 8) rfl)), List.forall_mem_cons.mpr ⟨(cl_X4_isEndless_1 _ (List.mem_of_getElem? (i := 3) rfl)), List.forall_mem_cons.mpr ⟨(cl_X4_isEndless_1 _ (List.mem_of_getElem? (i := 9) rfl)), List.forall_mem_cons.mpr ⟨(cl_X4_isEndless_1 _ (List.mem_of_getElem? (i := 10) rfl)), List.forall_mem_cons.mpr ⟨(cl_X4_isEndless_1 _ (List.mem_of_getElem? (i := 11) rfl)), fun _ h => absurd h List.not_mem_nil⟩⟩⟩⟩⟩⟩⟩⟩) w) ((cl_X4_isEndless_2) w)⟩) (by decide +kernel)
set_option maxRecDepth 20000 in
theorem gX4_isEndless_X4_size : GoodIn wsX4_isEndless (wsV RX4 32 RX4 yX4_size wsX4_size) := goodIn_app (goodIn_sub (List.forall_mem_cons.mpr ⟨(cl_X4_isEndless_1 _ (List.mem_of_getElem? (i := 0) rfl)), List.forall_mem_cons.mpr ⟨(cl_X4_isEndless_1 _ (List.mem_of_getElem? (i := 1) rfl)), List.forall_mem_cons.mpr ⟨(cl_X4_isEndless_1 _ (List.mem_of_getElem? (i := 2) rfl)), List.forall_mem_cons.mpr ⟨(cl_X4_isEndless_1 _ (List.mem_of_getElem? (i := 3) rfl)), fun _ h => absurd h List.not_mem_nil⟩⟩⟩⟩) (by decide +kernel)) ggX4_isEndless_X4_size
set_option maxRecDepth 20000 in
theorem ggX4_isEndless_X4_endless : GoodIn wsX4_isEndless wsX4_endless := goodIn_sub (List.forall_mem_cons.mpr ⟨(cl_X4_isEndless_1 _ (List.mem_of_getElem? (i := 15) rfl)), fun w h => (List.mem_append.mp h).elim ((List.forall_mem_cons.mpr ⟨(cl_X4_isEndless_1 _ (List.mem_of_getElem? (i := 10) rfl)), List.forall_mem_cons.mpr ⟨(cl_X4_isEndless_1 _ (List.mem_of_getElem? (i := 11) rfl)), fun _ h => absurd h List.not_mem_nil⟩⟩) w) ((cl_X4_isEndless_2) w)⟩) (by decide +kernel)
set_option maxRecDepth 20000 in
theorem gX4_isEndless_X4_endless : GoodIn wsX4_isEndless (wsV RX4 36 RX4 yX4_endless wsX4_endless) := goodIn_app (goodIn_sub (List.forall_mem_cons.mpr ⟨(cl_X4_isEndless_1 _ (List.mem_of_getElem? (i := 12) rfl)), List.forall_mem_cons.mpr ⟨(cl_X4_isEndless_1 _ (List.mem_of_getElem? (i := 13) rfl)), List.forall_mem_cons.mpr ⟨(cl_X4_isEndless_1 _ (List.mem_of_getElem? (i := 14) rfl)), List.forall_mem_cons.mpr ⟨(cl_X4_isEndless_1 _ (List.mem_of_getElem? (i := 3) rfl)), fun _ h => absurd h List.not_mem_nil⟩⟩⟩⟩) (by decide +kernel)) ggX4_isEndless_X4_endless
noncomputable def dz_p07_7 : List (Nat × Instr × Nat) := [(0, (.aload_n 0, 1)), (1, (.lload_n 1, 1)), (2, (.invokevirtual 32, 3)), (5, (.aload_n 0, 1)), (6, (.invokevirtual 36, 3)), (9, (.lcmp, 1)), (10, (.ifCond .ne 7, 3)), (13, (.iconst 1, 1)), (14, (.goto 4, 3)), (17, (.iconst 0, 1)), (18, (.ireturn, 1))]
theorem dy_p07_7 : dz_ok cX4_isEndless dz_p07_7 = true := by decide +kernel
theorem dX4_isEndless_0 : decode cX4_isEndless 0 = .ok (.aload_n 0, 1) := dz_at (i := 0) dy_p07_7 rfl
theorem dX4_isEndless_1 : decode cX4_isEndless 1 = .ok (.lload_n 1, 1) := dz_at (i := 1) dy_p07_7 rfl
theorem dX4_isEndless_2 : decode cX4_isEndless 2 = .ok (.invokevirtual 32, 3) := dz_at (i := 2) dy_p07_7 rfl
theorem dX4_isEndless_5 : decode cX4_isEndless 5 = .ok (.aload_n 0, 1) := dz_at (i := 3) dy_p07_7 rfl
theorem dX4_isEndless_6 : decode cX4_isEndless 6 = .ok (.invokevirtual 36, 3) := dz_at (i := 4) dy_p07_7 rfl
theorem dX4_isEndless_9 : decode cX4_isEndless 9 = .ok (.lcmp, 1) := dz_at (i := 5) dy_p07_7 rfl
theorem dX4_isEndless_10 : decode cX4_isEndless 10 = .ok (.ifCond .ne 7, 3) := dz_at (i := 6) dy_p07_7 rfl
theorem dX4_isEndless_13 : decode cX4_isEndless 13 = .ok (.iconst 1, 1) := dz_at (i := 7) dy_p07_7 rfl
theorem dX4_isEndless_14 : decode cX4_isEndless 14 = .ok (.goto 4, 3) := dz_at (i := 8) dy_p07_7 rfl
theorem dX4_isEndless_17 : decode cX4_isEndless 17 = .ok (.iconst 0, 1) := dz_at (i := 9) dy_p07_7 rfl
theorem dX4_isEndless_18 : decode cX4_isEndless 18 = .ok (.ireturn, 1) := dz_at (i := 10) dy_p07_7 rfl
noncomputable def o_X4_isEndless (w : Bool) (p0 : Int64) : Bool :=
  if (o_X4_size w p0) = (o_X4_endless w) then true
  else false
set_option maxHeartbeats 4000000 in
set_option maxRecDepth 100000 in
theorem k_X4_isEndless (l : Launch) (dC : Nat → ClassId) (dI : Nat → Nat → Nat) (cy : ClassId) (h0 : Nat) (hc : Nat) (w : Bool) (a : Int32) (f : Nat → Int64) (sz : Nat) (p0 : Int64) : Met l yX4_isEndless wsX4_isEndless ({ frames := 2, cells := 0, slots := 0, locals := 42 }) (va_Pc [.ref h0, .long p0] (xB (dC, dI) xCl [(h0, eMR w hc a), (hc, eA cy f)] [(cy, .long)] sz)) (va_Qi (fun (r : Int32) (_ : Unit) => r = b2i (o_X4_isEndless w p0)) (fun _ _ => True) (aN sz)) 0 0 (aN sz) := by
  refine Met.ofW (cc := cX4_isEndless) (maxL := 3) (ret := (some .boolean)) (by decide +kernel) rfl ?_
  intro p e s m args below meth c s₁ B hml hv
  obtain ⟨rfl, hsz, hP, hK⟩ := hv
  have hx := B.exec
  have hb := B.bytes
  have hr := B.returns
  have hts := atoms_spec (ws := wsX4_isEndless) B.pre
  have hown : s.vm.findClass RX4 = some m.cls := findClass_of_methodNamed B.named
  have hlocks := B.notSynchronized
  subst hsz
  have hA : ∀ q : Nat, s.heap.size ≤ q → aN s.heap.size q := fun _ h => h
  have hS : va_S (aN s.heap.size) s.heap s.heap [] := va_S.rf
  have hP : va_P (dC, dI) xCl [(h0, eMR w hc a), (hc, eA cy f)] s.heap := hP
  have hl := lv_entry ([.ref h0, .long p0]) (n := 3) (Nat.le_of_ble_eq_true rfl)
  rw [lg_entry_eq]
  generalize (lg_sl ([.ref h0, .long p0]) ++ List.replicate (3 - (lg_sl ([.ref h0, .long p0])).length) Slot.unset).toArray = ls at hl ⊢
  have hl : lv_has ls 3 [(0, .ref h0), (1, .long p0)] := hl
  refine lv_aload_n hx hb dX4_isEndless_0 rfl (lv_at hl 0 rfl) ?_
  refine lv_lload_n hx hb dX4_isEndless_1 rfl (lv_at hl 1 rfl) ?_
  have hPc := hP.sub (ws' := [(h0, eMR w hc a), (hc, eA cy f)]) [0, 1] rfl
  have hKc := hK.sub (tys' := [(cy, .long)]) [0] rfl
  refine va_calll (va_runV (As := [.long p0]) (rest := []) ⟨hx, hb, hml, hown, hts⟩ (k_X4_size l dC dI cy h0 hc w a f s.heap.size p0) (cwV 1 hts gX4_isEndless_X4_size rfl rfl rfl (by decide +kernel) ⟨Nat.le_of_ble_eq_true rfl, Nat.le_of_ble_eq_true rfl⟩) (xB.preV hKc hPc (ci := 6) (q0 := 0) rfl rfl) rfl rfl hl.1 rfl (lv_room (Nat.le_of_ble_eq_true rfl)) dX4_isEndless_2 ⟨Nat.le_of_ble_eq_true rfl, Nat.le_of_ble_eq_true rfl⟩) hS xA_old (fun q h => hA q (Nat.le_trans hS.1 h)) (fun r_1 u t H locs ht hvm hw hB hz hk hS => ?_)
  replace hw : r_1 = (o_X4_size w p0) := hw
  subst r_1
  have hP := xP_keep hP hk
  refine lv_aload_n hx hb dX4_isEndless_5 rfl (lv_at hl 0 rfl) ?_
  have hPc := hP.sub (ws' := [(h0, eMR w hc a), (hc, eA cy f)]) [0, 1] rfl
  have hKc := hK.sub (tys' := [(cy, .long)]) [0] rfl
  refine va_calll (va_runV (As := []) (rest := [.long (o_X4_size w p0)]) ⟨hx, hb, hml, hown, hts⟩ (k_X4_endless l dC dI cy h0 hc w a f H.size) (cwV 0 hts gX4_isEndless_X4_endless rfl rfl rfl (by decide +kernel) ⟨Nat.le_of_ble_eq_true rfl, Nat.le_of_ble_eq_true rfl⟩) (xB.preV hKc hPc (ci := 6) (q0 := 0) rfl rfl) rfl rfl hl.1 rfl (lv_room (Nat.le_of_ble_eq_true rfl)) dX4_isEndless_6 ⟨Nat.le_of_ble_eq_true rfl, Nat.le_of_ble_eq_true rfl⟩) hS xA_old (fun q h => hA q (Nat.le_trans hS.1 h)) (fun r_2 u t H locs ht hvm hw hB hz hk hS => ?_)
  replace hw : r_2 = (o_X4_endless w) := hw
  subst r_2
  have hP := xP_keep hP hk
  refine xc_ne (tgt := 17) hx hb dX4_isEndless_9 dX4_isEndless_10 (by decide +kernel) (fun c_3 => ?_) (fun c_3 => ?_)
  · skip
    refine lv_iconst (v := 0) hx hb dX4_isEndless_17 (by decide +kernel) ?_
    have he : o_X4_isEndless w p0 = false := by (rw [o_X4_isEndless, if_neg c_3]) <;> rfl
    refine W.widen (k := 0) (n := 0) (by omega) (by omega) ?_
    exact W.zret (v := 0) (ty := .boolean) hx hb hr rfl (fun t ht hW => ⟨⟨_, (), rfl, (by (rw [he]) <;> rfl), trivial⟩, hS.F ht⟩) hS.2.2 dX4_isEndless_18
  · skip
    refine lv_iconst (v := 1) hx hb dX4_isEndless_13 (by decide +kernel) ?_
    refine lv_goto (tgt := 18) hx hb dX4_isEndless_14 (by decide +kernel) ?_
    have he : o_X4_isEndless w p0 = true := by (rw [o_X4_isEndless, if_pos c_3]) <;> rfl
    refine W.widen (k := 0) (n := 0) (by omega) (by omega) ?_
    exact W.zret (v := 1) (ty := .boolean) hx hb hr rfl (fun t ht hW => ⟨⟨_, (), rfl, (by (rw [he]) <;> rfl), trivial⟩, hS.F ht⟩) hS.2.2 dX4_isEndless_18
theorem cl_X4_isSpoiled_1 : ∀ w ∈ [.methodLink RX4 32 yX4_size, .instanceMethod yX4_size, .selects RX4 yX4_size yX4_size, .initialized RX4, .code yX4_size cX4_size 3 (some .long), .constantLong RX4 30 (-1), .methodLink RX4 26 yX4_sign, .instanceMethod yX4_sign, .selects RX4 yX4_sign yX4_sign, .code yX4_sign cX4_sign 1 (some .long), .fieldLink RX4 15 "EdgefloatsModel$Row" "exponents" "I", .fieldLink RX4 19 "EdgefloatsModel$Row" "fractions" "I", .methodLink RX4 36 yX4_endless, .instanceMethod yX4_endless, .selects RX4 yX4_endless yX4_endless, .code yX4_endless cX4_endless 1 (some .long)], w ∈ wsX4_isSpoiled := fun _ h => (List.mem_cons_of_mem _ (List.mem_append_left _ h))
theorem cl_X4_isSpoiled_2 : ∀ w ∈ wsX40, w ∈ wsX4_isSpoiled := fun _ h => (List.mem_cons_of_mem _ (List.mem_append_right _ h))
set_option maxRecDepth 20000 in
theorem ggX4_isSpoiled_X4_size : GoodIn wsX4_isSpoiled wsX4_size := goodIn_sub (List.forall_mem_cons.mpr ⟨(cl_X4_isSpoiled_1 _ (List.mem_of_getElem? (i := 4) rfl)), fun w h => (List.mem_append.mp h).elim ((List.forall_mem_cons.mpr ⟨(cl_X4_isSpoiled_1 _ (List.mem_of_getElem? (i := 5) rfl)), List.forall_mem_cons.mpr ⟨(cl_X4_isSpoiled_1 _ (List.mem_of_getElem? (i := 6) rfl)), List.forall_mem_cons.mpr ⟨(cl_X4_isSpoiled_1 _ (List.mem_of_getElem? (i := 7) rfl)), List.forall_mem_cons.mpr ⟨(cl_X4_isSpoiled_1 _ (List.mem_of_getElem? (i := 8) rfl)), List.forall_mem_cons.mpr ⟨(cl_X4_isSpoiled_1 _ (List.mem_of_getElem? (i := 3) rfl)), List.forall_mem_cons.mpr ⟨(cl_X4_isSpoiled_1 _ (List.mem_of_getElem? (i := 9) rfl)), List.forall_mem_cons.mpr ⟨(cl_X4_isSpoiled_1 _ (List.mem_of_getElem? (i := 10) rfl)), List.forall_mem_cons.mpr ⟨(cl_X4_isSpoiled_1 _ (List.mem_of_getElem? (i := 11) rfl)), fun _ h => absurd h List.not_mem_nil⟩⟩⟩⟩⟩⟩⟩⟩) w) ((cl_X4_isSpoiled_2) w)⟩) (by decide +kernel)
set_option maxRecDepth 20000 in
theorem gX4_isSpoiled_X4_size : GoodIn wsX4_isSpoiled (wsV RX4 32 RX4 yX4_size wsX4_size) := goodIn_app (goodIn_sub (List.forall_mem_cons.mpr ⟨(cl_X4_isSpoiled_1 _ (List.mem_of_getElem? (i := 0) rfl)), List.forall_mem_cons.mpr ⟨(cl_X4_isSpoiled_1 _ (List.mem_of_getElem? (i := 1) rfl)), List.forall_mem_cons.mpr ⟨(cl_X4_isSpoiled_1 _ (List.mem_of_getElem? (i := 2) rfl)), List.forall_mem_cons.mpr ⟨(cl_X4_isSpoiled_1 _ (List.mem_of_getElem? (i := 3) rfl)), fun _ h => absurd h List.not_mem_nil⟩⟩⟩⟩) (by decide +kernel)) ggX4_isSpoiled_X4_size
set_option maxRecDepth 20000 in
theorem ggX4_isSpoiled_X4_endless : GoodIn wsX4_isSpoiled wsX4_endless := goodIn_sub (List.forall_mem_cons.mpr ⟨(cl_X4_isSpoiled_1 _ (List.mem_of_getElem? (i := 15) rfl)), fun w h => (List.mem_append.mp h).elim ((List.forall_mem_cons.mpr ⟨(cl_X4_isSpoiled_1 _ (List.mem_of_getElem? (i := 10) rfl)), List.forall_mem_cons.mpr ⟨(cl_X4_isSpoiled_1 _ (List.mem_of_getElem? (i := 11) rfl)), fun _ h => absurd h List.not_mem_nil⟩⟩) w) ((cl_X4_isSpoiled_2) w)⟩) (by decide +kernel)
set_option maxRecDepth 20000 in
theorem gX4_isSpoiled_X4_endless : GoodIn wsX4_isSpoiled (wsV RX4 36 RX4 yX4_endless wsX4_endless) := goodIn_app (goodIn_sub (List.forall_mem_cons.mpr ⟨(cl_X4_isSpoiled_1 _ (List.mem_of_getElem? (i := 12) rfl)), List.forall_mem_cons.mpr ⟨(cl_X4_isSpoiled_1 _ (List.mem_of_getElem? (i := 13) rfl)), List.forall_mem_cons.mpr ⟨(cl_X4_isSpoiled_1 _ (List.mem_of_getElem? (i := 14) rfl)), List.forall_mem_cons.mpr ⟨(cl_X4_isSpoiled_1 _ (List.mem_of_getElem? (i := 3) rfl)), fun _ h => absurd h List.not_mem_nil⟩⟩⟩⟩) (by decide +kernel)) ggX4_isSpoiled_X4_endless
noncomputable def dz_p07_8 : List (Nat × Instr × Nat) := [(0, (.aload_n 0, 1)), (1, (.lload_n 1, 1)), (2, (.invokevirtual 32, 3)), (5, (.aload_n 0, 1)), (6, (.invokevirtual 36, 3)), (9, (.lcmp, 1)), (10, (.ifCond .le 7, 3)), (13, (.iconst 1, 1)), (14, (.goto 4, 3)), (17, (.iconst 0, 1)), (18, (.ireturn, 1))]
theorem dy_p07_8 : dz_ok cX4_isSpoiled dz_p07_8 = true := by decide +kernel
theorem dX4_isSpoiled_0 : decode cX4_isSpoiled 0 = .ok (.aload_n 0, 1) := dz_at (i := 0) dy_p07_8 rfl
theorem dX4_isSpoiled_1 : decode cX4_isSpoiled 1 = .ok (.lload_n 1, 1) := dz_at (i := 1) dy_p07_8 rfl
theorem dX4_isSpoiled_2 : decode cX4_isSpoiled 2 = .ok (.invokevirtual 32, 3) := dz_at (i := 2) dy_p07_8 rfl
theorem dX4_isSpoiled_5 : decode cX4_isSpoiled 5 = .ok (.aload_n 0, 1) := dz_at (i := 3) dy_p07_8 rfl
theorem dX4_isSpoiled_6 : decode cX4_isSpoiled 6 = .ok (.invokevirtual 36, 3) := dz_at (i := 4) dy_p07_8 rfl
theorem dX4_isSpoiled_9 : decode cX4_isSpoiled 9 = .ok (.lcmp, 1) := dz_at (i := 5) dy_p07_8 rfl
theorem dX4_isSpoiled_10 : decode cX4_isSpoiled 10 = .ok (.ifCond .le 7, 3) := dz_at (i := 6) dy_p07_8 rfl
theorem dX4_isSpoiled_13 : decode cX4_isSpoiled 13 = .ok (.iconst 1, 1) := dz_at (i := 7) dy_p07_8 rfl
theorem dX4_isSpoiled_14 : decode cX4_isSpoiled 14 = .ok (.goto 4, 3) := dz_at (i := 8) dy_p07_8 rfl
theorem dX4_isSpoiled_17 : decode cX4_isSpoiled 17 = .ok (.iconst 0, 1) := dz_at (i := 9) dy_p07_8 rfl
theorem dX4_isSpoiled_18 : decode cX4_isSpoiled 18 = .ok (.ireturn, 1) := dz_at (i := 10) dy_p07_8 rfl
noncomputable def o_X4_isSpoiled (w : Bool) (p0 : Int64) : Bool :=
  if (o_X4_size w p0) ≤ (o_X4_endless w) then false
  else true
set_option maxHeartbeats 4000000 in
set_option maxRecDepth 100000 in
theorem k_X4_isSpoiled (l : Launch) (dC : Nat → ClassId) (dI : Nat → Nat → Nat) (cy : ClassId) (h0 : Nat) (hc : Nat) (w : Bool) (a : Int32) (f : Nat → Int64) (sz : Nat) (p0 : Int64) : Met l yX4_isSpoiled wsX4_isSpoiled ({ frames := 2, cells := 0, slots := 0, locals := 42 }) (va_Pc [.ref h0, .long p0] (xB (dC, dI) xCl [(h0, eMR w hc a), (hc, eA cy f)] [(cy, .long)] sz)) (va_Qi (fun (r : Int32) (_ : Unit) => r = b2i (o_X4_isSpoiled w p0)) (fun _ _ => True) (aN sz)) 0 0 (aN sz) := by
  refine Met.ofW (cc := cX4_isSpoiled) (maxL := 3) (ret := (some .boolean)) (by decide +kernel) rfl ?_
  intro p e s m args below meth c s₁ B hml hv
  obtain ⟨rfl, hsz, hP, hK⟩ := hv
  have hx := B.exec
  have hb := B.bytes
  have hr := B.returns
  have hts := atoms_spec (ws := wsX4_isSpoiled) B.pre
  have hown : s.vm.findClass RX4 = some m.cls := findClass_of_methodNamed B.named
  have hlocks := B.notSynchronized
  subst hsz
  have hA : ∀ q : Nat, s.heap.size ≤ q → aN s.heap.size q := fun _ h => h
  have hS : va_S (aN s.heap.size) s.heap s.heap [] := va_S.rf
  have hP : va_P (dC, dI) xCl [(h0, eMR w hc a), (hc, eA cy f)] s.heap := hP
  have hl := lv_entry ([.ref h0, .long p0]) (n := 3) (Nat.le_of_ble_eq_true rfl)
  rw [lg_entry_eq]
  generalize (lg_sl ([.ref h0, .long p0]) ++ List.replicate (3 - (lg_sl ([.ref h0, .long p0])).length) Slot.unset).toArray = ls at hl ⊢
  have hl : lv_has ls 3 [(0, .ref h0), (1, .long p0)] := hl
  refine lv_aload_n hx hb dX4_isSpoiled_0 rfl (lv_at hl 0 rfl) ?_
  refine lv_lload_n hx hb dX4_isSpoiled_1 rfl (lv_at hl 1 rfl) ?_
  have hPc := hP.sub (ws' := [(h0, eMR w hc a), (hc, eA cy f)]) [0, 1] rfl
  have hKc := hK.sub (tys' := [(cy, .long)]) [0] rfl
  refine va_calll (va_runV (As := [.long p0]) (rest := []) ⟨hx, hb, hml, hown, hts⟩ (k_X4_size l dC dI cy h0 hc w a f s.heap.size p0) (cwV 1 hts gX4_isSpoiled_X4_size rfl rfl rfl (by decide +kernel) ⟨Nat.le_of_ble_eq_true rfl, Nat.le_of_ble_eq_true rfl⟩) (xB.preV hKc hPc (ci := 6) (q0 := 0) rfl rfl) rfl rfl hl.1 rfl (lv_room (Nat.le_of_ble_eq_true rfl)) dX4_isSpoiled_2 ⟨Nat.le_of_ble_eq_true rfl, Nat.le_of_ble_eq_true rfl⟩) hS xA_old (fun q h => hA q (Nat.le_trans hS.1 h)) (fun r_1 u t H locs ht hvm hw hB hz hk hS => ?_)
  replace hw : r_1 = (o_X4_size w p0) := hw
  subst r_1
  have hP := xP_keep hP hk
  refine lv_aload_n hx hb dX4_isSpoiled_5 rfl (lv_at hl 0 rfl) ?_
  have hPc := hP.sub (ws' := [(h0, eMR w hc a), (hc, eA cy f)]) [0, 1] rfl
  have hKc := hK.sub (tys' := [(cy, .long)]) [0] rfl
  refine va_calll (va_runV (As := []) (rest := [.long (o_X4_size w p0)]) ⟨hx, hb, hml, hown, hts⟩ (k_X4_endless l dC dI cy h0 hc w a f H.size) (cwV 0 hts gX4_isSpoiled_X4_endless rfl rfl rfl (by decide +kernel) ⟨Nat.le_of_ble_eq_true rfl, Nat.le_of_ble_eq_true rfl⟩) (xB.preV hKc hPc (ci := 6) (q0 := 0) rfl rfl) rfl rfl hl.1 rfl (lv_room (Nat.le_of_ble_eq_true rfl)) dX4_isSpoiled_6 ⟨Nat.le_of_ble_eq_true rfl, Nat.le_of_ble_eq_true rfl⟩) hS xA_old (fun q h => hA q (Nat.le_trans hS.1 h)) (fun r_2 u t H locs ht hvm hw hB hz hk hS => ?_)
  replace hw : r_2 = (o_X4_endless w) := hw
  subst r_2
  have hP := xP_keep hP hk
  refine xc_le (tgt := 17) hx hb dX4_isSpoiled_9 dX4_isSpoiled_10 (by decide +kernel) (fun c_3 => ?_) (fun c_3 => ?_)
  · skip
    refine lv_iconst (v := 0) hx hb dX4_isSpoiled_17 (by decide +kernel) ?_
    have he : o_X4_isSpoiled w p0 = false := by (rw [o_X4_isSpoiled, if_pos c_3]) <;> rfl
    refine W.widen (k := 0) (n := 0) (by omega) (by omega) ?_
    exact W.zret (v := 0) (ty := .boolean) hx hb hr rfl (fun t ht hW => ⟨⟨_, (), rfl, (by (rw [he]) <;> rfl), trivial⟩, hS.F ht⟩) hS.2.2 dX4_isSpoiled_18
  · skip
    refine lv_iconst (v := 1) hx hb dX4_isSpoiled_13 (by decide +kernel) ?_
    refine lv_goto (tgt := 18) hx hb dX4_isSpoiled_14 (by decide +kernel) ?_
    have he : o_X4_isSpoiled w p0 = true := by (rw [o_X4_isSpoiled, if_neg c_3]) <;> rfl
    refine W.widen (k := 0) (n := 0) (by omega) (by omega) ?_
    exact W.zret (v := 1) (ty := .boolean) hx hb hr rfl (fun t ht hW => ⟨⟨_, (), rfl, (by (rw [he]) <;> rfl), trivial⟩, hS.F ht⟩) hS.2.2 dX4_isSpoiled_18
theorem cl_X4_rank_1 : ∀ w ∈ [.constantLong RX4 30 (-1), .methodLink RX4 39 yX4_isBelowZero, .instanceMethod yX4_isBelowZero, .selects RX4 yX4_isBelowZero yX4_isBelowZero, .initialized RX4, .code yX4_isBelowZero cX4_isBelowZero 3 (some .boolean), .methodLink RX4 26 yX4_sign, .instanceMethod yX4_sign, .selects RX4 yX4_sign yX4_sign, .code yX4_sign cX4_sign 1 (some .long), .fieldLink RX4 15 "EdgefloatsModel$Row" "exponents" "I", .fieldLink RX4 19 "EdgefloatsModel$Row" "fractions" "I", .methodLink RX4 32 yX4_size, .instanceMethod yX4_size, .selects RX4 yX4_size yX4_size, .code yX4_size cX4_size 3 (some .long)], w ∈ wsX4_rank := fun _ h => (List.mem_cons_of_mem _ (List.mem_append_left _ h))
theorem cl_X4_rank_2 : ∀ w ∈ wsX40, w ∈ wsX4_rank := fun _ h => (List.mem_cons_of_mem _ (List.mem_append_right _ h))
set_option maxRecDepth 20000 in
theorem ggX4_rank_X4_isBelowZero : GoodIn wsX4_rank wsX4_isBelowZero := goodIn_sub (List.forall_mem_cons.mpr ⟨(cl_X4_rank_1 _ (List.mem_of_getElem? (i := 5) rfl)), fun w h => (List.mem_append.mp h).elim ((List.forall_mem_cons.mpr ⟨(cl_X4_rank_1 _ (List.mem_of_getElem? (i := 6) rfl)), List.forall_mem_cons.mpr ⟨(cl_X4_rank_1 _ (List.mem_of_getElem? (i := 7) rfl)), List.forall_mem_cons.mpr ⟨(cl_X4_rank_1 _ (List.mem_of_getElem? (i := 8) rfl)), List.forall_mem_cons.mpr ⟨(cl_X4_rank_1 _ (List.mem_of_getElem? (i := 4) rfl)), List.forall_mem_cons.mpr ⟨(cl_X4_rank_1 _ (List.mem_of_getElem? (i := 9) rfl)), List.forall_mem_cons.mpr ⟨(cl_X4_rank_1 _ (List.mem_of_getElem? (i := 10) rfl)), List.forall_mem_cons.mpr ⟨(cl_X4_rank_1 _ (List.mem_of_getElem? (i := 11) rfl)), fun _ h => absurd h List.not_mem_nil⟩⟩⟩⟩⟩⟩⟩) w) ((cl_X4_rank_2) w)⟩) (by decide +kernel)
set_option maxRecDepth 20000 in
theorem gX4_rank_X4_isBelowZero : GoodIn wsX4_rank (wsV RX4 39 RX4 yX4_isBelowZero wsX4_isBelowZero) := goodIn_app (goodIn_sub (List.forall_mem_cons.mpr ⟨(cl_X4_rank_1 _ (List.mem_of_getElem? (i := 1) rfl)), List.forall_mem_cons.mpr ⟨(cl_X4_rank_1 _ (List.mem_of_getElem? (i := 2) rfl)), List.forall_mem_cons.mpr ⟨(cl_X4_rank_1 _ (List.mem_of_getElem? (i := 3) rfl)), List.forall_mem_cons.mpr ⟨(cl_X4_rank_1 _ (List.mem_of_getElem? (i := 4) rfl)), fun _ h => absurd h List.not_mem_nil⟩⟩⟩⟩) (by decide +kernel)) ggX4_rank_X4_isBelowZero
set_option maxRecDepth 20000 in
theorem ggX4_rank_X4_size : GoodIn wsX4_rank wsX4_size := goodIn_sub (List.forall_mem_cons.mpr ⟨(cl_X4_rank_1 _ (List.mem_of_getElem? (i := 15) rfl)), fun w h => (List.mem_append.mp h).elim ((List.forall_mem_cons.mpr ⟨(cl_X4_rank_1 _ (List.mem_of_getElem? (i := 0) rfl)), List.forall_mem_cons.mpr ⟨(cl_X4_rank_1 _ (List.mem_of_getElem? (i := 6) rfl)), List.forall_mem_cons.mpr ⟨(cl_X4_rank_1 _ (List.mem_of_getElem? (i := 7) rfl)), List.forall_mem_cons.mpr ⟨(cl_X4_rank_1 _ (List.mem_of_getElem? (i := 8) rfl)), List.forall_mem_cons.mpr ⟨(cl_X4_rank_1 _ (List.mem_of_getElem? (i := 4) rfl)), List.forall_mem_cons.mpr ⟨(cl_X4_rank_1 _ (List.mem_of_getElem? (i := 9) rfl)), List.forall_mem_cons.mpr ⟨(cl_X4_rank_1 _ (List.mem_of_getElem? (i := 10) rfl)), List.forall_mem_cons.mpr ⟨(cl_X4_rank_1 _ (List.mem_of_getElem? (i := 11) rfl)), fun _ h => absurd h List.not_mem_nil⟩⟩⟩⟩⟩⟩⟩⟩) w) ((cl_X4_rank_2) w)⟩) (by decide +kernel)
set_option maxRecDepth 20000 in
theorem gX4_rank_X4_size : GoodIn wsX4_rank (wsV RX4 32 RX4 yX4_size wsX4_size) := goodIn_app (goodIn_sub (List.forall_mem_cons.mpr ⟨(cl_X4_rank_1 _ (List.mem_of_getElem? (i := 12) rfl)), List.forall_mem_cons.mpr ⟨(cl_X4_rank_1 _ (List.mem_of_getElem? (i := 13) rfl)), List.forall_mem_cons.mpr ⟨(cl_X4_rank_1 _ (List.mem_of_getElem? (i := 14) rfl)), List.forall_mem_cons.mpr ⟨(cl_X4_rank_1 _ (List.mem_of_getElem? (i := 4) rfl)), fun _ h => absurd h List.not_mem_nil⟩⟩⟩⟩) (by decide +kernel)) ggX4_rank_X4_size
noncomputable def dz_p07_9 : List (Nat × Instr × Nat) := [(0, (.aload_n 0, 1)), (1, (.lload_n 1, 1)), (2, (.invokevirtual 39, 3)), (5, (.ifCond .eq 15, 3)), (8, (.ldc2_w 30, 3)), (11, (.aload_n 0, 1)), (12, (.lload_n 1, 1)), (13, (.invokevirtual 32, 3)), (16, (.lsub, 1)), (17, (.goto 8, 3)), (20, (.aload_n 0, 1)), (21, (.lload_n 1, 1)), (22, (.invokevirtual 32, 3)), (25, (.lreturn, 1))]
theorem dy_p07_9 : dz_ok cX4_rank dz_p07_9 = true := by decide +kernel
theorem dX4_rank_0 : decode cX4_rank 0 = .ok (.aload_n 0, 1) := dz_at (i := 0) dy_p07_9 rfl
theorem dX4_rank_1 : decode cX4_rank 1 = .ok (.lload_n 1, 1) := dz_at (i := 1) dy_p07_9 rfl
theorem dX4_rank_2 : decode cX4_rank 2 = .ok (.invokevirtual 39, 3) := dz_at (i := 2) dy_p07_9 rfl
theorem dX4_rank_5 : decode cX4_rank 5 = .ok (.ifCond .eq 15, 3) := dz_at (i := 3) dy_p07_9 rfl
theorem dX4_rank_8 : decode cX4_rank 8 = .ok (.ldc2_w 30, 3) := dz_at (i := 4) dy_p07_9 rfl
theorem dX4_rank_11 : decode cX4_rank 11 = .ok (.aload_n 0, 1) := dz_at (i := 5) dy_p07_9 rfl
theorem dX4_rank_12 : decode cX4_rank 12 = .ok (.lload_n 1, 1) := dz_at (i := 6) dy_p07_9 rfl
theorem dX4_rank_13 : decode cX4_rank 13 = .ok (.invokevirtual 32, 3) := dz_at (i := 7) dy_p07_9 rfl
theorem dX4_rank_16 : decode cX4_rank 16 = .ok (.lsub, 1) := dz_at (i := 8) dy_p07_9 rfl
theorem dX4_rank_17 : decode cX4_rank 17 = .ok (.goto 8, 3) := dz_at (i := 9) dy_p07_9 rfl
theorem dX4_rank_20 : decode cX4_rank 20 = .ok (.aload_n 0, 1) := dz_at (i := 10) dy_p07_9 rfl
theorem dX4_rank_21 : decode cX4_rank 21 = .ok (.lload_n 1, 1) := dz_at (i := 11) dy_p07_9 rfl
theorem dX4_rank_22 : decode cX4_rank 22 = .ok (.invokevirtual 32, 3) := dz_at (i := 12) dy_p07_9 rfl
theorem dX4_rank_25 : decode cX4_rank 25 = .ok (.lreturn, 1) := dz_at (i := 13) dy_p07_9 rfl
noncomputable def o_X4_rank (w : Bool) (p0 : Int64) : Int64 :=
  if (o_X4_isBelowZero w p0) = true then ((-1) - (o_X4_size w p0))
  else (o_X4_size w p0)
set_option maxHeartbeats 4000000 in
set_option maxRecDepth 100000 in
theorem k_X4_rank (l : Launch) (dC : Nat → ClassId) (dI : Nat → Nat → Nat) (cy : ClassId) (h0 : Nat) (hc : Nat) (w : Bool) (a : Int32) (f : Nat → Int64) (sz : Nat) (p0 : Int64) : Met l yX4_rank wsX4_rank ({ frames := 2, cells := 0, slots := 0, locals := 42 }) (va_Pc [.ref h0, .long p0] (xB (dC, dI) xCl [(h0, eMR w hc a), (hc, eA cy f)] [(cy, .long)] sz)) (va_Ql (fun (r : Int64) (_ : Unit) => r = (o_X4_rank w p0)) (fun _ _ => True) (aN sz)) 0 0 (aN sz) := by
  refine Met.ofW (cc := cX4_rank) (maxL := 3) (ret := (some .long)) (by decide +kernel) rfl ?_
  intro p e s m args below meth c s₁ B hml hv
  obtain ⟨rfl, hsz, hP, hK⟩ := hv
  have hx := B.exec
  have hb := B.bytes
  have hr := B.returns
  have hts := atoms_spec (ws := wsX4_rank) B.pre
  have hown : s.vm.findClass RX4 = some m.cls := findClass_of_methodNamed B.named
  have hlocks := B.notSynchronized
  subst hsz
  have hA : ∀ q : Nat, s.heap.size ≤ q → aN s.heap.size q := fun _ h => h
  have hS : va_S (aN s.heap.size) s.heap s.heap [] := va_S.rf
  have hP : va_P (dC, dI) xCl [(h0, eMR w hc a), (hc, eA cy f)] s.heap := hP
  have hl := lv_entry ([.ref h0, .long p0]) (n := 3) (Nat.le_of_ble_eq_true rfl)
  rw [lg_entry_eq]
  generalize (lg_sl ([.ref h0, .long p0]) ++ List.replicate (3 - (lg_sl ([.ref h0, .long p0])).length) Slot.unset).toArray = ls at hl ⊢
  have hl : lv_has ls 3 [(0, .ref h0), (1, .long p0)] := hl
  refine lv_aload_n hx hb dX4_rank_0 rfl (lv_at hl 0 rfl) ?_
  refine lv_lload_n hx hb dX4_rank_1 rfl (lv_at hl 1 rfl) ?_
  have hPc := hP.sub (ws' := [(h0, eMR w hc a), (hc, eA cy f)]) [0, 1] rfl
  have hKc := hK.sub (tys' := [(cy, .long)]) [0] rfl
  refine va_calli (va_runV (As := [.long p0]) (rest := []) ⟨hx, hb, hml, hown, hts⟩ (k_X4_isBelowZero l dC dI cy h0 hc w a f s.heap.size p0) (cwV 1 hts gX4_rank_X4_isBelowZero rfl rfl rfl (by decide +kernel) ⟨Nat.le_of_ble_eq_true rfl, Nat.le_of_ble_eq_true rfl⟩) (xB.preV hKc hPc (ci := 6) (q0 := 0) rfl rfl) rfl rfl hl.1 rfl (lv_room (Nat.le_of_ble_eq_true rfl)) dX4_rank_2 ⟨Nat.le_of_ble_eq_true rfl, Nat.le_of_ble_eq_true rfl⟩) hS xA_old (fun q h => hA q (Nat.le_trans hS.1 h)) (fun r_1 u t H locs ht hvm hw hB hz hk hS => ?_)
  replace hw : r_1 = b2i (o_X4_isBelowZero w p0) := hw
  subst r_1
  have hP := xP_keep hP hk
  refine xz_eq (tgt := 20) hx hb dX4_rank_5 (by decide +kernel) (fun c_2 => ?_) (fun c_2 => ?_)
  · skip
    refine lv_aload_n hx hb dX4_rank_20 rfl (lv_at hl 0 rfl) ?_
    refine lv_lload_n hx hb dX4_rank_21 rfl (lv_at hl 1 rfl) ?_
    have hPc := hP.sub (ws' := [(h0, eMR w hc a), (hc, eA cy f)]) [0, 1] rfl
    have hKc := hK.sub (tys' := [(cy, .long)]) [0] rfl
    refine va_calll (va_runV (As := [.long p0]) (rest := []) ⟨hx, hb, hml, hown, hts⟩ (k_X4_size l dC dI cy h0 hc w a f H.size p0) (cwV 1 hts gX4_rank_X4_size rfl rfl rfl (by decide +kernel) ⟨Nat.le_of_ble_eq_true rfl, Nat.le_of_ble_eq_true rfl⟩) (xB.preV hKc hPc (ci := 6) (q0 := 0) rfl rfl) rfl rfl hl.1 rfl (lv_room (Nat.le_of_ble_eq_true rfl)) dX4_rank_22 ⟨Nat.le_of_ble_eq_true rfl, Nat.le_of_ble_eq_true rfl⟩) hS xA_old (fun q h => hA q (Nat.le_trans hS.1 h)) (fun r_3 u t H locs ht hvm hw hB hz hk hS => ?_)
    replace hw : r_3 = (o_X4_size w p0) := hw
    subst r_3
    have hP := xP_keep hP hk
    have he : o_X4_rank w p0 = (o_X4_size w p0) := by (rw [o_X4_rank, if_neg c_2]) <;> rfl
    refine W.widen (k := 0) (n := 0) (by omega) (by omega) ?_
    exact W.lret (v := (o_X4_size w p0)) hx hb hr (fun t ht hW => ⟨⟨_, (), rfl, (by (rw [he]) <;> rfl), trivial⟩, hS.F ht⟩) hS.2.2 dX4_rank_25
  · skip
    refine lv_ldc2 (own := RX4) (index := 30) (v := (-1)) hx hb hown (hts (.constantLong RX4 30 (-1)) (by decide +kernel)) dX4_rank_8 ?_
    refine lv_aload_n hx hb dX4_rank_11 rfl (lv_at hl 0 rfl) ?_
    refine lv_lload_n hx hb dX4_rank_12 rfl (lv_at hl 1 rfl) ?_
    have hPc := hP.sub (ws' := [(h0, eMR w hc a), (hc, eA cy f)]) [0, 1] rfl
    have hKc := hK.sub (tys' := [(cy, .long)]) [0] rfl
    refine va_calll (va_runV (As := [.long p0]) (rest := [.long (-1)]) ⟨hx, hb, hml, hown, hts⟩ (k_X4_size l dC dI cy h0 hc w a f H.size p0) (cwV 1 hts gX4_rank_X4_size rfl rfl rfl (by decide +kernel) ⟨Nat.le_of_ble_eq_true rfl, Nat.le_of_ble_eq_true rfl⟩) (xB.preV hKc hPc (ci := 6) (q0 := 0) rfl rfl) rfl rfl hl.1 rfl (lv_room (Nat.le_of_ble_eq_true rfl)) dX4_rank_13 ⟨Nat.le_of_ble_eq_true rfl, Nat.le_of_ble_eq_true rfl⟩) hS xA_old (fun q h => hA q (Nat.le_trans hS.1 h)) (fun r_4 u t H locs ht hvm hw hB hz hk hS => ?_)
    replace hw : r_4 = (o_X4_size w p0) := hw
    subst r_4
    have hP := xP_keep hP hk
    refine lv_lsub hx hb dX4_rank_16 ?_
    refine lv_goto (tgt := 25) hx hb dX4_rank_17 (by decide +kernel) ?_
    have he : o_X4_rank w p0 = ((-1) - (o_X4_size w p0)) := by (rw [o_X4_rank, if_pos c_2]) <;> rfl
    refine W.widen (k := 0) (n := 0) (by omega) (by omega) ?_
    exact W.lret (v := ((-1) - (o_X4_size w p0))) hx hb hr (fun t ht hW => ⟨⟨_, (), rfl, (by (rw [he]) <;> rfl), trivial⟩, hS.F ht⟩) hS.2.2 dX4_rank_25
theorem cl_X4_order_1 : ∀ w ∈ [.methodLink RX4 43 yX4_rank, .instanceMethod yX4_rank, .selects RX4 yX4_rank yX4_rank, .initialized RX4, .code yX4_rank cX4_rank 3 (some .long), .constantLong RX4 30 (-1), .methodLink RX4 39 yX4_isBelowZero, .instanceMethod yX4_isBelowZero, .selects RX4 yX4_isBelowZero yX4_isBelowZero, .code yX4_isBelowZero cX4_isBelowZero 3 (some .boolean), .methodLink RX4 26 yX4_sign, .instanceMethod yX4_sign, .selects RX4 yX4_sign yX4_sign, .code yX4_sign cX4_sign 1 (some .long), .fieldLink RX4 15 "EdgefloatsModel$Row" "exponents" "I", .fieldLink RX4 19 "EdgefloatsModel$Row" "fractions" "I", .methodLink RX4 32 yX4_size, .instanceMethod yX4_size, .selects RX4 yX4_size yX4_size, .code yX4_size cX4_size 3 (some .long)], w ∈ wsX4_order := fun _ h => (List.mem_cons_of_mem _ (List.mem_append_left _ h))
theorem cl_X4_order_2 : ∀ w ∈ wsX40, w ∈ wsX4_order := fun _ h => (List.mem_cons_of_mem _ (List.mem_append_right _ h))
set_option maxRecDepth 20000 in
theorem ggX4_order_X4_rank : GoodIn wsX4_order wsX4_rank := goodIn_sub (List.forall_mem_cons.mpr ⟨(cl_X4_order_1 _ (List.mem_of_getElem? (i := 4) rfl)), fun w h => (List.mem_append.mp h).elim ((List.forall_mem_cons.mpr ⟨(cl_X4_order_1 _ (List.mem_of_getElem? (i := 5) rfl)), List.forall_mem_cons.mpr ⟨(cl_X4_order_1 _ (List.mem_of_getElem? (i := 6) rfl)), List.forall_mem_cons.mpr ⟨(cl_X4_order_1 _ (List.mem_of_getElem? (i := 7) rfl)), List.forall_mem_cons.mpr ⟨(cl_X4_order_1 _ (List.mem_of_getElem? (i := 8) rfl)), List.forall_mem_cons.mpr ⟨(cl_X4_order_1 _ (List.mem_of_getElem? (i := 3) rfl)), List.forall_mem_cons.mpr ⟨(cl_X4_order_1 _ (List.mem_of_getElem? (i := 9) rfl)), List.forall_mem_cons.mpr ⟨(cl_X4_order_1 _ (List.mem_of_getElem? (i := 10) rfl)), List.forall_mem_cons.mpr ⟨(cl_X4_order_1 _ (List.mem_of_getElem? (i := 11) rfl)), List.forall_mem_cons.mpr ⟨(cl_X4_order_1 _ (List.mem_of_getElem? (i := 12) rfl)), List.forall_mem_cons.mpr ⟨(cl_X4_order_1 _ (List.mem_of_getElem? (i := 13) rfl)), List.forall_mem_cons.mpr ⟨(cl_X4_order_1 _ (List.mem_of_getElem? (i := 14) rfl)), List.forall_mem_cons.mpr ⟨(cl_X4_order_1 _ (List.mem_of_getElem? (i := 15) rfl)), List.forall_mem_cons.mpr ⟨(cl_X4_order_1 _ (List.mem_of_getElem? (i := 16) rfl)), List.forall_mem_cons.mpr ⟨(cl_X4_order_1 _ (List.mem_of_getElem? (i := 17) rfl)), List.forall_mem_cons.mpr ⟨(cl_X4_order_1 _ (List.mem_of_getElem? (i := 18) rfl)), List.forall_mem_cons.mpr ⟨(cl_X4_order_1 _ (List.mem_of_getElem? (i := 19) rfl)), fun _ h => absurd h List.not_mem_nil⟩⟩⟩⟩⟩⟩⟩⟩⟩⟩⟩⟩⟩⟩⟩⟩) w) ((cl_X4_order_2) w)⟩) (by decide +kernel)
set_option maxRecDepth 20000 in
theorem gX4_order_X4_rank : GoodIn wsX4_order (wsV RX4 43 RX4 yX4_rank wsX4_rank) := goodIn_app (goodIn_sub (List.forall_mem_cons.mpr ⟨(cl_X4_order_1 _ (List.mem_of_getElem? (i := 0) rfl)), List.forall_mem_cons.mpr ⟨(cl_X4_order_1 _ (List.mem_of_getElem? (i := 1) rfl)), List.forall_mem_cons.mpr ⟨(cl_X4_order_1 _ (List.mem_of_getElem? (i := 2) rfl)), List.forall_mem_cons.mpr ⟨(cl_X4_order_1 _ (List.mem_of_getElem? (i := 3) rfl)), fun _ h => absurd h List.not_mem_nil⟩⟩⟩⟩) (by decide +kernel)) ggX4_order_X4_rank
noncomputable def dz_p07_10 : List (Nat × Instr × Nat) := [(0, (.aload_n 0, 1)), (1, (.lload_n 1, 1)), (2, (.invokevirtual 43, 3)), (5, (.aload_n 0, 1)), (6, (.lload_n 3, 1)), (7, (.invokevirtual 43, 3)), (10, (.lcmp, 1)), (11, (.ifCond .ge 7, 3)), (14, (.iconst (-1), 1)), (15, (.goto 22, 3)), (18, (.aload_n 0, 1)), (19, (.lload_n 1, 1)), (20, (.invokevirtual 43, 3)), (23, (.aload_n 0, 1)), (24, (.lload_n 3, 1)), (25, (.invokevirtual 43, 3)), (28, (.lcmp, 1)), (29, (.ifCond .le 7, 3)), (32, (.iconst 1, 1)), (33, (.goto 4, 3)), (36, (.iconst 0, 1)), (37, (.ireturn, 1))]
theorem dy_p07_10 : dz_ok cX4_order dz_p07_10 = true := by decide +kernel
theorem dX4_order_0 : decode cX4_order 0 = .ok (.aload_n 0, 1) := dz_at (i := 0) dy_p07_10 rfl
theorem dX4_order_1 : decode cX4_order 1 = .ok (.lload_n 1, 1) := dz_at (i := 1) dy_p07_10 rfl
theorem dX4_order_2 : decode cX4_order 2 = .ok (.invokevirtual 43, 3) := dz_at (i := 2) dy_p07_10 rfl
theorem dX4_order_5 : decode cX4_order 5 = .ok (.aload_n 0, 1) := dz_at (i := 3) dy_p07_10 rfl
theorem dX4_order_6 : decode cX4_order 6 = .ok (.lload_n 3, 1) := dz_at (i := 4) dy_p07_10 rfl
theorem dX4_order_7 : decode cX4_order 7 = .ok (.invokevirtual 43, 3) := dz_at (i := 5) dy_p07_10 rfl
theorem dX4_order_10 : decode cX4_order 10 = .ok (.lcmp, 1) := dz_at (i := 6) dy_p07_10 rfl
theorem dX4_order_11 : decode cX4_order 11 = .ok (.ifCond .ge 7, 3) := dz_at (i := 7) dy_p07_10 rfl
theorem dX4_order_14 : decode cX4_order 14 = .ok (.iconst (-1), 1) := dz_at (i := 8) dy_p07_10 rfl
theorem dX4_order_15 : decode cX4_order 15 = .ok (.goto 22, 3) := dz_at (i := 9) dy_p07_10 rfl
theorem dX4_order_18 : decode cX4_order 18 = .ok (.aload_n 0, 1) := dz_at (i := 10) dy_p07_10 rfl
theorem dX4_order_19 : decode cX4_order 19 = .ok (.lload_n 1, 1) := dz_at (i := 11) dy_p07_10 rfl
theorem dX4_order_20 : decode cX4_order 20 = .ok (.invokevirtual 43, 3) := dz_at (i := 12) dy_p07_10 rfl
theorem dX4_order_23 : decode cX4_order 23 = .ok (.aload_n 0, 1) := dz_at (i := 13) dy_p07_10 rfl
theorem dX4_order_24 : decode cX4_order 24 = .ok (.lload_n 3, 1) := dz_at (i := 14) dy_p07_10 rfl
theorem dX4_order_25 : decode cX4_order 25 = .ok (.invokevirtual 43, 3) := dz_at (i := 15) dy_p07_10 rfl
theorem dX4_order_28 : decode cX4_order 28 = .ok (.lcmp, 1) := dz_at (i := 16) dy_p07_10 rfl
theorem dX4_order_29 : decode cX4_order 29 = .ok (.ifCond .le 7, 3) := dz_at (i := 17) dy_p07_10 rfl
theorem dX4_order_32 : decode cX4_order 32 = .ok (.iconst 1, 1) := dz_at (i := 18) dy_p07_10 rfl
theorem dX4_order_33 : decode cX4_order 33 = .ok (.goto 4, 3) := dz_at (i := 19) dy_p07_10 rfl
theorem dX4_order_36 : decode cX4_order 36 = .ok (.iconst 0, 1) := dz_at (i := 20) dy_p07_10 rfl
theorem dX4_order_37 : decode cX4_order 37 = .ok (.ireturn, 1) := dz_at (i := 21) dy_p07_10 rfl
noncomputable def o_X4_order (w : Bool) (p0 : Int64) (p1 : Int64) : Int32 :=
  if (o_X4_rank w p1) ≤ (o_X4_rank w p0) then (if (o_X4_rank w p0) ≤ (o_X4_rank w p1) then 0
    else 1)
  else (-1)
set_option maxHeartbeats 4000000 in
set_option maxRecDepth 100000 in
theorem k_X4_order (l : Launch) (dC : Nat → ClassId) (dI : Nat → Nat → Nat) (cy : ClassId) (h0 : Nat) (hc : Nat) (w : Bool) (a : Int32) (f : Nat → Int64) (sz : Nat) (p0 : Int64) (p1 : Int64) : Met l yX4_order wsX4_order ({ frames := 3, cells := 0, slots := 0, locals := 64 }) (va_Pc [.ref h0, .long p0, .long p1] (xB (dC, dI) xCl [(h0, eMR w hc a), (hc, eA cy f)] [(cy, .long)] sz)) (va_Qi (fun (r : Int32) (_ : Unit) => r = (o_X4_order w p0 p1)) (fun _ _ => True) (aN sz)) 0 0 (aN sz) := by
  refine Met.ofW (cc := cX4_order) (maxL := 5) (ret := (some .int)) (by decide +kernel) rfl ?_
  intro p e s m args below meth c s₁ B hml hv
  obtain ⟨rfl, hsz, hP, hK⟩ := hv
  have hx := B.exec
  have hb := B.bytes
  have hr := B.returns
  have hts := atoms_spec (ws := wsX4_order) B.pre
  have hown : s.vm.findClass RX4 = some m.cls := findClass_of_methodNamed B.named
  have hlocks := B.notSynchronized
  subst hsz
  have hA : ∀ q : Nat, s.heap.size ≤ q → aN s.heap.size q := fun _ h => h
  have hS : va_S (aN s.heap.size) s.heap s.heap [] := va_S.rf
  have hP : va_P (dC, dI) xCl [(h0, eMR w hc a), (hc, eA cy f)] s.heap := hP
  have hl := lv_entry ([.ref h0, .long p0, .long p1]) (n := 5) (Nat.le_of_ble_eq_true rfl)
  rw [lg_entry_eq]
  generalize (lg_sl ([.ref h0, .long p0, .long p1]) ++ List.replicate (5 - (lg_sl ([.ref h0, .long p0, .long p1])).length) Slot.unset).toArray = ls at hl ⊢
  have hl : lv_has ls 5 [(0, .ref h0), (1, .long p0), (3, .long p1)] := hl
  refine lv_aload_n hx hb dX4_order_0 rfl (lv_at hl 0 rfl) ?_
  refine lv_lload_n hx hb dX4_order_1 rfl (lv_at hl 1 rfl) ?_
  have hPc := hP.sub (ws' := [(h0, eMR w hc a), (hc, eA cy f)]) [0, 1] rfl
  have hKc := hK.sub (tys' := [(cy, .long)]) [0] rfl
  refine va_calll (va_runV (As := [.long p0]) (rest := []) ⟨hx, hb, hml, hown, hts⟩ (k_X4_rank l dC dI cy h0 hc w a f s.heap.size p0) (cwV 1 hts gX4_order_X4_rank rfl rfl rfl (by decide +kernel) ⟨Nat.le_of_ble_eq_true rfl, Nat.le_of_ble_eq_true rfl⟩) (xB.preV hKc hPc (ci := 6) (q0 := 0) rfl rfl) rfl rfl hl.1 rfl (lv_room (Nat.le_of_ble_eq_true rfl)) dX4_order_2 ⟨Nat.le_of_ble_eq_true rfl, Nat.le_of_ble_eq_true rfl⟩) hS xA_old (fun q h => hA q (Nat.le_trans hS.1 h)) (fun r_1 u t H locs ht hvm hw hB hz hk hS => ?_)
  replace hw : r_1 = (o_X4_rank w p0) := hw
  subst r_1
  have hP := xP_keep hP hk
  refine lv_aload_n hx hb dX4_order_5 rfl (lv_at hl 0 rfl) ?_
  refine lv_lload_n hx hb dX4_order_6 rfl (lv_at hl 2 rfl) ?_
  have hPc := hP.sub (ws' := [(h0, eMR w hc a), (hc, eA cy f)]) [0, 1] rfl
  have hKc := hK.sub (tys' := [(cy, .long)]) [0] rfl
  refine va_calll (va_runV (As := [.long p1]) (rest := [.long (o_X4_rank w p0)]) ⟨hx, hb, hml, hown, hts⟩ (k_X4_rank l dC dI cy h0 hc w a f H.size p1) (cwV 1 hts gX4_order_X4_rank rfl rfl rfl (by decide +kernel) ⟨Nat.le_of_ble_eq_true rfl, Nat.le_of_ble_eq_true rfl⟩) (xB.preV hKc hPc (ci := 6) (q0 := 0) rfl rfl) rfl rfl hl.1 rfl (lv_room (Nat.le_of_ble_eq_true rfl)) dX4_order_7 ⟨Nat.le_of_ble_eq_true rfl, Nat.le_of_ble_eq_true rfl⟩) hS xA_old (fun q h => hA q (Nat.le_trans hS.1 h)) (fun r_2 u t H locs ht hvm hw hB hz hk hS => ?_)
  replace hw : r_2 = (o_X4_rank w p1) := hw
  subst r_2
  have hP := xP_keep hP hk
  refine xc_ge (tgt := 18) hx hb dX4_order_10 dX4_order_11 (by decide +kernel) (fun c_3 => ?_) (fun c_3 => ?_)
  · skip
    refine lv_aload_n hx hb dX4_order_18 rfl (lv_at hl 0 rfl) ?_
    refine lv_lload_n hx hb dX4_order_19 rfl (lv_at hl 1 rfl) ?_
    have hPc := hP.sub (ws' := [(h0, eMR w hc a), (hc, eA cy f)]) [0, 1] rfl
    have hKc := hK.sub (tys' := [(cy, .long)]) [0] rfl
    refine va_calll (va_runV (As := [.long p0]) (rest := []) ⟨hx, hb, hml, hown, hts⟩ (k_X4_rank l dC dI cy h0 hc w a f H.size p0) (cwV 1 hts gX4_order_X4_rank rfl rfl rfl (by decide +kernel) ⟨Nat.le_of_ble_eq_true rfl, Nat.le_of_ble_eq_true rfl⟩) (xB.preV hKc hPc (ci := 6) (q0 := 0) rfl rfl) rfl rfl hl.1 rfl (lv_room (Nat.le_of_ble_eq_true rfl)) dX4_order_20 ⟨Nat.le_of_ble_eq_true rfl, Nat.le_of_ble_eq_true rfl⟩) hS xA_old (fun q h => hA q (Nat.le_trans hS.1 h)) (fun r_4 u t H locs ht hvm hw hB hz hk hS => ?_)
    replace hw : r_4 = (o_X4_rank w p0) := hw
    subst r_4
    have hP := xP_keep hP hk
    refine lv_aload_n hx hb dX4_order_23 rfl (lv_at hl 0 rfl) ?_
    refine lv_lload_n hx hb dX4_order_24 rfl (lv_at hl 2 rfl) ?_
    have hPc := hP.sub (ws' := [(h0, eMR w hc a), (hc, eA cy f)]) [0, 1] rfl
    have hKc := hK.sub (tys' := [(cy, .long)]) [0] rfl
    refine va_calll (va_runV (As := [.long p1]) (rest := [.long (o_X4_rank w p0)]) ⟨hx, hb, hml, hown, hts⟩ (k_X4_rank l dC dI cy h0 hc w a f H.size p1) (cwV 1 hts gX4_order_X4_rank rfl rfl rfl (by decide +kernel) ⟨Nat.le_of_ble_eq_true rfl, Nat.le_of_ble_eq_true rfl⟩) (xB.preV hKc hPc (ci := 6) (q0 := 0) rfl rfl) rfl rfl hl.1 rfl (lv_room (Nat.le_of_ble_eq_true rfl)) dX4_order_25 ⟨Nat.le_of_ble_eq_true rfl, Nat.le_of_ble_eq_true rfl⟩) hS xA_old (fun q h => hA q (Nat.le_trans hS.1 h)) (fun r_5 u t H locs ht hvm hw hB hz hk hS => ?_)
    replace hw : r_5 = (o_X4_rank w p1) := hw
    subst r_5
    have hP := xP_keep hP hk
    refine xc_le (tgt := 36) hx hb dX4_order_28 dX4_order_29 (by decide +kernel) (fun c_6 => ?_) (fun c_6 => ?_)
    · skip
      refine lv_iconst (v := 0) hx hb dX4_order_36 (by decide +kernel) ?_
      have he : o_X4_order w p0 p1 = 0 := by (rw [o_X4_order, if_pos c_3, if_pos c_6]) <;> rfl
      refine W.widen (k := 0) (n := 0) (by omega) (by omega) ?_
      exact W.iret (v := 0) hx hb hr (fun t ht hW => ⟨⟨_, (), rfl, (by (rw [he]) <;> rfl), trivial⟩, hS.F ht⟩) hS.2.2 dX4_order_37
    · skip
      refine lv_iconst (v := 1) hx hb dX4_order_32 (by decide +kernel) ?_
      refine lv_goto (tgt := 37) hx hb dX4_order_33 (by decide +kernel) ?_
      have he : o_X4_order w p0 p1 = 1 := by (rw [o_X4_order, if_pos c_3, if_neg c_6]) <;> rfl
      refine W.widen (k := 0) (n := 0) (by omega) (by omega) ?_
      exact W.iret (v := 1) hx hb hr (fun t ht hW => ⟨⟨_, (), rfl, (by (rw [he]) <;> rfl), trivial⟩, hS.F ht⟩) hS.2.2 dX4_order_37
  · skip
    refine lv_iconst (v := (-1)) hx hb dX4_order_14 (by decide +kernel) ?_
    refine lv_goto (tgt := 37) hx hb dX4_order_15 (by decide +kernel) ?_
    have he : o_X4_order w p0 p1 = (-1) := by (rw [o_X4_order, if_neg c_3]) <;> rfl
    refine W.widen (k := 0) (n := 0) (by omega) (by omega) ?_
    exact W.iret (v := (-1)) hx hb hr (fun t ht hW => ⟨⟨_, (), rfl, (by (rw [he]) <;> rfl), trivial⟩, hS.F ht⟩) hS.2.2 dX4_order_37
theorem cl_X4_value_1 : ∀ w ∈ [.methodLink RX4 39 yX4_isBelowZero, .instanceMethod yX4_isBelowZero, .selects RX4 yX4_isBelowZero yX4_isBelowZero, .initialized RX4, .code yX4_isBelowZero cX4_isBelowZero 3 (some .boolean), .methodLink RX4 26 yX4_sign, .instanceMethod yX4_sign, .selects RX4 yX4_sign yX4_sign, .code yX4_sign cX4_sign 1 (some .long), .fieldLink RX4 15 "EdgefloatsModel$Row" "exponents" "I", .fieldLink RX4 19 "EdgefloatsModel$Row" "fractions" "I", .methodLink RX4 32 yX4_size, .instanceMethod yX4_size, .selects RX4 yX4_size yX4_size, .code yX4_size cX4_size 3 (some .long), .constantLong RX4 30 (-1)], w ∈ wsX4_value := fun _ h => (List.mem_cons_of_mem _ (List.mem_append_left _ h))
theorem cl_X4_value_2 : ∀ w ∈ wsX40, w ∈ wsX4_value := fun _ h => (List.mem_cons_of_mem _ (List.mem_append_right _ h))
set_option maxRecDepth 20000 in
theorem ggX4_value_X4_isBelowZero : GoodIn wsX4_value wsX4_isBelowZero := goodIn_sub (List.forall_mem_cons.mpr ⟨(cl_X4_value_1 _ (List.mem_of_getElem? (i := 4) rfl)), fun w h => (List.mem_append.mp h).elim ((List.forall_mem_cons.mpr ⟨(cl_X4_value_1 _ (List.mem_of_getElem? (i := 5) rfl)), List.forall_mem_cons.mpr ⟨(cl_X4_value_1 _ (List.mem_of_getElem? (i := 6) rfl)), List.forall_mem_cons.mpr ⟨(cl_X4_value_1 _ (List.mem_of_getElem? (i := 7) rfl)), List.forall_mem_cons.mpr ⟨(cl_X4_value_1 _ (List.mem_of_getElem? (i := 3) rfl)), List.forall_mem_cons.mpr ⟨(cl_X4_value_1 _ (List.mem_of_getElem? (i := 8) rfl)), List.forall_mem_cons.mpr ⟨(cl_X4_value_1 _ (List.mem_of_getElem? (i := 9) rfl)), List.forall_mem_cons.mpr ⟨(cl_X4_value_1 _ (List.mem_of_getElem? (i := 10) rfl)), fun _ h => absurd h List.not_mem_nil⟩⟩⟩⟩⟩⟩⟩) w) ((cl_X4_value_2) w)⟩) (by decide +kernel)
set_option maxRecDepth 20000 in
theorem gX4_value_X4_isBelowZero : GoodIn wsX4_value (wsV RX4 39 RX4 yX4_isBelowZero wsX4_isBelowZero) := goodIn_app (goodIn_sub (List.forall_mem_cons.mpr ⟨(cl_X4_value_1 _ (List.mem_of_getElem? (i := 0) rfl)), List.forall_mem_cons.mpr ⟨(cl_X4_value_1 _ (List.mem_of_getElem? (i := 1) rfl)), List.forall_mem_cons.mpr ⟨(cl_X4_value_1 _ (List.mem_of_getElem? (i := 2) rfl)), List.forall_mem_cons.mpr ⟨(cl_X4_value_1 _ (List.mem_of_getElem? (i := 3) rfl)), fun _ h => absurd h List.not_mem_nil⟩⟩⟩⟩) (by decide +kernel)) ggX4_value_X4_isBelowZero
set_option maxRecDepth 20000 in
theorem ggX4_value_X4_size : GoodIn wsX4_value wsX4_size := goodIn_sub (List.forall_mem_cons.mpr ⟨(cl_X4_value_1 _ (List.mem_of_getElem? (i := 14) rfl)), fun w h => (List.mem_append.mp h).elim ((List.forall_mem_cons.mpr ⟨(cl_X4_value_1 _ (List.mem_of_getElem? (i := 15) rfl)), List.forall_mem_cons.mpr ⟨(cl_X4_value_1 _ (List.mem_of_getElem? (i := 5) rfl)), List.forall_mem_cons.mpr ⟨(cl_X4_value_1 _ (List.mem_of_getElem? (i := 6) rfl)), List.forall_mem_cons.mpr ⟨(cl_X4_value_1 _ (List.mem_of_getElem? (i := 7) rfl)), List.forall_mem_cons.mpr ⟨(cl_X4_value_1 _ (List.mem_of_getElem? (i := 3) rfl)), List.forall_mem_cons.mpr ⟨(cl_X4_value_1 _ (List.mem_of_getElem? (i := 8) rfl)), List.forall_mem_cons.mpr ⟨(cl_X4_value_1 _ (List.mem_of_getElem? (i := 9) rfl)), List.forall_mem_cons.mpr ⟨(cl_X4_value_1 _ (List.mem_of_getElem? (i := 10) rfl)), fun _ h => absurd h List.not_mem_nil⟩⟩⟩⟩⟩⟩⟩⟩) w) ((cl_X4_value_2) w)⟩) (by decide +kernel)
set_option maxRecDepth 20000 in
theorem gX4_value_X4_size : GoodIn wsX4_value (wsV RX4 32 RX4 yX4_size wsX4_size) := goodIn_app (goodIn_sub (List.forall_mem_cons.mpr ⟨(cl_X4_value_1 _ (List.mem_of_getElem? (i := 11) rfl)), List.forall_mem_cons.mpr ⟨(cl_X4_value_1 _ (List.mem_of_getElem? (i := 12) rfl)), List.forall_mem_cons.mpr ⟨(cl_X4_value_1 _ (List.mem_of_getElem? (i := 13) rfl)), List.forall_mem_cons.mpr ⟨(cl_X4_value_1 _ (List.mem_of_getElem? (i := 3) rfl)), fun _ h => absurd h List.not_mem_nil⟩⟩⟩⟩) (by decide +kernel)) ggX4_value_X4_size
noncomputable def dz_p07_11 : List (Nat × Instr × Nat) := [(0, (.aload_n 0, 1)), (1, (.lload_n 1, 1)), (2, (.invokevirtual 39, 3)), (5, (.ifCond .eq 12, 3)), (8, (.aload_n 0, 1)), (9, (.lload_n 1, 1)), (10, (.invokevirtual 32, 3)), (13, (.lneg, 1)), (14, (.goto 8, 3)), (17, (.aload_n 0, 1)), (18, (.lload_n 1, 1)), (19, (.invokevirtual 32, 3)), (22, (.lreturn, 1))]
theorem dy_p07_11 : dz_ok cX4_value dz_p07_11 = true := by decide +kernel
theorem dX4_value_0 : decode cX4_value 0 = .ok (.aload_n 0, 1) := dz_at (i := 0) dy_p07_11 rfl
theorem dX4_value_1 : decode cX4_value 1 = .ok (.lload_n 1, 1) := dz_at (i := 1) dy_p07_11 rfl
theorem dX4_value_2 : decode cX4_value 2 = .ok (.invokevirtual 39, 3) := dz_at (i := 2) dy_p07_11 rfl
theorem dX4_value_5 : decode cX4_value 5 = .ok (.ifCond .eq 12, 3) := dz_at (i := 3) dy_p07_11 rfl
theorem dX4_value_8 : decode cX4_value 8 = .ok (.aload_n 0, 1) := dz_at (i := 4) dy_p07_11 rfl
theorem dX4_value_9 : decode cX4_value 9 = .ok (.lload_n 1, 1) := dz_at (i := 5) dy_p07_11 rfl
theorem dX4_value_10 : decode cX4_value 10 = .ok (.invokevirtual 32, 3) := dz_at (i := 6) dy_p07_11 rfl
theorem dX4_value_13 : decode cX4_value 13 = .ok (.lneg, 1) := dz_at (i := 7) dy_p07_11 rfl
theorem dX4_value_14 : decode cX4_value 14 = .ok (.goto 8, 3) := dz_at (i := 8) dy_p07_11 rfl
theorem dX4_value_17 : decode cX4_value 17 = .ok (.aload_n 0, 1) := dz_at (i := 9) dy_p07_11 rfl
theorem dX4_value_18 : decode cX4_value 18 = .ok (.lload_n 1, 1) := dz_at (i := 10) dy_p07_11 rfl
theorem dX4_value_19 : decode cX4_value 19 = .ok (.invokevirtual 32, 3) := dz_at (i := 11) dy_p07_11 rfl
theorem dX4_value_22 : decode cX4_value 22 = .ok (.lreturn, 1) := dz_at (i := 12) dy_p07_11 rfl
noncomputable def o_X4_value (w : Bool) (p0 : Int64) : Int64 :=
  if (o_X4_isBelowZero w p0) = true then (-(o_X4_size w p0))
  else (o_X4_size w p0)
set_option maxHeartbeats 4000000 in
set_option maxRecDepth 100000 in
theorem k_X4_value (l : Launch) (dC : Nat → ClassId) (dI : Nat → Nat → Nat) (cy : ClassId) (h0 : Nat) (hc : Nat) (w : Bool) (a : Int32) (f : Nat → Int64) (sz : Nat) (p0 : Int64) : Met l yX4_value wsX4_value ({ frames := 2, cells := 0, slots := 0, locals := 42 }) (va_Pc [.ref h0, .long p0] (xB (dC, dI) xCl [(h0, eMR w hc a), (hc, eA cy f)] [(cy, .long)] sz)) (va_Ql (fun (r : Int64) (_ : Unit) => r = (o_X4_value w p0)) (fun _ _ => True) (aN sz)) 0 0 (aN sz) := by
  refine Met.ofW (cc := cX4_value) (maxL := 3) (ret := (some .long)) (by decide +kernel) rfl ?_
  intro p e s m args below meth c s₁ B hml hv
  obtain ⟨rfl, hsz, hP, hK⟩ := hv
  have hx := B.exec
  have hb := B.bytes
  have hr := B.returns
  have hts := atoms_spec (ws := wsX4_value) B.pre
  have hown : s.vm.findClass RX4 = some m.cls := findClass_of_methodNamed B.named
  have hlocks := B.notSynchronized
  subst hsz
  have hA : ∀ q : Nat, s.heap.size ≤ q → aN s.heap.size q := fun _ h => h
  have hS : va_S (aN s.heap.size) s.heap s.heap [] := va_S.rf
  have hP : va_P (dC, dI) xCl [(h0, eMR w hc a), (hc, eA cy f)] s.heap := hP
  have hl := lv_entry ([.ref h0, .long p0]) (n := 3) (Nat.le_of_ble_eq_true rfl)
  rw [lg_entry_eq]
  generalize (lg_sl ([.ref h0, .long p0]) ++ List.replicate (3 - (lg_sl ([.ref h0, .long p0])).length) Slot.unset).toArray = ls at hl ⊢
  have hl : lv_has ls 3 [(0, .ref h0), (1, .long p0)] := hl
  refine lv_aload_n hx hb dX4_value_0 rfl (lv_at hl 0 rfl) ?_
  refine lv_lload_n hx hb dX4_value_1 rfl (lv_at hl 1 rfl) ?_
  have hPc := hP.sub (ws' := [(h0, eMR w hc a), (hc, eA cy f)]) [0, 1] rfl
  have hKc := hK.sub (tys' := [(cy, .long)]) [0] rfl
  refine va_calli (va_runV (As := [.long p0]) (rest := []) ⟨hx, hb, hml, hown, hts⟩ (k_X4_isBelowZero l dC dI cy h0 hc w a f s.heap.size p0) (cwV 1 hts gX4_value_X4_isBelowZero rfl rfl rfl (by decide +kernel) ⟨Nat.le_of_ble_eq_true rfl, Nat.le_of_ble_eq_true rfl⟩) (xB.preV hKc hPc (ci := 6) (q0 := 0) rfl rfl) rfl rfl hl.1 rfl (lv_room (Nat.le_of_ble_eq_true rfl)) dX4_value_2 ⟨Nat.le_of_ble_eq_true rfl, Nat.le_of_ble_eq_true rfl⟩) hS xA_old (fun q h => hA q (Nat.le_trans hS.1 h)) (fun r_1 u t H locs ht hvm hw hB hz hk hS => ?_)
  replace hw : r_1 = b2i (o_X4_isBelowZero w p0) := hw
  subst r_1
  have hP := xP_keep hP hk
  refine xz_eq (tgt := 17) hx hb dX4_value_5 (by decide +kernel) (fun c_2 => ?_) (fun c_2 => ?_)
  · skip
    refine lv_aload_n hx hb dX4_value_17 rfl (lv_at hl 0 rfl) ?_
    refine lv_lload_n hx hb dX4_value_18 rfl (lv_at hl 1 rfl) ?_
    have hPc := hP.sub (ws' := [(h0, eMR w hc a), (hc, eA cy f)]) [0, 1] rfl
    have hKc := hK.sub (tys' := [(cy, .long)]) [0] rfl
    refine va_calll (va_runV (As := [.long p0]) (rest := []) ⟨hx, hb, hml, hown, hts⟩ (k_X4_size l dC dI cy h0 hc w a f H.size p0) (cwV 1 hts gX4_value_X4_size rfl rfl rfl (by decide +kernel) ⟨Nat.le_of_ble_eq_true rfl, Nat.le_of_ble_eq_true rfl⟩) (xB.preV hKc hPc (ci := 6) (q0 := 0) rfl rfl) rfl rfl hl.1 rfl (lv_room (Nat.le_of_ble_eq_true rfl)) dX4_value_19 ⟨Nat.le_of_ble_eq_true rfl, Nat.le_of_ble_eq_true rfl⟩) hS xA_old (fun q h => hA q (Nat.le_trans hS.1 h)) (fun r_3 u t H locs ht hvm hw hB hz hk hS => ?_)
    replace hw : r_3 = (o_X4_size w p0) := hw
    subst r_3
    have hP := xP_keep hP hk
    have he : o_X4_value w p0 = (o_X4_size w p0) := by (rw [o_X4_value, if_neg c_2]) <;> rfl
    refine W.widen (k := 0) (n := 0) (by omega) (by omega) ?_
    exact W.lret (v := (o_X4_size w p0)) hx hb hr (fun t ht hW => ⟨⟨_, (), rfl, (by (rw [he]) <;> rfl), trivial⟩, hS.F ht⟩) hS.2.2 dX4_value_22
  · skip
    refine lv_aload_n hx hb dX4_value_8 rfl (lv_at hl 0 rfl) ?_
    refine lv_lload_n hx hb dX4_value_9 rfl (lv_at hl 1 rfl) ?_
    have hPc := hP.sub (ws' := [(h0, eMR w hc a), (hc, eA cy f)]) [0, 1] rfl
    have hKc := hK.sub (tys' := [(cy, .long)]) [0] rfl
    refine va_calll (va_runV (As := [.long p0]) (rest := []) ⟨hx, hb, hml, hown, hts⟩ (k_X4_size l dC dI cy h0 hc w a f H.size p0) (cwV 1 hts gX4_value_X4_size rfl rfl rfl (by decide +kernel) ⟨Nat.le_of_ble_eq_true rfl, Nat.le_of_ble_eq_true rfl⟩) (xB.preV hKc hPc (ci := 6) (q0 := 0) rfl rfl) rfl rfl hl.1 rfl (lv_room (Nat.le_of_ble_eq_true rfl)) dX4_value_10 ⟨Nat.le_of_ble_eq_true rfl, Nat.le_of_ble_eq_true rfl⟩) hS xA_old (fun q h => hA q (Nat.le_trans hS.1 h)) (fun r_4 u t H locs ht hvm hw hB hz hk hS => ?_)
    replace hw : r_4 = (o_X4_size w p0) := hw
    subst r_4
    have hP := xP_keep hP hk
    refine lv_lneg hx hb dX4_value_13 ?_
    refine lv_goto (tgt := 22) hx hb dX4_value_14 (by decide +kernel) ?_
    have he : o_X4_value w p0 = (-(o_X4_size w p0)) := by (rw [o_X4_value, if_pos c_2]) <;> rfl
    refine W.widen (k := 0) (n := 0) (by omega) (by omega) ?_
    exact W.lret (v := (-(o_X4_size w p0))) hx hb hr (fun t ht hW => ⟨⟨_, (), rfl, (by (rw [he]) <;> rfl), trivial⟩, hS.F ht⟩) hS.2.2 dX4_value_22
theorem cl_X4_known_1 : ∀ w ∈ [.fieldLink RX4 19 "EdgefloatsModel$Row" "fractions" "I", .methodLink RX4 26 yX4_sign, .instanceMethod yX4_sign, .selects RX4 yX4_sign yX4_sign, .initialized RX4, .code yX4_sign cX4_sign 1 (some .long), .fieldLink RX4 15 "EdgefloatsModel$Row" "exponents" "I", .methodLink RX4 36 yX4_endless, .instanceMethod yX4_endless, .selects RX4 yX4_endless yX4_endless, .code yX4_endless cX4_endless 1 (some .long)], w ∈ wsX4_known := fun _ h => (List.mem_cons_of_mem _ (List.mem_append_left _ h))
theorem cl_X4_known_2 : ∀ w ∈ wsX40, w ∈ wsX4_known := fun _ h => (List.mem_cons_of_mem _ (List.mem_append_right _ h))
set_option maxRecDepth 20000 in
theorem ggX4_known_X4_sign : GoodIn wsX4_known wsX4_sign := goodIn_sub (List.forall_mem_cons.mpr ⟨(cl_X4_known_1 _ (List.mem_of_getElem? (i := 5) rfl)), fun w h => (List.mem_append.mp h).elim ((List.forall_mem_cons.mpr ⟨(cl_X4_known_1 _ (List.mem_of_getElem? (i := 6) rfl)), List.forall_mem_cons.mpr ⟨(cl_X4_known_1 _ (List.mem_of_getElem? (i := 0) rfl)), fun _ h => absurd h List.not_mem_nil⟩⟩) w) ((cl_X4_known_2) w)⟩) (by decide +kernel)
set_option maxRecDepth 20000 in
theorem gX4_known_X4_sign : GoodIn wsX4_known (wsV RX4 26 RX4 yX4_sign wsX4_sign) := goodIn_app (goodIn_sub (List.forall_mem_cons.mpr ⟨(cl_X4_known_1 _ (List.mem_of_getElem? (i := 1) rfl)), List.forall_mem_cons.mpr ⟨(cl_X4_known_1 _ (List.mem_of_getElem? (i := 2) rfl)), List.forall_mem_cons.mpr ⟨(cl_X4_known_1 _ (List.mem_of_getElem? (i := 3) rfl)), List.forall_mem_cons.mpr ⟨(cl_X4_known_1 _ (List.mem_of_getElem? (i := 4) rfl)), fun _ h => absurd h List.not_mem_nil⟩⟩⟩⟩) (by decide +kernel)) ggX4_known_X4_sign
set_option maxRecDepth 20000 in
theorem ggX4_known_X4_endless : GoodIn wsX4_known wsX4_endless := goodIn_sub (List.forall_mem_cons.mpr ⟨(cl_X4_known_1 _ (List.mem_of_getElem? (i := 10) rfl)), fun w h => (List.mem_append.mp h).elim ((List.forall_mem_cons.mpr ⟨(cl_X4_known_1 _ (List.mem_of_getElem? (i := 6) rfl)), List.forall_mem_cons.mpr ⟨(cl_X4_known_1 _ (List.mem_of_getElem? (i := 0) rfl)), fun _ h => absurd h List.not_mem_nil⟩⟩) w) ((cl_X4_known_2) w)⟩) (by decide +kernel)
set_option maxRecDepth 20000 in
theorem gX4_known_X4_endless : GoodIn wsX4_known (wsV RX4 36 RX4 yX4_endless wsX4_endless) := goodIn_app (goodIn_sub (List.forall_mem_cons.mpr ⟨(cl_X4_known_1 _ (List.mem_of_getElem? (i := 7) rfl)), List.forall_mem_cons.mpr ⟨(cl_X4_known_1 _ (List.mem_of_getElem? (i := 8) rfl)), List.forall_mem_cons.mpr ⟨(cl_X4_known_1 _ (List.mem_of_getElem? (i := 9) rfl)), List.forall_mem_cons.mpr ⟨(cl_X4_known_1 _ (List.mem_of_getElem? (i := 4) rfl)), fun _ h => absurd h List.not_mem_nil⟩⟩⟩⟩) (by decide +kernel)) ggX4_known_X4_endless
noncomputable def dz_p07_12 : List (Nat × Instr × Nat) := [(0, (.iload_n 1, 1)), (1, (.tableswitch 70 0 5 #[39, 41, 46, 51, 61, 68], 39)), (40, (.lconst 0, 1)), (41, (.lreturn, 1)), (42, (.aload_n 0, 1)), (43, (.invokevirtual 26, 3)), (46, (.lreturn, 1)), (47, (.aload_n 0, 1)), (48, (.invokevirtual 36, 3)), (51, (.lreturn, 1)), (52, (.aload_n 0, 1)), (53, (.invokevirtual 36, 3)), (56, (.aload_n 0, 1)), (57, (.invokevirtual 26, 3)), (60, (.lor, 1)), (61, (.lreturn, 1)), (62, (.aload_n 0, 1)), (63, (.invokevirtual 36, 3)), (66, (.lconst 1, 1)), (67, (.lsub, 1)), (68, (.lreturn, 1)), (69, (.lconst 1, 1)), (70, (.lreturn, 1)), (71, (.lconst 1, 1)), (72, (.aload_n 0, 1)), (73, (.getfield 19, 3)), (76, (.lshl, 1)), (77, (.lreturn, 1))]
theorem dy_p07_12 : dz_ok cX4_known dz_p07_12 = true := by decide +kernel
theorem dX4_known_0 : decode cX4_known 0 = .ok (.iload_n 1, 1) := dz_at (i := 0) dy_p07_12 rfl
theorem dX4_known_1 : decode cX4_known 1 = .ok (.tableswitch 70 0 5 #[39, 41, 46, 51, 61, 68], 39) := dz_at (i := 1) dy_p07_12 rfl
theorem dX4_known_40 : decode cX4_known 40 = .ok (.lconst 0, 1) := dz_at (i := 2) dy_p07_12 rfl
theorem dX4_known_41 : decode cX4_known 41 = .ok (.lreturn, 1) := dz_at (i := 3) dy_p07_12 rfl
theorem dX4_known_42 : decode cX4_known 42 = .ok (.aload_n 0, 1) := dz_at (i := 4) dy_p07_12 rfl
theorem dX4_known_43 : decode cX4_known 43 = .ok (.invokevirtual 26, 3) := dz_at (i := 5) dy_p07_12 rfl
theorem dX4_known_46 : decode cX4_known 46 = .ok (.lreturn, 1) := dz_at (i := 6) dy_p07_12 rfl
theorem dX4_known_47 : decode cX4_known 47 = .ok (.aload_n 0, 1) := dz_at (i := 7) dy_p07_12 rfl
theorem dX4_known_48 : decode cX4_known 48 = .ok (.invokevirtual 36, 3) := dz_at (i := 8) dy_p07_12 rfl
theorem dX4_known_51 : decode cX4_known 51 = .ok (.lreturn, 1) := dz_at (i := 9) dy_p07_12 rfl
theorem dX4_known_52 : decode cX4_known 52 = .ok (.aload_n 0, 1) := dz_at (i := 10) dy_p07_12 rfl
theorem dX4_known_53 : decode cX4_known 53 = .ok (.invokevirtual 36, 3) := dz_at (i := 11) dy_p07_12 rfl
theorem dX4_known_56 : decode cX4_known 56 = .ok (.aload_n 0, 1) := dz_at (i := 12) dy_p07_12 rfl
theorem dX4_known_57 : decode cX4_known 57 = .ok (.invokevirtual 26, 3) := dz_at (i := 13) dy_p07_12 rfl
theorem dX4_known_60 : decode cX4_known 60 = .ok (.lor, 1) := dz_at (i := 14) dy_p07_12 rfl
theorem dX4_known_61 : decode cX4_known 61 = .ok (.lreturn, 1) := dz_at (i := 15) dy_p07_12 rfl
theorem dX4_known_62 : decode cX4_known 62 = .ok (.aload_n 0, 1) := dz_at (i := 16) dy_p07_12 rfl
theorem dX4_known_63 : decode cX4_known 63 = .ok (.invokevirtual 36, 3) := dz_at (i := 17) dy_p07_12 rfl
theorem dX4_known_66 : decode cX4_known 66 = .ok (.lconst 1, 1) := dz_at (i := 18) dy_p07_12 rfl
theorem dX4_known_67 : decode cX4_known 67 = .ok (.lsub, 1) := dz_at (i := 19) dy_p07_12 rfl
theorem dX4_known_68 : decode cX4_known 68 = .ok (.lreturn, 1) := dz_at (i := 20) dy_p07_12 rfl
theorem dX4_known_69 : decode cX4_known 69 = .ok (.lconst 1, 1) := dz_at (i := 21) dy_p07_12 rfl
theorem dX4_known_70 : decode cX4_known 70 = .ok (.lreturn, 1) := dz_at (i := 22) dy_p07_12 rfl
theorem dX4_known_71 : decode cX4_known 71 = .ok (.lconst 1, 1) := dz_at (i := 23) dy_p07_12 rfl
theorem dX4_known_72 : decode cX4_known 72 = .ok (.aload_n 0, 1) := dz_at (i := 24) dy_p07_12 rfl
theorem dX4_known_73 : decode cX4_known 73 = .ok (.getfield 19, 3) := dz_at (i := 25) dy_p07_12 rfl
theorem dX4_known_76 : decode cX4_known 76 = .ok (.lshl, 1) := dz_at (i := 26) dy_p07_12 rfl
theorem dX4_known_77 : decode cX4_known 77 = .ok (.lreturn, 1) := dz_at (i := 27) dy_p07_12 rfl
noncomputable def o_X4_known (w : Bool) (p0 : Int32) : Int64 :=
  if p0 = 0 then 0
  else if p0 = 1 then (o_X4_sign w)
  else if p0 = 2 then (o_X4_endless w)
  else if p0 = 3 then ((o_X4_endless w) ||| (o_X4_sign w))
  else if p0 = 4 then ((o_X4_endless w) - 1)
  else if p0 = 5 then 1
  else (jLshl 1 (mFr w))
set_option maxHeartbeats 4000000 in
set_option maxRecDepth 100000 in
theorem k_X4_known (l : Launch) (dC : Nat → ClassId) (dI : Nat → Nat → Nat) (cy : ClassId) (h0 : Nat) (hc : Nat) (w : Bool) (a : Int32) (f : Nat → Int64) (sz : Nat) (p0 : Int32) : Met l yX4_known wsX4_known ({ frames := 1, cells := 0, slots := 0, locals := 20 }) (va_Pc [.ref h0, .int p0] (xB (dC, dI) xCl [(h0, eMR w hc a), (hc, eA cy f)] [(cy, .long)] sz)) (va_Ql (fun (r : Int64) (_ : Unit) => r = (o_X4_known w p0)) (fun _ _ => True) (aN sz)) 0 0 (aN sz) := by
  refine Met.ofW (cc := cX4_known) (maxL := 2) (ret := (some .long)) (by decide +kernel) rfl ?_
  intro p e s m args below meth c s₁ B hml hv
  obtain ⟨rfl, hsz, hP, hK⟩ := hv
  have hx := B.exec
  have hb := B.bytes
  have hr := B.returns
  have hts := atoms_spec (ws := wsX4_known) B.pre
  have hown : s.vm.findClass RX4 = some m.cls := findClass_of_methodNamed B.named
  have hlocks := B.notSynchronized
  subst hsz
  have hA : ∀ q : Nat, s.heap.size ≤ q → aN s.heap.size q := fun _ h => h
  have hS : va_S (aN s.heap.size) s.heap s.heap [] := va_S.rf
  have hP : va_P (dC, dI) xCl [(h0, eMR w hc a), (hc, eA cy f)] s.heap := hP
  have hl := lv_entry ([.ref h0, .int p0]) (n := 2) (Nat.le_of_ble_eq_true rfl)
  rw [lg_entry_eq]
  generalize (lg_sl ([.ref h0, .int p0]) ++ List.replicate (2 - (lg_sl ([.ref h0, .int p0])).length) Slot.unset).toArray = ls at hl ⊢
  have hl : lv_has ls 2 [(0, .ref h0), (1, .int p0)] := hl
  refine lv_iload_n hx hb dX4_known_0 rfl (lv_at hl 1 rfl) ?_
  by_cases c_1 : p0 = 0
  · refine lv_tableIn (tgt := 40) (off := 39) hx hb dX4_known_1 (by rw [c_1]; decide) (by rw [c_1]; decide) (by rw [c_1]; rfl) (by decide +kernel) ?_
    refine lv_lconst (v := 0) hx hb dX4_known_40 (by decide +kernel) ?_
    have he : o_X4_known w p0 = 0 := by (rw [o_X4_known, if_pos c_1]) <;> rfl
    refine W.widen (k := 0) (n := 0) (by omega) (by omega) ?_
    exact W.lret (v := 0) hx hb hr (fun t ht hW => ⟨⟨_, (), rfl, (by (rw [he]) <;> rfl), trivial⟩, hS.F ht⟩) hS.2.2 dX4_known_41
  · skip
    by_cases c_2 : p0 = 1
    · refine lv_tableIn (tgt := 42) (off := 41) hx hb dX4_known_1 (by rw [c_2]; decide) (by rw [c_2]; decide) (by rw [c_2]; rfl) (by decide +kernel) ?_
      refine lv_aload_n hx hb dX4_known_42 rfl (lv_at hl 0 rfl) ?_
      have hPc := hP.sub (ws' := [(h0, eMR w hc a), (hc, eA cy f)]) [0, 1] rfl
      have hKc := hK.sub (tys' := [(cy, .long)]) [0] rfl
      refine va_calll (va_runV (As := []) (rest := []) ⟨hx, hb, hml, hown, hts⟩ (k_X4_sign l dC dI cy h0 hc w a f s.heap.size) (cwV 0 hts gX4_known_X4_sign rfl rfl rfl (by decide +kernel) ⟨Nat.le_of_ble_eq_true rfl, Nat.le_of_ble_eq_true rfl⟩) (xB.preV hKc hPc (ci := 6) (q0 := 0) rfl rfl) rfl rfl hl.1 rfl (lv_room (Nat.le_of_ble_eq_true rfl)) dX4_known_43 ⟨Nat.le_of_ble_eq_true rfl, Nat.le_of_ble_eq_true rfl⟩) hS xA_old (fun q h => hA q (Nat.le_trans hS.1 h)) (fun r_3 u t H locs ht hvm hw hB hz hk hS => ?_)
      replace hw : r_3 = (o_X4_sign w) := hw
      subst r_3
      have hP := xP_keep hP hk
      have he : o_X4_known w p0 = (o_X4_sign w) := by (rw [o_X4_known, if_neg c_1, if_pos c_2]) <;> rfl
      refine W.widen (k := 0) (n := 0) (by omega) (by omega) ?_
      exact W.lret (v := (o_X4_sign w)) hx hb hr (fun t ht hW => ⟨⟨_, (), rfl, (by (rw [he]) <;> rfl), trivial⟩, hS.F ht⟩) hS.2.2 dX4_known_46
    · skip
      by_cases c_4 : p0 = 2
      · refine lv_tableIn (tgt := 47) (off := 46) hx hb dX4_known_1 (by rw [c_4]; decide) (by rw [c_4]; decide) (by rw [c_4]; rfl) (by decide +kernel) ?_
        refine lv_aload_n hx hb dX4_known_47 rfl (lv_at hl 0 rfl) ?_
        have hPc := hP.sub (ws' := [(h0, eMR w hc a), (hc, eA cy f)]) [0, 1] rfl
        have hKc := hK.sub (tys' := [(cy, .long)]) [0] rfl
        refine va_calll (va_runV (As := []) (rest := []) ⟨hx, hb, hml, hown, hts⟩ (k_X4_endless l dC dI cy h0 hc w a f s.heap.size) (cwV 0 hts gX4_known_X4_endless rfl rfl rfl (by decide +kernel) ⟨Nat.le_of_ble_eq_true rfl, Nat.le_of_ble_eq_true rfl⟩) (xB.preV hKc hPc (ci := 6) (q0 := 0) rfl rfl) rfl rfl hl.1 rfl (lv_room (Nat.le_of_ble_eq_true rfl)) dX4_known_48 ⟨Nat.le_of_ble_eq_true rfl, Nat.le_of_ble_eq_true rfl⟩) hS xA_old (fun q h => hA q (Nat.le_trans hS.1 h)) (fun r_5 u t H locs ht hvm hw hB hz hk hS => ?_)
        replace hw : r_5 = (o_X4_endless w) := hw
        subst r_5
        have hP := xP_keep hP hk
        have he : o_X4_known w p0 = (o_X4_endless w) := by (rw [o_X4_known, if_neg c_1, if_neg c_2, if_pos c_4]) <;> rfl
        refine W.widen (k := 0) (n := 0) (by omega) (by omega) ?_
        exact W.lret (v := (o_X4_endless w)) hx hb hr (fun t ht hW => ⟨⟨_, (), rfl, (by (rw [he]) <;> rfl), trivial⟩, hS.F ht⟩) hS.2.2 dX4_known_51
      · skip
        by_cases c_6 : p0 = 3
        · refine lv_tableIn (tgt := 52) (off := 51) hx hb dX4_known_1 (by rw [c_6]; decide) (by rw [c_6]; decide) (by rw [c_6]; rfl) (by decide +kernel) ?_
          refine lv_aload_n hx hb dX4_known_52 rfl (lv_at hl 0 rfl) ?_
          have hPc := hP.sub (ws' := [(h0, eMR w hc a), (hc, eA cy f)]) [0, 1] rfl
          have hKc := hK.sub (tys' := [(cy, .long)]) [0] rfl
          refine va_calll (va_runV (As := []) (rest := []) ⟨hx, hb, hml, hown, hts⟩ (k_X4_endless l dC dI cy h0 hc w a f s.heap.size) (cwV 0 hts gX4_known_X4_endless rfl rfl rfl (by decide +kernel) ⟨Nat.le_of_ble_eq_true rfl, Nat.le_of_ble_eq_true rfl⟩) (xB.preV hKc hPc (ci := 6) (q0 := 0) rfl rfl) rfl rfl hl.1 rfl (lv_room (Nat.le_of_ble_eq_true rfl)) dX4_known_53 ⟨Nat.le_of_ble_eq_true rfl, Nat.le_of_ble_eq_true rfl⟩) hS xA_old (fun q h => hA q (Nat.le_trans hS.1 h)) (fun r_7 u t H locs ht hvm hw hB hz hk hS => ?_)
          replace hw : r_7 = (o_X4_endless w) := hw
          subst r_7
          have hP := xP_keep hP hk
          refine lv_aload_n hx hb dX4_known_56 rfl (lv_at hl 0 rfl) ?_
          have hPc := hP.sub (ws' := [(h0, eMR w hc a), (hc, eA cy f)]) [0, 1] rfl
          have hKc := hK.sub (tys' := [(cy, .long)]) [0] rfl
          refine va_calll (va_runV (As := []) (rest := [.long (o_X4_endless w)]) ⟨hx, hb, hml, hown, hts⟩ (k_X4_sign l dC dI cy h0 hc w a f H.size) (cwV 0 hts gX4_known_X4_sign rfl rfl rfl (by decide +kernel) ⟨Nat.le_of_ble_eq_true rfl, Nat.le_of_ble_eq_true rfl⟩) (xB.preV hKc hPc (ci := 6) (q0 := 0) rfl rfl) rfl rfl hl.1 rfl (lv_room (Nat.le_of_ble_eq_true rfl)) dX4_known_57 ⟨Nat.le_of_ble_eq_true rfl, Nat.le_of_ble_eq_true rfl⟩) hS xA_old (fun q h => hA q (Nat.le_trans hS.1 h)) (fun r_8 u t H locs ht hvm hw hB hz hk hS => ?_)
          replace hw : r_8 = (o_X4_sign w) := hw
          subst r_8
          have hP := xP_keep hP hk
          refine lv_lor hx hb dX4_known_60 ?_
          have he : o_X4_known w p0 = ((o_X4_endless w) ||| (o_X4_sign w)) := by (rw [o_X4_known, if_neg c_1, if_neg c_2, if_neg c_4, if_pos c_6]) <;> rfl
          refine W.widen (k := 0) (n := 0) (by omega) (by omega) ?_
          exact W.lret (v := ((o_X4_endless w) ||| (o_X4_sign w))) hx hb hr (fun t ht hW => ⟨⟨_, (), rfl, (by (rw [he]) <;> rfl), trivial⟩, hS.F ht⟩) hS.2.2 dX4_known_61
        · skip
          by_cases c_9 : p0 = 4
          · refine lv_tableIn (tgt := 62) (off := 61) hx hb dX4_known_1 (by rw [c_9]; decide) (by rw [c_9]; decide) (by rw [c_9]; rfl) (by decide +kernel) ?_
            refine lv_aload_n hx hb dX4_known_62 rfl (lv_at hl 0 rfl) ?_
            have hPc := hP.sub (ws' := [(h0, eMR w hc a), (hc, eA cy f)]) [0, 1] rfl
            have hKc := hK.sub (tys' := [(cy, .long)]) [0] rfl
            refine va_calll (va_runV (As := []) (rest := []) ⟨hx, hb, hml, hown, hts⟩ (k_X4_endless l dC dI cy h0 hc w a f s.heap.size) (cwV 0 hts gX4_known_X4_endless rfl rfl rfl (by decide +kernel) ⟨Nat.le_of_ble_eq_true rfl, Nat.le_of_ble_eq_true rfl⟩) (xB.preV hKc hPc (ci := 6) (q0 := 0) rfl rfl) rfl rfl hl.1 rfl (lv_room (Nat.le_of_ble_eq_true rfl)) dX4_known_63 ⟨Nat.le_of_ble_eq_true rfl, Nat.le_of_ble_eq_true rfl⟩) hS xA_old (fun q h => hA q (Nat.le_trans hS.1 h)) (fun r_10 u t H locs ht hvm hw hB hz hk hS => ?_)
            replace hw : r_10 = (o_X4_endless w) := hw
            subst r_10
            have hP := xP_keep hP hk
            refine lv_lconst (v := 1) hx hb dX4_known_66 (by decide +kernel) ?_
            refine lv_lsub hx hb dX4_known_67 ?_
            have he : o_X4_known w p0 = ((o_X4_endless w) - 1) := by (rw [o_X4_known, if_neg c_1, if_neg c_2, if_neg c_4, if_neg c_6, if_pos c_9]) <;> rfl
            refine W.widen (k := 0) (n := 0) (by omega) (by omega) ?_
            exact W.lret (v := ((o_X4_endless w) - 1)) hx hb hr (fun t ht hW => ⟨⟨_, (), rfl, (by (rw [he]) <;> rfl), trivial⟩, hS.F ht⟩) hS.2.2 dX4_known_68
          · skip
            by_cases c_11 : p0 = 5
            · refine lv_tableIn (tgt := 69) (off := 68) hx hb dX4_known_1 (by rw [c_11]; decide) (by rw [c_11]; decide) (by rw [c_11]; rfl) (by decide +kernel) ?_
              refine lv_lconst (v := 1) hx hb dX4_known_69 (by decide +kernel) ?_
              have he : o_X4_known w p0 = 1 := by (rw [o_X4_known, if_neg c_1, if_neg c_2, if_neg c_4, if_neg c_6, if_neg c_9, if_pos c_11]) <;> rfl
              refine W.widen (k := 0) (n := 0) (by omega) (by omega) ?_
              exact W.lret (v := 1) hx hb hr (fun t ht hW => ⟨⟨_, (), rfl, (by (rw [he]) <;> rfl), trivial⟩, hS.F ht⟩) hS.2.2 dX4_known_70
            · skip
              refine lv_tableOut (tgt := 71) hx hb dX4_known_1 (by have n0 := lv_neT (a := 0) c_1 (by decide +kernel); have n1 := lv_neT (a := 1) c_2 (by decide +kernel); have n2 := lv_neT (a := 2) c_4 (by decide +kernel); have n3 := lv_neT (a := 3) c_6 (by decide +kernel); have n4 := lv_neT (a := 4) c_9 (by decide +kernel); have n5 := lv_neT (a := 5) c_11 (by decide +kernel); omega) (by decide +kernel) ?_
              refine lv_lconst (v := 1) hx hb dX4_known_71 (by decide +kernel) ?_
              refine lv_aload_n hx hb dX4_known_72 rfl (lv_at hl 0 rfl) ?_
              refine va_get (D := (dC, dI)) (ci := 6) (v := .int (mFr w)) (C := RX4) (T := TX4) (N := 5) hx hb hts (by decide +kernel) hown hK hP 0 rfl rfl 1 (by decide +kernel) (hts (.fieldLink RX4 19 "EdgefloatsModel$Row" "fractions" "I") (by decide +kernel)) (fun _ h9 => h9) rfl dX4_known_73 ?_
              refine lv_lshl (v := (jLshl 1 (mFr w))) hx hb dX4_known_76 rfl ?_
              have he : o_X4_known w p0 = (jLshl 1 (mFr w)) := by (rw [o_X4_known, if_neg c_1, if_neg c_2, if_neg c_4, if_neg c_6, if_neg c_9, if_neg c_11]) <;> rfl
              refine W.widen (k := 0) (n := 0) (by omega) (by omega) ?_
              exact W.lret (v := (jLshl 1 (mFr w))) hx hb hr (fun t ht hW => ⟨⟨_, (), rfl, (by (rw [he]) <;> rfl), trivial⟩, hS.F ht⟩) hS.2.2 dX4_known_77
noncomputable def dz_p07_13 : List (Nat × Instr × Nat) := [(0, (.iconst (-1), 1)), (1, (.istore 4, 2)), (3, (.iconst 0, 1)), (4, (.istore 5, 2)), (6, (.iload 5, 2)), (8, (.bipush 8, 2)), (10, (.if_icmp .ge 34, 3)), (13, (.aload_n 0, 1)), (14, (.getfield 9, 3)), (17, (.iload 5, 2)), (19, (.laload, 1)), (20, (.lload_n 1, 1)), (21, (.lcmp, 1)), (22, (.ifCond .ne 16, 3)), (25, (.iload_n 3, 1)), (26, (.ifCond .ne 8, 3)), (29, (.iload 4, 2)), (31, (.ifCond .ge 7, 3)), (34, (.iload 5, 2)), (36, (.istore 4, 2)), (38, (.iinc 5 1, 3)), (41, (.goto (-35), 3)), (44, (.iload 4, 2)), (46, (.ireturn, 1))]
theorem dy_p07_13 : dz_ok cX4_find dz_p07_13 = true := by decide +kernel
theorem dX4_find_0 : decode cX4_find 0 = .ok (.iconst (-1), 1) := dz_at (i := 0) dy_p07_13 rfl
theorem dX4_find_1 : decode cX4_find 1 = .ok (.istore 4, 2) := dz_at (i := 1) dy_p07_13 rfl
theorem dX4_find_3 : decode cX4_find 3 = .ok (.iconst 0, 1) := dz_at (i := 2) dy_p07_13 rfl
theorem dX4_find_4 : decode cX4_find 4 = .ok (.istore 5, 2) := dz_at (i := 3) dy_p07_13 rfl
theorem dX4_find_6 : decode cX4_find 6 = .ok (.iload 5, 2) := dz_at (i := 4) dy_p07_13 rfl
theorem dX4_find_8 : decode cX4_find 8 = .ok (.bipush 8, 2) := dz_at (i := 5) dy_p07_13 rfl
theorem dX4_find_10 : decode cX4_find 10 = .ok (.if_icmp .ge 34, 3) := dz_at (i := 6) dy_p07_13 rfl
theorem dX4_find_13 : decode cX4_find 13 = .ok (.aload_n 0, 1) := dz_at (i := 7) dy_p07_13 rfl
theorem dX4_find_14 : decode cX4_find 14 = .ok (.getfield 9, 3) := dz_at (i := 8) dy_p07_13 rfl
theorem dX4_find_17 : decode cX4_find 17 = .ok (.iload 5, 2) := dz_at (i := 9) dy_p07_13 rfl
theorem dX4_find_19 : decode cX4_find 19 = .ok (.laload, 1) := dz_at (i := 10) dy_p07_13 rfl
theorem dX4_find_20 : decode cX4_find 20 = .ok (.lload_n 1, 1) := dz_at (i := 11) dy_p07_13 rfl
theorem dX4_find_21 : decode cX4_find 21 = .ok (.lcmp, 1) := dz_at (i := 12) dy_p07_13 rfl
theorem dX4_find_22 : decode cX4_find 22 = .ok (.ifCond .ne 16, 3) := dz_at (i := 13) dy_p07_13 rfl
theorem dX4_find_25 : decode cX4_find 25 = .ok (.iload_n 3, 1) := dz_at (i := 14) dy_p07_13 rfl
theorem dX4_find_26 : decode cX4_find 26 = .ok (.ifCond .ne 8, 3) := dz_at (i := 15) dy_p07_13 rfl
theorem dX4_find_29 : decode cX4_find 29 = .ok (.iload 4, 2) := dz_at (i := 16) dy_p07_13 rfl
theorem dX4_find_31 : decode cX4_find 31 = .ok (.ifCond .ge 7, 3) := dz_at (i := 17) dy_p07_13 rfl
theorem dX4_find_34 : decode cX4_find 34 = .ok (.iload 5, 2) := dz_at (i := 18) dy_p07_13 rfl
theorem dX4_find_36 : decode cX4_find 36 = .ok (.istore 4, 2) := dz_at (i := 19) dy_p07_13 rfl
theorem dX4_find_38 : decode cX4_find 38 = .ok (.iinc 5 1, 3) := dz_at (i := 20) dy_p07_13 rfl
theorem dX4_find_41 : decode cX4_find 41 = .ok (.goto (-35), 3) := dz_at (i := 21) dy_p07_13 rfl
theorem dX4_find_44 : decode cX4_find 44 = .ok (.iload 4, 2) := dz_at (i := 22) dy_p07_13 rfl
theorem dX4_find_46 : decode cX4_find 46 = .ok (.ireturn, 1) := dz_at (i := 23) dy_p07_13 rfl
noncomputable def L_mfind (f : Nat → Int64) (p0 : Int64) (p1 : Bool) : Nat → Nat → Int32 → Int32
  | 0, _, v => v
  | nmfind + 1, imfind, v => if (f imfind) = p0 then (if p1 = true then L_mfind f p0 p1 nmfind (imfind + 1) (nI imfind)
      else if 0 ≤ v then L_mfind f p0 p1 nmfind (imfind + 1) v
      else L_mfind f p0 p1 nmfind (imfind + 1) (nI imfind))
    else L_mfind f p0 p1 nmfind (imfind + 1) v
noncomputable def o_X4_find (f : Nat → Int64) (p0 : Int64) (p1 : Bool) : Int32 :=
  (L_mfind f p0 p1 8 0 (-1))
set_option maxHeartbeats 4000000 in
set_option maxRecDepth 100000 in
theorem k_X4_find (l : Launch) (dC : Nat → ClassId) (dI : Nat → Nat → Nat) (cy : ClassId) (h0 : Nat) (hc : Nat) (w : Bool) (a : Int32) (f : Nat → Int64) (sz : Nat) (p0 : Int64) (p1 : Bool) : Met l yX4_find wsX4_find ({ frames := 0, cells := 0, slots := 0, locals := 0 }) (va_Pc [.ref h0, .long p0, .int (b2i p1)] (xB (dC, dI) xCl [(h0, eMR w hc a), (hc, eA cy f)] [(cy, .long)] sz)) (va_Qi (fun (r : Int32) (_ : Unit) => r = (o_X4_find f p0 p1)) (fun _ _ => True) (aN sz)) 0 0 (aN sz) := by
  refine Met.ofW (cc := cX4_find) (maxL := 6) (ret := (some .int)) (by decide +kernel) rfl ?_
  intro p e s m args below meth c s₁ B hml hv
  obtain ⟨rfl, hsz, hP, hK⟩ := hv
  have hx := B.exec
  have hb := B.bytes
  have hr := B.returns
  have hts := atoms_spec (ws := wsX4_find) B.pre
  have hown : s.vm.findClass RX4 = some m.cls := findClass_of_methodNamed B.named
  have hlocks := B.notSynchronized
  subst hsz
  have hA : ∀ q : Nat, s.heap.size ≤ q → aN s.heap.size q := fun _ h => h
  have hS : va_S (aN s.heap.size) s.heap s.heap [] := va_S.rf
  have hP : va_P (dC, dI) xCl [(h0, eMR w hc a), (hc, eA cy f)] s.heap := hP
  have hl := lv_entry ([.ref h0, .long p0, .int (b2i p1)]) (n := 6) (Nat.le_of_ble_eq_true rfl)
  rw [lg_entry_eq]
  generalize (lg_sl ([.ref h0, .long p0, .int (b2i p1)]) ++ List.replicate (6 - (lg_sl ([.ref h0, .long p0, .int (b2i p1)])).length) Slot.unset).toArray = ls at hl ⊢
  have hl : lv_has ls 6 [(0, .ref h0), (1, .long p0), (3, .int (b2i p1))] := hl
  refine lv_iconst (v := (-1)) hx hb dX4_find_0 (by decide +kernel) ?_
  refine lv_istore (lv' := [(4, .int (-1)), (0, .ref h0), (1, .long p0), (3, .int (b2i p1))]) hx hb dX4_find_1 hl (by decide +kernel) rfl (fun ls hl => ?_)
  refine lv_iconst (v := 0) hx hb dX4_find_3 (by decide +kernel) ?_
  refine lv_istore (lv' := [(5, .int 0), (4, .int (-1)), (0, .ref h0), (1, .long p0), (3, .int (b2i p1))]) hx hb dX4_find_4 hl (by decide +kernel) rfl (fun ls hl => ?_)
  have loop_mfind : ∀ (nmfind imfind : Nat) (v : Int32) (H : Heap) (locs : List Loc) (ls : Array Slot), imfind + nmfind = 8 → 0 ≤ imfind → (L_mfind f p0 p1 8 0 (-1)) = L_mfind f p0 p1 nmfind imfind v → va_P (dC, dI) xCl [(h0, eMR w hc a), (hc, eA cy f)] H → va_S (aN s.heap.size) s.heap H locs → lv_has ls 6 [(5, .int (nI imfind)), (4, .int v), (0, .ref h0), (1, .long p0), (3, .int (b2i p1))] → (∀ (H : Heap) (locs : List Loc) (ls : Array Slot), va_P (dC, dI) xCl [(h0, eMR w hc a), (hc, eA cy f)] H → va_S (aN s.heap.size) s.heap H locs → lv_has ls 6 [(4, .int (L_mfind f p0 p1 8 0 (-1))), (0, .ref h0), (1, .long p0), (3, .int (b2i p1))] → W p l e (headSpec wsX4_find ({ frames := 0, cells := 0, slots := 0, locals := 0 } : Room)).room s m ([.ref h0, .long p0, .int (b2i p1)]).toArray below meth c H locs 0 0 (MQ below (va_Qi (fun (r : Int32) (_ : Unit) => r = (o_X4_find f p0 p1)) (fun _ _ => True) (aN s.heap.size)) ([.ref h0, .long p0, .int (b2i p1)]).toArray s 0 0 (aN s.heap.size)) (F0 m 44 ls [])) → W p l e (headSpec wsX4_find ({ frames := 0, cells := 0, slots := 0, locals := 0 } : Room)).room s m ([.ref h0, .long p0, .int (b2i p1)]).toArray below meth c H locs 0 0 (MQ below (va_Qi (fun (r : Int32) (_ : Unit) => r = (o_X4_find f p0 p1)) (fun _ _ => True) (aN s.heap.size)) ([.ref h0, .long p0, .int (b2i p1)]).toArray s 0 0 (aN s.heap.size)) (F0 m 6 ls []) := by
    intro nmfind
    induction nmfind with
    | zero =>
      intro imfind v H locs ls hin_mfind his_mfind hsp_mfind hP hS hl K_mfind
      have hv : (L_mfind f p0 p1 8 0 (-1)) = v := hsp_mfind
      subst hv
      have hi8 : imfind = 8 := by omega
      refine lv_iload hx hb dX4_find_6 (lv_at hl 0 rfl) ?_
      refine lv_bipush (v := 8) hx hb dX4_find_8 (by decide +kernel) ?_
      refine lv_icmp_ge (tgt := 44) hx hb dX4_find_10 (by decide +kernel) (fun c9 => ?_) (fun c9 => absurd (by rw [hi8]; decide) c9)
      exact K_mfind _ _ _ hP hS (lv_sub hl [1, 2, 3, 4] rfl)
    | succ nmfind ih_mfind =>
      intro imfind v H locs ls hin_mfind his_mfind hsp_mfind hP hS hl K_mfind
      refine lv_iload hx hb dX4_find_6 (lv_at hl 0 rfl) ?_
      refine lv_bipush (v := 8) hx hb dX4_find_8 (by decide +kernel) ?_
      refine lv_icmp_ge (tgt := 44) hx hb dX4_find_10 (by decide +kernel) (fun c9 => absurd c9 (show ¬ (8 : Int32) ≤ nI imfind from nI_ge (a := imfind) (b := 8) (by omega) (by decide +kernel))) (fun c9 => ?_)
      refine lv_aload_n hx hb dX4_find_13 rfl (lv_at hl 2 rfl) ?_
      refine va_get (D := (dC, dI)) (ci := 6) (v := .ref hc) (C := RX4) (T := TX4) (N := 5) hx hb hts (by decide +kernel) hown hK hP 0 rfl rfl 3 (by decide +kernel) (hts (.fieldLink RX4 9 "EdgefloatsModel$Row" "cells" "[J") (by decide +kernel)) (fun _ h9 => h9) rfl dX4_find_14 ?_
      refine lv_iload hx hb dX4_find_17 (lv_at hl 0 rfl) ?_
      refine xa_lald hx hb hK hP 1 0 (f := f) rfl rfl (k := imfind) (vp_in_nI (n := imfind) (N := 8) (by omega) (by decide +kernel)) (nI_clamp (n := imfind) (by omega)) dX4_find_19 ?_
      refine lv_lload_n hx hb dX4_find_20 rfl (lv_at hl 3 rfl) ?_
      refine xc_ne (tgt := 38) hx hb dX4_find_21 dX4_find_22 (by decide +kernel) (fun c_1 => ?_) (fun c_1 => ?_)
      · skip
        refine lv_iinc (v := (nI (imfind + 1))) (lv' := [(5, .int (nI (imfind + 1))), (4, .int v), (0, .ref h0), (1, .long p0), (3, .int (b2i p1))]) hx hb dX4_find_38 hl (k := 0) rfl (nI_1 imfind) (by decide +kernel) rfl (fun ls hl => ?_)
        refine lv_goto (tgt := 6) hx hb dX4_find_41 (by decide +kernel) ?_
        refine W.widen (k := 0) (n := 0) (Nat.le_refl _) (Nat.le_refl _) ?_
        exact ih_mfind (imfind + 1) v _ _ _ (by omega) (by omega) (hsp_mfind.trans (by (rw [L_mfind, if_neg c_1]) <;> rfl)) hP hS (lv_sub hl [0, 1, 2, 3, 4] rfl) K_mfind
      · skip
        refine lv_iload_n hx hb dX4_find_25 rfl (lv_at hl 4 rfl) ?_
        refine xz_ne (tgt := 34) hx hb dX4_find_26 (by decide +kernel) (fun c_2 => ?_) (fun c_2 => ?_)
        · skip
          refine lv_iload hx hb dX4_find_34 (lv_at hl 0 rfl) ?_
          refine lv_istore (lv' := [(4, .int (nI imfind)), (5, .int (nI imfind)), (0, .ref h0), (1, .long p0), (3, .int (b2i p1))]) hx hb dX4_find_36 hl (by decide +kernel) rfl (fun ls hl => ?_)
          refine lv_iinc (v := (nI (imfind + 1))) (lv' := [(5, .int (nI (imfind + 1))), (4, .int (nI imfind)), (0, .ref h0), (1, .long p0), (3, .int (b2i p1))]) hx hb dX4_find_38 hl (k := 1) rfl (nI_1 imfind) (by decide +kernel) rfl (fun ls hl => ?_)
          refine lv_goto (tgt := 6) hx hb dX4_find_41 (by decide +kernel) ?_
          refine W.widen (k := 0) (n := 0) (Nat.le_refl _) (Nat.le_refl _) ?_
          exact ih_mfind (imfind + 1) (nI imfind) _ _ _ (by omega) (by omega) (hsp_mfind.trans (by (rw [L_mfind, if_pos c_1, if_pos c_2]) <;> rfl)) hP hS (lv_sub hl [0, 1, 2, 3, 4] rfl) K_mfind
        · skip
          refine lv_iload hx hb dX4_find_29 (lv_at hl 1 rfl) ?_
          refine lv_if_ge (tgt := 38) hx hb dX4_find_31 (by decide +kernel) (fun c_3 => ?_) (fun c_3 => ?_)
          · skip
            refine lv_iinc (v := (nI (imfind + 1))) (lv' := [(5, .int (nI (imfind + 1))), (4, .int v), (0, .ref h0), (1, .long p0), (3, .int (b2i p1))]) hx hb dX4_find_38 hl (k := 0) rfl (nI_1 imfind) (by decide +kernel) rfl (fun ls hl => ?_)
            refine lv_goto (tgt := 6) hx hb dX4_find_41 (by decide +kernel) ?_
            refine W.widen (k := 0) (n := 0) (Nat.le_refl _) (Nat.le_refl _) ?_
            exact ih_mfind (imfind + 1) v _ _ _ (by omega) (by omega) (hsp_mfind.trans (by (rw [L_mfind, if_pos c_1, if_neg c_2, if_pos c_3]) <;> rfl)) hP hS (lv_sub hl [0, 1, 2, 3, 4] rfl) K_mfind
          · skip
            refine lv_iload hx hb dX4_find_34 (lv_at hl 0 rfl) ?_
            refine lv_istore (lv' := [(4, .int (nI imfind)), (5, .int (nI imfind)), (0, .ref h0), (1, .long p0), (3, .int (b2i p1))]) hx hb dX4_find_36 hl (by decide +kernel) rfl (fun ls hl => ?_)
            refine lv_iinc (v := (nI (imfind + 1))) (lv' := [(5, .int (nI (imfind + 1))), (4, .int (nI imfind)), (0, .ref h0), (1, .long p0), (3, .int (b2i p1))]) hx hb dX4_find_38 hl (k := 1) rfl (nI_1 imfind) (by decide +kernel) rfl (fun ls hl => ?_)
            refine lv_goto (tgt := 6) hx hb dX4_find_41 (by decide +kernel) ?_
            refine W.widen (k := 0) (n := 0) (Nat.le_refl _) (Nat.le_refl _) ?_
            exact ih_mfind (imfind + 1) (nI imfind) _ _ _ (by omega) (by omega) (hsp_mfind.trans (by (rw [L_mfind, if_pos c_1, if_neg c_2, if_neg c_3]) <;> rfl)) hP hS (lv_sub hl [0, 1, 2, 3, 4] rfl) K_mfind
  refine loop_mfind 8 0 (-1) _ _ _ (by omega) (by omega) rfl hP hS (lv_sub hl [0, 1, 2, 3, 4] rfl) (fun H locs ls hP hS hl => ?_)
  refine lv_iload hx hb dX4_find_44 (lv_at hl 0 rfl) ?_
  have he : o_X4_find f p0 p1 = (L_mfind f p0 p1 8 0 (-1)) := by (rw [o_X4_find]) <;> rfl
  refine W.widen (k := 0) (n := 0) (by omega) (by omega) ?_
  exact W.iret (v := (L_mfind f p0 p1 8 0 (-1))) hx hb hr (fun t ht hW => ⟨⟨_, (), rfl, (by (rw [he]) <;> rfl), trivial⟩, hS.F ht⟩) hS.2.2 dX4_find_46
theorem cl_X4_end_1 : ∀ w ∈ wsX4_end_r1, w ∈ wsX4_end := fun _ h => (List.mem_cons_of_mem _ (List.mem_append_left _ (List.mem_append_left _ h)))
theorem cl_X4_end_2 : ∀ w ∈ wsX4_end_r2, w ∈ wsX4_end := fun _ h => (List.mem_cons_of_mem _ (List.mem_append_left _ (List.mem_append_right _ h)))
theorem cl_X4_end_3 : ∀ w ∈ wsX40, w ∈ wsX4_end := fun _ h => (List.mem_cons_of_mem _ (List.mem_append_right _ h))
set_option maxRecDepth 20000 in
theorem ggX4_end_X4_order : GoodIn wsX4_end wsX4_order := goodIn_sub (List.forall_mem_cons.mpr ⟨(cl_X4_end_1 _ (List.mem_of_getElem? (i := 5) rfl)), fun w h => (List.mem_append.mp h).elim ((List.forall_mem_cons.mpr ⟨(cl_X4_end_1 _ (List.mem_of_getElem? (i := 6) rfl)), List.forall_mem_cons.mpr ⟨(cl_X4_end_1 _ (List.mem_of_getElem? (i := 7) rfl)), List.forall_mem_cons.mpr ⟨(cl_X4_end_1 _ (List.mem_of_getElem? (i := 8) rfl)), List.forall_mem_cons.mpr ⟨(cl_X4_end_1 _ (List.mem_of_getElem? (i := 4) rfl)), List.forall_mem_cons.mpr ⟨(cl_X4_end_1 _ (List.mem_of_getElem? (i := 9) rfl)), List.forall_mem_cons.mpr ⟨(cl_X4_end_1 _ (List.mem_of_getElem? (i := 10) rfl)), List.forall_mem_cons.mpr ⟨(cl_X4_end_1 _ (List.mem_of_getElem? (i := 11) rfl)), List.forall_mem_cons.mpr ⟨(cl_X4_end_1 _ (List.mem_of_getElem? (i := 12) rfl)), List.forall_mem_cons.mpr ⟨(cl_X4_end_1 _ (List.mem_of_getElem? (i := 13) rfl)), List.forall_mem_cons.mpr ⟨(cl_X4_end_1 _ (List.mem_of_getElem? (i := 14) rfl)), List.forall_mem_cons.mpr ⟨(cl_X4_end_1 _ (List.mem_of_getElem? (i := 15) rfl)), List.forall_mem_cons.mpr ⟨(cl_X4_end_1 _ (List.mem_of_getElem? (i := 16) rfl)), List.forall_mem_cons.mpr ⟨(cl_X4_end_1 _ (List.mem_of_getElem? (i := 17) rfl)), List.forall_mem_cons.mpr ⟨(cl_X4_end_1 _ (List.mem_of_getElem? (i := 18) rfl)), List.forall_mem_cons.mpr ⟨(cl_X4_end_1 _ (List.mem_of_getElem? (i := 19) rfl)), List.forall_mem_cons.mpr ⟨(cl_X4_end_1 _ (List.mem_of_getElem? (i := 20) rfl)), List.forall_mem_cons.mpr ⟨(cl_X4_end_1 _ (List.mem_of_getElem? (i := 21) rfl)), List.forall_mem_cons.mpr ⟨(cl_X4_end_1 _ (List.mem_of_getElem? (i := 22) rfl)), List.forall_mem_cons.mpr ⟨(cl_X4_end_1 _ (List.mem_of_getElem? (i := 23) rfl)), List.forall_mem_cons.mpr ⟨(cl_X4_end_2 _ (List.mem_of_getElem? (i := 0) rfl)), fun _ h => absurd h List.not_mem_nil⟩⟩⟩⟩⟩⟩⟩⟩⟩⟩⟩⟩⟩⟩⟩⟩⟩⟩⟩⟩) w) ((cl_X4_end_3) w)⟩) (by decide +kernel)
set_option maxRecDepth 20000 in
theorem gX4_end_X4_order : GoodIn wsX4_end (wsV RX4 77 RX4 yX4_order wsX4_order) := goodIn_app (goodIn_sub (List.forall_mem_cons.mpr ⟨(cl_X4_end_1 _ (List.mem_of_getElem? (i := 1) rfl)), List.forall_mem_cons.mpr ⟨(cl_X4_end_1 _ (List.mem_of_getElem? (i := 2) rfl)), List.forall_mem_cons.mpr ⟨(cl_X4_end_1 _ (List.mem_of_getElem? (i := 3) rfl)), List.forall_mem_cons.mpr ⟨(cl_X4_end_1 _ (List.mem_of_getElem? (i := 4) rfl)), fun _ h => absurd h List.not_mem_nil⟩⟩⟩⟩) (by decide +kernel)) ggX4_end_X4_order
noncomputable def dz_p07_14 : List (Nat × Instr × Nat) := [(0, (.aload_n 0, 1)), (1, (.getfield 9, 3)), (4, (.iconst 0, 1)), (5, (.laload, 1)), (6, (.lstore_n 2, 1)), (7, (.aload_n 0, 1)), (8, (.getfield 9, 3)), (11, (.astore 4, 2)), (13, (.aload 4, 2)), (15, (.arraylength, 1)), (16, (.istore 5, 2)), (18, (.iconst 0, 1)), (19, (.istore 6, 2)), (21, (.iload 6, 2)), (23, (.iload 5, 2)), (25, (.if_icmp .ge 38, 3)), (28, (.aload 4, 2)), (30, (.iload 6, 2)), (32, (.laload, 1)), (33, (.lstore 7, 2)), (35, (.aload_n 0, 1)), (36, (.lload 7, 2)), (38, (.lload_n 2, 1)), (39, (.invokevirtual 77, 3)), (42, (.iload_n 1, 1)), (43, (.ifCond .eq 7, 3)), (46, (.iconst 1, 1)), (47, (.goto 4, 3)), (50, (.iconst (-1), 1)), (51, (.if_icmp .ne 6, 3)), (54, (.lload 7, 2)), (56, (.lstore_n 2, 1)), (57, (.iinc 6 1, 3)), (60, (.goto (-39), 3)), (63, (.lload_n 2, 1)), (64, (.lreturn, 1))]
theorem dy_p07_14 : dz_ok cX4_end dz_p07_14 = true := by decide +kernel
theorem dX4_end_0 : decode cX4_end 0 = .ok (.aload_n 0, 1) := dz_at (i := 0) dy_p07_14 rfl
theorem dX4_end_1 : decode cX4_end 1 = .ok (.getfield 9, 3) := dz_at (i := 1) dy_p07_14 rfl
theorem dX4_end_4 : decode cX4_end 4 = .ok (.iconst 0, 1) := dz_at (i := 2) dy_p07_14 rfl
theorem dX4_end_5 : decode cX4_end 5 = .ok (.laload, 1) := dz_at (i := 3) dy_p07_14 rfl
theorem dX4_end_6 : decode cX4_end 6 = .ok (.lstore_n 2, 1) := dz_at (i := 4) dy_p07_14 rfl
theorem dX4_end_7 : decode cX4_end 7 = .ok (.aload_n 0, 1) := dz_at (i := 5) dy_p07_14 rfl
theorem dX4_end_8 : decode cX4_end 8 = .ok (.getfield 9, 3) := dz_at (i := 6) dy_p07_14 rfl
theorem dX4_end_11 : decode cX4_end 11 = .ok (.astore 4, 2) := dz_at (i := 7) dy_p07_14 rfl
theorem dX4_end_13 : decode cX4_end 13 = .ok (.aload 4, 2) := dz_at (i := 8) dy_p07_14 rfl
theorem dX4_end_15 : decode cX4_end 15 = .ok (.arraylength, 1) := dz_at (i := 9) dy_p07_14 rfl
theorem dX4_end_16 : decode cX4_end 16 = .ok (.istore 5, 2) := dz_at (i := 10) dy_p07_14 rfl
theorem dX4_end_18 : decode cX4_end 18 = .ok (.iconst 0, 1) := dz_at (i := 11) dy_p07_14 rfl
theorem dX4_end_19 : decode cX4_end 19 = .ok (.istore 6, 2) := dz_at (i := 12) dy_p07_14 rfl
theorem dX4_end_21 : decode cX4_end 21 = .ok (.iload 6, 2) := dz_at (i := 13) dy_p07_14 rfl
theorem dX4_end_23 : decode cX4_end 23 = .ok (.iload 5, 2) := dz_at (i := 14) dy_p07_14 rfl
theorem dX4_end_25 : decode cX4_end 25 = .ok (.if_icmp .ge 38, 3) := dz_at (i := 15) dy_p07_14 rfl
theorem dX4_end_28 : decode cX4_end 28 = .ok (.aload 4, 2) := dz_at (i := 16) dy_p07_14 rfl
theorem dX4_end_30 : decode cX4_end 30 = .ok (.iload 6, 2) := dz_at (i := 17) dy_p07_14 rfl
theorem dX4_end_32 : decode cX4_end 32 = .ok (.laload, 1) := dz_at (i := 18) dy_p07_14 rfl
theorem dX4_end_33 : decode cX4_end 33 = .ok (.lstore 7, 2) := dz_at (i := 19) dy_p07_14 rfl
theorem dX4_end_35 : decode cX4_end 35 = .ok (.aload_n 0, 1) := dz_at (i := 20) dy_p07_14 rfl
theorem dX4_end_36 : decode cX4_end 36 = .ok (.lload 7, 2) := dz_at (i := 21) dy_p07_14 rfl
theorem dX4_end_38 : decode cX4_end 38 = .ok (.lload_n 2, 1) := dz_at (i := 22) dy_p07_14 rfl
theorem dX4_end_39 : decode cX4_end 39 = .ok (.invokevirtual 77, 3) := dz_at (i := 23) dy_p07_14 rfl
theorem dX4_end_42 : decode cX4_end 42 = .ok (.iload_n 1, 1) := dz_at (i := 24) dy_p07_14 rfl
theorem dX4_end_43 : decode cX4_end 43 = .ok (.ifCond .eq 7, 3) := dz_at (i := 25) dy_p07_14 rfl
theorem dX4_end_46 : decode cX4_end 46 = .ok (.iconst 1, 1) := dz_at (i := 26) dy_p07_14 rfl
theorem dX4_end_47 : decode cX4_end 47 = .ok (.goto 4, 3) := dz_at (i := 27) dy_p07_14 rfl
theorem dX4_end_50 : decode cX4_end 50 = .ok (.iconst (-1), 1) := dz_at (i := 28) dy_p07_14 rfl
theorem dX4_end_51 : decode cX4_end 51 = .ok (.if_icmp .ne 6, 3) := dz_at (i := 29) dy_p07_14 rfl
theorem dX4_end_54 : decode cX4_end 54 = .ok (.lload 7, 2) := dz_at (i := 30) dy_p07_14 rfl
theorem dX4_end_56 : decode cX4_end 56 = .ok (.lstore_n 2, 1) := dz_at (i := 31) dy_p07_14 rfl
theorem dX4_end_57 : decode cX4_end 57 = .ok (.iinc 6 1, 3) := dz_at (i := 32) dy_p07_14 rfl
theorem dX4_end_60 : decode cX4_end 60 = .ok (.goto (-39), 3) := dz_at (i := 33) dy_p07_14 rfl
theorem dX4_end_63 : decode cX4_end 63 = .ok (.lload_n 2, 1) := dz_at (i := 34) dy_p07_14 rfl
theorem dX4_end_64 : decode cX4_end 64 = .ok (.lreturn, 1) := dz_at (i := 35) dy_p07_14 rfl
noncomputable def L_mend (w : Bool) (f : Nat → Int64) (p0 : Bool) : Nat → Nat → Int64 → Int64
  | 0, _, v => v
  | nmend + 1, imend, v => if p0 = true then (if (o_X4_order w (f imend) v) = 1 then L_mend w f p0 nmend (imend + 1) (f imend)
      else L_mend w f p0 nmend (imend + 1) v)
    else if (o_X4_order w (f imend) v) = (-1) then L_mend w f p0 nmend (imend + 1) (f imend)
    else L_mend w f p0 nmend (imend + 1) v
noncomputable def o_X4_end (w : Bool) (f : Nat → Int64) (p0 : Bool) : Int64 :=
  (L_mend w f p0 8 0 (f 0))
set_option maxHeartbeats 4000000 in
set_option maxRecDepth 100000 in
theorem k_X4_end (l : Launch) (dC : Nat → ClassId) (dI : Nat → Nat → Nat) (cy : ClassId) (h0 : Nat) (hc : Nat) (w : Bool) (a : Int32) (f : Nat → Int64) (sz : Nat) (p0 : Bool) : Met l yX4_end wsX4_end ({ frames := 4, cells := 0, slots := 0, locals := 88 }) (va_Pc [.ref h0, .int (b2i p0)] (xB (dC, dI) xCl [(h0, eMR w hc a), (hc, eA cy f)] [(cy, .long)] sz)) (va_Ql (fun (r : Int64) (_ : Unit) => r = (o_X4_end w f p0)) (fun _ _ => True) (aN sz)) 0 0 (aN sz) := by
  refine Met.ofW (cc := cX4_end) (maxL := 9) (ret := (some .long)) (by decide +kernel) rfl ?_
  intro p e s m args below meth c s₁ B hml hv
  obtain ⟨rfl, hsz, hP, hK⟩ := hv
  have hx := B.exec
  have hb := B.bytes
  have hr := B.returns
  have hts := atoms_spec (ws := wsX4_end) B.pre
  have hown : s.vm.findClass RX4 = some m.cls := findClass_of_methodNamed B.named
  have hlocks := B.notSynchronized
  subst hsz
  have hA : ∀ q : Nat, s.heap.size ≤ q → aN s.heap.size q := fun _ h => h
  have hS : va_S (aN s.heap.size) s.heap s.heap [] := va_S.rf
  have hP : va_P (dC, dI) xCl [(h0, eMR w hc a), (hc, eA cy f)] s.heap := hP
  have hl := lv_entry ([.ref h0, .int (b2i p0)]) (n := 9) (Nat.le_of_ble_eq_true rfl)
  rw [lg_entry_eq]
  generalize (lg_sl ([.ref h0, .int (b2i p0)]) ++ List.replicate (9 - (lg_sl ([.ref h0, .int (b2i p0)])).length) Slot.unset).toArray = ls at hl ⊢
  have hl : lv_has ls 9 [(0, .ref h0), (1, .int (b2i p0))] := hl
  refine lv_aload_n hx hb dX4_end_0 rfl (lv_at hl 0 rfl) ?_
  refine va_get (D := (dC, dI)) (ci := 6) (v := .ref hc) (C := RX4) (T := TX4) (N := 5) hx hb hts (by decide +kernel) hown hK hP 0 rfl rfl 3 (by decide +kernel) (hts (.fieldLink RX4 9 "EdgefloatsModel$Row" "cells" "[J") (by decide +kernel)) (fun _ h9 => h9) rfl dX4_end_1 ?_
  refine lv_iconst (v := 0) hx hb dX4_end_4 (by decide +kernel) ?_
  refine xa_lald hx hb hK hP 1 0 (f := f) rfl rfl (k := 0) (vp_in_iff.mpr ⟨by decide, by decide⟩) (by decide +kernel) dX4_end_5 ?_
  refine lv_lstore_n (lv' := [(2, .long (f 0)), (0, .ref h0), (1, .int (b2i p0))]) hx hb dX4_end_6 rfl hl (by decide +kernel) rfl (fun ls hl => ?_)
  refine lv_aload_n hx hb dX4_end_7 rfl (lv_at hl 1 rfl) ?_
  refine va_get (D := (dC, dI)) (ci := 6) (v := .ref hc) (C := RX4) (T := TX4) (N := 5) hx hb hts (by decide +kernel) hown hK hP 0 rfl rfl 3 (by decide +kernel) (hts (.fieldLink RX4 9 "EdgefloatsModel$Row" "cells" "[J") (by decide +kernel)) (fun _ h9 => h9) rfl dX4_end_8 ?_
  refine lv_astore (lv' := [(4, .ref hc), (2, .long (f 0)), (0, .ref h0), (1, .int (b2i p0))]) hx hb dX4_end_11 hl (by decide +kernel) rfl (fun ls hl => ?_)
  refine lv_aload hx hb dX4_end_13 (lv_at hl 0 rfl) ?_
  refine va_alen hx hb hK hP 1 0 rfl rfl (v := 8) rfl dX4_end_15 ?_
  refine lv_istore (lv' := [(5, .int 8), (4, .ref hc), (2, .long (f 0)), (0, .ref h0), (1, .int (b2i p0))]) hx hb dX4_end_16 hl (by decide +kernel) rfl (fun ls hl => ?_)
  refine lv_iconst (v := 0) hx hb dX4_end_18 (by decide +kernel) ?_
  refine lv_istore (lv' := [(6, .int 0), (5, .int 8), (4, .ref hc), (2, .long (f 0)), (0, .ref h0), (1, .int (b2i p0))]) hx hb dX4_end_19 hl (by decide +kernel) rfl (fun ls hl => ?_)
  have loop_mend : ∀ (nmend imend : Nat) (v : Int64) (H : Heap) (locs : List Loc) (ls : Array Slot), imend + nmend = 8 → 0 ≤ imend → (L_mend w f p0 8 0 (f 0)) = L_mend w f p0 nmend imend v → va_P (dC, dI) xCl [(h0, eMR w hc a), (hc, eA cy f)] H → va_S (aN s.heap.size) s.heap H locs → lv_has ls 9 [(6, .int (nI imend)), (5, .int 8), (4, .ref hc), (2, .long v), (0, .ref h0), (1, .int (b2i p0))] → (∀ (H : Heap) (locs : List Loc) (ls : Array Slot), va_P (dC, dI) xCl [(h0, eMR w hc a), (hc, eA cy f)] H → va_S (aN s.heap.size) s.heap H locs → lv_has ls 9 [(5, .int 8), (4, .ref hc), (2, .long (L_mend w f p0 8 0 (f 0))), (0, .ref h0), (1, .int (b2i p0))] → W p l e (headSpec wsX4_end ({ frames := 4, cells := 0, slots := 0, locals := 88 } : Room)).room s m ([.ref h0, .int (b2i p0)]).toArray below meth c H locs 0 0 (MQ below (va_Ql (fun (r : Int64) (_ : Unit) => r = (o_X4_end w f p0)) (fun _ _ => True) (aN s.heap.size)) ([.ref h0, .int (b2i p0)]).toArray s 0 0 (aN s.heap.size)) (F0 m 63 ls [])) → W p l e (headSpec wsX4_end ({ frames := 4, cells := 0, slots := 0, locals := 88 } : Room)).room s m ([.ref h0, .int (b2i p0)]).toArray below meth c H locs 0 0 (MQ below (va_Ql (fun (r : Int64) (_ : Unit) => r = (o_X4_end w f p0)) (fun _ _ => True) (aN s.heap.size)) ([.ref h0, .int (b2i p0)]).toArray s 0 0 (aN s.heap.size)) (F0 m 21 ls []) := by
    intro nmend
    induction nmend with
    | zero =>
      intro imend v H locs ls hin_mend his_mend hsp_mend hP hS hl K_mend
      have hv : (L_mend w f p0 8 0 (f 0)) = v := hsp_mend
      subst hv
      have hi8 : imend = 8 := by omega
      refine lv_iload hx hb dX4_end_21 (lv_at hl 0 rfl) ?_
      refine lv_iload hx hb dX4_end_23 (lv_at hl 1 rfl) ?_
      refine lv_icmp_ge (tgt := 63) hx hb dX4_end_25 (by decide +kernel) (fun c9 => ?_) (fun c9 => absurd (by rw [hi8]; decide) c9)
      exact K_mend _ _ _ hP hS (lv_sub hl [1, 2, 3, 4, 5] rfl)
    | succ nmend ih_mend =>
      intro imend v H locs ls hin_mend his_mend hsp_mend hP hS hl K_mend
      refine lv_iload hx hb dX4_end_21 (lv_at hl 0 rfl) ?_
      refine lv_iload hx hb dX4_end_23 (lv_at hl 1 rfl) ?_
      refine lv_icmp_ge (tgt := 63) hx hb dX4_end_25 (by decide +kernel) (fun c9 => absurd c9 (show ¬ (8 : Int32) ≤ nI imend from nI_ge (a := imend) (b := 8) (by omega) (by decide +kernel))) (fun c9 => ?_)
      refine lv_aload hx hb dX4_end_28 (lv_at hl 2 rfl) ?_
      refine lv_iload hx hb dX4_end_30 (lv_at hl 0 rfl) ?_
      refine xa_lald hx hb hK hP 1 0 (f := f) rfl rfl (k := imend) (vp_in_nI (n := imend) (N := 8) (by omega) (by decide +kernel)) (nI_clamp (n := imend) (by omega)) dX4_end_32 ?_
      refine lv_lstore (lv' := [(7, .long (f imend)), (6, .int (nI imend)), (5, .int 8), (4, .ref hc), (2, .long v), (0, .ref h0), (1, .int (b2i p0))]) hx hb dX4_end_33 hl (by decide +kernel) rfl (fun ls hl => ?_)
      refine lv_aload_n hx hb dX4_end_35 rfl (lv_at hl 5 rfl) ?_
      refine lv_lload hx hb dX4_end_36 (lv_at hl 0 rfl) ?_
      refine lv_lload_n hx hb dX4_end_38 rfl (lv_at hl 4 rfl) ?_
      have hPc := hP.sub (ws' := [(h0, eMR w hc a), (hc, eA cy f)]) [0, 1] rfl
      have hKc := hK.sub (tys' := [(cy, .long)]) [0] rfl
      refine va_calli (va_runV (As := [.long (f imend), .long v]) (rest := []) ⟨hx, hb, hml, hown, hts⟩ (k_X4_order l dC dI cy h0 hc w a f H.size (f imend) v) (cwV 2 hts gX4_end_X4_order rfl rfl rfl (by decide +kernel) ⟨Nat.le_of_ble_eq_true rfl, Nat.le_of_ble_eq_true rfl⟩) (xB.preV hKc hPc (ci := 6) (q0 := 0) rfl rfl) rfl rfl hl.1 rfl (lv_room (Nat.le_of_ble_eq_true rfl)) dX4_end_39 ⟨Nat.le_of_ble_eq_true rfl, Nat.le_of_ble_eq_true rfl⟩) hS xA_old (fun q h => hA q (Nat.le_trans hS.1 h)) (fun r_1 u t H locs ht hvm hw hB hz hk hS => ?_)
      replace hw : r_1 = (o_X4_order w (f imend) v) := hw
      subst r_1
      have hP := xP_keep hP hk
      refine lv_iload_n hx hb dX4_end_42 rfl (lv_at hl 6 rfl) ?_
      refine xz_eq (tgt := 50) hx hb dX4_end_43 (by decide +kernel) (fun c_2 => ?_) (fun c_2 => ?_)
      · skip
        refine lv_iconst (v := (-1)) hx hb dX4_end_50 (by decide +kernel) ?_
        refine lv_icmp_ne (tgt := 57) hx hb dX4_end_51 (by decide +kernel) (fun c_3 => ?_) (fun c_3 => ?_)
        · skip
          refine lv_iinc (v := (nI (imend + 1))) (lv' := [(6, .int (nI (imend + 1))), (7, .long (f imend)), (5, .int 8), (4, .ref hc), (2, .long v), (0, .ref h0), (1, .int (b2i p0))]) hx hb dX4_end_57 hl (k := 1) rfl (nI_1 imend) (by decide +kernel) rfl (fun ls hl => ?_)
          refine lv_goto (tgt := 21) hx hb dX4_end_60 (by decide +kernel) ?_
          refine W.widen (k := 0) (n := 0) (Nat.le_refl _) (Nat.le_refl _) ?_
          exact ih_mend (imend + 1) v _ _ _ (by omega) (by omega) (hsp_mend.trans (by (rw [L_mend, if_neg c_2, if_neg c_3]) <;> rfl)) hP hS (lv_sub hl [0, 2, 3, 4, 5, 6] rfl) K_mend
        · skip
          refine lv_lload hx hb dX4_end_54 (lv_at hl 0 rfl) ?_
          refine lv_lstore_n (lv' := [(2, .long (f imend)), (7, .long (f imend)), (6, .int (nI imend)), (5, .int 8), (4, .ref hc), (0, .ref h0), (1, .int (b2i p0))]) hx hb dX4_end_56 rfl hl (by decide +kernel) rfl (fun ls hl => ?_)
          refine lv_iinc (v := (nI (imend + 1))) (lv' := [(6, .int (nI (imend + 1))), (2, .long (f imend)), (7, .long (f imend)), (5, .int 8), (4, .ref hc), (0, .ref h0), (1, .int (b2i p0))]) hx hb dX4_end_57 hl (k := 2) rfl (nI_1 imend) (by decide +kernel) rfl (fun ls hl => ?_)
          refine lv_goto (tgt := 21) hx hb dX4_end_60 (by decide +kernel) ?_
          refine W.widen (k := 0) (n := 0) (Nat.le_refl _) (Nat.le_refl _) ?_
          exact ih_mend (imend + 1) (f imend) _ _ _ (by omega) (by omega) (hsp_mend.trans (by (rw [L_mend, if_neg c_2, if_pos c_3]) <;> rfl)) hP hS (lv_sub hl [0, 3, 4, 1, 5, 6] rfl) K_mend
      · skip
        refine lv_iconst (v := 1) hx hb dX4_end_46 (by decide +kernel) ?_
        refine lv_goto (tgt := 51) hx hb dX4_end_47 (by decide +kernel) ?_
        refine lv_icmp_ne (tgt := 57) hx hb dX4_end_51 (by decide +kernel) (fun c_4 => ?_) (fun c_4 => ?_)
        · skip
          refine lv_iinc (v := (nI (imend + 1))) (lv' := [(6, .int (nI (imend + 1))), (7, .long (f imend)), (5, .int 8), (4, .ref hc), (2, .long v), (0, .ref h0), (1, .int (b2i p0))]) hx hb dX4_end_57 hl (k := 1) rfl (nI_1 imend) (by decide +kernel) rfl (fun ls hl => ?_)
          refine lv_goto (tgt := 21) hx hb dX4_end_60 (by decide +kernel) ?_
          refine W.widen (k := 0) (n := 0) (Nat.le_refl _) (Nat.le_refl _) ?_
          exact ih_mend (imend + 1) v _ _ _ (by omega) (by omega) (hsp_mend.trans (by (rw [L_mend, if_pos c_2, if_neg c_4]) <;> rfl)) hP hS (lv_sub hl [0, 2, 3, 4, 5, 6] rfl) K_mend
        · skip
          refine lv_lload hx hb dX4_end_54 (lv_at hl 0 rfl) ?_
          refine lv_lstore_n (lv' := [(2, .long (f imend)), (7, .long (f imend)), (6, .int (nI imend)), (5, .int 8), (4, .ref hc), (0, .ref h0), (1, .int (b2i p0))]) hx hb dX4_end_56 rfl hl (by decide +kernel) rfl (fun ls hl => ?_)
          refine lv_iinc (v := (nI (imend + 1))) (lv' := [(6, .int (nI (imend + 1))), (2, .long (f imend)), (7, .long (f imend)), (5, .int 8), (4, .ref hc), (0, .ref h0), (1, .int (b2i p0))]) hx hb dX4_end_57 hl (k := 2) rfl (nI_1 imend) (by decide +kernel) rfl (fun ls hl => ?_)
          refine lv_goto (tgt := 21) hx hb dX4_end_60 (by decide +kernel) ?_
          refine W.widen (k := 0) (n := 0) (Nat.le_refl _) (Nat.le_refl _) ?_
          exact ih_mend (imend + 1) (f imend) _ _ _ (by omega) (by omega) (hsp_mend.trans (by (rw [L_mend, if_pos c_2, if_pos c_4]) <;> rfl)) hP hS (lv_sub hl [0, 3, 4, 1, 5, 6] rfl) K_mend
  refine loop_mend 8 0 (f 0) _ _ _ (by omega) (by omega) rfl hP hS (lv_sub hl [0, 1, 2, 3, 4, 5] rfl) (fun H locs ls hP hS hl => ?_)
  refine lv_lload_n hx hb dX4_end_63 rfl (lv_at hl 2 rfl) ?_
  have he : o_X4_end w f p0 = (L_mend w f p0 8 0 (f 0)) := by (rw [o_X4_end]) <;> rfl
  refine W.widen (k := 0) (n := 0) (by omega) (by omega) ?_
  exact W.lret (v := (L_mend w f p0 8 0 (f 0))) hx hb hr (fun t ht hW => ⟨⟨_, (), rfl, (by (rw [he]) <;> rfl), trivial⟩, hS.F ht⟩) hS.2.2 dX4_end_64
noncomputable def dz_p07_15 : List (Nat × Instr × Nat) := [(0, (.aload_n 0, 1)), (1, (.dup, 1)), (2, (.getfield 70, 3)), (5, (.iconst 1, 1)), (6, (.iadd, 1)), (7, (.putfield 70, 3)), (10, (.aload_n 0, 1)), (11, (.getfield 9, 3)), (14, (.iload_n 1, 1)), (15, (.laload, 1)), (16, (.lload_n 2, 1)), (17, (.lcmp, 1)), (18, (.ifCond .ne 7, 3)), (21, (.iconst 0, 1)), (22, (.goto 4, 3)), (25, (.iconst 1, 1)), (26, (.istore 4, 2)), (28, (.aload_n 0, 1)), (29, (.getfield 9, 3)), (32, (.iload_n 1, 1)), (33, (.lload_n 2, 1)), (34, (.lastore, 1)), (35, (.iload 4, 2)), (37, (.ireturn, 1))]
theorem dy_p07_15 : dz_ok cX4_come dz_p07_15 = true := by decide +kernel
theorem dX4_come_0 : decode cX4_come 0 = .ok (.aload_n 0, 1) := dz_at (i := 0) dy_p07_15 rfl
theorem dX4_come_1 : decode cX4_come 1 = .ok (.dup, 1) := dz_at (i := 1) dy_p07_15 rfl
theorem dX4_come_2 : decode cX4_come 2 = .ok (.getfield 70, 3) := dz_at (i := 2) dy_p07_15 rfl
theorem dX4_come_5 : decode cX4_come 5 = .ok (.iconst 1, 1) := dz_at (i := 3) dy_p07_15 rfl
theorem dX4_come_6 : decode cX4_come 6 = .ok (.iadd, 1) := dz_at (i := 4) dy_p07_15 rfl
theorem dX4_come_7 : decode cX4_come 7 = .ok (.putfield 70, 3) := dz_at (i := 5) dy_p07_15 rfl
theorem dX4_come_10 : decode cX4_come 10 = .ok (.aload_n 0, 1) := dz_at (i := 6) dy_p07_15 rfl
theorem dX4_come_11 : decode cX4_come 11 = .ok (.getfield 9, 3) := dz_at (i := 7) dy_p07_15 rfl
theorem dX4_come_14 : decode cX4_come 14 = .ok (.iload_n 1, 1) := dz_at (i := 8) dy_p07_15 rfl
theorem dX4_come_15 : decode cX4_come 15 = .ok (.laload, 1) := dz_at (i := 9) dy_p07_15 rfl
theorem dX4_come_16 : decode cX4_come 16 = .ok (.lload_n 2, 1) := dz_at (i := 10) dy_p07_15 rfl
theorem dX4_come_17 : decode cX4_come 17 = .ok (.lcmp, 1) := dz_at (i := 11) dy_p07_15 rfl
theorem dX4_come_18 : decode cX4_come 18 = .ok (.ifCond .ne 7, 3) := dz_at (i := 12) dy_p07_15 rfl
theorem dX4_come_21 : decode cX4_come 21 = .ok (.iconst 0, 1) := dz_at (i := 13) dy_p07_15 rfl
theorem dX4_come_22 : decode cX4_come 22 = .ok (.goto 4, 3) := dz_at (i := 14) dy_p07_15 rfl
theorem dX4_come_25 : decode cX4_come 25 = .ok (.iconst 1, 1) := dz_at (i := 15) dy_p07_15 rfl
theorem dX4_come_26 : decode cX4_come 26 = .ok (.istore 4, 2) := dz_at (i := 16) dy_p07_15 rfl
theorem dX4_come_28 : decode cX4_come 28 = .ok (.aload_n 0, 1) := dz_at (i := 17) dy_p07_15 rfl
theorem dX4_come_29 : decode cX4_come 29 = .ok (.getfield 9, 3) := dz_at (i := 18) dy_p07_15 rfl
theorem dX4_come_32 : decode cX4_come 32 = .ok (.iload_n 1, 1) := dz_at (i := 19) dy_p07_15 rfl
theorem dX4_come_33 : decode cX4_come 33 = .ok (.lload_n 2, 1) := dz_at (i := 20) dy_p07_15 rfl
theorem dX4_come_34 : decode cX4_come 34 = .ok (.lastore, 1) := dz_at (i := 21) dy_p07_15 rfl
theorem dX4_come_35 : decode cX4_come 35 = .ok (.iload 4, 2) := dz_at (i := 22) dy_p07_15 rfl
theorem dX4_come_37 : decode cX4_come 37 = .ok (.ireturn, 1) := dz_at (i := 23) dy_p07_15 rfl
noncomputable def o_X4_come (a : Int32) (f : Nat → Int64) (p0 : Int32) (p1 : Int64) : Int32 × Int32 × (Nat → Int64) :=
  if (f p0.toNatClampNeg) = p1 then (0, (a + 1), (vp_updL f p0.toNatClampNeg p1))
  else (1, (a + 1), (vp_updL f p0.toNatClampNeg p1))
set_option maxHeartbeats 4000000 in
set_option maxRecDepth 100000 in
theorem k_X4_come (l : Launch) (dC : Nat → ClassId) (dI : Nat → Nat → Nat) (cy : ClassId) (h0 : Nat) (hc : Nat) (w : Bool) (a : Int32) (f : Nat → Int64) (sz : Nat) (N : Nat) (p0 : Int32) (p1 : Int64) (hin_p0 : vp_in p0 8) : Met l yX4_come wsX4_come ({ frames := 0, cells := 0, slots := 0, locals := 0 }) (va_Pc [.ref h0, .int p0, .long p1] (xM (dC, dI) xCl [(h0, eMR w hc a), (hc, eA cy f)] [(cy, .long)] sz N)) (va_Qi (fun (r : Int32) (_ : Unit) => r = (o_X4_come a f p0 p1).1) (fun _ t => xW (dC, dI) xCl [(h0, eMR w hc (o_X4_come a f p0 p1).2.1), (hc, eA cy (o_X4_come a f p0 p1).2.2)] (va_A [(h0, eMR w hc a), (hc, eA cy f)] sz) t) (va_A [(h0, eMR w hc a), (hc, eA cy f)] sz)) 0 0 (va_A [(h0, eMR w hc a), (hc, eA cy f)] sz) := by
  refine Met.ofW (cc := cX4_come) (maxL := 5) (ret := (some .int)) (by decide +kernel) rfl ?_
  intro p e s m args below meth c s₁ B hml hv
  obtain ⟨rfl, hsz, hP, hK, hD0, hN, hG⟩ := hv
  have hx := B.exec
  have hb := B.bytes
  have hr := B.returns
  have hts := atoms_spec (ws := wsX4_come) B.pre
  have hown : s.vm.findClass RX4 = some m.cls := findClass_of_methodNamed B.named
  have hlocks := B.notSynchronized
  subst hsz
  have hAN : ∀ q, va_A [(h0, eMR w hc a), (hc, eA cy f)] s.heap.size q → N ≤ q := xA_N hD0 hN
  have hD := hD0.self (sz := s.heap.size)
  generalize hAe : va_A [(h0, eMR w hc a), (hc, eA cy f)] s.heap.size = A at hD hAN ⊢
  have hA : ∀ q : Nat, s.heap.size ≤ q → A q := fun q h => by rw [← hAe]; exact Or.inr h
  have hS : va_S A s.heap s.heap [] := va_S.rf
  have hP : va_P (dC, dI) xCl [(h0, eMR w hc a), (hc, eA cy f)] s.heap := hP
  have hl := lv_entry ([.ref h0, .int p0, .long p1]) (n := 5) (Nat.le_of_ble_eq_true rfl)
  rw [lg_entry_eq]
  generalize (lg_sl ([.ref h0, .int p0, .long p1]) ++ List.replicate (5 - (lg_sl ([.ref h0, .int p0, .long p1])).length) Slot.unset).toArray = ls at hl ⊢
  have hl : lv_has ls 5 [(0, .ref h0), (1, .int p0), (2, .long p1)] := hl
  refine lv_aload_n hx hb dX4_come_0 rfl (lv_at hl 0 rfl) ?_
  refine lv_dup hx hb dX4_come_1 rfl ?_
  refine va_get (D := (dC, dI)) (ci := 6) (v := .int a) (C := RX4) (T := TX4) (N := 5) hx hb hts (by decide +kernel) hown hK hP 0 rfl rfl 4 (by decide +kernel) (hts (.fieldLink RX4 70 "EdgefloatsModel$Row" "acts" "I") (by decide +kernel)) (fun _ h9 => h9) rfl dX4_come_2 ?_
  refine lv_iconst (v := 1) hx hb dX4_come_5 (by decide +kernel) ?_
  refine lv_iadd hx hb dX4_come_6 ?_
  refine va_put (D := (dC, dI)) (ci := 6) (v := .int (a + 1)) (ty := .int) (C := RX4) (T := TX4) (N := 5) hx hb hts (by decide +kernel) tyX4 tyX4_ok nmX4 hown hK hP hD hS 0 rfl rfl 4 (by decide +kernel) (hts (.fieldLink RX4 70 "EdgefloatsModel$Row" "acts" "I") (by decide +kernel)) (fun _ h9 => h9) rfl (by decide +kernel) rfl rfl (Nat.le_of_ble_eq_true rfl) dX4_come_7 (fun H locs hP hD hS => ?_)
  have hP : va_P (dC, dI) xCl [(h0, eMR w hc (a + 1)), (hc, eA cy f)] H := hP
  have hD : va_D A [(h0, eMR w hc (a + 1)), (hc, eA cy f)] := hD
  refine lv_aload_n hx hb dX4_come_10 rfl (lv_at hl 0 rfl) ?_
  refine va_get (D := (dC, dI)) (ci := 6) (v := .ref hc) (C := RX4) (T := TX4) (N := 5) hx hb hts (by decide +kernel) hown hK hP 0 rfl rfl 3 (by decide +kernel) (hts (.fieldLink RX4 9 "EdgefloatsModel$Row" "cells" "[J") (by decide +kernel)) (fun _ h9 => h9) rfl dX4_come_11 ?_
  refine lv_iload_n hx hb dX4_come_14 rfl (lv_at hl 1 rfl) ?_
  refine xa_lald hx hb hK hP 1 0 (f := f) rfl rfl (k := p0.toNatClampNeg) hin_p0 rfl dX4_come_15 ?_
  refine lv_lload_n hx hb dX4_come_16 rfl (lv_at hl 2 rfl) ?_
  refine xc_ne (tgt := 25) hx hb dX4_come_17 dX4_come_18 (by decide +kernel) (fun c_1 => ?_) (fun c_1 => ?_)
  · skip
    refine lv_iconst (v := 1) hx hb dX4_come_25 (by decide +kernel) ?_
    refine lv_istore (lv' := [(4, .int 1), (0, .ref h0), (1, .int p0), (2, .long p1)]) hx hb dX4_come_26 hl (by decide +kernel) rfl (fun ls hl => ?_)
    refine lv_aload_n hx hb dX4_come_28 rfl (lv_at hl 1 rfl) ?_
    refine va_get (D := (dC, dI)) (ci := 6) (v := .ref hc) (C := RX4) (T := TX4) (N := 5) hx hb hts (by decide +kernel) hown hK hP 0 rfl rfl 3 (by decide +kernel) (hts (.fieldLink RX4 9 "EdgefloatsModel$Row" "cells" "[J") (by decide +kernel)) (fun _ h9 => h9) rfl dX4_come_29 ?_
    refine lv_iload_n hx hb dX4_come_32 rfl (lv_at hl 2 rfl) ?_
    refine lv_lload_n hx hb dX4_come_33 rfl (lv_at hl 3 rfl) ?_
    refine xa_last hx hb hK hP hD hS 1 0 (f := f) rfl rfl (k := p0.toNatClampNeg) hin_p0 rfl dX4_come_34 (fun H locs hP hD hS => ?_)
    have hP : va_P (dC, dI) xCl [(h0, eMR w hc (a + 1)), (hc, eA cy (vp_updL f p0.toNatClampNeg p1))] H := hP
    have hD : va_D A [(h0, eMR w hc (a + 1)), (hc, eA cy (vp_updL f p0.toNatClampNeg p1))] := hD
    refine lv_iload hx hb dX4_come_35 (lv_at hl 0 rfl) ?_
    have he : o_X4_come a f p0 p1 = (1, (a + 1), (vp_updL f p0.toNatClampNeg p1)) := by (rw [o_X4_come, if_neg c_1]) <;> rfl
    refine W.widen (k := 0) (n := 0) (by omega) (by omega) ?_
    exact W.iret (v := 1) hx hb hr (fun t ht hW => ⟨⟨_, (), rfl, (by (rw [he]) <;> rfl), (by rw [he]; exact ⟨by rw [ht]; exact hP, hD⟩)⟩, hS.F ht⟩) hS.2.2 dX4_come_37
  · skip
    refine lv_iconst (v := 0) hx hb dX4_come_21 (by decide +kernel) ?_
    refine lv_goto (tgt := 26) hx hb dX4_come_22 (by decide +kernel) ?_
    refine lv_istore (lv' := [(4, .int 0), (0, .ref h0), (1, .int p0), (2, .long p1)]) hx hb dX4_come_26 hl (by decide +kernel) rfl (fun ls hl => ?_)
    refine lv_aload_n hx hb dX4_come_28 rfl (lv_at hl 1 rfl) ?_
    refine va_get (D := (dC, dI)) (ci := 6) (v := .ref hc) (C := RX4) (T := TX4) (N := 5) hx hb hts (by decide +kernel) hown hK hP 0 rfl rfl 3 (by decide +kernel) (hts (.fieldLink RX4 9 "EdgefloatsModel$Row" "cells" "[J") (by decide +kernel)) (fun _ h9 => h9) rfl dX4_come_29 ?_
    refine lv_iload_n hx hb dX4_come_32 rfl (lv_at hl 2 rfl) ?_
    refine lv_lload_n hx hb dX4_come_33 rfl (lv_at hl 3 rfl) ?_
    refine xa_last hx hb hK hP hD hS 1 0 (f := f) rfl rfl (k := p0.toNatClampNeg) hin_p0 rfl dX4_come_34 (fun H locs hP hD hS => ?_)
    have hP : va_P (dC, dI) xCl [(h0, eMR w hc (a + 1)), (hc, eA cy (vp_updL f p0.toNatClampNeg p1))] H := hP
    have hD : va_D A [(h0, eMR w hc (a + 1)), (hc, eA cy (vp_updL f p0.toNatClampNeg p1))] := hD
    refine lv_iload hx hb dX4_come_35 (lv_at hl 0 rfl) ?_
    have he : o_X4_come a f p0 p1 = (0, (a + 1), (vp_updL f p0.toNatClampNeg p1)) := by (rw [o_X4_come, if_pos c_1]) <;> rfl
    refine W.widen (k := 0) (n := 0) (by omega) (by omega) ?_
    exact W.iret (v := 0) hx hb hr (fun t ht hW => ⟨⟨_, (), rfl, (by (rw [he]) <;> rfl), (by rw [he]; exact ⟨by rw [ht]; exact hP, hD⟩)⟩, hS.F ht⟩) hS.2.2 dX4_come_37
theorem cl_X4_swap_1 : ∀ w ∈ [.fieldLink RX4 9 "EdgefloatsModel$Row" "cells" "[J", .methodLink RX4 73 yX4_come, .instanceMethod yX4_come, .selects RX4 yX4_come yX4_come, .initialized RX4, .code yX4_come cX4_come 5 (some .int), .fieldLink RX4 70 "EdgefloatsModel$Row" "acts" "I"], w ∈ wsX4_swap := fun _ h => (List.mem_cons_of_mem _ (List.mem_append_left _ h))
theorem cl_X4_swap_2 : ∀ w ∈ wsX40, w ∈ wsX4_swap := fun _ h => (List.mem_cons_of_mem _ (List.mem_append_right _ h))
set_option maxRecDepth 20000 in
theorem ggX4_swap_X4_come : GoodIn wsX4_swap wsX4_come := goodIn_sub (List.forall_mem_cons.mpr ⟨(cl_X4_swap_1 _ (List.mem_of_getElem? (i := 5) rfl)), fun w h => (List.mem_append.mp h).elim ((List.forall_mem_cons.mpr ⟨(cl_X4_swap_1 _ (List.mem_of_getElem? (i := 6) rfl)), List.forall_mem_cons.mpr ⟨(cl_X4_swap_1 _ (List.mem_of_getElem? (i := 0) rfl)), fun _ h => absurd h List.not_mem_nil⟩⟩) w) ((cl_X4_swap_2) w)⟩) (by decide +kernel)
set_option maxRecDepth 20000 in
theorem gX4_swap_X4_come : GoodIn wsX4_swap (wsV RX4 73 RX4 yX4_come wsX4_come) := goodIn_app (goodIn_sub (List.forall_mem_cons.mpr ⟨(cl_X4_swap_1 _ (List.mem_of_getElem? (i := 1) rfl)), List.forall_mem_cons.mpr ⟨(cl_X4_swap_1 _ (List.mem_of_getElem? (i := 2) rfl)), List.forall_mem_cons.mpr ⟨(cl_X4_swap_1 _ (List.mem_of_getElem? (i := 3) rfl)), List.forall_mem_cons.mpr ⟨(cl_X4_swap_1 _ (List.mem_of_getElem? (i := 4) rfl)), fun _ h => absurd h List.not_mem_nil⟩⟩⟩⟩) (by decide +kernel)) ggX4_swap_X4_come
noncomputable def dz_p07_16 : List (Nat × Instr × Nat) := [(0, (.aload_n 0, 1)), (1, (.getfield 9, 3)), (4, (.iload_n 1, 1)), (5, (.laload, 1)), (6, (.lstore_n 3, 1)), (7, (.lload_n 3, 1)), (8, (.aload_n 0, 1)), (9, (.getfield 9, 3)), (12, (.iload_n 2, 1)), (13, (.laload, 1)), (14, (.lcmp, 1)), (15, (.ifCond .ne 7, 3)), (18, (.iconst 0, 1)), (19, (.goto 4, 3)), (22, (.iconst 1, 1)), (23, (.istore 5, 2)), (25, (.aload_n 0, 1)), (26, (.getfield 9, 3)), (29, (.iload_n 1, 1)), (30, (.aload_n 0, 1)), (31, (.getfield 9, 3)), (34, (.iload_n 2, 1)), (35, (.laload, 1)), (36, (.lastore, 1)), (37, (.aload_n 0, 1)), (38, (.iload_n 2, 1)), (39, (.lload_n 3, 1)), (40, (.invokevirtual 73, 3)), (43, (.pop, 1)), (44, (.iload 5, 2)), (46, (.ireturn, 1))]
theorem dy_p07_16 : dz_ok cX4_swap dz_p07_16 = true := by decide +kernel
theorem dX4_swap_0 : decode cX4_swap 0 = .ok (.aload_n 0, 1) := dz_at (i := 0) dy_p07_16 rfl
theorem dX4_swap_1 : decode cX4_swap 1 = .ok (.getfield 9, 3) := dz_at (i := 1) dy_p07_16 rfl
theorem dX4_swap_4 : decode cX4_swap 4 = .ok (.iload_n 1, 1) := dz_at (i := 2) dy_p07_16 rfl
theorem dX4_swap_5 : decode cX4_swap 5 = .ok (.laload, 1) := dz_at (i := 3) dy_p07_16 rfl
theorem dX4_swap_6 : decode cX4_swap 6 = .ok (.lstore_n 3, 1) := dz_at (i := 4) dy_p07_16 rfl
theorem dX4_swap_7 : decode cX4_swap 7 = .ok (.lload_n 3, 1) := dz_at (i := 5) dy_p07_16 rfl
theorem dX4_swap_8 : decode cX4_swap 8 = .ok (.aload_n 0, 1) := dz_at (i := 6) dy_p07_16 rfl
theorem dX4_swap_9 : decode cX4_swap 9 = .ok (.getfield 9, 3) := dz_at (i := 7) dy_p07_16 rfl
theorem dX4_swap_12 : decode cX4_swap 12 = .ok (.iload_n 2, 1) := dz_at (i := 8) dy_p07_16 rfl
theorem dX4_swap_13 : decode cX4_swap 13 = .ok (.laload, 1) := dz_at (i := 9) dy_p07_16 rfl
theorem dX4_swap_14 : decode cX4_swap 14 = .ok (.lcmp, 1) := dz_at (i := 10) dy_p07_16 rfl
theorem dX4_swap_15 : decode cX4_swap 15 = .ok (.ifCond .ne 7, 3) := dz_at (i := 11) dy_p07_16 rfl
theorem dX4_swap_18 : decode cX4_swap 18 = .ok (.iconst 0, 1) := dz_at (i := 12) dy_p07_16 rfl
theorem dX4_swap_19 : decode cX4_swap 19 = .ok (.goto 4, 3) := dz_at (i := 13) dy_p07_16 rfl
theorem dX4_swap_22 : decode cX4_swap 22 = .ok (.iconst 1, 1) := dz_at (i := 14) dy_p07_16 rfl
theorem dX4_swap_23 : decode cX4_swap 23 = .ok (.istore 5, 2) := dz_at (i := 15) dy_p07_16 rfl
theorem dX4_swap_25 : decode cX4_swap 25 = .ok (.aload_n 0, 1) := dz_at (i := 16) dy_p07_16 rfl
theorem dX4_swap_26 : decode cX4_swap 26 = .ok (.getfield 9, 3) := dz_at (i := 17) dy_p07_16 rfl
theorem dX4_swap_29 : decode cX4_swap 29 = .ok (.iload_n 1, 1) := dz_at (i := 18) dy_p07_16 rfl
theorem dX4_swap_30 : decode cX4_swap 30 = .ok (.aload_n 0, 1) := dz_at (i := 19) dy_p07_16 rfl
theorem dX4_swap_31 : decode cX4_swap 31 = .ok (.getfield 9, 3) := dz_at (i := 20) dy_p07_16 rfl
theorem dX4_swap_34 : decode cX4_swap 34 = .ok (.iload_n 2, 1) := dz_at (i := 21) dy_p07_16 rfl
theorem dX4_swap_35 : decode cX4_swap 35 = .ok (.laload, 1) := dz_at (i := 22) dy_p07_16 rfl
theorem dX4_swap_36 : decode cX4_swap 36 = .ok (.lastore, 1) := dz_at (i := 23) dy_p07_16 rfl
theorem dX4_swap_37 : decode cX4_swap 37 = .ok (.aload_n 0, 1) := dz_at (i := 24) dy_p07_16 rfl
theorem dX4_swap_38 : decode cX4_swap 38 = .ok (.iload_n 2, 1) := dz_at (i := 25) dy_p07_16 rfl
theorem dX4_swap_39 : decode cX4_swap 39 = .ok (.lload_n 3, 1) := dz_at (i := 26) dy_p07_16 rfl
theorem dX4_swap_40 : decode cX4_swap 40 = .ok (.invokevirtual 73, 3) := dz_at (i := 27) dy_p07_16 rfl
theorem dX4_swap_43 : decode cX4_swap 43 = .ok (.pop, 1) := dz_at (i := 28) dy_p07_16 rfl
theorem dX4_swap_44 : decode cX4_swap 44 = .ok (.iload 5, 2) := dz_at (i := 29) dy_p07_16 rfl
theorem dX4_swap_46 : decode cX4_swap 46 = .ok (.ireturn, 1) := dz_at (i := 30) dy_p07_16 rfl
noncomputable def o_X4_swap (a : Int32) (f : Nat → Int64) (p0 : Int32) (p1 : Int32) : Int32 × Int32 × (Nat → Int64) :=
  if (f p0.toNatClampNeg) = (f p1.toNatClampNeg) then (0, (o_X4_come a (vp_updL f p0.toNatClampNeg (f p1.toNatClampNeg)) p1 (f p0.toNatClampNeg)).2.1, (o_X4_come a (vp_updL f p0.toNatClampNeg (f p1.toNatClampNeg)) p1 (f p0.toNatClampNeg)).2.2)
  else (1, (o_X4_come a (vp_updL f p0.toNatClampNeg (f p1.toNatClampNeg)) p1 (f p0.toNatClampNeg)).2.1, (o_X4_come a (vp_updL f p0.toNatClampNeg (f p1.toNatClampNeg)) p1 (f p0.toNatClampNeg)).2.2)
set_option maxHeartbeats 4000000 in
set_option maxRecDepth 100000 in
theorem k_X4_swap (l : Launch) (dC : Nat → ClassId) (dI : Nat → Nat → Nat) (cy : ClassId) (h0 : Nat) (hc : Nat) (w : Bool) (a : Int32) (f : Nat → Int64) (sz : Nat) (N : Nat) (p0 : Int32) (p1 : Int32) (hin_p0 : vp_in p0 8) (hin_p1 : vp_in p1 8) : Met l yX4_swap wsX4_swap ({ frames := 1, cells := 0, slots := 0, locals := 24 }) (va_Pc [.ref h0, .int p0, .int p1] (xM (dC, dI) xCl [(h0, eMR w hc a), (hc, eA cy f)] [(cy, .long)] sz N)) (va_Qi (fun (r : Int32) (_ : Unit) => r = (o_X4_swap a f p0 p1).1) (fun _ t => xW (dC, dI) xCl [(h0, eMR w hc (o_X4_swap a f p0 p1).2.1), (hc, eA cy (o_X4_swap a f p0 p1).2.2)] (va_A [(h0, eMR w hc a), (hc, eA cy f)] sz) t) (va_A [(h0, eMR w hc a), (hc, eA cy f)] sz)) 0 0 (va_A [(h0, eMR w hc a), (hc, eA cy f)] sz) := by
  refine Met.ofW (cc := cX4_swap) (maxL := 6) (ret := (some .int)) (by decide +kernel) rfl ?_
  intro p e s m args below meth c s₁ B hml hv
  obtain ⟨rfl, hsz, hP, hK, hD0, hN, hG⟩ := hv
  have hx := B.exec
  have hb := B.bytes
  have hr := B.returns
  have hts := atoms_spec (ws := wsX4_swap) B.pre
  have hown : s.vm.findClass RX4 = some m.cls := findClass_of_methodNamed B.named
  have hlocks := B.notSynchronized
  subst hsz
  have hAN : ∀ q, va_A [(h0, eMR w hc a), (hc, eA cy f)] s.heap.size q → N ≤ q := xA_N hD0 hN
  have hD := hD0.self (sz := s.heap.size)
  generalize hAe : va_A [(h0, eMR w hc a), (hc, eA cy f)] s.heap.size = A at hD hAN ⊢
  have hA : ∀ q : Nat, s.heap.size ≤ q → A q := fun q h => by rw [← hAe]; exact Or.inr h
  have hS : va_S A s.heap s.heap [] := va_S.rf
  have hP : va_P (dC, dI) xCl [(h0, eMR w hc a), (hc, eA cy f)] s.heap := hP
  have hl := lv_entry ([.ref h0, .int p0, .int p1]) (n := 6) (Nat.le_of_ble_eq_true rfl)
  rw [lg_entry_eq]
  generalize (lg_sl ([.ref h0, .int p0, .int p1]) ++ List.replicate (6 - (lg_sl ([.ref h0, .int p0, .int p1])).length) Slot.unset).toArray = ls at hl ⊢
  have hl : lv_has ls 6 [(0, .ref h0), (1, .int p0), (2, .int p1)] := hl
  refine lv_aload_n hx hb dX4_swap_0 rfl (lv_at hl 0 rfl) ?_
  refine va_get (D := (dC, dI)) (ci := 6) (v := .ref hc) (C := RX4) (T := TX4) (N := 5) hx hb hts (by decide +kernel) hown hK hP 0 rfl rfl 3 (by decide +kernel) (hts (.fieldLink RX4 9 "EdgefloatsModel$Row" "cells" "[J") (by decide +kernel)) (fun _ h9 => h9) rfl dX4_swap_1 ?_
  refine lv_iload_n hx hb dX4_swap_4 rfl (lv_at hl 1 rfl) ?_
  refine xa_lald hx hb hK hP 1 0 (f := f) rfl rfl (k := p0.toNatClampNeg) hin_p0 rfl dX4_swap_5 ?_
  refine lv_lstore_n (lv' := [(3, .long (f p0.toNatClampNeg)), (0, .ref h0), (1, .int p0), (2, .int p1)]) hx hb dX4_swap_6 rfl hl (by decide +kernel) rfl (fun ls hl => ?_)
  refine lv_lload_n hx hb dX4_swap_7 rfl (lv_at hl 0 rfl) ?_
  refine lv_aload_n hx hb dX4_swap_8 rfl (lv_at hl 1 rfl) ?_
  refine va_get (D := (dC, dI)) (ci := 6) (v := .ref hc) (C := RX4) (T := TX4) (N := 5) hx hb hts (by decide +kernel) hown hK hP 0 rfl rfl 3 (by decide +kernel) (hts (.fieldLink RX4 9 "EdgefloatsModel$Row" "cells" "[J") (by decide +kernel)) (fun _ h9 => h9) rfl dX4_swap_9 ?_
  refine lv_iload_n hx hb dX4_swap_12 rfl (lv_at hl 3 rfl) ?_
  refine xa_lald hx hb hK hP 1 0 (f := f) rfl rfl (k := p1.toNatClampNeg) hin_p1 rfl dX4_swap_13 ?_
  refine xc_ne (tgt := 22) hx hb dX4_swap_14 dX4_swap_15 (by decide +kernel) (fun c_1 => ?_) (fun c_1 => ?_)
  · skip
    refine lv_iconst (v := 1) hx hb dX4_swap_22 (by decide +kernel) ?_
    refine lv_istore (lv' := [(5, .int 1), (3, .long (f p0.toNatClampNeg)), (0, .ref h0), (1, .int p0), (2, .int p1)]) hx hb dX4_swap_23 hl (by decide +kernel) rfl (fun ls hl => ?_)
    refine lv_aload_n hx hb dX4_swap_25 rfl (lv_at hl 2 rfl) ?_
    refine va_get (D := (dC, dI)) (ci := 6) (v := .ref hc) (C := RX4) (T := TX4) (N := 5) hx hb hts (by decide +kernel) hown hK hP 0 rfl rfl 3 (by decide +kernel) (hts (.fieldLink RX4 9 "EdgefloatsModel$Row" "cells" "[J") (by decide +kernel)) (fun _ h9 => h9) rfl dX4_swap_26 ?_
    refine lv_iload_n hx hb dX4_swap_29 rfl (lv_at hl 3 rfl) ?_
    refine lv_aload_n hx hb dX4_swap_30 rfl (lv_at hl 2 rfl) ?_
    refine va_get (D := (dC, dI)) (ci := 6) (v := .ref hc) (C := RX4) (T := TX4) (N := 5) hx hb hts (by decide +kernel) hown hK hP 0 rfl rfl 3 (by decide +kernel) (hts (.fieldLink RX4 9 "EdgefloatsModel$Row" "cells" "[J") (by decide +kernel)) (fun _ h9 => h9) rfl dX4_swap_31 ?_
    refine lv_iload_n hx hb dX4_swap_34 rfl (lv_at hl 4 rfl) ?_
    refine xa_lald hx hb hK hP 1 0 (f := f) rfl rfl (k := p1.toNatClampNeg) hin_p1 rfl dX4_swap_35 ?_
    refine xa_last hx hb hK hP hD hS 1 0 (f := f) rfl rfl (k := p0.toNatClampNeg) hin_p0 rfl dX4_swap_36 (fun H locs hP hD hS => ?_)
    have hP : va_P (dC, dI) xCl [(h0, eMR w hc a), (hc, eA cy (vp_updL f p0.toNatClampNeg (f p1.toNatClampNeg)))] H := hP
    have hD : va_D A [(h0, eMR w hc a), (hc, eA cy (vp_updL f p0.toNatClampNeg (f p1.toNatClampNeg)))] := hD
    refine lv_aload_n hx hb dX4_swap_37 rfl (lv_at hl 2 rfl) ?_
    refine lv_iload_n hx hb dX4_swap_38 rfl (lv_at hl 4 rfl) ?_
    refine lv_lload_n hx hb dX4_swap_39 rfl (lv_at hl 1 rfl) ?_
    have hPc := hP.sub (ws' := [(h0, eMR w hc a), (hc, eA cy (vp_updL f p0.toNatClampNeg (f p1.toNatClampNeg)))]) [0, 1] rfl
    have hDc := hD.sub (ws' := [(h0, eMR w hc a), (hc, eA cy (vp_updL f p0.toNatClampNeg (f p1.toNatClampNeg)))]) [0, 1] (by decide +kernel) rfl
    have hKc := hK.sub (tys' := [(cy, .long)]) [0] rfl
    have hFc := va_free (wc := [(h0, eMR w hc a), (hc, eA cy (vp_updL f p0.toNatClampNeg (f p1.toNatClampNeg)))]) hD hS hA [0, 1] rfl
    refine va_calli (va_runV (As := [.int p1, .long (f p0.toNatClampNeg)]) (rest := []) ⟨hx, hb, hml, hown, hts⟩ (k_X4_come l dC dI cy h0 hc w a (vp_updL f p0.toNatClampNeg (f p1.toNatClampNeg)) H.size N p1 (f p0.toNatClampNeg) hin_p1) (cwV 2 hts gX4_swap_X4_come rfl rfl rfl (by decide +kernel) ⟨Nat.le_of_ble_eq_true rfl, Nat.le_of_ble_eq_true rfl⟩) (xM.preV hKc hPc hDc hAN (Nat.le_trans hN hS.1) (hG.kept hS hAN) (ci := 6) (q0 := 0) rfl rfl) rfl rfl hl.1 rfl (lv_room (Nat.le_of_ble_eq_true rfl)) dX4_swap_40 ⟨Nat.le_of_ble_eq_true rfl, Nat.le_of_ble_eq_true rfl⟩) hS (fun q _ h => hFc q h) hFc (fun r_2 u t H locs ht hvm hw hB hz hk hS => ?_)
    replace hw : r_2 = (o_X4_come a (vp_updL f p0.toNatClampNeg (f p1.toNatClampNeg)) p1 (f p0.toNatClampNeg)).1 := hw
    subst r_2
    obtain ⟨hP1, hD1⟩ := hB
    rw [ht] at hP1
    obtain ⟨hP, hD⟩ := va_join (wr := []) (w1 := [(h0, eMR w hc (o_X4_come a (vp_updL f p0.toNatClampNeg (f p1.toNatClampNeg)) p1 (f p0.toNatClampNeg)).2.1), (hc, eA cy (o_X4_come a (vp_updL f p0.toNatClampNeg (f p1.toNatClampNeg)) p1 (f p0.toNatClampNeg)).2.2)]) hP hD [0, 1] [] rfl rfl (by decide +kernel) (by decide +kernel) hk hFc hP1 hD1
    have hP := hP.sub (ws' := [(h0, eMR w hc (o_X4_come a (vp_updL f p0.toNatClampNeg (f p1.toNatClampNeg)) p1 (f p0.toNatClampNeg)).2.1), (hc, eA cy (o_X4_come a (vp_updL f p0.toNatClampNeg (f p1.toNatClampNeg)) p1 (f p0.toNatClampNeg)).2.2)]) [0, 1] rfl
    have hD := hD.sub (ws' := [(h0, eMR w hc (o_X4_come a (vp_updL f p0.toNatClampNeg (f p1.toNatClampNeg)) p1 (f p0.toNatClampNeg)).2.1), (hc, eA cy (o_X4_come a (vp_updL f p0.toNatClampNeg (f p1.toNatClampNeg)) p1 (f p0.toNatClampNeg)).2.2)]) [0, 1] (by decide +kernel) rfl
    refine lv_pop hx hb dX4_swap_43 rfl ?_
    refine lv_iload hx hb dX4_swap_44 (lv_at hl 0 rfl) ?_
    have he : o_X4_swap a f p0 p1 = (1, (o_X4_come a (vp_updL f p0.toNatClampNeg (f p1.toNatClampNeg)) p1 (f p0.toNatClampNeg)).2.1, (o_X4_come a (vp_updL f p0.toNatClampNeg (f p1.toNatClampNeg)) p1 (f p0.toNatClampNeg)).2.2) := by (rw [o_X4_swap, if_neg c_1]) <;> rfl
    refine W.widen (k := 0) (n := 0) (by omega) (by omega) ?_
    exact W.iret (v := 1) hx hb hr (fun t ht hW => ⟨⟨_, (), rfl, (by (rw [he]) <;> rfl), (by rw [he]; exact ⟨by rw [ht]; exact hP, hD⟩)⟩, hS.F ht⟩) hS.2.2 dX4_swap_46
  · skip
    refine lv_iconst (v := 0) hx hb dX4_swap_18 (by decide +kernel) ?_
    refine lv_goto (tgt := 23) hx hb dX4_swap_19 (by decide +kernel) ?_
    refine lv_istore (lv' := [(5, .int 0), (3, .long (f p0.toNatClampNeg)), (0, .ref h0), (1, .int p0), (2, .int p1)]) hx hb dX4_swap_23 hl (by decide +kernel) rfl (fun ls hl => ?_)
    refine lv_aload_n hx hb dX4_swap_25 rfl (lv_at hl 2 rfl) ?_
    refine va_get (D := (dC, dI)) (ci := 6) (v := .ref hc) (C := RX4) (T := TX4) (N := 5) hx hb hts (by decide +kernel) hown hK hP 0 rfl rfl 3 (by decide +kernel) (hts (.fieldLink RX4 9 "EdgefloatsModel$Row" "cells" "[J") (by decide +kernel)) (fun _ h9 => h9) rfl dX4_swap_26 ?_
    refine lv_iload_n hx hb dX4_swap_29 rfl (lv_at hl 3 rfl) ?_
    refine lv_aload_n hx hb dX4_swap_30 rfl (lv_at hl 2 rfl) ?_
    refine va_get (D := (dC, dI)) (ci := 6) (v := .ref hc) (C := RX4) (T := TX4) (N := 5) hx hb hts (by decide +kernel) hown hK hP 0 rfl rfl 3 (by decide +kernel) (hts (.fieldLink RX4 9 "EdgefloatsModel$Row" "cells" "[J") (by decide +kernel)) (fun _ h9 => h9) rfl dX4_swap_31 ?_
    refine lv_iload_n hx hb dX4_swap_34 rfl (lv_at hl 4 rfl) ?_
    refine xa_lald hx hb hK hP 1 0 (f := f) rfl rfl (k := p1.toNatClampNeg) hin_p1 rfl dX4_swap_35 ?_
    refine xa_last hx hb hK hP hD hS 1 0 (f := f) rfl rfl (k := p0.toNatClampNeg) hin_p0 rfl dX4_swap_36 (fun H locs hP hD hS => ?_)
    have hP : va_P (dC, dI) xCl [(h0, eMR w hc a), (hc, eA cy (vp_updL f p0.toNatClampNeg (f p1.toNatClampNeg)))] H := hP
    have hD : va_D A [(h0, eMR w hc a), (hc, eA cy (vp_updL f p0.toNatClampNeg (f p1.toNatClampNeg)))] := hD
    refine lv_aload_n hx hb dX4_swap_37 rfl (lv_at hl 2 rfl) ?_
    refine lv_iload_n hx hb dX4_swap_38 rfl (lv_at hl 4 rfl) ?_
    refine lv_lload_n hx hb dX4_swap_39 rfl (lv_at hl 1 rfl) ?_
    have hPc := hP.sub (ws' := [(h0, eMR w hc a), (hc, eA cy (vp_updL f p0.toNatClampNeg (f p1.toNatClampNeg)))]) [0, 1] rfl
    have hDc := hD.sub (ws' := [(h0, eMR w hc a), (hc, eA cy (vp_updL f p0.toNatClampNeg (f p1.toNatClampNeg)))]) [0, 1] (by decide +kernel) rfl
    have hKc := hK.sub (tys' := [(cy, .long)]) [0] rfl
    have hFc := va_free (wc := [(h0, eMR w hc a), (hc, eA cy (vp_updL f p0.toNatClampNeg (f p1.toNatClampNeg)))]) hD hS hA [0, 1] rfl
    refine va_calli (va_runV (As := [.int p1, .long (f p0.toNatClampNeg)]) (rest := []) ⟨hx, hb, hml, hown, hts⟩ (k_X4_come l dC dI cy h0 hc w a (vp_updL f p0.toNatClampNeg (f p1.toNatClampNeg)) H.size N p1 (f p0.toNatClampNeg) hin_p1) (cwV 2 hts gX4_swap_X4_come rfl rfl rfl (by decide +kernel) ⟨Nat.le_of_ble_eq_true rfl, Nat.le_of_ble_eq_true rfl⟩) (xM.preV hKc hPc hDc hAN (Nat.le_trans hN hS.1) (hG.kept hS hAN) (ci := 6) (q0 := 0) rfl rfl) rfl rfl hl.1 rfl (lv_room (Nat.le_of_ble_eq_true rfl)) dX4_swap_40 ⟨Nat.le_of_ble_eq_true rfl, Nat.le_of_ble_eq_true rfl⟩) hS (fun q _ h => hFc q h) hFc (fun r_3 u t H locs ht hvm hw hB hz hk hS => ?_)
    replace hw : r_3 = (o_X4_come a (vp_updL f p0.toNatClampNeg (f p1.toNatClampNeg)) p1 (f p0.toNatClampNeg)).1 := hw
    subst r_3
    obtain ⟨hP1, hD1⟩ := hB
    rw [ht] at hP1
    obtain ⟨hP, hD⟩ := va_join (wr := []) (w1 := [(h0, eMR w hc (o_X4_come a (vp_updL f p0.toNatClampNeg (f p1.toNatClampNeg)) p1 (f p0.toNatClampNeg)).2.1), (hc, eA cy (o_X4_come a (vp_updL f p0.toNatClampNeg (f p1.toNatClampNeg)) p1 (f p0.toNatClampNeg)).2.2)]) hP hD [0, 1] [] rfl rfl (by decide +kernel) (by decide +kernel) hk hFc hP1 hD1
    have hP := hP.sub (ws' := [(h0, eMR w hc (o_X4_come a (vp_updL f p0.toNatClampNeg (f p1.toNatClampNeg)) p1 (f p0.toNatClampNeg)).2.1), (hc, eA cy (o_X4_come a (vp_updL f p0.toNatClampNeg (f p1.toNatClampNeg)) p1 (f p0.toNatClampNeg)).2.2)]) [0, 1] rfl
    have hD := hD.sub (ws' := [(h0, eMR w hc (o_X4_come a (vp_updL f p0.toNatClampNeg (f p1.toNatClampNeg)) p1 (f p0.toNatClampNeg)).2.1), (hc, eA cy (o_X4_come a (vp_updL f p0.toNatClampNeg (f p1.toNatClampNeg)) p1 (f p0.toNatClampNeg)).2.2)]) [0, 1] (by decide +kernel) rfl
    refine lv_pop hx hb dX4_swap_43 rfl ?_
    refine lv_iload hx hb dX4_swap_44 (lv_at hl 0 rfl) ?_
    have he : o_X4_swap a f p0 p1 = (0, (o_X4_come a (vp_updL f p0.toNatClampNeg (f p1.toNatClampNeg)) p1 (f p0.toNatClampNeg)).2.1, (o_X4_come a (vp_updL f p0.toNatClampNeg (f p1.toNatClampNeg)) p1 (f p0.toNatClampNeg)).2.2) := by (rw [o_X4_swap, if_pos c_1]) <;> rfl
    refine W.widen (k := 0) (n := 0) (by omega) (by omega) ?_
    exact W.iret (v := 0) hx hb hr (fun t ht hW => ⟨⟨_, (), rfl, (by (rw [he]) <;> rfl), (by rw [he]; exact ⟨by rw [ht]; exact hP, hD⟩)⟩, hS.F ht⟩) hS.2.2 dX4_swap_46
