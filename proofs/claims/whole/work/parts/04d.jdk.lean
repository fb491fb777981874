noncomputable def dz_p04d_1 : List (Nat × Instr × Nat) := [(0, (.getstatic 38, 3)), (3, (.ifCond .eq 10, 3)), (6, (.aload_n 0, 1)), (7, (.getfield 15, 3)), (10, (.goto 4, 3)), (13, (.iconst 1, 1)), (14, (.ireturn, 1))]
theorem dy_p04d_1 : dz_ok cJ0_coder_7d493 dz_p04d_1 = true := by decide +kernel
theorem dJ0_coder_7d493_0 : decode cJ0_coder_7d493 0 = .ok (.getstatic 38, 3) := dz_at (i := 0) dy_p04d_1 rfl
theorem dJ0_coder_7d493_3 : decode cJ0_coder_7d493 3 = .ok (.ifCond .eq 10, 3) := dz_at (i := 1) dy_p04d_1 rfl
theorem dJ0_coder_7d493_6 : decode cJ0_coder_7d493 6 = .ok (.aload_n 0, 1) := dz_at (i := 2) dy_p04d_1 rfl
theorem dJ0_coder_7d493_7 : decode cJ0_coder_7d493 7 = .ok (.getfield 15, 3) := dz_at (i := 3) dy_p04d_1 rfl
theorem dJ0_coder_7d493_10 : decode cJ0_coder_7d493 10 = .ok (.goto 4, 3) := dz_at (i := 4) dy_p04d_1 rfl
theorem dJ0_coder_7d493_13 : decode cJ0_coder_7d493 13 = .ok (.iconst 1, 1) := dz_at (i := 5) dy_p04d_1 rfl
theorem dJ0_coder_7d493_14 : decode cJ0_coder_7d493 14 = .ok (.ireturn, 1) := dz_at (i := 6) dy_p04d_1 rfl
set_option maxHeartbeats 4000000 in
set_option maxRecDepth 100000 in
theorem k_J0_coder_7d493 (l : Launch) (dC : Nat → ClassId) (dI : Nat → Nat → Nat) (cB : ClassId) (a : Nat) (y : Nat) (w : Nat) (b : List Int32) (sz N : Nat) (hwl : w ≤ 2) : Met l yJ0_coder_7d493 wsJ0_coder_7d493 ({ frames := 0, cells := 0, slots := 0, locals := 0 }) (va_Pc [.ref a] (xS (dC, dI) xCl [] [(cB, .byte)] a y w b sz N)) (va_Qi (fun (r : Int32) (u : Unit) => r = 0) (fun (u : Unit) t => xW (dC, dI) xCl [] (va_A [] sz) t) (va_A [] sz)) 0 0 (va_A [] sz) := by
  refine Met.ofW (cc := cJ0_coder_7d493) (maxL := 1) (ret := (some .byte)) (by decide +kernel) rfl ?_
  intro p e s m args below meth c s₁ B hml hv
  obtain ⟨rfl, ⟨⟨hsz, hP, hK, hD0, hN, hG⟩, hT⟩, hSs⟩ := hv
  have hx := B.exec
  have hb := B.bytes
  have hr := B.returns
  have hts := atoms_spec (ws := wsJ0_coder_7d493) B.pre
  have hown : s.vm.findClass RJ0 = some m.cls := findClass_of_methodNamed B.named
  have hlocks := B.notSynchronized
  subst hsz
  have hAN : ∀ q, va_A [] s.heap.size q → N ≤ q := xA_N hD0 hN
  have hD := hD0.self (sz := s.heap.size)
  generalize hAe : va_A [] s.heap.size = A at hD hAN ⊢
  have hA : ∀ q : Nat, s.heap.size ≤ q → A q := fun q h => by rw [← hAe]; exact Or.inr h
  have hS : va_S A s.heap s.heap [] := va_S.rf
  have hP : va_P (dC, dI) xCl [] s.heap := hP
  obtain ⟨hTc, ⟨tO, tT, fO, fT, hTo, hTt, hTa, hTb, hTf, hTg⟩, ⟨adK, adV, hTs, hTr0, hTr1, hTr2⟩, ⟨aE, hTe⟩, hTn⟩ := id hT
  have hl := lv_entry ([.ref a]) (n := 1) (Nat.le_of_ble_eq_true rfl)
  rw [lg_entry_eq]
  generalize (lg_sl ([.ref a]) ++ List.replicate (1 - (lg_sl ([.ref a])).length) Slot.unset).toArray = ls at hl ⊢
  have hl : lv_has ls 1 [(0, .ref a)] := hl
  refine va_gets hx hb (va_Z.narrow hTc hAN) hS hown (hts (.fieldLink RJ0 38 "java/lang/String" "COMPACT_STRINGS" "Z") (by decide +kernel)) (fun _ h9 => h9) dJ0_coder_7d493_0 ?_
  refine lv_if_eq (tgt := 13) hx hb dJ0_coder_7d493_3 (by decide +kernel) (fun c9 => absurd c9 (by decide +kernel)) (fun _ => ?_)
  refine lv_aload_n hx hb dJ0_coder_7d493_6 rfl (lv_at hl 0 rfl) ?_
  refine vk_getf hx hb (va_OF.narrow (hSs.1 0 (by decide +kernel)).2.1 hAN) hS hown (hts (.fieldLink RJ0 15 "java/lang/String" "coder" "B") (by decide +kernel)) (fun _ h9 => h9) dJ0_coder_7d493_7 ?_
  refine lv_goto (tgt := 14) hx hb dJ0_coder_7d493_10 (by decide +kernel) ?_
  have hP := xP_nil (D := (dC, dI)) (cl := xCl) (H := s.heap)
  have hD := xD_nil (A := A)
  refine W.widen (k := 0) (n := 0) (by omega) (by omega) ?_
  exact W.zret (v := 0) (ty := .byte) hx hb hr rfl (fun t ht hW => ⟨⟨_, (), rfl, rfl, by rw [ht]; exact hP, hD⟩, hS.F ht⟩) hS.2.2 dJ0_coder_7d493_14
theorem cl_J0_length_8abf5_1 : ∀ w ∈ [.fieldLink RJ0 9 "java/lang/String" "value" "[B", .methodLink RJ0 335 yJ0_coder_7d493, .instanceMethod yJ0_coder_7d493, .selects RJ0 yJ0_coder_7d493 yJ0_coder_7d493, .initialized RJ0, .code yJ0_coder_7d493 cJ0_coder_7d493 1 (some .byte), .fieldLink RJ0 38 "java/lang/String" "COMPACT_STRINGS" "Z", .fieldLink RJ0 15 "java/lang/String" "coder" "B"], w ∈ wsJ0_length_8abf5 := fun _ h => (List.mem_cons_of_mem _ (List.mem_append_left _ h))
theorem cl_J0_length_8abf5_2 : ∀ w ∈ wsJ00, w ∈ wsJ0_length_8abf5 := fun _ h => (List.mem_cons_of_mem _ (List.mem_append_right _ h))
set_option maxRecDepth 20000 in
theorem ggJ0_length_8abf5_J0_coder_7d493 : GoodIn wsJ0_length_8abf5 wsJ0_coder_7d493 := goodIn_sub (List.forall_mem_cons.mpr ⟨(cl_J0_length_8abf5_1 _ (List.mem_of_getElem? (i := 5) rfl)), fun w h => (List.mem_append.mp h).elim ((List.forall_mem_cons.mpr ⟨(cl_J0_length_8abf5_1 _ (List.mem_of_getElem? (i := 6) rfl)), List.forall_mem_cons.mpr ⟨(cl_J0_length_8abf5_1 _ (List.mem_of_getElem? (i := 7) rfl)), fun _ h => absurd h List.not_mem_nil⟩⟩) w) ((cl_J0_length_8abf5_2) w)⟩) (by decide +kernel)
set_option maxRecDepth 20000 in
theorem gJ0_length_8abf5_J0_coder_7d493 : GoodIn wsJ0_length_8abf5 (wsV RJ0 335 RJ0 yJ0_coder_7d493 wsJ0_coder_7d493) := goodIn_app (goodIn_sub (List.forall_mem_cons.mpr ⟨(cl_J0_length_8abf5_1 _ (List.mem_of_getElem? (i := 1) rfl)), List.forall_mem_cons.mpr ⟨(cl_J0_length_8abf5_1 _ (List.mem_of_getElem? (i := 2) rfl)), List.forall_mem_cons.mpr ⟨(cl_J0_length_8abf5_1 _ (List.mem_of_getElem? (i := 3) rfl)), List.forall_mem_cons.mpr ⟨(cl_J0_length_8abf5_1 _ (List.mem_of_getElem? (i := 4) rfl)), fun _ h => absurd h List.not_mem_nil⟩⟩⟩⟩) (by decide +kernel)) ggJ0_length_8abf5_J0_coder_7d493
noncomputable def dz_p04d_2 : List (Nat × Instr × Nat) := [(0, (.aload_n 0, 1)), (1, (.getfield 9, 3)), (4, (.arraylength, 1)), (5, (.aload_n 0, 1)), (6, (.invokevirtual 335, 3)), (9, (.ishr, 1)), (10, (.ireturn, 1))]
theorem dy_p04d_2 : dz_ok cJ0_length_8abf5 dz_p04d_2 = true := by decide +kernel
theorem dJ0_length_8abf5_0 : decode cJ0_length_8abf5 0 = .ok (.aload_n 0, 1) := dz_at (i := 0) dy_p04d_2 rfl
theorem dJ0_length_8abf5_1 : decode cJ0_length_8abf5 1 = .ok (.getfield 9, 3) := dz_at (i := 1) dy_p04d_2 rfl
theorem dJ0_length_8abf5_4 : decode cJ0_length_8abf5 4 = .ok (.arraylength, 1) := dz_at (i := 2) dy_p04d_2 rfl
theorem dJ0_length_8abf5_5 : decode cJ0_length_8abf5 5 = .ok (.aload_n 0, 1) := dz_at (i := 3) dy_p04d_2 rfl
theorem dJ0_length_8abf5_6 : decode cJ0_length_8abf5 6 = .ok (.invokevirtual 335, 3) := dz_at (i := 4) dy_p04d_2 rfl
theorem dJ0_length_8abf5_9 : decode cJ0_length_8abf5 9 = .ok (.ishr, 1) := dz_at (i := 5) dy_p04d_2 rfl
theorem dJ0_length_8abf5_10 : decode cJ0_length_8abf5 10 = .ok (.ireturn, 1) := dz_at (i := 6) dy_p04d_2 rfl
set_option maxHeartbeats 4000000 in
set_option maxRecDepth 100000 in
theorem k_J0_length_8abf5 (l : Launch) (dC : Nat → ClassId) (dI : Nat → Nat → Nat) (cB : ClassId) (a : Nat) (y : Nat) (w : Nat) (b : List Int32) (sz N : Nat) (hwl : w ≤ 2) : Met l yJ0_length_8abf5 wsJ0_length_8abf5 ({ frames := 1, cells := 0, slots := 0, locals := 20 }) (va_Pc [.ref a] (xS (dC, dI) xCl [] [(cB, .byte)] a y w b sz N)) (va_Qi (fun (r : Int32) (u : Unit) => r = nI w) (fun (u : Unit) t => xW (dC, dI) xCl [] (va_A [] sz) t) (va_A [] sz)) 0 0 (va_A [] sz) := by
  refine Met.ofW (cc := cJ0_length_8abf5) (maxL := 1) (ret := (some .int)) (by decide +kernel) rfl ?_
  intro p e s m args below meth c s₁ B hml hv
  obtain ⟨rfl, ⟨⟨hsz, hP, hK, hD0, hN, hG⟩, hT⟩, hSs⟩ := hv
  have hx := B.exec
  have hb := B.bytes
  have hr := B.returns
  have hts := atoms_spec (ws := wsJ0_length_8abf5) B.pre
  have hown : s.vm.findClass RJ0 = some m.cls := findClass_of_methodNamed B.named
  have hlocks := B.notSynchronized
  subst hsz
  have hAN : ∀ q, va_A [] s.heap.size q → N ≤ q := xA_N hD0 hN
  have hD := hD0.self (sz := s.heap.size)
  generalize hAe : va_A [] s.heap.size = A at hD hAN ⊢
  have hA : ∀ q : Nat, s.heap.size ≤ q → A q := fun q h => by rw [← hAe]; exact Or.inr h
  have hS : va_S A s.heap s.heap [] := va_S.rf
  have hP : va_P (dC, dI) xCl [] s.heap := hP
  obtain ⟨hTc, ⟨tO, tT, fO, fT, hTo, hTt, hTa, hTb, hTf, hTg⟩, ⟨adK, adV, hTs, hTr0, hTr1, hTr2⟩, ⟨aE, hTe⟩, hTn⟩ := id hT
  have hl := lv_entry ([.ref a]) (n := 1) (Nat.le_of_ble_eq_true rfl)
  rw [lg_entry_eq]
  generalize (lg_sl ([.ref a]) ++ List.replicate (1 - (lg_sl ([.ref a])).length) Slot.unset).toArray = ls at hl ⊢
  have hl : lv_has ls 1 [(0, .ref a)] := hl
  refine lv_aload_n hx hb dJ0_length_8abf5_0 rfl (lv_at hl 0 rfl) ?_
  refine vk_getf hx hb (va_OF.narrow (hSs.1 0 (by decide +kernel)).2.2.1 hAN) hS hown (hts (.fieldLink RJ0 9 "java/lang/String" "value" "[B") (by decide +kernel)) (fun _ h9 => h9) dJ0_length_8abf5_1 ?_
  refine va_tlen hx hb (va_T.narrow (hSs.1 0 (by decide +kernel)).2.2.2 hAN) hS (v := (nI w)) rfl dJ0_length_8abf5_4 ?_
  refine lv_aload_n hx hb dJ0_length_8abf5_5 rfl (lv_at hl 0 rfl) ?_
  have hPc := xP_nil (D := (dC, dI)) (cl := xCl) (H := s.heap)
  have hDc := xD_nil (A := A)
  have hKc := hK.sub (tys' := [(cB, .byte)]) [0] rfl
  have hFc := va_free (wc := []) hD hS hA [] rfl
  refine va_calli (va_runV (As := []) (rest := [.int (nI w)]) ⟨hx, hb, hml, hown, hts⟩ (k_J0_coder_7d493 l dC dI cB a y w b s.heap.size N hwl) (cwV 0 hts gJ0_length_8abf5_J0_coder_7d493 rfl rfl rfl (by decide +kernel) ⟨Nat.le_of_ble_eq_true rfl, Nat.le_of_ble_eq_true rfl⟩) (xS.preVS hKc hPc hDc hAN (Nat.le_trans hN hS.1) (hG.kept hS hAN) (hT.kept hS hAN) (hSs.kept (fun q h1 h2 => hS.2.1 q h1 (fun z => h2 (hAN q z)))) (vk_recv (hSs.narrow hAN) (i := 0) (by decide +kernel) hS)) rfl rfl hl.1 rfl (lv_room (Nat.le_of_ble_eq_true rfl)) dJ0_length_8abf5_6 ⟨(show _ ≤ 0 by omega), (show _ ≤ 0 by omega)⟩) hS (fun q _ h => hFc q h) hFc (fun r_1 u_2 t H locs ht hvm hw hB hz hk hS => ?_)
  obtain ⟨hP1, hD1⟩ := hB
  rw [ht] at hP1
  obtain ⟨hP, hD⟩ := va_join (wr := []) (w1 := []) hP hD [] [] rfl rfl (by decide +kernel) (by decide +kernel) hk hFc hP1 hD1
  have hP : va_P (dC, dI) xCl [] H := hP
  have hD : va_D A [] := hD
  have hw : r_1 = 0 := hw
  rw [hw]
  refine lv_ishr hx hb dJ0_length_8abf5_9 ?_
  rw [show ((((nI w) : Int32) >>> ((0 : Int32) &&& 31)) : Int32) = (nI w) from sb_shr0 _]
  have hP := xP_nil (D := (dC, dI)) (cl := xCl) (H := H)
  have hD := xD_nil (A := A)
  refine W.widen (k := 0) (n := 0) (by omega) (by omega) ?_
  exact W.iret (v := (nI w)) hx hb hr (fun t ht hW => ⟨⟨_, (), rfl, rfl, by rw [ht]; exact hP, hD⟩, hS.F ht⟩) hS.2.2 dJ0_length_8abf5_10
theorem cl_J0_getBytes_840e7_1 : ∀ w ∈ wsJ0_getBytes_840e7_r1, w ∈ wsJ0_getBytes_840e7 := fun _ h => (List.mem_cons_of_mem _ (List.mem_append_left _ (List.mem_append_left _ h)))
theorem cl_J0_getBytes_840e7_2 : ∀ w ∈ wsJ0_getBytes_840e7_r2, w ∈ wsJ0_getBytes_840e7 := fun _ h => (List.mem_cons_of_mem _ (List.mem_append_left _ (List.mem_append_right _ h)))
theorem cl_J0_getBytes_840e7_3 : ∀ w ∈ wsJ00, w ∈ wsJ0_getBytes_840e7 := fun _ h => (List.mem_cons_of_mem _ (List.mem_append_right _ h))
set_option maxRecDepth 20000 in
theorem ggJ0_getBytes_840e7_J0_coder_7d493 : GoodIn wsJ0_getBytes_840e7 wsJ0_coder_7d493 := goodIn_sub (List.forall_mem_cons.mpr ⟨(cl_J0_getBytes_840e7_1 _ (List.mem_of_getElem? (i := 9) rfl)), fun w h => (List.mem_append.mp h).elim ((List.forall_mem_cons.mpr ⟨(cl_J0_getBytes_840e7_1 _ (List.mem_of_getElem? (i := 10) rfl)), List.forall_mem_cons.mpr ⟨(cl_J0_getBytes_840e7_1 _ (List.mem_of_getElem? (i := 11) rfl)), fun _ h => absurd h List.not_mem_nil⟩⟩) w) ((cl_J0_getBytes_840e7_3) w)⟩) (by decide +kernel)
set_option maxRecDepth 20000 in
theorem gJ0_getBytes_840e7_J0_coder_7d493 : GoodIn wsJ0_getBytes_840e7 (wsV RJ0 335 RJ0 yJ0_coder_7d493 wsJ0_coder_7d493) := goodIn_app (goodIn_sub (List.forall_mem_cons.mpr ⟨(cl_J0_getBytes_840e7_1 _ (List.mem_of_getElem? (i := 5) rfl)), List.forall_mem_cons.mpr ⟨(cl_J0_getBytes_840e7_1 _ (List.mem_of_getElem? (i := 6) rfl)), List.forall_mem_cons.mpr ⟨(cl_J0_getBytes_840e7_1 _ (List.mem_of_getElem? (i := 7) rfl)), List.forall_mem_cons.mpr ⟨(cl_J0_getBytes_840e7_1 _ (List.mem_of_getElem? (i := 8) rfl)), fun _ h => absurd h List.not_mem_nil⟩⟩⟩⟩) (by decide +kernel)) ggJ0_getBytes_840e7_J0_coder_7d493
set_option maxRecDepth 20000 in
theorem ggJ0_getBytes_840e7_J1_inflate_0e8fd : GoodIn wsJ0_getBytes_840e7 wsJ1_inflate_0e8fd := goodIn_sub (List.forall_mem_cons.mpr ⟨(cl_J0_getBytes_840e7_1 _ (List.mem_of_getElem? (i := 15) rfl)), fun w h => (List.mem_append.mp h).elim ((List.forall_mem_cons.mpr ⟨(cl_J0_getBytes_840e7_1 _ (List.mem_of_getElem? (i := 16) rfl)), List.forall_mem_cons.mpr ⟨(cl_J0_getBytes_840e7_1 _ (List.mem_of_getElem? (i := 17) rfl)), List.forall_mem_cons.mpr ⟨(cl_J0_getBytes_840e7_1 _ (List.mem_of_getElem? (i := 18) rfl)), List.forall_mem_cons.mpr ⟨(cl_J0_getBytes_840e7_1 _ (List.mem_of_getElem? (i := 19) rfl)), List.forall_mem_cons.mpr ⟨(cl_J0_getBytes_840e7_1 _ (List.mem_of_getElem? (i := 20) rfl)), List.forall_mem_cons.mpr ⟨(cl_J0_getBytes_840e7_1 _ (List.mem_of_getElem? (i := 21) rfl)), List.forall_mem_cons.mpr ⟨(cl_J0_getBytes_840e7_1 _ (List.mem_of_getElem? (i := 22) rfl)), List.forall_mem_cons.mpr ⟨(cl_J0_getBytes_840e7_1 _ (List.mem_of_getElem? (i := 23) rfl)), List.forall_mem_cons.mpr ⟨(cl_J0_getBytes_840e7_2 _ (List.mem_of_getElem? (i := 0) rfl)), List.forall_mem_cons.mpr ⟨(cl_J0_getBytes_840e7_2 _ (List.mem_of_getElem? (i := 1) rfl)), List.forall_mem_cons.mpr ⟨(cl_J0_getBytes_840e7_2 _ (List.mem_of_getElem? (i := 2) rfl)), List.forall_mem_cons.mpr ⟨(cl_J0_getBytes_840e7_2 _ (List.mem_of_getElem? (i := 3) rfl)), List.forall_mem_cons.mpr ⟨(cl_J0_getBytes_840e7_1 _ (List.mem_of_getElem? (i := 8) rfl)), List.forall_mem_cons.mpr ⟨(cl_J0_getBytes_840e7_2 _ (List.mem_of_getElem? (i := 4) rfl)), List.forall_mem_cons.mpr ⟨(cl_J0_getBytes_840e7_2 _ (List.mem_of_getElem? (i := 5) rfl)), List.forall_mem_cons.mpr ⟨(cl_J0_getBytes_840e7_2 _ (List.mem_of_getElem? (i := 6) rfl)), List.forall_mem_cons.mpr ⟨(cl_J0_getBytes_840e7_2 _ (List.mem_of_getElem? (i := 7) rfl)), List.forall_mem_cons.mpr ⟨(cl_J0_getBytes_840e7_2 _ (List.mem_of_getElem? (i := 8) rfl)), List.forall_mem_cons.mpr ⟨(cl_J0_getBytes_840e7_2 _ (List.mem_of_getElem? (i := 9) rfl)), List.forall_mem_cons.mpr ⟨(cl_J0_getBytes_840e7_2 _ (List.mem_of_getElem? (i := 10) rfl)), List.forall_mem_cons.mpr ⟨(cl_J0_getBytes_840e7_2 _ (List.mem_of_getElem? (i := 11) rfl)), List.forall_mem_cons.mpr ⟨(cl_J0_getBytes_840e7_2 _ (List.mem_of_getElem? (i := 12) rfl)), List.forall_mem_cons.mpr ⟨(cl_J0_getBytes_840e7_2 _ (List.mem_of_getElem? (i := 13) rfl)), List.forall_mem_cons.mpr ⟨(cl_J0_getBytes_840e7_2 _ (List.mem_of_getElem? (i := 14) rfl)), fun _ h => absurd h List.not_mem_nil⟩⟩⟩⟩⟩⟩⟩⟩⟩⟩⟩⟩⟩⟩⟩⟩⟩⟩⟩⟩⟩⟩⟩⟩) w) ((List.forall_mem_cons.mpr ⟨(cl_J0_getBytes_840e7_2 _ (List.mem_of_getElem? (i := 15) rfl)), fun _ h => absurd h List.not_mem_nil⟩) w)⟩) (by decide +kernel)
set_option maxRecDepth 20000 in
theorem gJ0_getBytes_840e7_J1_inflate_0e8fd : GoodIn wsJ0_getBytes_840e7 (va_wsS RJ0 106 yJ1_inflate_0e8fd wsJ1_inflate_0e8fd) := goodIn_app (goodIn_sub (List.forall_mem_cons.mpr ⟨(cl_J0_getBytes_840e7_1 _ (List.mem_of_getElem? (i := 12) rfl)), List.forall_mem_cons.mpr ⟨(cl_J0_getBytes_840e7_1 _ (List.mem_of_getElem? (i := 13) rfl)), List.forall_mem_cons.mpr ⟨(cl_J0_getBytes_840e7_1 _ (List.mem_of_getElem? (i := 14) rfl)), fun _ h => absurd h List.not_mem_nil⟩⟩⟩) (by decide +kernel)) ggJ0_getBytes_840e7_J1_inflate_0e8fd
noncomputable def dz_p04d_3 : List (Nat × Instr × Nat) := [(0, (.aload_n 0, 1)), (1, (.invokevirtual 335, 3)), (4, (.iload_n 3, 1)), (5, (.if_icmp .ne 23, 3)), (8, (.aload_n 0, 1)), (9, (.getfield 9, 3)), (12, (.iconst 0, 1)), (13, (.aload_n 1, 1)), (14, (.iload_n 2, 1)), (15, (.iload_n 3, 1)), (16, (.ishl, 1)), (17, (.aload_n 0, 1)), (18, (.getfield 9, 3)), (21, (.arraylength, 1)), (22, (.invokestatic 212, 3)), (25, (.goto 18, 3)), (28, (.aload_n 0, 1)), (29, (.getfield 9, 3)), (32, (.iconst 0, 1)), (33, (.aload_n 1, 1)), (34, (.iload_n 2, 1)), (35, (.aload_n 0, 1)), (36, (.getfield 9, 3)), (39, (.arraylength, 1)), (40, (.invokestatic 106, 3)), (43, (.return_, 1))]
theorem dy_p04d_3 : dz_ok cJ0_getBytes_840e7 dz_p04d_3 = true := by decide +kernel
theorem dJ0_getBytes_840e7_0 : decode cJ0_getBytes_840e7 0 = .ok (.aload_n 0, 1) := dz_at (i := 0) dy_p04d_3 rfl
theorem dJ0_getBytes_840e7_1 : decode cJ0_getBytes_840e7 1 = .ok (.invokevirtual 335, 3) := dz_at (i := 1) dy_p04d_3 rfl
theorem dJ0_getBytes_840e7_4 : decode cJ0_getBytes_840e7 4 = .ok (.iload_n 3, 1) := dz_at (i := 2) dy_p04d_3 rfl
theorem dJ0_getBytes_840e7_5 : decode cJ0_getBytes_840e7 5 = .ok (.if_icmp .ne 23, 3) := dz_at (i := 3) dy_p04d_3 rfl
theorem dJ0_getBytes_840e7_8 : decode cJ0_getBytes_840e7 8 = .ok (.aload_n 0, 1) := dz_at (i := 4) dy_p04d_3 rfl
theorem dJ0_getBytes_840e7_9 : decode cJ0_getBytes_840e7 9 = .ok (.getfield 9, 3) := dz_at (i := 5) dy_p04d_3 rfl
theorem dJ0_getBytes_840e7_12 : decode cJ0_getBytes_840e7 12 = .ok (.iconst 0, 1) := dz_at (i := 6) dy_p04d_3 rfl
theorem dJ0_getBytes_840e7_13 : decode cJ0_getBytes_840e7 13 = .ok (.aload_n 1, 1) := dz_at (i := 7) dy_p04d_3 rfl
theorem dJ0_getBytes_840e7_14 : decode cJ0_getBytes_840e7 14 = .ok (.iload_n 2, 1) := dz_at (i := 8) dy_p04d_3 rfl
theorem dJ0_getBytes_840e7_15 : decode cJ0_getBytes_840e7 15 = .ok (.iload_n 3, 1) := dz_at (i := 9) dy_p04d_3 rfl
theorem dJ0_getBytes_840e7_16 : decode cJ0_getBytes_840e7 16 = .ok (.ishl, 1) := dz_at (i := 10) dy_p04d_3 rfl
theorem dJ0_getBytes_840e7_17 : decode cJ0_getBytes_840e7 17 = .ok (.aload_n 0, 1) := dz_at (i := 11) dy_p04d_3 rfl
theorem dJ0_getBytes_840e7_18 : decode cJ0_getBytes_840e7 18 = .ok (.getfield 9, 3) := dz_at (i := 12) dy_p04d_3 rfl
theorem dJ0_getBytes_840e7_21 : decode cJ0_getBytes_840e7 21 = .ok (.arraylength, 1) := dz_at (i := 13) dy_p04d_3 rfl
theorem dJ0_getBytes_840e7_22 : decode cJ0_getBytes_840e7 22 = .ok (.invokestatic 212, 3) := dz_at (i := 14) dy_p04d_3 rfl
theorem dJ0_getBytes_840e7_25 : decode cJ0_getBytes_840e7 25 = .ok (.goto 18, 3) := dz_at (i := 15) dy_p04d_3 rfl
theorem dJ0_getBytes_840e7_28 : decode cJ0_getBytes_840e7 28 = .ok (.aload_n 0, 1) := dz_at (i := 16) dy_p04d_3 rfl
theorem dJ0_getBytes_840e7_29 : decode cJ0_getBytes_840e7 29 = .ok (.getfield 9, 3) := dz_at (i := 17) dy_p04d_3 rfl
theorem dJ0_getBytes_840e7_32 : decode cJ0_getBytes_840e7 32 = .ok (.iconst 0, 1) := dz_at (i := 18) dy_p04d_3 rfl
theorem dJ0_getBytes_840e7_33 : decode cJ0_getBytes_840e7 33 = .ok (.aload_n 1, 1) := dz_at (i := 19) dy_p04d_3 rfl
theorem dJ0_getBytes_840e7_34 : decode cJ0_getBytes_840e7 34 = .ok (.iload_n 2, 1) := dz_at (i := 20) dy_p04d_3 rfl
theorem dJ0_getBytes_840e7_35 : decode cJ0_getBytes_840e7 35 = .ok (.aload_n 0, 1) := dz_at (i := 21) dy_p04d_3 rfl
theorem dJ0_getBytes_840e7_36 : decode cJ0_getBytes_840e7 36 = .ok (.getfield 9, 3) := dz_at (i := 22) dy_p04d_3 rfl
theorem dJ0_getBytes_840e7_39 : decode cJ0_getBytes_840e7 39 = .ok (.arraylength, 1) := dz_at (i := 23) dy_p04d_3 rfl
theorem dJ0_getBytes_840e7_40 : decode cJ0_getBytes_840e7 40 = .ok (.invokestatic 106, 3) := dz_at (i := 24) dy_p04d_3 rfl
theorem dJ0_getBytes_840e7_43 : decode cJ0_getBytes_840e7 43 = .ok (.return_, 1) := dz_at (i := 25) dy_p04d_3 rfl
set_option maxHeartbeats 4000000 in
set_option maxRecDepth 100000 in
theorem k_J0_getBytes_840e7 (l : Launch) (dC : Nat → ClassId) (dI : Nat → Nat → Nat) (cB : ClassId) (a : Nat) (y : Nat) (w : Nat) (b : List Int32) (d : Nat) (n : Nat) (mm : Nat) (f : Nat → Int32) (sz N : Nat) (hwl : w ≤ 2) (hbf : sb_Fit (fun j => b.getD j 0)) (hn : n + w ≤ mm) (hmb : mm ≤ 34) (hf : sb_Fit f) : Met l yJ0_getBytes_840e7 wsJ0_getBytes_840e7 ({ frames := 1, cells := 0, slots := 0, locals := 100 }) (va_Pc [.ref a, .ref d, .int (nI n), .int 0] (xS (dC, dI) xCl [(d, eY cB mm f)] [(cB, .byte)] a y w b sz N)) (va_Qv (fun (u : (Nat → Int32)) => sb_Fit u) (fun (u : (Nat → Int32)) t => xW (dC, dI) xCl [(d, eY cB mm u)] (va_A [(d, eY cB mm f)] sz) t) (va_A [(d, eY cB mm f)] sz)) 0 0 (va_A [(d, eY cB mm f)] sz) := by
  refine Met.ofW (cc := cJ0_getBytes_840e7) (maxL := 4) (ret := none) (by decide +kernel) rfl ?_
  intro p e s m args below meth c s₁ B hml hv
  obtain ⟨rfl, ⟨⟨hsz, hP, hK, hD0, hN, hG⟩, hT⟩, hSs⟩ := hv
  have hx := B.exec
  have hb := B.bytes
  have hr := B.returns
  have hts := atoms_spec (ws := wsJ0_getBytes_840e7) B.pre
  have hown : s.vm.findClass RJ0 = some m.cls := findClass_of_methodNamed B.named
  have hlocks := B.notSynchronized
  subst hsz
  have hAN : ∀ q, va_A [(d, eY cB mm f)] s.heap.size q → N ≤ q := xA_N hD0 hN
  have hD := hD0.self (sz := s.heap.size)
  generalize hAe : va_A [(d, eY cB mm f)] s.heap.size = A at hD hAN ⊢
  have hA : ∀ q : Nat, s.heap.size ≤ q → A q := fun q h => by rw [← hAe]; exact Or.inr h
  have hS : va_S A s.heap s.heap [] := va_S.rf
  have hP : va_P (dC, dI) xCl [(d, eY cB mm f)] s.heap := hP
  obtain ⟨hTc, ⟨tO, tT, fO, fT, hTo, hTt, hTa, hTb, hTf, hTg⟩, ⟨adK, adV, hTs, hTr0, hTr1, hTr2⟩, ⟨aE, hTe⟩, hTn⟩ := id hT
  have hl := lv_entry ([.ref a, .ref d, .int (nI n), .int 0]) (n := 4) (Nat.le_of_ble_eq_true rfl)
  rw [lg_entry_eq]
  generalize (lg_sl ([.ref a, .ref d, .int (nI n), .int 0]) ++ List.replicate (4 - (lg_sl ([.ref a, .ref d, .int (nI n), .int 0])).length) Slot.unset).toArray = ls at hl ⊢
  have hl : lv_has ls 4 [(0, .ref a), (1, .ref d), (2, .int (nI n)), (3, .int 0)] := hl
  refine lv_aload_n hx hb dJ0_getBytes_840e7_0 rfl (lv_at hl 0 rfl) ?_
  have hPc := xP_nil (D := (dC, dI)) (cl := xCl) (H := s.heap)
  have hDc := xD_nil (A := A)
  have hKc := hK.sub (tys' := [(cB, .byte)]) [0] rfl
  have hFc := va_free (wc := []) hD hS hA [] rfl
  refine va_calli (va_runV (As := []) (rest := []) ⟨hx, hb, hml, hown, hts⟩ (k_J0_coder_7d493 l dC dI cB a y w b s.heap.size N hwl) (cwV 0 hts gJ0_getBytes_840e7_J0_coder_7d493 rfl rfl rfl (by decide +kernel) ⟨Nat.le_of_ble_eq_true rfl, Nat.le_of_ble_eq_true rfl⟩) (xS.preVS hKc hPc hDc hAN (Nat.le_trans hN hS.1) (hG.kept hS hAN) (hT.kept hS hAN) (hSs.kept (fun q h1 h2 => hS.2.1 q h1 (fun z => h2 (hAN q z)))) (vk_recv (hSs.narrow hAN) (i := 0) (by decide +kernel) hS)) rfl rfl hl.1 rfl (lv_room (Nat.le_of_ble_eq_true rfl)) dJ0_getBytes_840e7_1 ⟨(show _ ≤ 0 by omega), (show _ ≤ 0 by omega)⟩) hS (fun q _ h => hFc q h) hFc (fun r_1 u_2 t H locs ht hvm hw hB hz hk hS => ?_)
  obtain ⟨hP1, hD1⟩ := hB
  rw [ht] at hP1
  obtain ⟨hP, hD⟩ := va_join (wr := [(d, eY cB mm f)]) (w1 := []) hP hD [] [0] rfl rfl (by decide +kernel) (by decide +kernel) hk hFc hP1 hD1
  have hP : va_P (dC, dI) xCl [(d, eY cB mm f)] H := hP
  have hD : va_D A [(d, eY cB mm f)] := hD
  have hw : r_1 = 0 := hw
  rw [hw]
  refine lv_iload_n hx hb dJ0_getBytes_840e7_4 rfl (lv_at hl 3 rfl) ?_
  refine lv_icmp_ne (tgt := 28) hx hb dJ0_getBytes_840e7_5 (by decide +kernel) (fun c9 => absurd c9 (by decide +kernel)) (fun _ => ?_)
  refine lv_aload_n hx hb dJ0_getBytes_840e7_8 rfl (lv_at hl 0 rfl) ?_
  refine vk_getf hx hb (va_OF.narrow (hSs.1 0 (by decide +kernel)).2.2.1 hAN) hS hown (hts (.fieldLink RJ0 9 "java/lang/String" "value" "[B") (by decide +kernel)) (fun _ h9 => h9) dJ0_getBytes_840e7_9 ?_
  refine lv_iconst (v := 0) hx hb dJ0_getBytes_840e7_12 (by decide +kernel) ?_
  refine lv_aload_n hx hb dJ0_getBytes_840e7_13 rfl (lv_at hl 1 rfl) ?_
  refine lv_iload_n hx hb dJ0_getBytes_840e7_14 rfl (lv_at hl 2 rfl) ?_
  refine lv_iload_n hx hb dJ0_getBytes_840e7_15 rfl (lv_at hl 3 rfl) ?_
  refine lv_ishl hx hb dJ0_getBytes_840e7_16 ?_
  rw [show ((((nI n) : Int32) <<< ((0 : Int32) &&& 31)) : Int32) = (nI n) from sb_shl0 _]
  refine lv_aload_n hx hb dJ0_getBytes_840e7_17 rfl (lv_at hl 0 rfl) ?_
  refine vk_getf hx hb (va_OF.narrow (hSs.1 0 (by decide +kernel)).2.2.1 hAN) hS hown (hts (.fieldLink RJ0 9 "java/lang/String" "value" "[B") (by decide +kernel)) (fun _ h9 => h9) dJ0_getBytes_840e7_18 ?_
  refine va_tlen hx hb (va_T.narrow (hSs.1 0 (by decide +kernel)).2.2.2 hAN) hS (v := (nI w)) rfl dJ0_getBytes_840e7_21 ?_
  refine vk_copyt hx hb (hml.trans hl.1.symm) hown (hts (.methodLink RJ0 212 arraycopyName) (by decide +kernel)) (hts (.native arraycopyName) (by decide +kernel)) (hts (.static arraycopyName) (by decide +kernel)) (hts (.initialized "java/lang/System") (by decide +kernel)) hK hP hD hS (va_T.narrow (hSs.1 0 (by decide +kernel)).2.2.2 hAN) 0 0 rfl rfl (by decide +kernel) (nI_pos (by omega)) (nI_pos (by omega)) (by rw [nI_clamp (by omega), sb_cl0]; show 0 + w ≤ w; omega) (by rw [nI_clamp (by omega), nI_clamp (by omega)]; omega) (fun i _ => hbf _) (Nat.le_of_ble_eq_true rfl) (by decide +kernel) dJ0_getBytes_840e7_22 (fun H locs hP hD hS => ?_)
  obtain ⟨f_3, hf_3⟩ : ∃ z : Nat → Int32, z = va_cpy (fun j => b.getD j 0) f (0 : Int32).toNatClampNeg ((nI n) : Int32).toNatClampNeg ((nI w) : Int32).toNatClampNeg := ⟨_, rfl⟩
  have hf_4 : sb_Fit f_3 := by rw [hf_3]; exact sb_fitC hbf hf
  have hP : va_P (dC, dI) xCl [(d, eY cB mm (va_cpy (fun j => b.getD j 0) f (0 : Int32).toNatClampNeg ((nI n) : Int32).toNatClampNeg ((nI w) : Int32).toNatClampNeg))] H := hP
  have hD : va_D A [(d, eY cB mm (va_cpy (fun j => b.getD j 0) f (0 : Int32).toNatClampNeg ((nI n) : Int32).toNatClampNeg ((nI w) : Int32).toNatClampNeg))] := hD
  rw [← hf_3] at hP hD
  have hP : va_P (dC, dI) xCl [(d, eY cB mm f_3)] H := hP
  have hD : va_D A [(d, eY cB mm f_3)] := hD
  refine lv_goto (tgt := 43) hx hb dJ0_getBytes_840e7_25 (by decide +kernel) ?_
  have hP := hP.sub (ws' := [(d, eY cB mm f_3)]) [0] rfl
  have hD := hD.sub (ws' := [(d, eY cB mm f_3)]) [0] (by decide +kernel) rfl
  refine W.widen (k := 0) (n := 0) (by omega) (by omega) ?_
  exact W.vret hx hb hr (fun t ht hW => ⟨⟨f_3, rfl, hf_4, by rw [ht]; exact hP, hD⟩, hS.F ht⟩) hS.2.2 dJ0_getBytes_840e7_43
theorem cl_J5_inflateIfNeededFor_a7421_1 : ∀ w ∈ wsJ5_inflateIfNeededFor_a7421_r1, w ∈ wsJ5_inflateIfNeededFor_a7421 := fun _ h => (List.mem_cons_of_mem _ (List.mem_append_left _ (List.mem_append_left _ (List.mem_append_left _ h))))
theorem cl_J5_inflateIfNeededFor_a7421_2 : ∀ w ∈ wsJ5_inflateIfNeededFor_a7421_r2, w ∈ wsJ5_inflateIfNeededFor_a7421 := fun _ h => (List.mem_cons_of_mem _ (List.mem_append_left _ (List.mem_append_left _ (List.mem_append_right _ (List.mem_append_left _ h)))))
theorem cl_J5_inflateIfNeededFor_a7421_3 : ∀ w ∈ wsJ5_inflateIfNeededFor_a7421_r3, w ∈ wsJ5_inflateIfNeededFor_a7421 := fun _ h => (List.mem_cons_of_mem _ (List.mem_append_left _ (List.mem_append_left _ (List.mem_append_right _ (List.mem_append_right _ h)))))
theorem cl_J5_inflateIfNeededFor_a7421_4 : ∀ w ∈ wsJ40, w ∈ wsJ5_inflateIfNeededFor_a7421 := fun _ h => (List.mem_cons_of_mem _ (List.mem_append_left _ (List.mem_append_right _ h)))
theorem cl_J5_inflateIfNeededFor_a7421_5 : ∀ w ∈ wsJ00, w ∈ wsJ5_inflateIfNeededFor_a7421 := fun _ h => (List.mem_cons_of_mem _ (List.mem_append_right _ h))
set_option maxRecDepth 20000 in
theorem ggJ5_inflateIfNeededFor_a7421_J0_coder_7d493 : GoodIn wsJ5_inflateIfNeededFor_a7421 wsJ0_coder_7d493 := goodIn_sub (List.forall_mem_cons.mpr ⟨(cl_J5_inflateIfNeededFor_a7421_1 _ (List.mem_of_getElem? (i := 6) rfl)), fun w h => (List.mem_append.mp h).elim ((List.forall_mem_cons.mpr ⟨(cl_J5_inflateIfNeededFor_a7421_1 _ (List.mem_of_getElem? (i := 7) rfl)), List.forall_mem_cons.mpr ⟨(cl_J5_inflateIfNeededFor_a7421_1 _ (List.mem_of_getElem? (i := 8) rfl)), fun _ h => absurd h List.not_mem_nil⟩⟩) w) ((cl_J5_inflateIfNeededFor_a7421_5) w)⟩) (by decide +kernel)
set_option maxRecDepth 20000 in
theorem gJ5_inflateIfNeededFor_a7421_J0_coder_7d493 : GoodIn wsJ5_inflateIfNeededFor_a7421 (wsV RJ5 40 RJ0 yJ0_coder_7d493 wsJ0_coder_7d493) := goodIn_app (goodIn_sub (List.forall_mem_cons.mpr ⟨(cl_J5_inflateIfNeededFor_a7421_1 _ (List.mem_of_getElem? (i := 2) rfl)), List.forall_mem_cons.mpr ⟨(cl_J5_inflateIfNeededFor_a7421_1 _ (List.mem_of_getElem? (i := 3) rfl)), List.forall_mem_cons.mpr ⟨(cl_J5_inflateIfNeededFor_a7421_1 _ (List.mem_of_getElem? (i := 4) rfl)), List.forall_mem_cons.mpr ⟨(cl_J5_inflateIfNeededFor_a7421_1 _ (List.mem_of_getElem? (i := 5) rfl)), fun _ h => absurd h List.not_mem_nil⟩⟩⟩⟩) (by decide +kernel)) ggJ5_inflateIfNeededFor_a7421_J0_coder_7d493
set_option maxRecDepth 20000 in
theorem ggJ5_inflateIfNeededFor_a7421_J5_inflate_da8c8 : GoodIn wsJ5_inflateIfNeededFor_a7421 wsJ5_inflate_da8c8 := goodIn_sub (List.forall_mem_cons.mpr ⟨(cl_J5_inflateIfNeededFor_a7421_1 _ (List.mem_of_getElem? (i := 14) rfl)), fun w h => (List.mem_append.mp h).elim ((fun w h => (List.mem_append.mp h).elim ((List.forall_mem_cons.mpr ⟨(cl_J5_inflateIfNeededFor_a7421_1 _ (List.mem_of_getElem? (i := 15) rfl)), List.forall_mem_cons.mpr ⟨(cl_J5_inflateIfNeededFor_a7421_1 _ (List.mem_of_getElem? (i := 16) rfl)), List.forall_mem_cons.mpr ⟨(cl_J5_inflateIfNeededFor_a7421_1 _ (List.mem_of_getElem? (i := 1) rfl)), List.forall_mem_cons.mpr ⟨(cl_J5_inflateIfNeededFor_a7421_1 _ (List.mem_of_getElem? (i := 17) rfl)), List.forall_mem_cons.mpr ⟨(cl_J5_inflateIfNeededFor_a7421_1 _ (List.mem_of_getElem? (i := 18) rfl)), List.forall_mem_cons.mpr ⟨(cl_J5_inflateIfNeededFor_a7421_1 _ (List.mem_of_getElem? (i := 19) rfl)), List.forall_mem_cons.mpr ⟨(cl_J5_inflateIfNeededFor_a7421_1 _ (List.mem_of_getElem? (i := 20) rfl)), List.forall_mem_cons.mpr ⟨(cl_J5_inflateIfNeededFor_a7421_1 _ (List.mem_of_getElem? (i := 13) rfl)), List.forall_mem_cons.mpr ⟨(cl_J5_inflateIfNeededFor_a7421_1 _ (List.mem_of_getElem? (i := 21) rfl)), List.forall_mem_cons.mpr ⟨(cl_J5_inflateIfNeededFor_a7421_1 _ (List.mem_of_getElem? (i := 0) rfl)), List.forall_mem_cons.mpr ⟨(cl_J5_inflateIfNeededFor_a7421_1 _ (List.mem_of_getElem? (i := 22) rfl)), List.forall_mem_cons.mpr ⟨(cl_J5_inflateIfNeededFor_a7421_1 _ (List.mem_of_getElem? (i := 23) rfl)), List.forall_mem_cons.mpr ⟨(cl_J5_inflateIfNeededFor_a7421_2 _ (List.mem_of_getElem? (i := 0) rfl)), List.forall_mem_cons.mpr ⟨(cl_J5_inflateIfNeededFor_a7421_2 _ (List.mem_of_getElem? (i := 1) rfl)), List.forall_mem_cons.mpr ⟨(cl_J5_inflateIfNeededFor_a7421_2 _ (List.mem_of_getElem? (i := 2) rfl)), List.forall_mem_cons.mpr ⟨(cl_J5_inflateIfNeededFor_a7421_2 _ (List.mem_of_getElem? (i := 3) rfl)), List.forall_mem_cons.mpr ⟨(cl_J5_inflateIfNeededFor_a7421_2 _ (List.mem_of_getElem? (i := 4) rfl)), List.forall_mem_cons.mpr ⟨(cl_J5_inflateIfNeededFor_a7421_2 _ (List.mem_of_getElem? (i := 5) rfl)), List.forall_mem_cons.mpr ⟨(cl_J5_inflateIfNeededFor_a7421_2 _ (List.mem_of_getElem? (i := 6) rfl)), List.forall_mem_cons.mpr ⟨(cl_J5_inflateIfNeededFor_a7421_2 _ (List.mem_of_getElem? (i := 7) rfl)), List.forall_mem_cons.mpr ⟨(cl_J5_inflateIfNeededFor_a7421_2 _ (List.mem_of_getElem? (i := 8) rfl)), List.forall_mem_cons.mpr ⟨(cl_J5_inflateIfNeededFor_a7421_2 _ (List.mem_of_getElem? (i := 9) rfl)), List.forall_mem_cons.mpr ⟨(cl_J5_inflateIfNeededFor_a7421_2 _ (List.mem_of_getElem? (i := 10) rfl)), List.forall_mem_cons.mpr ⟨(cl_J5_inflateIfNeededFor_a7421_2 _ (List.mem_of_getElem? (i := 11) rfl)), fun _ h => absurd h List.not_mem_nil⟩⟩⟩⟩⟩⟩⟩⟩⟩⟩⟩⟩⟩⟩⟩⟩⟩⟩⟩⟩⟩⟩⟩⟩) w) ((List.forall_mem_cons.mpr ⟨(cl_J5_inflateIfNeededFor_a7421_2 _ (List.mem_of_getElem? (i := 12) rfl)), List.forall_mem_cons.mpr ⟨(cl_J5_inflateIfNeededFor_a7421_2 _ (List.mem_of_getElem? (i := 13) rfl)), List.forall_mem_cons.mpr ⟨(cl_J5_inflateIfNeededFor_a7421_2 _ (List.mem_of_getElem? (i := 14) rfl)), List.forall_mem_cons.mpr ⟨(cl_J5_inflateIfNeededFor_a7421_2 _ (List.mem_of_getElem? (i := 15) rfl)), List.forall_mem_cons.mpr ⟨(cl_J5_inflateIfNeededFor_a7421_2 _ (List.mem_of_getElem? (i := 16) rfl)), List.forall_mem_cons.mpr ⟨(cl_J5_inflateIfNeededFor_a7421_2 _ (List.mem_of_getElem? (i := 17) rfl)), List.forall_mem_cons.mpr ⟨(cl_J5_inflateIfNeededFor_a7421_2 _ (List.mem_of_getElem? (i := 18) rfl)), List.forall_mem_cons.mpr ⟨(cl_J5_inflateIfNeededFor_a7421_2 _ (List.mem_of_getElem? (i := 19) rfl)), List.forall_mem_cons.mpr ⟨(cl_J5_inflateIfNeededFor_a7421_2 _ (List.mem_of_getElem? (i := 20) rfl)), List.forall_mem_cons.mpr ⟨(cl_J5_inflateIfNeededFor_a7421_2 _ (List.mem_of_getElem? (i := 21) rfl)), List.forall_mem_cons.mpr ⟨(cl_J5_inflateIfNeededFor_a7421_1 _ (List.mem_of_getElem? (i := 5) rfl)), List.forall_mem_cons.mpr ⟨(cl_J5_inflateIfNeededFor_a7421_2 _ (List.mem_of_getElem? (i := 22) rfl)), List.forall_mem_cons.mpr ⟨(cl_J5_inflateIfNeededFor_a7421_2 _ (List.mem_of_getElem? (i := 23) rfl)), List.forall_mem_cons.mpr ⟨(cl_J5_inflateIfNeededFor_a7421_3 _ (List.mem_of_getElem? (i := 0) rfl)), List.forall_mem_cons.mpr ⟨(cl_J5_inflateIfNeededFor_a7421_3 _ (List.mem_of_getElem? (i := 1) rfl)), List.forall_mem_cons.mpr ⟨(cl_J5_inflateIfNeededFor_a7421_3 _ (List.mem_of_getElem? (i := 2) rfl)), List.forall_mem_cons.mpr ⟨(cl_J5_inflateIfNeededFor_a7421_3 _ (List.mem_of_getElem? (i := 3) rfl)), List.forall_mem_cons.mpr ⟨(cl_J5_inflateIfNeededFor_a7421_3 _ (List.mem_of_getElem? (i := 4) rfl)), List.forall_mem_cons.mpr ⟨(cl_J5_inflateIfNeededFor_a7421_3 _ (List.mem_of_getElem? (i := 5) rfl)), List.forall_mem_cons.mpr ⟨(cl_J5_inflateIfNeededFor_a7421_3 _ (List.mem_of_getElem? (i := 6) rfl)), List.forall_mem_cons.mpr ⟨(cl_J5_inflateIfNeededFor_a7421_3 _ (List.mem_of_getElem? (i := 7) rfl)), List.forall_mem_cons.mpr ⟨(cl_J5_inflateIfNeededFor_a7421_3 _ (List.mem_of_getElem? (i := 8) rfl)), List.forall_mem_cons.mpr ⟨(cl_J5_inflateIfNeededFor_a7421_3 _ (List.mem_of_getElem? (i := 9) rfl)), fun _ h => absurd h List.not_mem_nil⟩⟩⟩⟩⟩⟩⟩⟩⟩⟩⟩⟩⟩⟩⟩⟩⟩⟩⟩⟩⟩⟩⟩) w)) w) ((cl_J5_inflateIfNeededFor_a7421_4) w)⟩) (by decide +kernel)
set_option maxRecDepth 20000 in
theorem gJ5_inflateIfNeededFor_a7421_J5_inflate_da8c8_u195J4 : GoodIn wsJ5_inflateIfNeededFor_a7421 (va_wsU RJ5 195 RJ4 "java/lang/AbstractStringBuilder" ⟨"java/lang/AbstractStringBuilder", "inflate", "()V"⟩ yJ5_inflate_da8c8 wsJ5_inflate_da8c8) := goodIn_app (goodIn_of _ (by decide +kernel)) ggJ5_inflateIfNeededFor_a7421_J5_inflate_da8c8
noncomputable def dz_p04d_4 : List (Nat × Instr × Nat) := [(0, (.getstatic 18, 3)), (3, (.ifCond .eq 18, 3)), (6, (.aload_n 0, 1)), (7, (.getfield 22, 3)), (10, (.aload_n 1, 1)), (11, (.invokevirtual 40, 3)), (14, (.if_icmp .eq 7, 3)), (17, (.aload_n 0, 1)), (18, (.invokevirtual 195, 3)), (21, (.return_, 1))]
theorem dy_p04d_4 : dz_ok cJ5_inflateIfNeededFor_a7421 dz_p04d_4 = true := by decide +kernel
theorem dJ5_inflateIfNeededFor_a7421_0 : decode cJ5_inflateIfNeededFor_a7421 0 = .ok (.getstatic 18, 3) := dz_at (i := 0) dy_p04d_4 rfl
theorem dJ5_inflateIfNeededFor_a7421_3 : decode cJ5_inflateIfNeededFor_a7421 3 = .ok (.ifCond .eq 18, 3) := dz_at (i := 1) dy_p04d_4 rfl
theorem dJ5_inflateIfNeededFor_a7421_6 : decode cJ5_inflateIfNeededFor_a7421 6 = .ok (.aload_n 0, 1) := dz_at (i := 2) dy_p04d_4 rfl
theorem dJ5_inflateIfNeededFor_a7421_7 : decode cJ5_inflateIfNeededFor_a7421 7 = .ok (.getfield 22, 3) := dz_at (i := 3) dy_p04d_4 rfl
theorem dJ5_inflateIfNeededFor_a7421_10 : decode cJ5_inflateIfNeededFor_a7421 10 = .ok (.aload_n 1, 1) := dz_at (i := 4) dy_p04d_4 rfl
theorem dJ5_inflateIfNeededFor_a7421_11 : decode cJ5_inflateIfNeededFor_a7421 11 = .ok (.invokevirtual 40, 3) := dz_at (i := 5) dy_p04d_4 rfl
theorem dJ5_inflateIfNeededFor_a7421_14 : decode cJ5_inflateIfNeededFor_a7421 14 = .ok (.if_icmp .eq 7, 3) := dz_at (i := 6) dy_p04d_4 rfl
theorem dJ5_inflateIfNeededFor_a7421_17 : decode cJ5_inflateIfNeededFor_a7421 17 = .ok (.aload_n 0, 1) := dz_at (i := 7) dy_p04d_4 rfl
theorem dJ5_inflateIfNeededFor_a7421_18 : decode cJ5_inflateIfNeededFor_a7421 18 = .ok (.invokevirtual 195, 3) := dz_at (i := 8) dy_p04d_4 rfl
theorem dJ5_inflateIfNeededFor_a7421_21 : decode cJ5_inflateIfNeededFor_a7421 21 = .ok (.return_, 1) := dz_at (i := 9) dy_p04d_4 rfl
set_option maxHeartbeats 4000000 in
set_option maxRecDepth 100000 in
theorem k_J5_inflateIfNeededFor_a7421 (l : Launch) (dC : Nat → ClassId) (dI : Nat → Nat → Nat) (cB : ClassId) (h : Nat) (v : Nat) (n : Int32) (a : Nat) (y : Nat) (w : Nat) (b : List Int32) (sz N : Nat) (hwl : w ≤ 2) : Met l yJ5_inflateIfNeededFor_a7421 wsJ5_inflateIfNeededFor_a7421 ({ frames := 1, cells := 0, slots := 0, locals := 20 }) (va_Pc [.ref h, .ref a] (xS (dC, dI) xCl [(h, eB v n)] [(cB, .byte)] a y w b sz N)) (va_Qv (fun (u : Unit) => True) (fun (u : Unit) t => xW (dC, dI) xCl [(h, eB v n)] (va_A [(h, eB v n)] sz) t) (va_A [(h, eB v n)] sz)) 0 0 (va_A [(h, eB v n)] sz) := by
  refine Met.ofW (cc := cJ5_inflateIfNeededFor_a7421) (maxL := 2) (ret := none) (by decide +kernel) rfl ?_
  intro p e s m args below meth c s₁ B hml hv
  obtain ⟨rfl, ⟨⟨hsz, hP, hK, hD0, hN, hG⟩, hT⟩, hSs⟩ := hv
  have hx := B.exec
  have hb := B.bytes
  have hr := B.returns
  have hts := atoms_spec (ws := wsJ5_inflateIfNeededFor_a7421) B.pre
  have hown : s.vm.findClass RJ5 = some m.cls := findClass_of_methodNamed B.named
  have hlocks := B.notSynchronized
  subst hsz
  have hAN : ∀ q, va_A [(h, eB v n)] s.heap.size q → N ≤ q := xA_N hD0 hN
  have hD := hD0.self (sz := s.heap.size)
  generalize hAe : va_A [(h, eB v n)] s.heap.size = A at hD hAN ⊢
  have hA : ∀ q : Nat, s.heap.size ≤ q → A q := fun q h => by rw [← hAe]; exact Or.inr h
  have hS : va_S A s.heap s.heap [] := va_S.rf
  have hP : va_P (dC, dI) xCl [(h, eB v n)] s.heap := hP
  obtain ⟨hTc, ⟨tO, tT, fO, fT, hTo, hTt, hTa, hTb, hTf, hTg⟩, ⟨adK, adV, hTs, hTr0, hTr1, hTr2⟩, ⟨aE, hTe⟩, hTn⟩ := id hT
  have hl := lv_entry ([.ref h, .ref a]) (n := 2) (Nat.le_of_ble_eq_true rfl)
  rw [lg_entry_eq]
  generalize (lg_sl ([.ref h, .ref a]) ++ List.replicate (2 - (lg_sl ([.ref h, .ref a])).length) Slot.unset).toArray = ls at hl ⊢
  have hl : lv_has ls 2 [(0, .ref h), (1, .ref a)] := hl
  refine va_gets hx hb (va_Z.narrow hTc hAN) hS hown (hts (.fieldLink RJ5 18 "java/lang/String" "COMPACT_STRINGS" "Z") (by decide +kernel)) (fun _ h9 => h9) dJ5_inflateIfNeededFor_a7421_0 ?_
  refine lv_if_eq (tgt := 21) hx hb dJ5_inflateIfNeededFor_a7421_3 (by decide +kernel) (fun c9 => absurd c9 (by decide +kernel)) (fun _ => ?_)
  refine lv_aload_n hx hb dJ5_inflateIfNeededFor_a7421_6 rfl (lv_at hl 0 rfl) ?_
  refine va_get (D := (dC, dI)) (ci := 1) (v := .int 0) (C := RJ4) (T := TJ4) (N := 4) hx hb hts (by decide +kernel) hown hK hP 0 rfl rfl 1 (by decide +kernel) (hts (.fieldLink RJ5 22 "java/lang/AbstractStringBuilder" "coder" "B") (by decide +kernel)) (fun _ h9 => h9) rfl dJ5_inflateIfNeededFor_a7421_7 ?_
  refine lv_aload_n hx hb dJ5_inflateIfNeededFor_a7421_10 rfl (lv_at hl 1 rfl) ?_
  have hPc := xP_nil (D := (dC, dI)) (cl := xCl) (H := s.heap)
  have hDc := xD_nil (A := A)
  have hKc := hK.sub (tys' := [(cB, .byte)]) [0] rfl
  have hFc := va_free (wc := []) hD hS hA [] rfl
  refine va_calli (va_runV (As := []) (rest := [.int 0]) ⟨hx, hb, hml, hown, hts⟩ (k_J0_coder_7d493 l dC dI cB a y w b s.heap.size N hwl) (cwV 0 hts gJ5_inflateIfNeededFor_a7421_J0_coder_7d493 rfl rfl rfl (by decide +kernel) ⟨Nat.le_of_ble_eq_true rfl, Nat.le_of_ble_eq_true rfl⟩) (xS.preVS hKc hPc hDc hAN (Nat.le_trans hN hS.1) (hG.kept hS hAN) (hT.kept hS hAN) (hSs.kept (fun q h1 h2 => hS.2.1 q h1 (fun z => h2 (hAN q z)))) (vk_recv (hSs.narrow hAN) (i := 0) (by decide +kernel) hS)) rfl rfl hl.1 rfl (lv_room (Nat.le_of_ble_eq_true rfl)) dJ5_inflateIfNeededFor_a7421_11 ⟨(show _ ≤ 0 by omega), (show _ ≤ 0 by omega)⟩) hS (fun q _ h => hFc q h) hFc (fun r_1 u_2 t H locs ht hvm hw hB hz hk hS => ?_)
  obtain ⟨hP1, hD1⟩ := hB
  rw [ht] at hP1
  obtain ⟨hP, hD⟩ := va_join (wr := [(h, eB v n)]) (w1 := []) hP hD [] [0] rfl rfl (by decide +kernel) (by decide +kernel) hk hFc hP1 hD1
  have hP : va_P (dC, dI) xCl [(h, eB v n)] H := hP
  have hD : va_D A [(h, eB v n)] := hD
  have hw : r_1 = 0 := hw
  rw [hw]
  refine lv_icmp_eq (tgt := 21) hx hb dJ5_inflateIfNeededFor_a7421_14 (by decide +kernel) (fun _ => ?_) (fun c9 => absurd c9 (by decide +kernel))
  have hP := hP.sub (ws' := [(h, eB v n)]) [0] rfl
  have hD := hD.sub (ws' := [(h, eB v n)]) [0] (by decide +kernel) rfl
  refine W.widen (k := 0) (n := 0) (by omega) (by omega) ?_
  exact W.vret hx hb hr (fun t ht hW => ⟨⟨(), rfl, trivial, by rw [ht]; exact hP, hD⟩, hS.F ht⟩) hS.2.2 dJ5_inflateIfNeededFor_a7421_21
theorem cl_J5_putStringAt_47b60_1 : ∀ w ∈ wsJ5_putStringAt_47b60_r1, w ∈ wsJ5_putStringAt_47b60 := fun _ h => (List.mem_cons_of_mem _ (List.mem_append_left _ (List.mem_append_left _ (List.mem_append_left _ h))))
theorem cl_J5_putStringAt_47b60_2 : ∀ w ∈ wsJ5_putStringAt_47b60_r2, w ∈ wsJ5_putStringAt_47b60 := fun _ h => (List.mem_cons_of_mem _ (List.mem_append_left _ (List.mem_append_left _ (List.mem_append_right _ (List.mem_append_left _ h)))))
theorem cl_J5_putStringAt_47b60_3 : ∀ w ∈ wsJ5_putStringAt_47b60_r3, w ∈ wsJ5_putStringAt_47b60 := fun _ h => (List.mem_cons_of_mem _ (List.mem_append_left _ (List.mem_append_left _ (List.mem_append_right _ (List.mem_append_right _ (List.mem_append_left _ h))))))
theorem cl_J5_putStringAt_47b60_4 : ∀ w ∈ wsJ5_putStringAt_47b60_r4, w ∈ wsJ5_putStringAt_47b60 := fun _ h => (List.mem_cons_of_mem _ (List.mem_append_left _ (List.mem_append_left _ (List.mem_append_right _ (List.mem_append_right _ (List.mem_append_right _ h))))))
theorem cl_J5_putStringAt_47b60_5 : ∀ w ∈ wsJ40, w ∈ wsJ5_putStringAt_47b60 := fun _ h => (List.mem_cons_of_mem _ (List.mem_append_left _ (List.mem_append_right _ h)))
theorem cl_J5_putStringAt_47b60_6 : ∀ w ∈ wsJ00, w ∈ wsJ5_putStringAt_47b60 := fun _ h => (List.mem_cons_of_mem _ (List.mem_append_right _ h))
set_option maxRecDepth 20000 in
theorem ggJ5_putStringAt_47b60_J5_inflateIfNeededFor_a7421 : GoodIn wsJ5_putStringAt_47b60 wsJ5_inflateIfNeededFor_a7421 := goodIn_sub (List.forall_mem_cons.mpr ⟨(cl_J5_putStringAt_47b60_1 _ (List.mem_of_getElem? (i := 7) rfl)), fun w h => (List.mem_append.mp h).elim ((fun w h => (List.mem_append.mp h).elim ((fun w h => (List.mem_append.mp h).elim ((List.forall_mem_cons.mpr ⟨(cl_J5_putStringAt_47b60_1 _ (List.mem_of_getElem? (i := 8) rfl)), List.forall_mem_cons.mpr ⟨(cl_J5_putStringAt_47b60_1 _ (List.mem_of_getElem? (i := 1) rfl)), List.forall_mem_cons.mpr ⟨(cl_J5_putStringAt_47b60_1 _ (List.mem_of_getElem? (i := 9) rfl)), List.forall_mem_cons.mpr ⟨(cl_J5_putStringAt_47b60_1 _ (List.mem_of_getElem? (i := 10) rfl)), List.forall_mem_cons.mpr ⟨(cl_J5_putStringAt_47b60_1 _ (List.mem_of_getElem? (i := 11) rfl)), List.forall_mem_cons.mpr ⟨(cl_J5_putStringAt_47b60_1 _ (List.mem_of_getElem? (i := 12) rfl)), List.forall_mem_cons.mpr ⟨(cl_J5_putStringAt_47b60_1 _ (List.mem_of_getElem? (i := 13) rfl)), List.forall_mem_cons.mpr ⟨(cl_J5_putStringAt_47b60_1 _ (List.mem_of_getElem? (i := 14) rfl)), List.forall_mem_cons.mpr ⟨(cl_J5_putStringAt_47b60_1 _ (List.mem_of_getElem? (i := 15) rfl)), List.forall_mem_cons.mpr ⟨(cl_J5_putStringAt_47b60_1 _ (List.mem_of_getElem? (i := 16) rfl)), List.forall_mem_cons.mpr ⟨(cl_J5_putStringAt_47b60_1 _ (List.mem_of_getElem? (i := 17) rfl)), List.forall_mem_cons.mpr ⟨(cl_J5_putStringAt_47b60_1 _ (List.mem_of_getElem? (i := 18) rfl)), List.forall_mem_cons.mpr ⟨(cl_J5_putStringAt_47b60_1 _ (List.mem_of_getElem? (i := 19) rfl)), List.forall_mem_cons.mpr ⟨(cl_J5_putStringAt_47b60_1 _ (List.mem_of_getElem? (i := 6) rfl)), List.forall_mem_cons.mpr ⟨(cl_J5_putStringAt_47b60_1 _ (List.mem_of_getElem? (i := 20) rfl)), List.forall_mem_cons.mpr ⟨(cl_J5_putStringAt_47b60_1 _ (List.mem_of_getElem? (i := 0) rfl)), List.forall_mem_cons.mpr ⟨(cl_J5_putStringAt_47b60_1 _ (List.mem_of_getElem? (i := 21) rfl)), List.forall_mem_cons.mpr ⟨(cl_J5_putStringAt_47b60_1 _ (List.mem_of_getElem? (i := 22) rfl)), List.forall_mem_cons.mpr ⟨(cl_J5_putStringAt_47b60_1 _ (List.mem_of_getElem? (i := 23) rfl)), List.forall_mem_cons.mpr ⟨(cl_J5_putStringAt_47b60_2 _ (List.mem_of_getElem? (i := 0) rfl)), List.forall_mem_cons.mpr ⟨(cl_J5_putStringAt_47b60_2 _ (List.mem_of_getElem? (i := 1) rfl)), List.forall_mem_cons.mpr ⟨(cl_J5_putStringAt_47b60_2 _ (List.mem_of_getElem? (i := 2) rfl)), List.forall_mem_cons.mpr ⟨(cl_J5_putStringAt_47b60_2 _ (List.mem_of_getElem? (i := 3) rfl)), List.forall_mem_cons.mpr ⟨(cl_J5_putStringAt_47b60_2 _ (List.mem_of_getElem? (i := 4) rfl)), fun _ h => absurd h List.not_mem_nil⟩⟩⟩⟩⟩⟩⟩⟩⟩⟩⟩⟩⟩⟩⟩⟩⟩⟩⟩⟩⟩⟩⟩⟩) w) ((fun w h => (List.mem_append.mp h).elim ((List.forall_mem_cons.mpr ⟨(cl_J5_putStringAt_47b60_2 _ (List.mem_of_getElem? (i := 5) rfl)), List.forall_mem_cons.mpr ⟨(cl_J5_putStringAt_47b60_2 _ (List.mem_of_getElem? (i := 6) rfl)), List.forall_mem_cons.mpr ⟨(cl_J5_putStringAt_47b60_2 _ (List.mem_of_getElem? (i := 7) rfl)), List.forall_mem_cons.mpr ⟨(cl_J5_putStringAt_47b60_2 _ (List.mem_of_getElem? (i := 8) rfl)), List.forall_mem_cons.mpr ⟨(cl_J5_putStringAt_47b60_2 _ (List.mem_of_getElem? (i := 9) rfl)), List.forall_mem_cons.mpr ⟨(cl_J5_putStringAt_47b60_2 _ (List.mem_of_getElem? (i := 10) rfl)), List.forall_mem_cons.mpr ⟨(cl_J5_putStringAt_47b60_2 _ (List.mem_of_getElem? (i := 11) rfl)), List.forall_mem_cons.mpr ⟨(cl_J5_putStringAt_47b60_2 _ (List.mem_of_getElem? (i := 12) rfl)), List.forall_mem_cons.mpr ⟨(cl_J5_putStringAt_47b60_2 _ (List.mem_of_getElem? (i := 13) rfl)), List.forall_mem_cons.mpr ⟨(cl_J5_putStringAt_47b60_2 _ (List.mem_of_getElem? (i := 14) rfl)), List.forall_mem_cons.mpr ⟨(cl_J5_putStringAt_47b60_2 _ (List.mem_of_getElem? (i := 15) rfl)), List.forall_mem_cons.mpr ⟨(cl_J5_putStringAt_47b60_2 _ (List.mem_of_getElem? (i := 16) rfl)), List.forall_mem_cons.mpr ⟨(cl_J5_putStringAt_47b60_2 _ (List.mem_of_getElem? (i := 17) rfl)), List.forall_mem_cons.mpr ⟨(cl_J5_putStringAt_47b60_2 _ (List.mem_of_getElem? (i := 18) rfl)), List.forall_mem_cons.mpr ⟨(cl_J5_putStringAt_47b60_2 _ (List.mem_of_getElem? (i := 19) rfl)), List.forall_mem_cons.mpr ⟨(cl_J5_putStringAt_47b60_2 _ (List.mem_of_getElem? (i := 20) rfl)), List.forall_mem_cons.mpr ⟨(cl_J5_putStringAt_47b60_2 _ (List.mem_of_getElem? (i := 21) rfl)), List.forall_mem_cons.mpr ⟨(cl_J5_putStringAt_47b60_2 _ (List.mem_of_getElem? (i := 22) rfl)), List.forall_mem_cons.mpr ⟨(cl_J5_putStringAt_47b60_2 _ (List.mem_of_getElem? (i := 23) rfl)), List.forall_mem_cons.mpr ⟨(cl_J5_putStringAt_47b60_3 _ (List.mem_of_getElem? (i := 0) rfl)), List.forall_mem_cons.mpr ⟨(cl_J5_putStringAt_47b60_3 _ (List.mem_of_getElem? (i := 1) rfl)), List.forall_mem_cons.mpr ⟨(cl_J5_putStringAt_47b60_3 _ (List.mem_of_getElem? (i := 2) rfl)), List.forall_mem_cons.mpr ⟨(cl_J5_putStringAt_47b60_3 _ (List.mem_of_getElem? (i := 3) rfl)), List.forall_mem_cons.mpr ⟨(cl_J5_putStringAt_47b60_3 _ (List.mem_of_getElem? (i := 4) rfl)), fun _ h => absurd h List.not_mem_nil⟩⟩⟩⟩⟩⟩⟩⟩⟩⟩⟩⟩⟩⟩⟩⟩⟩⟩⟩⟩⟩⟩⟩⟩) w) ((List.forall_mem_cons.mpr ⟨(cl_J5_putStringAt_47b60_3 _ (List.mem_of_getElem? (i := 5) rfl)), List.forall_mem_cons.mpr ⟨(cl_J5_putStringAt_47b60_3 _ (List.mem_of_getElem? (i := 6) rfl)), List.forall_mem_cons.mpr ⟨(cl_J5_putStringAt_47b60_3 _ (List.mem_of_getElem? (i := 7) rfl)), List.forall_mem_cons.mpr ⟨(cl_J5_putStringAt_47b60_3 _ (List.mem_of_getElem? (i := 8) rfl)), List.forall_mem_cons.mpr ⟨(cl_J5_putStringAt_47b60_3 _ (List.mem_of_getElem? (i := 9) rfl)), List.forall_mem_cons.mpr ⟨(cl_J5_putStringAt_47b60_3 _ (List.mem_of_getElem? (i := 10) rfl)), List.forall_mem_cons.mpr ⟨(cl_J5_putStringAt_47b60_3 _ (List.mem_of_getElem? (i := 11) rfl)), List.forall_mem_cons.mpr ⟨(cl_J5_putStringAt_47b60_3 _ (List.mem_of_getElem? (i := 12) rfl)), List.forall_mem_cons.mpr ⟨(cl_J5_putStringAt_47b60_3 _ (List.mem_of_getElem? (i := 13) rfl)), List.forall_mem_cons.mpr ⟨(cl_J5_putStringAt_47b60_3 _ (List.mem_of_getElem? (i := 14) rfl)), fun _ h => absurd h List.not_mem_nil⟩⟩⟩⟩⟩⟩⟩⟩⟩⟩) w)) w)) w) ((cl_J5_putStringAt_47b60_5) w)) w) ((cl_J5_putStringAt_47b60_6) w)⟩) (by decide +kernel)
set_option maxRecDepth 20000 in
theorem gJ5_putStringAt_47b60_J5_inflateIfNeededFor_a7421_u397J4 : GoodIn wsJ5_putStringAt_47b60 (va_wsU RJ5 397 RJ4 "java/lang/AbstractStringBuilder" ⟨"java/lang/AbstractStringBuilder", "inflateIfNeededFor", "(Ljava/lang/String;)V"⟩ yJ5_inflateIfNeededFor_a7421 wsJ5_inflateIfNeededFor_a7421) := goodIn_app (goodIn_of _ (by decide +kernel)) ggJ5_putStringAt_47b60_J5_inflateIfNeededFor_a7421
set_option maxRecDepth 20000 in
theorem ggJ5_putStringAt_47b60_J0_getBytes_840e7 : GoodIn wsJ5_putStringAt_47b60 wsJ0_getBytes_840e7 := goodIn_sub (List.forall_mem_cons.mpr ⟨(cl_J5_putStringAt_47b60_3 _ (List.mem_of_getElem? (i := 18) rfl)), fun w h => (List.mem_append.mp h).elim ((fun w h => (List.mem_append.mp h).elim ((List.forall_mem_cons.mpr ⟨(cl_J5_putStringAt_47b60_3 _ (List.mem_of_getElem? (i := 19) rfl)), List.forall_mem_cons.mpr ⟨(cl_J5_putStringAt_47b60_3 _ (List.mem_of_getElem? (i := 20) rfl)), List.forall_mem_cons.mpr ⟨(cl_J5_putStringAt_47b60_3 _ (List.mem_of_getElem? (i := 21) rfl)), List.forall_mem_cons.mpr ⟨(cl_J5_putStringAt_47b60_3 _ (List.mem_of_getElem? (i := 22) rfl)), List.forall_mem_cons.mpr ⟨(cl_J5_putStringAt_47b60_3 _ (List.mem_of_getElem? (i := 23) rfl)), List.forall_mem_cons.mpr ⟨(cl_J5_putStringAt_47b60_4 _ (List.mem_of_getElem? (i := 0) rfl)), List.forall_mem_cons.mpr ⟨(cl_J5_putStringAt_47b60_1 _ (List.mem_of_getElem? (i := 10) rfl)), List.forall_mem_cons.mpr ⟨(cl_J5_putStringAt_47b60_1 _ (List.mem_of_getElem? (i := 11) rfl)), List.forall_mem_cons.mpr ⟨(cl_J5_putStringAt_47b60_1 _ (List.mem_of_getElem? (i := 12) rfl)), List.forall_mem_cons.mpr ⟨(cl_J5_putStringAt_47b60_1 _ (List.mem_of_getElem? (i := 13) rfl)), List.forall_mem_cons.mpr ⟨(cl_J5_putStringAt_47b60_1 _ (List.mem_of_getElem? (i := 14) rfl)), List.forall_mem_cons.mpr ⟨(cl_J5_putStringAt_47b60_1 _ (List.mem_of_getElem? (i := 15) rfl)), List.forall_mem_cons.mpr ⟨(cl_J5_putStringAt_47b60_4 _ (List.mem_of_getElem? (i := 1) rfl)), List.forall_mem_cons.mpr ⟨(cl_J5_putStringAt_47b60_2 _ (List.mem_of_getElem? (i := 13) rfl)), List.forall_mem_cons.mpr ⟨(cl_J5_putStringAt_47b60_2 _ (List.mem_of_getElem? (i := 14) rfl)), List.forall_mem_cons.mpr ⟨(cl_J5_putStringAt_47b60_2 _ (List.mem_of_getElem? (i := 15) rfl)), List.forall_mem_cons.mpr ⟨(cl_J5_putStringAt_47b60_2 _ (List.mem_of_getElem? (i := 16) rfl)), List.forall_mem_cons.mpr ⟨(cl_J5_putStringAt_47b60_2 _ (List.mem_of_getElem? (i := 17) rfl)), List.forall_mem_cons.mpr ⟨(cl_J5_putStringAt_47b60_2 _ (List.mem_of_getElem? (i := 5) rfl)), List.forall_mem_cons.mpr ⟨(cl_J5_putStringAt_47b60_2 _ (List.mem_of_getElem? (i := 18) rfl)), List.forall_mem_cons.mpr ⟨(cl_J5_putStringAt_47b60_2 _ (List.mem_of_getElem? (i := 19) rfl)), List.forall_mem_cons.mpr ⟨(cl_J5_putStringAt_47b60_2 _ (List.mem_of_getElem? (i := 20) rfl)), List.forall_mem_cons.mpr ⟨(cl_J5_putStringAt_47b60_2 _ (List.mem_of_getElem? (i := 21) rfl)), List.forall_mem_cons.mpr ⟨(cl_J5_putStringAt_47b60_2 _ (List.mem_of_getElem? (i := 22) rfl)), fun _ h => absurd h List.not_mem_nil⟩⟩⟩⟩⟩⟩⟩⟩⟩⟩⟩⟩⟩⟩⟩⟩⟩⟩⟩⟩⟩⟩⟩⟩) w) ((List.forall_mem_cons.mpr ⟨(cl_J5_putStringAt_47b60_2 _ (List.mem_of_getElem? (i := 23) rfl)), List.forall_mem_cons.mpr ⟨(cl_J5_putStringAt_47b60_3 _ (List.mem_of_getElem? (i := 0) rfl)), List.forall_mem_cons.mpr ⟨(cl_J5_putStringAt_47b60_3 _ (List.mem_of_getElem? (i := 1) rfl)), List.forall_mem_cons.mpr ⟨(cl_J5_putStringAt_47b60_3 _ (List.mem_of_getElem? (i := 2) rfl)), List.forall_mem_cons.mpr ⟨(cl_J5_putStringAt_47b60_3 _ (List.mem_of_getElem? (i := 3) rfl)), List.forall_mem_cons.mpr ⟨(cl_J5_putStringAt_47b60_3 _ (List.mem_of_getElem? (i := 4) rfl)), List.forall_mem_cons.mpr ⟨(cl_J5_putStringAt_47b60_3 _ (List.mem_of_getElem? (i := 5) rfl)), List.forall_mem_cons.mpr ⟨(cl_J5_putStringAt_47b60_3 _ (List.mem_of_getElem? (i := 6) rfl)), List.forall_mem_cons.mpr ⟨(cl_J5_putStringAt_47b60_3 _ (List.mem_of_getElem? (i := 7) rfl)), List.forall_mem_cons.mpr ⟨(cl_J5_putStringAt_47b60_3 _ (List.mem_of_getElem? (i := 8) rfl)), List.forall_mem_cons.mpr ⟨(cl_J5_putStringAt_47b60_3 _ (List.mem_of_getElem? (i := 9) rfl)), List.forall_mem_cons.mpr ⟨(cl_J5_putStringAt_47b60_3 _ (List.mem_of_getElem? (i := 10) rfl)), List.forall_mem_cons.mpr ⟨(cl_J5_putStringAt_47b60_3 _ (List.mem_of_getElem? (i := 11) rfl)), List.forall_mem_cons.mpr ⟨(cl_J5_putStringAt_47b60_3 _ (List.mem_of_getElem? (i := 12) rfl)), List.forall_mem_cons.mpr ⟨(cl_J5_putStringAt_47b60_3 _ (List.mem_of_getElem? (i := 13) rfl)), List.forall_mem_cons.mpr ⟨(cl_J5_putStringAt_47b60_3 _ (List.mem_of_getElem? (i := 14) rfl)), fun _ h => absurd h List.not_mem_nil⟩⟩⟩⟩⟩⟩⟩⟩⟩⟩⟩⟩⟩⟩⟩⟩) w)) w) ((cl_J5_putStringAt_47b60_6) w)⟩) (by decide +kernel)
set_option maxRecDepth 20000 in
theorem gJ5_putStringAt_47b60_J0_getBytes_840e7 : GoodIn wsJ5_putStringAt_47b60 (wsV RJ5 399 RJ0 yJ0_getBytes_840e7 wsJ0_getBytes_840e7) := goodIn_app (goodIn_sub (List.forall_mem_cons.mpr ⟨(cl_J5_putStringAt_47b60_3 _ (List.mem_of_getElem? (i := 15) rfl)), List.forall_mem_cons.mpr ⟨(cl_J5_putStringAt_47b60_3 _ (List.mem_of_getElem? (i := 16) rfl)), List.forall_mem_cons.mpr ⟨(cl_J5_putStringAt_47b60_3 _ (List.mem_of_getElem? (i := 17) rfl)), List.forall_mem_cons.mpr ⟨(cl_J5_putStringAt_47b60_1 _ (List.mem_of_getElem? (i := 12) rfl)), fun _ h => absurd h List.not_mem_nil⟩⟩⟩⟩) (by decide +kernel)) ggJ5_putStringAt_47b60_J0_getBytes_840e7
noncomputable def dz_p04d_5 : List (Nat × Instr × Nat) := [(0, (.aload_n 0, 1)), (1, (.aload_n 2, 1)), (2, (.invokevirtual 397, 3)), (5, (.aload_n 2, 1)), (6, (.aload_n 0, 1)), (7, (.getfield 15, 3)), (10, (.iload_n 1, 1)), (11, (.aload_n 0, 1)), (12, (.getfield 22, 3)), (15, (.invokevirtual 399, 3)), (18, (.return_, 1))]
theorem dy_p04d_5 : dz_ok cJ5_putStringAt_47b60 dz_p04d_5 = true := by decide +kernel
theorem dJ5_putStringAt_47b60_0 : decode cJ5_putStringAt_47b60 0 = .ok (.aload_n 0, 1) := dz_at (i := 0) dy_p04d_5 rfl
theorem dJ5_putStringAt_47b60_1 : decode cJ5_putStringAt_47b60 1 = .ok (.aload_n 2, 1) := dz_at (i := 1) dy_p04d_5 rfl
theorem dJ5_putStringAt_47b60_2 : decode cJ5_putStringAt_47b60 2 = .ok (.invokevirtual 397, 3) := dz_at (i := 2) dy_p04d_5 rfl
theorem dJ5_putStringAt_47b60_5 : decode cJ5_putStringAt_47b60 5 = .ok (.aload_n 2, 1) := dz_at (i := 3) dy_p04d_5 rfl
theorem dJ5_putStringAt_47b60_6 : decode cJ5_putStringAt_47b60 6 = .ok (.aload_n 0, 1) := dz_at (i := 4) dy_p04d_5 rfl
theorem dJ5_putStringAt_47b60_7 : decode cJ5_putStringAt_47b60 7 = .ok (.getfield 15, 3) := dz_at (i := 5) dy_p04d_5 rfl
theorem dJ5_putStringAt_47b60_10 : decode cJ5_putStringAt_47b60 10 = .ok (.iload_n 1, 1) := dz_at (i := 6) dy_p04d_5 rfl
theorem dJ5_putStringAt_47b60_11 : decode cJ5_putStringAt_47b60 11 = .ok (.aload_n 0, 1) := dz_at (i := 7) dy_p04d_5 rfl
theorem dJ5_putStringAt_47b60_12 : decode cJ5_putStringAt_47b60 12 = .ok (.getfield 22, 3) := dz_at (i := 8) dy_p04d_5 rfl
theorem dJ5_putStringAt_47b60_15 : decode cJ5_putStringAt_47b60 15 = .ok (.invokevirtual 399, 3) := dz_at (i := 9) dy_p04d_5 rfl
theorem dJ5_putStringAt_47b60_18 : decode cJ5_putStringAt_47b60 18 = .ok (.return_, 1) := dz_at (i := 10) dy_p04d_5 rfl
set_option maxHeartbeats 4000000 in
set_option maxRecDepth 100000 in
theorem k_J5_putStringAt_47b60 (l : Launch) (dC : Nat → ClassId) (dI : Nat → Nat → Nat) (cB : ClassId) (h : Nat) (v : Nat) (k : Int32) (n : Nat) (mm : Nat) (f : Nat → Int32) (a : Nat) (y : Nat) (w : Nat) (b : List Int32) (sz N : Nat) (hwl : w ≤ 2) (hbf : sb_Fit (fun j => b.getD j 0)) (hn : n + w ≤ mm) (hmb : mm ≤ 34) (hf : sb_Fit f) : Met l yJ5_putStringAt_47b60 wsJ5_putStringAt_47b60 ({ frames := 2, cells := 0, slots := 0, locals := 123 }) (va_Pc [.ref h, .int (nI n), .ref a] (xS (dC, dI) xCl [(h, eB v k), (v, eY cB mm f)] [(cB, .byte)] a y w b sz N)) (va_Qv (fun (u : (Nat → Int32)) => sb_Fit u) (fun (u : (Nat → Int32)) t => xW (dC, dI) xCl [(h, eB v k), (v, eY cB mm u)] (va_A [(h, eB v k), (v, eY cB mm f)] sz) t) (va_A [(h, eB v k), (v, eY cB mm f)] sz)) 0 0 (va_A [(h, eB v k), (v, eY cB mm f)] sz) := by
  refine Met.ofW (cc := cJ5_putStringAt_47b60) (maxL := 3) (ret := none) (by decide +kernel) rfl ?_
  intro p e s m args below meth c s₁ B hml hv
  obtain ⟨rfl, ⟨⟨hsz, hP, hK, hD0, hN, hG⟩, hT⟩, hSs⟩ := hv
  have hx := B.exec
  have hb := B.bytes
  have hr := B.returns
  have hts := atoms_spec (ws := wsJ5_putStringAt_47b60) B.pre
  have hown : s.vm.findClass RJ5 = some m.cls := findClass_of_methodNamed B.named
  have hlocks := B.notSynchronized
  subst hsz
  have hAN : ∀ q, va_A [(h, eB v k), (v, eY cB mm f)] s.heap.size q → N ≤ q := xA_N hD0 hN
  have hD := hD0.self (sz := s.heap.size)
  generalize hAe : va_A [(h, eB v k), (v, eY cB mm f)] s.heap.size = A at hD hAN ⊢
  have hA : ∀ q : Nat, s.heap.size ≤ q → A q := fun q h => by rw [← hAe]; exact Or.inr h
  have hS : va_S A s.heap s.heap [] := va_S.rf
  have hP : va_P (dC, dI) xCl [(h, eB v k), (v, eY cB mm f)] s.heap := hP
  obtain ⟨hTc, ⟨tO, tT, fO, fT, hTo, hTt, hTa, hTb, hTf, hTg⟩, ⟨adK, adV, hTs, hTr0, hTr1, hTr2⟩, ⟨aE, hTe⟩, hTn⟩ := id hT
  have hl := lv_entry ([.ref h, .int (nI n), .ref a]) (n := 3) (Nat.le_of_ble_eq_true rfl)
  rw [lg_entry_eq]
  generalize (lg_sl ([.ref h, .int (nI n), .ref a]) ++ List.replicate (3 - (lg_sl ([.ref h, .int (nI n), .ref a])).length) Slot.unset).toArray = ls at hl ⊢
  have hl : lv_has ls 3 [(0, .ref h), (1, .int (nI n)), (2, .ref a)] := hl
  refine lv_aload_n hx hb dJ5_putStringAt_47b60_0 rfl (lv_at hl 0 rfl) ?_
  refine lv_aload_n hx hb dJ5_putStringAt_47b60_1 rfl (lv_at hl 2 rfl) ?_
  have hPc := hP.sub (ws' := [(h, eB v k)]) [0] rfl
  have hDc := hD.sub (ws' := [(h, eB v k)]) [0] (by decide +kernel) rfl
  have hKc := hK.sub (tys' := [(cB, .byte)]) [0] rfl
  have hFc := va_free (wc := [(h, eB v k)]) hD hS hA [0] rfl
  refine va_callv (va_runU (As := [.ref a]) (rest := []) ⟨hx, hb, hml, hown, hts⟩ (k_J5_inflateIfNeededFor_a7421 l dC dI cB h v k a y w b s.heap.size N hwl) (va_cwU 1 hts gJ5_putStringAt_47b60_J5_inflateIfNeededFor_a7421_u397J4 rfl rfl rfl rfl (by decide +kernel) ⟨Nat.le_of_ble_eq_true rfl, Nat.le_of_ble_eq_true rfl⟩) (xS.preV hKc hPc hDc hAN (Nat.le_trans hN hS.1) (hG.kept hS hAN) (hT.kept hS hAN) (hSs.kept (fun q h1 h2 => hS.2.1 q h1 (fun z => h2 (hAN q z)))) (ci := 1) (q0 := 0) rfl rfl) rfl rfl hl.1 rfl (lv_room (Nat.le_of_ble_eq_true rfl)) dJ5_putStringAt_47b60_2 ⟨(show _ ≤ 0 by omega), (show _ ≤ 0 by omega)⟩) hS (fun q _ h => hFc q h) hFc (fun u_2 t H locs ht hvm hw hB hz hk hS => ?_)
  obtain ⟨hP1, hD1⟩ := hB
  rw [ht] at hP1
  obtain ⟨hP, hD⟩ := va_join (wr := [(v, eY cB mm f)]) (w1 := [(h, eB v k)]) hP hD [0] [1] rfl rfl (by decide +kernel) (by decide +kernel) hk hFc hP1 hD1
  have hP : va_P (dC, dI) xCl [(v, eY cB mm f), (h, eB v k)] H := hP
  have hD : va_D A [(v, eY cB mm f), (h, eB v k)] := hD
  refine lv_aload_n hx hb dJ5_putStringAt_47b60_5 rfl (lv_at hl 2 rfl) ?_
  refine lv_aload_n hx hb dJ5_putStringAt_47b60_6 rfl (lv_at hl 0 rfl) ?_
  refine va_get (D := (dC, dI)) (ci := 1) (v := .ref v) (C := RJ4) (T := TJ4) (N := 4) hx hb hts (by decide +kernel) hown hK hP 1 rfl rfl 0 (by decide +kernel) (hts (.fieldLink RJ5 15 "java/lang/AbstractStringBuilder" "value" "[B") (by decide +kernel)) (fun _ h9 => h9) rfl dJ5_putStringAt_47b60_7 ?_
  refine lv_iload_n hx hb dJ5_putStringAt_47b60_10 rfl (lv_at hl 1 rfl) ?_
  refine lv_aload_n hx hb dJ5_putStringAt_47b60_11 rfl (lv_at hl 0 rfl) ?_
  refine va_get (D := (dC, dI)) (ci := 1) (v := .int 0) (C := RJ4) (T := TJ4) (N := 4) hx hb hts (by decide +kernel) hown hK hP 1 rfl rfl 1 (by decide +kernel) (hts (.fieldLink RJ5 22 "java/lang/AbstractStringBuilder" "coder" "B") (by decide +kernel)) (fun _ h9 => h9) rfl dJ5_putStringAt_47b60_12 ?_
  have hPc := hP.sub (ws' := [(v, eY cB mm f)]) [0] rfl
  have hDc := hD.sub (ws' := [(v, eY cB mm f)]) [0] (by decide +kernel) rfl
  have hKc := hK.sub (tys' := [(cB, .byte)]) [0] rfl
  have hFc := va_free (wc := [(v, eY cB mm f)]) hD hS hA [0] rfl
  refine va_callv (va_runV (As := [.ref v, .int (nI n), .int 0]) (rest := []) ⟨hx, hb, hml, hown, hts⟩ (k_J0_getBytes_840e7 l dC dI cB a y w b v n mm f H.size N hwl hbf (by omega) (by omega) hf) (cwV 3 hts gJ5_putStringAt_47b60_J0_getBytes_840e7 rfl rfl rfl (by decide +kernel) ⟨Nat.le_of_ble_eq_true rfl, Nat.le_of_ble_eq_true rfl⟩) (xS.preVS hKc hPc hDc hAN (Nat.le_trans hN hS.1) (hG.kept hS hAN) (hT.kept hS hAN) (hSs.kept (fun q h1 h2 => hS.2.1 q h1 (fun z => h2 (hAN q z)))) (vk_recv (hSs.narrow hAN) (i := 0) (by decide +kernel) hS)) rfl rfl hl.1 rfl (lv_room (Nat.le_of_ble_eq_true rfl)) dJ5_putStringAt_47b60_15 ⟨(show _ ≤ 0 by omega), (show _ ≤ 0 by omega)⟩) hS (fun q _ h => hFc q h) hFc (fun u_5 t H locs ht hvm hw hB hz hk hS => ?_)
  obtain ⟨hP1, hD1⟩ := hB
  rw [ht] at hP1
  obtain ⟨f2_3, rfl⟩ : ∃ z, z = u_5 := ⟨_, rfl⟩
  obtain ⟨hP, hD⟩ := va_join (wr := [(h, eB v k)]) (w1 := [(v, eY cB mm f2_3)]) hP hD [0] [1] rfl rfl (by decide +kernel) (by decide +kernel) hk hFc hP1 hD1
  have hP : va_P (dC, dI) xCl [(h, eB v k), (v, eY cB mm f2_3)] H := hP
  have hD : va_D A [(h, eB v k), (v, eY cB mm f2_3)] := hD
  have hf_f2_3 : sb_Fit f2_3 := hw
  have hP := hP.sub (ws' := [(h, eB v k), (v, eY cB mm f2_3)]) [0, 1] rfl
  have hD := hD.sub (ws' := [(h, eB v k), (v, eY cB mm f2_3)]) [0, 1] (by decide +kernel) rfl
  refine W.widen (k := 0) (n := 0) (by omega) (by omega) ?_
  exact W.vret hx hb hr (fun t ht hW => ⟨⟨f2_3, rfl, hf_f2_3, by rw [ht]; exact hP, hD⟩, hS.F ht⟩) hS.2.2 dJ5_putStringAt_47b60_18
theorem cl_J5_append_cf1ce_1 : ∀ w ∈ wsJ5_append_cf1ce_r1, w ∈ wsJ5_append_cf1ce := fun _ h => (List.mem_cons_of_mem _ (List.mem_append_left _ (List.mem_append_left _ (List.mem_append_left _ h))))
theorem cl_J5_append_cf1ce_2 : ∀ w ∈ wsJ5_append_cf1ce_r2, w ∈ wsJ5_append_cf1ce := fun _ h => (List.mem_cons_of_mem _ (List.mem_append_left _ (List.mem_append_left _ (List.mem_append_right _ (List.mem_append_left _ h)))))
theorem cl_J5_append_cf1ce_3 : ∀ w ∈ wsJ5_append_cf1ce_r3, w ∈ wsJ5_append_cf1ce := fun _ h => (List.mem_cons_of_mem _ (List.mem_append_left _ (List.mem_append_left _ (List.mem_append_right _ (List.mem_append_right _ (List.mem_append_left _ h))))))
theorem cl_J5_append_cf1ce_4 : ∀ w ∈ wsJ5_append_cf1ce_r4, w ∈ wsJ5_append_cf1ce := fun _ h => (List.mem_cons_of_mem _ (List.mem_append_left _ (List.mem_append_left _ (List.mem_append_right _ (List.mem_append_right _ (List.mem_append_right _ (List.mem_append_left _ h)))))))
theorem cl_J5_append_cf1ce_5 : ∀ w ∈ wsJ5_append_cf1ce_r5, w ∈ wsJ5_append_cf1ce := fun _ h => (List.mem_cons_of_mem _ (List.mem_append_left _ (List.mem_append_left _ (List.mem_append_right _ (List.mem_append_right _ (List.mem_append_right _ (List.mem_append_right _ (List.mem_append_left _ h))))))))
theorem cl_J5_append_cf1ce_6 : ∀ w ∈ wsJ5_append_cf1ce_r6, w ∈ wsJ5_append_cf1ce := fun _ h => (List.mem_cons_of_mem _ (List.mem_append_left _ (List.mem_append_left _ (List.mem_append_right _ (List.mem_append_right _ (List.mem_append_right _ (List.mem_append_right _ (List.mem_append_right _ h))))))))
theorem cl_J5_append_cf1ce_7 : ∀ w ∈ wsJ40, w ∈ wsJ5_append_cf1ce := fun _ h => (List.mem_cons_of_mem _ (List.mem_append_left _ (List.mem_append_right _ h)))
theorem cl_J5_append_cf1ce_8 : ∀ w ∈ wsJ00, w ∈ wsJ5_append_cf1ce := fun _ h => (List.mem_cons_of_mem _ (List.mem_append_right _ h))
set_option maxRecDepth 20000 in
theorem ggJ5_append_cf1ce_J5_appendNull_278bc : GoodIn wsJ5_append_cf1ce wsJ5_appendNull_278bc := goodIn_sub (List.forall_mem_cons.mpr ⟨(cl_J5_append_cf1ce_1 _ (List.mem_of_getElem? (i := 6) rfl)), fun w h => (List.mem_append.mp h).elim ((fun w h => (List.mem_append.mp h).elim ((List.forall_mem_cons.mpr ⟨(cl_J5_append_cf1ce_1 _ (List.mem_of_getElem? (i := 0) rfl)), List.forall_mem_cons.mpr ⟨(cl_J5_append_cf1ce_1 _ (List.mem_of_getElem? (i := 7) rfl)), List.forall_mem_cons.mpr ⟨(cl_J5_append_cf1ce_1 _ (List.mem_of_getElem? (i := 8) rfl)), List.forall_mem_cons.mpr ⟨(cl_J5_append_cf1ce_1 _ (List.mem_of_getElem? (i := 9) rfl)), List.forall_mem_cons.mpr ⟨(cl_J5_append_cf1ce_1 _ (List.mem_of_getElem? (i := 10) rfl)), List.forall_mem_cons.mpr ⟨(cl_J5_append_cf1ce_1 _ (List.mem_of_getElem? (i := 11) rfl)), List.forall_mem_cons.mpr ⟨(cl_J5_append_cf1ce_1 _ (List.mem_of_getElem? (i := 5) rfl)), List.forall_mem_cons.mpr ⟨(cl_J5_append_cf1ce_1 _ (List.mem_of_getElem? (i := 12) rfl)), List.forall_mem_cons.mpr ⟨(cl_J5_append_cf1ce_1 _ (List.mem_of_getElem? (i := 13) rfl)), List.forall_mem_cons.mpr ⟨(cl_J5_append_cf1ce_1 _ (List.mem_of_getElem? (i := 14) rfl)), List.forall_mem_cons.mpr ⟨(cl_J5_append_cf1ce_1 _ (List.mem_of_getElem? (i := 15) rfl)), List.forall_mem_cons.mpr ⟨(cl_J5_append_cf1ce_1 _ (List.mem_of_getElem? (i := 16) rfl)), List.forall_mem_cons.mpr ⟨(cl_J5_append_cf1ce_1 _ (List.mem_of_getElem? (i := 17) rfl)), List.forall_mem_cons.mpr ⟨(cl_J5_append_cf1ce_1 _ (List.mem_of_getElem? (i := 18) rfl)), List.forall_mem_cons.mpr ⟨(cl_J5_append_cf1ce_1 _ (List.mem_of_getElem? (i := 19) rfl)), List.forall_mem_cons.mpr ⟨(cl_J5_append_cf1ce_1 _ (List.mem_of_getElem? (i := 20) rfl)), List.forall_mem_cons.mpr ⟨(cl_J5_append_cf1ce_1 _ (List.mem_of_getElem? (i := 21) rfl)), List.forall_mem_cons.mpr ⟨(cl_J5_append_cf1ce_1 _ (List.mem_of_getElem? (i := 22) rfl)), List.forall_mem_cons.mpr ⟨(cl_J5_append_cf1ce_1 _ (List.mem_of_getElem? (i := 23) rfl)), List.forall_mem_cons.mpr ⟨(cl_J5_append_cf1ce_2 _ (List.mem_of_getElem? (i := 0) rfl)), List.forall_mem_cons.mpr ⟨(cl_J5_append_cf1ce_2 _ (List.mem_of_getElem? (i := 1) rfl)), List.forall_mem_cons.mpr ⟨(cl_J5_append_cf1ce_2 _ (List.mem_of_getElem? (i := 2) rfl)), List.forall_mem_cons.mpr ⟨(cl_J5_append_cf1ce_2 _ (List.mem_of_getElem? (i := 3) rfl)), List.forall_mem_cons.mpr ⟨(cl_J5_append_cf1ce_2 _ (List.mem_of_getElem? (i := 4) rfl)), fun _ h => absurd h List.not_mem_nil⟩⟩⟩⟩⟩⟩⟩⟩⟩⟩⟩⟩⟩⟩⟩⟩⟩⟩⟩⟩⟩⟩⟩⟩) w) ((fun w h => (List.mem_append.mp h).elim ((List.forall_mem_cons.mpr ⟨(cl_J5_append_cf1ce_2 _ (List.mem_of_getElem? (i := 5) rfl)), List.forall_mem_cons.mpr ⟨(cl_J5_append_cf1ce_2 _ (List.mem_of_getElem? (i := 6) rfl)), List.forall_mem_cons.mpr ⟨(cl_J5_append_cf1ce_2 _ (List.mem_of_getElem? (i := 7) rfl)), List.forall_mem_cons.mpr ⟨(cl_J5_append_cf1ce_2 _ (List.mem_of_getElem? (i := 8) rfl)), List.forall_mem_cons.mpr ⟨(cl_J5_append_cf1ce_2 _ (List.mem_of_getElem? (i := 9) rfl)), List.forall_mem_cons.mpr ⟨(cl_J5_append_cf1ce_2 _ (List.mem_of_getElem? (i := 10) rfl)), List.forall_mem_cons.mpr ⟨(cl_J5_append_cf1ce_2 _ (List.mem_of_getElem? (i := 11) rfl)), List.forall_mem_cons.mpr ⟨(cl_J5_append_cf1ce_2 _ (List.mem_of_getElem? (i := 12) rfl)), List.forall_mem_cons.mpr ⟨(cl_J5_append_cf1ce_2 _ (List.mem_of_getElem? (i := 13) rfl)), List.forall_mem_cons.mpr ⟨(cl_J5_append_cf1ce_2 _ (List.mem_of_getElem? (i := 14) rfl)), List.forall_mem_cons.mpr ⟨(cl_J5_append_cf1ce_2 _ (List.mem_of_getElem? (i := 15) rfl)), List.forall_mem_cons.mpr ⟨(cl_J5_append_cf1ce_2 _ (List.mem_of_getElem? (i := 16) rfl)), List.forall_mem_cons.mpr ⟨(cl_J5_append_cf1ce_2 _ (List.mem_of_getElem? (i := 17) rfl)), List.forall_mem_cons.mpr ⟨(cl_J5_append_cf1ce_2 _ (List.mem_of_getElem? (i := 18) rfl)), List.forall_mem_cons.mpr ⟨(cl_J5_append_cf1ce_2 _ (List.mem_of_getElem? (i := 19) rfl)), List.forall_mem_cons.mpr ⟨(cl_J5_append_cf1ce_2 _ (List.mem_of_getElem? (i := 20) rfl)), List.forall_mem_cons.mpr ⟨(cl_J5_append_cf1ce_2 _ (List.mem_of_getElem? (i := 21) rfl)), List.forall_mem_cons.mpr ⟨(cl_J5_append_cf1ce_2 _ (List.mem_of_getElem? (i := 22) rfl)), List.forall_mem_cons.mpr ⟨(cl_J5_append_cf1ce_2 _ (List.mem_of_getElem? (i := 23) rfl)), List.forall_mem_cons.mpr ⟨(cl_J5_append_cf1ce_3 _ (List.mem_of_getElem? (i := 0) rfl)), List.forall_mem_cons.mpr ⟨(cl_J5_append_cf1ce_3 _ (List.mem_of_getElem? (i := 1) rfl)), List.forall_mem_cons.mpr ⟨(cl_J5_append_cf1ce_3 _ (List.mem_of_getElem? (i := 2) rfl)), List.forall_mem_cons.mpr ⟨(cl_J5_append_cf1ce_3 _ (List.mem_of_getElem? (i := 3) rfl)), List.forall_mem_cons.mpr ⟨(cl_J5_append_cf1ce_3 _ (List.mem_of_getElem? (i := 4) rfl)), fun _ h => absurd h List.not_mem_nil⟩⟩⟩⟩⟩⟩⟩⟩⟩⟩⟩⟩⟩⟩⟩⟩⟩⟩⟩⟩⟩⟩⟩⟩) w) ((fun w h => (List.mem_append.mp h).elim ((List.forall_mem_cons.mpr ⟨(cl_J5_append_cf1ce_3 _ (List.mem_of_getElem? (i := 5) rfl)), List.forall_mem_cons.mpr ⟨(cl_J5_append_cf1ce_3 _ (List.mem_of_getElem? (i := 6) rfl)), List.forall_mem_cons.mpr ⟨(cl_J5_append_cf1ce_3 _ (List.mem_of_getElem? (i := 7) rfl)), List.forall_mem_cons.mpr ⟨(cl_J5_append_cf1ce_3 _ (List.mem_of_getElem? (i := 8) rfl)), List.forall_mem_cons.mpr ⟨(cl_J5_append_cf1ce_3 _ (List.mem_of_getElem? (i := 9) rfl)), List.forall_mem_cons.mpr ⟨(cl_J5_append_cf1ce_3 _ (List.mem_of_getElem? (i := 10) rfl)), List.forall_mem_cons.mpr ⟨(cl_J5_append_cf1ce_3 _ (List.mem_of_getElem? (i := 11) rfl)), List.forall_mem_cons.mpr ⟨(cl_J5_append_cf1ce_3 _ (List.mem_of_getElem? (i := 12) rfl)), List.forall_mem_cons.mpr ⟨(cl_J5_append_cf1ce_3 _ (List.mem_of_getElem? (i := 13) rfl)), List.forall_mem_cons.mpr ⟨(cl_J5_append_cf1ce_3 _ (List.mem_of_getElem? (i := 14) rfl)), List.forall_mem_cons.mpr ⟨(cl_J5_append_cf1ce_3 _ (List.mem_of_getElem? (i := 15) rfl)), List.forall_mem_cons.mpr ⟨(cl_J5_append_cf1ce_3 _ (List.mem_of_getElem? (i := 16) rfl)), List.forall_mem_cons.mpr ⟨(cl_J5_append_cf1ce_3 _ (List.mem_of_getElem? (i := 17) rfl)), List.forall_mem_cons.mpr ⟨(cl_J5_append_cf1ce_3 _ (List.mem_of_getElem? (i := 18) rfl)), List.forall_mem_cons.mpr ⟨(cl_J5_append_cf1ce_3 _ (List.mem_of_getElem? (i := 19) rfl)), List.forall_mem_cons.mpr ⟨(cl_J5_append_cf1ce_3 _ (List.mem_of_getElem? (i := 20) rfl)), List.forall_mem_cons.mpr ⟨(cl_J5_append_cf1ce_3 _ (List.mem_of_getElem? (i := 21) rfl)), List.forall_mem_cons.mpr ⟨(cl_J5_append_cf1ce_3 _ (List.mem_of_getElem? (i := 22) rfl)), List.forall_mem_cons.mpr ⟨(cl_J5_append_cf1ce_3 _ (List.mem_of_getElem? (i := 23) rfl)), List.forall_mem_cons.mpr ⟨(cl_J5_append_cf1ce_4 _ (List.mem_of_getElem? (i := 0) rfl)), List.forall_mem_cons.mpr ⟨(cl_J5_append_cf1ce_4 _ (List.mem_of_getElem? (i := 1) rfl)), List.forall_mem_cons.mpr ⟨(cl_J5_append_cf1ce_4 _ (List.mem_of_getElem? (i := 2) rfl)), List.forall_mem_cons.mpr ⟨(cl_J5_append_cf1ce_4 _ (List.mem_of_getElem? (i := 3) rfl)), List.forall_mem_cons.mpr ⟨(cl_J5_append_cf1ce_4 _ (List.mem_of_getElem? (i := 4) rfl)), fun _ h => absurd h List.not_mem_nil⟩⟩⟩⟩⟩⟩⟩⟩⟩⟩⟩⟩⟩⟩⟩⟩⟩⟩⟩⟩⟩⟩⟩⟩) w) ((List.forall_mem_cons.mpr ⟨(cl_J5_append_cf1ce_4 _ (List.mem_of_getElem? (i := 5) rfl)), List.forall_mem_cons.mpr ⟨(cl_J5_append_cf1ce_4 _ (List.mem_of_getElem? (i := 6) rfl)), List.forall_mem_cons.mpr ⟨(cl_J5_append_cf1ce_4 _ (List.mem_of_getElem? (i := 7) rfl)), List.forall_mem_cons.mpr ⟨(cl_J5_append_cf1ce_4 _ (List.mem_of_getElem? (i := 8) rfl)), fun _ h => absurd h List.not_mem_nil⟩⟩⟩⟩) w)) w)) w)) w) ((cl_J5_append_cf1ce_7) w)⟩) (by decide +kernel)
set_option maxRecDepth 20000 in
theorem gJ5_append_cf1ce_J5_appendNull_278bc_u204J4 : GoodIn wsJ5_append_cf1ce (va_wsU RJ5 204 RJ4 "java/lang/AbstractStringBuilder" ⟨"java/lang/AbstractStringBuilder", "appendNull", "()Ljava/lang/AbstractStringBuilder;"⟩ yJ5_appendNull_278bc wsJ5_appendNull_278bc) := goodIn_app (goodIn_of _ (by decide +kernel)) ggJ5_append_cf1ce_J5_appendNull_278bc
set_option maxRecDepth 20000 in
theorem ggJ5_append_cf1ce_J0_length_8abf5 : GoodIn wsJ5_append_cf1ce wsJ0_length_8abf5 := goodIn_sub (List.forall_mem_cons.mpr ⟨(cl_J5_append_cf1ce_4 _ (List.mem_of_getElem? (i := 12) rfl)), fun w h => (List.mem_append.mp h).elim ((List.forall_mem_cons.mpr ⟨(cl_J5_append_cf1ce_4 _ (List.mem_of_getElem? (i := 13) rfl)), List.forall_mem_cons.mpr ⟨(cl_J5_append_cf1ce_4 _ (List.mem_of_getElem? (i := 14) rfl)), List.forall_mem_cons.mpr ⟨(cl_J5_append_cf1ce_4 _ (List.mem_of_getElem? (i := 15) rfl)), List.forall_mem_cons.mpr ⟨(cl_J5_append_cf1ce_4 _ (List.mem_of_getElem? (i := 16) rfl)), List.forall_mem_cons.mpr ⟨(cl_J5_append_cf1ce_3 _ (List.mem_of_getElem? (i := 21) rfl)), List.forall_mem_cons.mpr ⟨(cl_J5_append_cf1ce_4 _ (List.mem_of_getElem? (i := 17) rfl)), List.forall_mem_cons.mpr ⟨(cl_J5_append_cf1ce_4 _ (List.mem_of_getElem? (i := 18) rfl)), List.forall_mem_cons.mpr ⟨(cl_J5_append_cf1ce_4 _ (List.mem_of_getElem? (i := 19) rfl)), fun _ h => absurd h List.not_mem_nil⟩⟩⟩⟩⟩⟩⟩⟩) w) ((cl_J5_append_cf1ce_8) w)⟩) (by decide +kernel)
set_option maxRecDepth 20000 in
theorem gJ5_append_cf1ce_J0_length_8abf5 : GoodIn wsJ5_append_cf1ce (wsV RJ5 32 RJ0 yJ0_length_8abf5 wsJ0_length_8abf5) := goodIn_app (goodIn_sub (List.forall_mem_cons.mpr ⟨(cl_J5_append_cf1ce_4 _ (List.mem_of_getElem? (i := 9) rfl)), List.forall_mem_cons.mpr ⟨(cl_J5_append_cf1ce_4 _ (List.mem_of_getElem? (i := 10) rfl)), List.forall_mem_cons.mpr ⟨(cl_J5_append_cf1ce_4 _ (List.mem_of_getElem? (i := 11) rfl)), List.forall_mem_cons.mpr ⟨(cl_J5_append_cf1ce_3 _ (List.mem_of_getElem? (i := 21) rfl)), fun _ h => absurd h List.not_mem_nil⟩⟩⟩⟩) (by decide +kernel)) ggJ5_append_cf1ce_J0_length_8abf5
set_option maxRecDepth 20000 in
theorem ggJ5_append_cf1ce_J5_ensureCapacityInternal_d00df : GoodIn wsJ5_append_cf1ce wsJ5_ensureCapacityInternal_d00df := goodIn_sub (List.forall_mem_cons.mpr ⟨(cl_J5_append_cf1ce_1 _ (List.mem_of_getElem? (i := 12) rfl)), fun w h => (List.mem_append.mp h).elim ((fun w h => (List.mem_append.mp h).elim ((List.forall_mem_cons.mpr ⟨(cl_J5_append_cf1ce_1 _ (List.mem_of_getElem? (i := 7) rfl)), List.forall_mem_cons.mpr ⟨(cl_J5_append_cf1ce_1 _ (List.mem_of_getElem? (i := 13) rfl)), List.forall_mem_cons.mpr ⟨(cl_J5_append_cf1ce_1 _ (List.mem_of_getElem? (i := 14) rfl)), List.forall_mem_cons.mpr ⟨(cl_J5_append_cf1ce_1 _ (List.mem_of_getElem? (i := 15) rfl)), List.forall_mem_cons.mpr ⟨(cl_J5_append_cf1ce_1 _ (List.mem_of_getElem? (i := 16) rfl)), List.forall_mem_cons.mpr ⟨(cl_J5_append_cf1ce_1 _ (List.mem_of_getElem? (i := 17) rfl)), List.forall_mem_cons.mpr ⟨(cl_J5_append_cf1ce_1 _ (List.mem_of_getElem? (i := 5) rfl)), List.forall_mem_cons.mpr ⟨(cl_J5_append_cf1ce_1 _ (List.mem_of_getElem? (i := 18) rfl)), List.forall_mem_cons.mpr ⟨(cl_J5_append_cf1ce_1 _ (List.mem_of_getElem? (i := 19) rfl)), List.forall_mem_cons.mpr ⟨(cl_J5_append_cf1ce_1 _ (List.mem_of_getElem? (i := 20) rfl)), List.forall_mem_cons.mpr ⟨(cl_J5_append_cf1ce_1 _ (List.mem_of_getElem? (i := 21) rfl)), List.forall_mem_cons.mpr ⟨(cl_J5_append_cf1ce_1 _ (List.mem_of_getElem? (i := 22) rfl)), List.forall_mem_cons.mpr ⟨(cl_J5_append_cf1ce_1 _ (List.mem_of_getElem? (i := 23) rfl)), List.forall_mem_cons.mpr ⟨(cl_J5_append_cf1ce_2 _ (List.mem_of_getElem? (i := 0) rfl)), List.forall_mem_cons.mpr ⟨(cl_J5_append_cf1ce_2 _ (List.mem_of_getElem? (i := 1) rfl)), List.forall_mem_cons.mpr ⟨(cl_J5_append_cf1ce_2 _ (List.mem_of_getElem? (i := 2) rfl)), List.forall_mem_cons.mpr ⟨(cl_J5_append_cf1ce_2 _ (List.mem_of_getElem? (i := 3) rfl)), List.forall_mem_cons.mpr ⟨(cl_J5_append_cf1ce_2 _ (List.mem_of_getElem? (i := 4) rfl)), List.forall_mem_cons.mpr ⟨(cl_J5_append_cf1ce_2 _ (List.mem_of_getElem? (i := 5) rfl)), List.forall_mem_cons.mpr ⟨(cl_J5_append_cf1ce_2 _ (List.mem_of_getElem? (i := 6) rfl)), List.forall_mem_cons.mpr ⟨(cl_J5_append_cf1ce_2 _ (List.mem_of_getElem? (i := 7) rfl)), List.forall_mem_cons.mpr ⟨(cl_J5_append_cf1ce_2 _ (List.mem_of_getElem? (i := 8) rfl)), List.forall_mem_cons.mpr ⟨(cl_J5_append_cf1ce_2 _ (List.mem_of_getElem? (i := 9) rfl)), List.forall_mem_cons.mpr ⟨(cl_J5_append_cf1ce_2 _ (List.mem_of_getElem? (i := 10) rfl)), fun _ h => absurd h List.not_mem_nil⟩⟩⟩⟩⟩⟩⟩⟩⟩⟩⟩⟩⟩⟩⟩⟩⟩⟩⟩⟩⟩⟩⟩⟩) w) ((List.forall_mem_cons.mpr ⟨(cl_J5_append_cf1ce_2 _ (List.mem_of_getElem? (i := 11) rfl)), List.forall_mem_cons.mpr ⟨(cl_J5_append_cf1ce_2 _ (List.mem_of_getElem? (i := 12) rfl)), List.forall_mem_cons.mpr ⟨(cl_J5_append_cf1ce_2 _ (List.mem_of_getElem? (i := 13) rfl)), List.forall_mem_cons.mpr ⟨(cl_J5_append_cf1ce_2 _ (List.mem_of_getElem? (i := 14) rfl)), List.forall_mem_cons.mpr ⟨(cl_J5_append_cf1ce_2 _ (List.mem_of_getElem? (i := 15) rfl)), List.forall_mem_cons.mpr ⟨(cl_J5_append_cf1ce_2 _ (List.mem_of_getElem? (i := 16) rfl)), List.forall_mem_cons.mpr ⟨(cl_J5_append_cf1ce_2 _ (List.mem_of_getElem? (i := 17) rfl)), List.forall_mem_cons.mpr ⟨(cl_J5_append_cf1ce_2 _ (List.mem_of_getElem? (i := 18) rfl)), List.forall_mem_cons.mpr ⟨(cl_J5_append_cf1ce_2 _ (List.mem_of_getElem? (i := 19) rfl)), List.forall_mem_cons.mpr ⟨(cl_J5_append_cf1ce_2 _ (List.mem_of_getElem? (i := 20) rfl)), List.forall_mem_cons.mpr ⟨(cl_J5_append_cf1ce_2 _ (List.mem_of_getElem? (i := 21) rfl)), List.forall_mem_cons.mpr ⟨(cl_J5_append_cf1ce_2 _ (List.mem_of_getElem? (i := 22) rfl)), List.forall_mem_cons.mpr ⟨(cl_J5_append_cf1ce_2 _ (List.mem_of_getElem? (i := 23) rfl)), List.forall_mem_cons.mpr ⟨(cl_J5_append_cf1ce_3 _ (List.mem_of_getElem? (i := 0) rfl)), List.forall_mem_cons.mpr ⟨(cl_J5_append_cf1ce_3 _ (List.mem_of_getElem? (i := 1) rfl)), fun _ h => absurd h List.not_mem_nil⟩⟩⟩⟩⟩⟩⟩⟩⟩⟩⟩⟩⟩⟩⟩) w)) w) ((cl_J5_append_cf1ce_7) w)⟩) (by decide +kernel)
set_option maxRecDepth 20000 in
theorem gJ5_append_cf1ce_J5_ensureCapacityInternal_d00df_u100J4 : GoodIn wsJ5_append_cf1ce (va_wsU RJ5 100 RJ4 "java/lang/AbstractStringBuilder" ⟨"java/lang/AbstractStringBuilder", "ensureCapacityInternal", "(I)V"⟩ yJ5_ensureCapacityInternal_d00df wsJ5_ensureCapacityInternal_d00df) := goodIn_app (goodIn_of _ (by decide +kernel)) ggJ5_append_cf1ce_J5_ensureCapacityInternal_d00df
set_option maxRecDepth 20000 in
theorem ggJ5_append_cf1ce_J5_putStringAt_47b60 : GoodIn wsJ5_append_cf1ce wsJ5_putStringAt_47b60 := goodIn_sub (List.forall_mem_cons.mpr ⟨(cl_J5_append_cf1ce_5 _ (List.mem_of_getElem? (i := 0) rfl)), fun w h => (List.mem_append.mp h).elim ((fun w h => (List.mem_append.mp h).elim ((fun w h => (List.mem_append.mp h).elim ((List.forall_mem_cons.mpr ⟨(cl_J5_append_cf1ce_1 _ (List.mem_of_getElem? (i := 7) rfl)), List.forall_mem_cons.mpr ⟨(cl_J5_append_cf1ce_1 _ (List.mem_of_getElem? (i := 13) rfl)), List.forall_mem_cons.mpr ⟨(cl_J5_append_cf1ce_5 _ (List.mem_of_getElem? (i := 1) rfl)), List.forall_mem_cons.mpr ⟨(cl_J5_append_cf1ce_5 _ (List.mem_of_getElem? (i := 2) rfl)), List.forall_mem_cons.mpr ⟨(cl_J5_append_cf1ce_5 _ (List.mem_of_getElem? (i := 3) rfl)), List.forall_mem_cons.mpr ⟨(cl_J5_append_cf1ce_5 _ (List.mem_of_getElem? (i := 4) rfl)), List.forall_mem_cons.mpr ⟨(cl_J5_append_cf1ce_1 _ (List.mem_of_getElem? (i := 5) rfl)), List.forall_mem_cons.mpr ⟨(cl_J5_append_cf1ce_5 _ (List.mem_of_getElem? (i := 5) rfl)), List.forall_mem_cons.mpr ⟨(cl_J5_append_cf1ce_3 _ (List.mem_of_getElem? (i := 7) rfl)), List.forall_mem_cons.mpr ⟨(cl_J5_append_cf1ce_5 _ (List.mem_of_getElem? (i := 6) rfl)), List.forall_mem_cons.mpr ⟨(cl_J5_append_cf1ce_4 _ (List.mem_of_getElem? (i := 15) rfl)), List.forall_mem_cons.mpr ⟨(cl_J5_append_cf1ce_4 _ (List.mem_of_getElem? (i := 16) rfl)), List.forall_mem_cons.mpr ⟨(cl_J5_append_cf1ce_3 _ (List.mem_of_getElem? (i := 21) rfl)), List.forall_mem_cons.mpr ⟨(cl_J5_append_cf1ce_4 _ (List.mem_of_getElem? (i := 17) rfl)), List.forall_mem_cons.mpr ⟨(cl_J5_append_cf1ce_4 _ (List.mem_of_getElem? (i := 18) rfl)), List.forall_mem_cons.mpr ⟨(cl_J5_append_cf1ce_4 _ (List.mem_of_getElem? (i := 19) rfl)), List.forall_mem_cons.mpr ⟨(cl_J5_append_cf1ce_5 _ (List.mem_of_getElem? (i := 7) rfl)), List.forall_mem_cons.mpr ⟨(cl_J5_append_cf1ce_5 _ (List.mem_of_getElem? (i := 8) rfl)), List.forall_mem_cons.mpr ⟨(cl_J5_append_cf1ce_5 _ (List.mem_of_getElem? (i := 9) rfl)), List.forall_mem_cons.mpr ⟨(cl_J5_append_cf1ce_5 _ (List.mem_of_getElem? (i := 10) rfl)), List.forall_mem_cons.mpr ⟨(cl_J5_append_cf1ce_5 _ (List.mem_of_getElem? (i := 11) rfl)), List.forall_mem_cons.mpr ⟨(cl_J5_append_cf1ce_1 _ (List.mem_of_getElem? (i := 0) rfl)), List.forall_mem_cons.mpr ⟨(cl_J5_append_cf1ce_3 _ (List.mem_of_getElem? (i := 2) rfl)), List.forall_mem_cons.mpr ⟨(cl_J5_append_cf1ce_3 _ (List.mem_of_getElem? (i := 3) rfl)), fun _ h => absurd h List.not_mem_nil⟩⟩⟩⟩⟩⟩⟩⟩⟩⟩⟩⟩⟩⟩⟩⟩⟩⟩⟩⟩⟩⟩⟩⟩) w) ((fun w h => (List.mem_append.mp h).elim ((List.forall_mem_cons.mpr ⟨(cl_J5_append_cf1ce_3 _ (List.mem_of_getElem? (i := 4) rfl)), List.forall_mem_cons.mpr ⟨(cl_J5_append_cf1ce_3 _ (List.mem_of_getElem? (i := 5) rfl)), List.forall_mem_cons.mpr ⟨(cl_J5_append_cf1ce_3 _ (List.mem_of_getElem? (i := 6) rfl)), List.forall_mem_cons.mpr ⟨(cl_J5_append_cf1ce_5 _ (List.mem_of_getElem? (i := 12) rfl)), List.forall_mem_cons.mpr ⟨(cl_J5_append_cf1ce_5 _ (List.mem_of_getElem? (i := 13) rfl)), List.forall_mem_cons.mpr ⟨(cl_J5_append_cf1ce_3 _ (List.mem_of_getElem? (i := 10) rfl)), List.forall_mem_cons.mpr ⟨(cl_J5_append_cf1ce_5 _ (List.mem_of_getElem? (i := 14) rfl)), List.forall_mem_cons.mpr ⟨(cl_J5_append_cf1ce_2 _ (List.mem_of_getElem? (i := 18) rfl)), List.forall_mem_cons.mpr ⟨(cl_J5_append_cf1ce_5 _ (List.mem_of_getElem? (i := 15) rfl)), List.forall_mem_cons.mpr ⟨(cl_J5_append_cf1ce_5 _ (List.mem_of_getElem? (i := 16) rfl)), List.forall_mem_cons.mpr ⟨(cl_J5_append_cf1ce_5 _ (List.mem_of_getElem? (i := 17) rfl)), List.forall_mem_cons.mpr ⟨(cl_J5_append_cf1ce_5 _ (List.mem_of_getElem? (i := 18) rfl)), List.forall_mem_cons.mpr ⟨(cl_J5_append_cf1ce_5 _ (List.mem_of_getElem? (i := 19) rfl)), List.forall_mem_cons.mpr ⟨(cl_J5_append_cf1ce_5 _ (List.mem_of_getElem? (i := 20) rfl)), List.forall_mem_cons.mpr ⟨(cl_J5_append_cf1ce_5 _ (List.mem_of_getElem? (i := 21) rfl)), List.forall_mem_cons.mpr ⟨(cl_J5_append_cf1ce_5 _ (List.mem_of_getElem? (i := 22) rfl)), List.forall_mem_cons.mpr ⟨(cl_J5_append_cf1ce_5 _ (List.mem_of_getElem? (i := 23) rfl)), List.forall_mem_cons.mpr ⟨(cl_J5_append_cf1ce_6 _ (List.mem_of_getElem? (i := 0) rfl)), List.forall_mem_cons.mpr ⟨(cl_J5_append_cf1ce_6 _ (List.mem_of_getElem? (i := 1) rfl)), List.forall_mem_cons.mpr ⟨(cl_J5_append_cf1ce_6 _ (List.mem_of_getElem? (i := 2) rfl)), List.forall_mem_cons.mpr ⟨(cl_J5_append_cf1ce_6 _ (List.mem_of_getElem? (i := 3) rfl)), List.forall_mem_cons.mpr ⟨(cl_J5_append_cf1ce_6 _ (List.mem_of_getElem? (i := 4) rfl)), List.forall_mem_cons.mpr ⟨(cl_J5_append_cf1ce_3 _ (List.mem_of_getElem? (i := 16) rfl)), List.forall_mem_cons.mpr ⟨(cl_J5_append_cf1ce_3 _ (List.mem_of_getElem? (i := 17) rfl)), fun _ h => absurd h List.not_mem_nil⟩⟩⟩⟩⟩⟩⟩⟩⟩⟩⟩⟩⟩⟩⟩⟩⟩⟩⟩⟩⟩⟩⟩⟩) w) ((fun w h => (List.mem_append.mp h).elim ((List.forall_mem_cons.mpr ⟨(cl_J5_append_cf1ce_3 _ (List.mem_of_getElem? (i := 18) rfl)), List.forall_mem_cons.mpr ⟨(cl_J5_append_cf1ce_6 _ (List.mem_of_getElem? (i := 5) rfl)), List.forall_mem_cons.mpr ⟨(cl_J5_append_cf1ce_6 _ (List.mem_of_getElem? (i := 6) rfl)), List.forall_mem_cons.mpr ⟨(cl_J5_append_cf1ce_6 _ (List.mem_of_getElem? (i := 7) rfl)), List.forall_mem_cons.mpr ⟨(cl_J5_append_cf1ce_3 _ (List.mem_of_getElem? (i := 23) rfl)), List.forall_mem_cons.mpr ⟨(cl_J5_append_cf1ce_6 _ (List.mem_of_getElem? (i := 8) rfl)), List.forall_mem_cons.mpr ⟨(cl_J5_append_cf1ce_6 _ (List.mem_of_getElem? (i := 9) rfl)), List.forall_mem_cons.mpr ⟨(cl_J5_append_cf1ce_4 _ (List.mem_of_getElem? (i := 2) rfl)), List.forall_mem_cons.mpr ⟨(cl_J5_append_cf1ce_6 _ (List.mem_of_getElem? (i := 10) rfl)), List.forall_mem_cons.mpr ⟨(cl_J5_append_cf1ce_4 _ (List.mem_of_getElem? (i := 4) rfl)), List.forall_mem_cons.mpr ⟨(cl_J5_append_cf1ce_4 _ (List.mem_of_getElem? (i := 5) rfl)), List.forall_mem_cons.mpr ⟨(cl_J5_append_cf1ce_4 _ (List.mem_of_getElem? (i := 6) rfl)), List.forall_mem_cons.mpr ⟨(cl_J5_append_cf1ce_3 _ (List.mem_of_getElem? (i := 12) rfl)), List.forall_mem_cons.mpr ⟨(cl_J5_append_cf1ce_4 _ (List.mem_of_getElem? (i := 7) rfl)), List.forall_mem_cons.mpr ⟨(cl_J5_append_cf1ce_4 _ (List.mem_of_getElem? (i := 8) rfl)), List.forall_mem_cons.mpr ⟨(cl_J5_append_cf1ce_6 _ (List.mem_of_getElem? (i := 11) rfl)), List.forall_mem_cons.mpr ⟨(cl_J5_append_cf1ce_6 _ (List.mem_of_getElem? (i := 12) rfl)), List.forall_mem_cons.mpr ⟨(cl_J5_append_cf1ce_6 _ (List.mem_of_getElem? (i := 13) rfl)), List.forall_mem_cons.mpr ⟨(cl_J5_append_cf1ce_6 _ (List.mem_of_getElem? (i := 14) rfl)), List.forall_mem_cons.mpr ⟨(cl_J5_append_cf1ce_4 _ (List.mem_of_getElem? (i := 13) rfl)), List.forall_mem_cons.mpr ⟨(cl_J5_append_cf1ce_6 _ (List.mem_of_getElem? (i := 15) rfl)), List.forall_mem_cons.mpr ⟨(cl_J5_append_cf1ce_2 _ (List.mem_of_getElem? (i := 23) rfl)), List.forall_mem_cons.mpr ⟨(cl_J5_append_cf1ce_3 _ (List.mem_of_getElem? (i := 0) rfl)), List.forall_mem_cons.mpr ⟨(cl_J5_append_cf1ce_3 _ (List.mem_of_getElem? (i := 1) rfl)), fun _ h => absurd h List.not_mem_nil⟩⟩⟩⟩⟩⟩⟩⟩⟩⟩⟩⟩⟩⟩⟩⟩⟩⟩⟩⟩⟩⟩⟩⟩) w) ((List.forall_mem_cons.mpr ⟨(cl_J5_append_cf1ce_4 _ (List.mem_of_getElem? (i := 14) rfl)), List.forall_mem_cons.mpr ⟨(cl_J5_append_cf1ce_6 _ (List.mem_of_getElem? (i := 16) rfl)), fun _ h => absurd h List.not_mem_nil⟩⟩) w)) w)) w)) w) ((cl_J5_append_cf1ce_7) w)) w) ((cl_J5_append_cf1ce_8) w)⟩) (by decide +kernel)
set_option maxRecDepth 20000 in
theorem gJ5_append_cf1ce_J5_putStringAt_47b60_u208J4 : GoodIn wsJ5_append_cf1ce (va_wsU RJ5 208 RJ4 "java/lang/AbstractStringBuilder" ⟨"java/lang/AbstractStringBuilder", "putStringAt", "(ILjava/lang/String;)V"⟩ yJ5_putStringAt_47b60 wsJ5_putStringAt_47b60) := goodIn_app (goodIn_of _ (by decide +kernel)) ggJ5_append_cf1ce_J5_putStringAt_47b60
noncomputable def dz_p04d_6 : List (Nat × Instr × Nat) := [(0, (.aload_n 1, 1)), (1, (.ifnonnull 8, 3)), (4, (.aload_n 0, 1)), (5, (.invokevirtual 204, 3)), (8, (.areturn, 1)), (9, (.aload_n 1, 1)), (10, (.invokevirtual 32, 3)), (13, (.istore_n 2, 1)), (14, (.aload_n 0, 1)), (15, (.aload_n 0, 1)), (16, (.getfield 79, 3)), (19, (.iload_n 2, 1)), (20, (.iadd, 1)), (21, (.invokevirtual 100, 3)), (24, (.aload_n 0, 1)), (25, (.aload_n 0, 1)), (26, (.getfield 79, 3)), (29, (.aload_n 1, 1)), (30, (.invokevirtual 208, 3)), (33, (.aload_n 0, 1)), (34, (.dup, 1)), (35, (.getfield 79, 3)), (38, (.iload_n 2, 1)), (39, (.iadd, 1)), (40, (.putfield 79, 3)), (43, (.aload_n 0, 1)), (44, (.areturn, 1))]
theorem dy_p04d_6 : dz_ok cJ5_append_cf1ce dz_p04d_6 = true := by decide +kernel
theorem dJ5_append_cf1ce_0 : decode cJ5_append_cf1ce 0 = .ok (.aload_n 1, 1) := dz_at (i := 0) dy_p04d_6 rfl
theorem dJ5_append_cf1ce_1 : decode cJ5_append_cf1ce 1 = .ok (.ifnonnull 8, 3) := dz_at (i := 1) dy_p04d_6 rfl
theorem dJ5_append_cf1ce_4 : decode cJ5_append_cf1ce 4 = .ok (.aload_n 0, 1) := dz_at (i := 2) dy_p04d_6 rfl
theorem dJ5_append_cf1ce_5 : decode cJ5_append_cf1ce 5 = .ok (.invokevirtual 204, 3) := dz_at (i := 3) dy_p04d_6 rfl
theorem dJ5_append_cf1ce_8 : decode cJ5_append_cf1ce 8 = .ok (.areturn, 1) := dz_at (i := 4) dy_p04d_6 rfl
theorem dJ5_append_cf1ce_9 : decode cJ5_append_cf1ce 9 = .ok (.aload_n 1, 1) := dz_at (i := 5) dy_p04d_6 rfl
theorem dJ5_append_cf1ce_10 : decode cJ5_append_cf1ce 10 = .ok (.invokevirtual 32, 3) := dz_at (i := 6) dy_p04d_6 rfl
theorem dJ5_append_cf1ce_13 : decode cJ5_append_cf1ce 13 = .ok (.istore_n 2, 1) := dz_at (i := 7) dy_p04d_6 rfl
theorem dJ5_append_cf1ce_14 : decode cJ5_append_cf1ce 14 = .ok (.aload_n 0, 1) := dz_at (i := 8) dy_p04d_6 rfl
theorem dJ5_append_cf1ce_15 : decode cJ5_append_cf1ce 15 = .ok (.aload_n 0, 1) := dz_at (i := 9) dy_p04d_6 rfl
theorem dJ5_append_cf1ce_16 : decode cJ5_append_cf1ce 16 = .ok (.getfield 79, 3) := dz_at (i := 10) dy_p04d_6 rfl
theorem dJ5_append_cf1ce_19 : decode cJ5_append_cf1ce 19 = .ok (.iload_n 2, 1) := dz_at (i := 11) dy_p04d_6 rfl
theorem dJ5_append_cf1ce_20 : decode cJ5_append_cf1ce 20 = .ok (.iadd, 1) := dz_at (i := 12) dy_p04d_6 rfl
theorem dJ5_append_cf1ce_21 : decode cJ5_append_cf1ce 21 = .ok (.invokevirtual 100, 3) := dz_at (i := 13) dy_p04d_6 rfl
theorem dJ5_append_cf1ce_24 : decode cJ5_append_cf1ce 24 = .ok (.aload_n 0, 1) := dz_at (i := 14) dy_p04d_6 rfl
theorem dJ5_append_cf1ce_25 : decode cJ5_append_cf1ce 25 = .ok (.aload_n 0, 1) := dz_at (i := 15) dy_p04d_6 rfl
theorem dJ5_append_cf1ce_26 : decode cJ5_append_cf1ce 26 = .ok (.getfield 79, 3) := dz_at (i := 16) dy_p04d_6 rfl
theorem dJ5_append_cf1ce_29 : decode cJ5_append_cf1ce 29 = .ok (.aload_n 1, 1) := dz_at (i := 17) dy_p04d_6 rfl
theorem dJ5_append_cf1ce_30 : decode cJ5_append_cf1ce 30 = .ok (.invokevirtual 208, 3) := dz_at (i := 18) dy_p04d_6 rfl
theorem dJ5_append_cf1ce_33 : decode cJ5_append_cf1ce 33 = .ok (.aload_n 0, 1) := dz_at (i := 19) dy_p04d_6 rfl
theorem dJ5_append_cf1ce_34 : decode cJ5_append_cf1ce 34 = .ok (.dup, 1) := dz_at (i := 20) dy_p04d_6 rfl
theorem dJ5_append_cf1ce_35 : decode cJ5_append_cf1ce 35 = .ok (.getfield 79, 3) := dz_at (i := 21) dy_p04d_6 rfl
theorem dJ5_append_cf1ce_38 : decode cJ5_append_cf1ce 38 = .ok (.iload_n 2, 1) := dz_at (i := 22) dy_p04d_6 rfl
theorem dJ5_append_cf1ce_39 : decode cJ5_append_cf1ce 39 = .ok (.iadd, 1) := dz_at (i := 23) dy_p04d_6 rfl
theorem dJ5_append_cf1ce_40 : decode cJ5_append_cf1ce 40 = .ok (.putfield 79, 3) := dz_at (i := 24) dy_p04d_6 rfl
theorem dJ5_append_cf1ce_43 : decode cJ5_append_cf1ce 43 = .ok (.aload_n 0, 1) := dz_at (i := 25) dy_p04d_6 rfl
theorem dJ5_append_cf1ce_44 : decode cJ5_append_cf1ce 44 = .ok (.areturn, 1) := dz_at (i := 26) dy_p04d_6 rfl
set_option maxHeartbeats 4000000 in
set_option maxRecDepth 100000 in
theorem k_J5_append_cf1ce (l : Launch) (dC : Nat → ClassId) (dI : Nat → Nat → Nat) (cB : ClassId) (h : Nat) (v : Nat) (n : Nat) (mm : Nat) (f : Nat → Int32) (a : Nat) (y : Nat) (w : Nat) (b : List Int32) (sz N : Nat) (hm : mm = 16 ∨ mm = 34) (hf : sb_Fit f) (hwl : w ≤ 2) (hbf : sb_Fit (fun j => b.getD j 0)) (hn : n + w ≤ 34) : Met l yJ5_append_cf1ce wsJ5_append_cf1ce ({ frames := 4, cells := 1, slots := 34, locals := 145 }) (va_Pc [.ref h, .ref a] (xS (dC, dI) xCl [(h, eB v (nI n)), (v, eY cB mm f)] [(cB, .byte)] a y w b sz N)) (va_Qr (fun (u : Nat × Nat × (Nat → Int32)) => (u.2.1 = 16 ∨ u.2.1 = 34) ∧ n + w ≤ u.2.1 ∧ sb_Fit u.2.2) (fun (u : Nat × Nat × (Nat → Int32)) a t => a = h ∧ xW (dC, dI) xCl [(h, eB u.1 (nI (n + w))), (u.1, eY cB u.2.1 u.2.2)] (va_A [(h, eB v (nI n)), (v, eY cB mm f)] sz) t) (va_A [(h, eB v (nI n)), (v, eY cB mm f)] sz)) 1 34 (va_A [(h, eB v (nI n)), (v, eY cB mm f)] sz) := by
  refine Met.ofW (cc := cJ5_append_cf1ce) (maxL := 3) (ret := (some (.object "java/lang/AbstractStringBuilder"))) (by decide +kernel) rfl ?_
  intro p e s m args below meth c s₁ B hml hv
  obtain ⟨rfl, ⟨⟨hsz, hP, hK, hD0, hN, hG⟩, hT⟩, hSs⟩ := hv
  have hx := B.exec
  have hb := B.bytes
  have hr := B.returns
  have hts := atoms_spec (ws := wsJ5_append_cf1ce) B.pre
  have hown : s.vm.findClass RJ5 = some m.cls := findClass_of_methodNamed B.named
  have hlocks := B.notSynchronized
  subst hsz
  have hAN : ∀ q, va_A [(h, eB v (nI n)), (v, eY cB mm f)] s.heap.size q → N ≤ q := xA_N hD0 hN
  have hD := hD0.self (sz := s.heap.size)
  generalize hAe : va_A [(h, eB v (nI n)), (v, eY cB mm f)] s.heap.size = A at hD hAN ⊢
  have hA : ∀ q : Nat, s.heap.size ≤ q → A q := fun q h => by rw [← hAe]; exact Or.inr h
  have hS : va_S A s.heap s.heap [] := va_S.rf
  have hP : va_P (dC, dI) xCl [(h, eB v (nI n)), (v, eY cB mm f)] s.heap := hP
  obtain ⟨hTc, ⟨tO, tT, fO, fT, hTo, hTt, hTa, hTb, hTf, hTg⟩, ⟨adK, adV, hTs, hTr0, hTr1, hTr2⟩, ⟨aE, hTe⟩, hTn⟩ := id hT
  have hl := lv_entry ([.ref h, .ref a]) (n := 3) (Nat.le_of_ble_eq_true rfl)
  rw [lg_entry_eq]
  generalize (lg_sl ([.ref h, .ref a]) ++ List.replicate (3 - (lg_sl ([.ref h, .ref a])).length) Slot.unset).toArray = ls at hl ⊢
  have hl : lv_has ls 3 [(0, .ref h), (1, .ref a)] := hl
  refine lv_aload_n hx hb dJ5_append_cf1ce_0 rfl (lv_at hl 1 rfl) ?_
  refine lv_ifnonnull (tgt := 9) hx hb dJ5_append_cf1ce_1 (by decide +kernel) ?_
  refine lv_aload_n hx hb dJ5_append_cf1ce_9 rfl (lv_at hl 1 rfl) ?_
  have hPc := xP_nil (D := (dC, dI)) (cl := xCl) (H := s.heap)
  have hDc := xD_nil (A := A)
  have hKc := hK.sub (tys' := [(cB, .byte)]) [0] rfl
  have hFc := va_free (wc := []) hD hS hA [] rfl
  refine va_calli (va_runV (As := []) (rest := []) ⟨hx, hb, hml, hown, hts⟩ (k_J0_length_8abf5 l dC dI cB a y w b s.heap.size N hwl) (cwV 0 hts gJ5_append_cf1ce_J0_length_8abf5 rfl rfl rfl (by decide +kernel) ⟨Nat.le_of_ble_eq_true rfl, Nat.le_of_ble_eq_true rfl⟩) (xS.preVS hKc hPc hDc hAN (Nat.le_trans hN hS.1) (hG.kept hS hAN) (hT.kept hS hAN) (hSs.kept (fun q h1 h2 => hS.2.1 q h1 (fun z => h2 (hAN q z)))) (vk_recv (hSs.narrow hAN) (i := 0) (by decide +kernel) hS)) rfl rfl hl.1 rfl (lv_room (Nat.le_of_ble_eq_true rfl)) dJ5_append_cf1ce_10 ⟨(show _ ≤ 1 by omega), (show _ ≤ 34 by omega)⟩) hS (fun q _ h => hFc q h) hFc (fun r_1 u_2 t H locs ht hvm hw hB hz hk hS => ?_)
  obtain ⟨hP1, hD1⟩ := hB
  rw [ht] at hP1
  obtain ⟨hP, hD⟩ := va_join (wr := [(h, eB v (nI n)), (v, eY cB mm f)]) (w1 := []) hP hD [] [0, 1] rfl rfl (by decide +kernel) (by decide +kernel) hk hFc hP1 hD1
  have hP : va_P (dC, dI) xCl [(h, eB v (nI n)), (v, eY cB mm f)] H := hP
  have hD : va_D A [(h, eB v (nI n)), (v, eY cB mm f)] := hD
  have hw : r_1 = (nI w) := hw
  rw [hw]
  refine lv_istore_n (lv' := [(2, .int (nI w)), (0, .ref h), (1, .ref a)]) hx hb dJ5_append_cf1ce_13 rfl hl (by decide +kernel) rfl (fun ls hl => ?_)
  refine lv_aload_n hx hb dJ5_append_cf1ce_14 rfl (lv_at hl 1 rfl) ?_
  refine lv_aload_n hx hb dJ5_append_cf1ce_15 rfl (lv_at hl 1 rfl) ?_
  refine va_get (D := (dC, dI)) (ci := 1) (v := .int (nI n)) (C := RJ4) (T := TJ4) (N := 4) hx hb hts (by decide +kernel) hown hK hP 0 rfl rfl 3 (by decide +kernel) (hts (.fieldLink RJ5 79 "java/lang/AbstractStringBuilder" "count" "I") (by decide +kernel)) (fun _ h9 => h9) rfl dJ5_append_cf1ce_16 ?_
  refine lv_iload_n hx hb dJ5_append_cf1ce_19 rfl (lv_at hl 0 rfl) ?_
  refine lv_iadd hx hb dJ5_append_cf1ce_20 ?_
  rw [show (((nI n) + (nI w)) : Int32) = (nI (n + w)) from nI_add _ _]
  have hPc := hP.sub (ws' := [(h, eB v (nI n)), (v, eY cB mm f)]) [0, 1] rfl
  have hDc := hD.sub (ws' := [(h, eB v (nI n)), (v, eY cB mm f)]) [0, 1] (by decide +kernel) rfl
  have hKc := hK.sub (tys' := [(cB, .byte)]) [0] rfl
  have hFc := va_free (wc := [(h, eB v (nI n)), (v, eY cB mm f)]) hD hS hA [0, 1] rfl
  refine va_callv (va_runU (As := [.int (nI (n + w))]) (rest := []) ⟨hx, hb, hml, hown, hts⟩ (k_J5_ensureCapacityInternal_d00df l dC dI cB h v (nI n) mm f (n + w) H.size N hm hf (by omega)) (va_cwU 1 hts gJ5_append_cf1ce_J5_ensureCapacityInternal_d00df_u100J4 rfl rfl rfl rfl (by decide +kernel) ⟨Nat.le_of_ble_eq_true rfl, Nat.le_of_ble_eq_true rfl⟩) (xT.preV hKc hPc hDc hAN (Nat.le_trans hN hS.1) (hG.kept hS hAN) (hT.kept hS hAN) (ci := 1) (q0 := 0) rfl rfl) rfl rfl hl.1 rfl (lv_room (Nat.le_of_ble_eq_true rfl)) dJ5_append_cf1ce_21 ⟨(show _ ≤ 1 by omega), (show _ ≤ 34 by omega)⟩) hS (fun q _ h => hFc q h) hFc (fun u_7 t H locs ht hvm hw hB hz hk hS => ?_)
  obtain ⟨hP1, hD1⟩ := hB
  rw [ht] at hP1
  obtain ⟨v2_3, m2_4, f2_5⟩ := u_7
  obtain ⟨hP, hD⟩ := va_join (wr := []) (w1 := [(h, eB v2_3 (nI n)), (v2_3, eY cB m2_4 f2_5)]) hP hD [0, 1] [] rfl rfl (by decide +kernel) (by decide +kernel) hk hFc hP1 hD1
  have hP : va_P (dC, dI) xCl [(h, eB v2_3 (nI n)), (v2_3, eY cB m2_4 f2_5)] H := hP
  have hD : va_D A [(h, eB v2_3 (nI n)), (v2_3, eY cB m2_4 f2_5)] := hD
  obtain ⟨hm_m2_4, hq_m2_4, hf_m2_4⟩ : (m2_4 = 16 ∨ m2_4 = 34) ∧ (n + w) ≤ m2_4 ∧ sb_Fit f2_5 := hw
  refine lv_aload_n hx hb dJ5_append_cf1ce_24 rfl (lv_at hl 1 rfl) ?_
  refine lv_aload_n hx hb dJ5_append_cf1ce_25 rfl (lv_at hl 1 rfl) ?_
  refine va_get (D := (dC, dI)) (ci := 1) (v := .int (nI n)) (C := RJ4) (T := TJ4) (N := 4) hx hb hts (by decide +kernel) hown hK hP 0 rfl rfl 3 (by decide +kernel) (hts (.fieldLink RJ5 79 "java/lang/AbstractStringBuilder" "count" "I") (by decide +kernel)) (fun _ h9 => h9) rfl dJ5_append_cf1ce_26 ?_
  refine lv_aload_n hx hb dJ5_append_cf1ce_29 rfl (lv_at hl 2 rfl) ?_
  have hPc := hP.sub (ws' := [(h, eB v2_3 (nI n)), (v2_3, eY cB m2_4 f2_5)]) [0, 1] rfl
  have hDc := hD.sub (ws' := [(h, eB v2_3 (nI n)), (v2_3, eY cB m2_4 f2_5)]) [0, 1] (by decide +kernel) rfl
  have hKc := hK.sub (tys' := [(cB, .byte)]) [0] rfl
  have hFc := va_free (wc := [(h, eB v2_3 (nI n)), (v2_3, eY cB m2_4 f2_5)]) hD hS hA [0, 1] rfl
  refine va_callv (va_runU (As := [.int (nI n), .ref a]) (rest := []) ⟨hx, hb, hml, hown, hts⟩ (k_J5_putStringAt_47b60 l dC dI cB h v2_3 (nI n) n m2_4 f2_5 a y w b H.size N hwl hbf (by omega) (by omega) hf_m2_4) (va_cwU 2 hts gJ5_append_cf1ce_J5_putStringAt_47b60_u208J4 rfl rfl rfl rfl (by decide +kernel) ⟨Nat.le_of_ble_eq_true rfl, Nat.le_of_ble_eq_true rfl⟩) (xS.preV hKc hPc hDc hAN (Nat.le_trans hN hS.1) (hG.kept hS hAN) (hT.kept hS hAN) (hSs.kept (fun q h1 h2 => hS.2.1 q h1 (fun z => h2 (hAN q z)))) (ci := 1) (q0 := 0) rfl rfl) rfl rfl hl.1 rfl (lv_room (Nat.le_of_ble_eq_true rfl)) dJ5_append_cf1ce_30 ⟨(show _ ≤ 1 by omega), (show _ ≤ 34 by omega)⟩) hS (fun q _ h => hFc q h) hFc (fun u_11 t H locs ht hvm hw hB hz hk hS => ?_)
  obtain ⟨hP1, hD1⟩ := hB
  rw [ht] at hP1
  obtain ⟨f2_9, rfl⟩ : ∃ z, z = u_11 := ⟨_, rfl⟩
  obtain ⟨hP, hD⟩ := va_join (wr := []) (w1 := [(h, eB v2_3 (nI n)), (v2_3, eY cB m2_4 f2_9)]) hP hD [0, 1] [] rfl rfl (by decide +kernel) (by decide +kernel) hk hFc hP1 hD1
  have hP : va_P (dC, dI) xCl [(h, eB v2_3 (nI n)), (v2_3, eY cB m2_4 f2_9)] H := hP
  have hD : va_D A [(h, eB v2_3 (nI n)), (v2_3, eY cB m2_4 f2_9)] := hD
  have hf_f2_9 : sb_Fit f2_9 := hw
  refine lv_aload_n hx hb dJ5_append_cf1ce_33 rfl (lv_at hl 1 rfl) ?_
  refine lv_dup hx hb dJ5_append_cf1ce_34 rfl ?_
  refine va_get (D := (dC, dI)) (ci := 1) (v := .int (nI n)) (C := RJ4) (T := TJ4) (N := 4) hx hb hts (by decide +kernel) hown hK hP 0 rfl rfl 3 (by decide +kernel) (hts (.fieldLink RJ5 79 "java/lang/AbstractStringBuilder" "count" "I") (by decide +kernel)) (fun _ h9 => h9) rfl dJ5_append_cf1ce_35 ?_
  refine lv_iload_n hx hb dJ5_append_cf1ce_38 rfl (lv_at hl 0 rfl) ?_
  refine lv_iadd hx hb dJ5_append_cf1ce_39 ?_
  rw [show (((nI n) + (nI w)) : Int32) = (nI (n + w)) from nI_add _ _]
  refine va_put (D := (dC, dI)) (ci := 1) (v := .int (nI (n + w))) (ty := .int) (C := RJ4) (T := TJ4) (N := 4) hx hb hts (by decide +kernel) tyJ4 tyJ4_ok nmJ4 hown hK hP hD hS 0 rfl rfl 3 (by decide +kernel) (hts (.fieldLink RJ5 79 "java/lang/AbstractStringBuilder" "count" "I") (by decide +kernel)) (fun _ h9 => h9) rfl (by decide +kernel) rfl rfl (Nat.le_of_ble_eq_true rfl) dJ5_append_cf1ce_40 (fun H locs hP hD hS => ?_)
  have hP : va_P (dC, dI) xCl [(h, eB v2_3 (nI (n + w))), (v2_3, eY cB m2_4 f2_9)] H := hP
  have hD : va_D A [(h, eB v2_3 (nI (n + w))), (v2_3, eY cB m2_4 f2_9)] := hD
  refine lv_aload_n hx hb dJ5_append_cf1ce_43 rfl (lv_at hl 1 rfl) ?_
  have hP := hP.sub (ws' := [(h, eB v2_3 (nI (n + w))), (v2_3, eY cB m2_4 f2_9)]) [0, 1] rfl
  have hD := hD.sub (ws' := [(h, eB v2_3 (nI (n + w))), (v2_3, eY cB m2_4 f2_9)]) [0, 1] (by decide +kernel) rfl
  refine W.widen (k := 1) (n := 34) (by omega) (by omega) ?_
  exact W.aret (v := .ref h) hx hb hr (Or.inl ⟨_, rfl⟩) (Or.inr ⟨_, rfl⟩) (fun t ht hW => ⟨⟨(v2_3, m2_4, f2_9), _, rfl, ⟨hm_m2_4, hq_m2_4, hf_f2_9⟩, ⟨rfl, by rw [ht]; exact hP, hD⟩⟩, hS.F ht⟩) hS.2.2 dJ5_append_cf1ce_44
theorem cl_J4_append_15ec4_1 : ∀ w ∈ wsJ4_append_15ec4_r1, w ∈ wsJ4_append_15ec4 := fun _ h => (List.mem_cons_of_mem _ (List.mem_append_left _ (List.mem_append_left _ (List.mem_append_left _ h))))
theorem cl_J4_append_15ec4_2 : ∀ w ∈ wsJ4_append_15ec4_r2, w ∈ wsJ4_append_15ec4 := fun _ h => (List.mem_cons_of_mem _ (List.mem_append_left _ (List.mem_append_left _ (List.mem_append_right _ (List.mem_append_left _ h)))))
theorem cl_J4_append_15ec4_3 : ∀ w ∈ wsJ4_append_15ec4_r3, w ∈ wsJ4_append_15ec4 := fun _ h => (List.mem_cons_of_mem _ (List.mem_append_left _ (List.mem_append_left _ (List.mem_append_right _ (List.mem_append_right _ (List.mem_append_left _ h))))))
theorem cl_J4_append_15ec4_4 : ∀ w ∈ wsJ4_append_15ec4_r4, w ∈ wsJ4_append_15ec4 := fun _ h => (List.mem_cons_of_mem _ (List.mem_append_left _ (List.mem_append_left _ (List.mem_append_right _ (List.mem_append_right _ (List.mem_append_right _ (List.mem_append_left _ h)))))))
theorem cl_J4_append_15ec4_5 : ∀ w ∈ wsJ4_append_15ec4_r5, w ∈ wsJ4_append_15ec4 := fun _ h => (List.mem_cons_of_mem _ (List.mem_append_left _ (List.mem_append_left _ (List.mem_append_right _ (List.mem_append_right _ (List.mem_append_right _ (List.mem_append_right _ (List.mem_append_left _ h))))))))
theorem cl_J4_append_15ec4_6 : ∀ w ∈ wsJ4_append_15ec4_r6, w ∈ wsJ4_append_15ec4 := fun _ h => (List.mem_cons_of_mem _ (List.mem_append_left _ (List.mem_append_left _ (List.mem_append_right _ (List.mem_append_right _ (List.mem_append_right _ (List.mem_append_right _ (List.mem_append_right _ h))))))))
theorem cl_J4_append_15ec4_7 : ∀ w ∈ wsJ40, w ∈ wsJ4_append_15ec4 := fun _ h => (List.mem_cons_of_mem _ (List.mem_append_left _ (List.mem_append_right _ h)))
theorem cl_J4_append_15ec4_8 : ∀ w ∈ wsJ00, w ∈ wsJ4_append_15ec4 := fun _ h => (List.mem_cons_of_mem _ (List.mem_append_right _ h))
set_option maxRecDepth 20000 in
theorem ggJ4_append_15ec4_J5_append_cf1ce : GoodIn wsJ4_append_15ec4 wsJ5_append_cf1ce := goodIn_sub (List.forall_mem_cons.mpr ⟨(cl_J4_append_15ec4_1 _ (List.mem_of_getElem? (i := 5) rfl)), fun w h => (List.mem_append.mp h).elim ((fun w h => (List.mem_append.mp h).elim ((fun w h => (List.mem_append.mp h).elim ((List.forall_mem_cons.mpr ⟨(cl_J4_append_15ec4_1 _ (List.mem_of_getElem? (i := 6) rfl)), List.forall_mem_cons.mpr ⟨(cl_J4_append_15ec4_1 _ (List.mem_of_getElem? (i := 7) rfl)), List.forall_mem_cons.mpr ⟨(cl_J4_append_15ec4_1 _ (List.mem_of_getElem? (i := 8) rfl)), List.forall_mem_cons.mpr ⟨(cl_J4_append_15ec4_1 _ (List.mem_of_getElem? (i := 9) rfl)), List.forall_mem_cons.mpr ⟨(cl_J4_append_15ec4_1 _ (List.mem_of_getElem? (i := 10) rfl)), List.forall_mem_cons.mpr ⟨(cl_J4_append_15ec4_1 _ (List.mem_of_getElem? (i := 4) rfl)), List.forall_mem_cons.mpr ⟨(cl_J4_append_15ec4_1 _ (List.mem_of_getElem? (i := 11) rfl)), List.forall_mem_cons.mpr ⟨(cl_J4_append_15ec4_1 _ (List.mem_of_getElem? (i := 12) rfl)), List.forall_mem_cons.mpr ⟨(cl_J4_append_15ec4_1 _ (List.mem_of_getElem? (i := 13) rfl)), List.forall_mem_cons.mpr ⟨(cl_J4_append_15ec4_1 _ (List.mem_of_getElem? (i := 14) rfl)), List.forall_mem_cons.mpr ⟨(cl_J4_append_15ec4_1 _ (List.mem_of_getElem? (i := 15) rfl)), List.forall_mem_cons.mpr ⟨(cl_J4_append_15ec4_1 _ (List.mem_of_getElem? (i := 16) rfl)), List.forall_mem_cons.mpr ⟨(cl_J4_append_15ec4_1 _ (List.mem_of_getElem? (i := 17) rfl)), List.forall_mem_cons.mpr ⟨(cl_J4_append_15ec4_1 _ (List.mem_of_getElem? (i := 18) rfl)), List.forall_mem_cons.mpr ⟨(cl_J4_append_15ec4_1 _ (List.mem_of_getElem? (i := 19) rfl)), List.forall_mem_cons.mpr ⟨(cl_J4_append_15ec4_1 _ (List.mem_of_getElem? (i := 20) rfl)), List.forall_mem_cons.mpr ⟨(cl_J4_append_15ec4_1 _ (List.mem_of_getElem? (i := 21) rfl)), List.forall_mem_cons.mpr ⟨(cl_J4_append_15ec4_1 _ (List.mem_of_getElem? (i := 22) rfl)), List.forall_mem_cons.mpr ⟨(cl_J4_append_15ec4_1 _ (List.mem_of_getElem? (i := 23) rfl)), List.forall_mem_cons.mpr ⟨(cl_J4_append_15ec4_2 _ (List.mem_of_getElem? (i := 0) rfl)), List.forall_mem_cons.mpr ⟨(cl_J4_append_15ec4_2 _ (List.mem_of_getElem? (i := 1) rfl)), List.forall_mem_cons.mpr ⟨(cl_J4_append_15ec4_2 _ (List.mem_of_getElem? (i := 2) rfl)), List.forall_mem_cons.mpr ⟨(cl_J4_append_15ec4_2 _ (List.mem_of_getElem? (i := 3) rfl)), List.forall_mem_cons.mpr ⟨(cl_J4_append_15ec4_2 _ (List.mem_of_getElem? (i := 4) rfl)), fun _ h => absurd h List.not_mem_nil⟩⟩⟩⟩⟩⟩⟩⟩⟩⟩⟩⟩⟩⟩⟩⟩⟩⟩⟩⟩⟩⟩⟩⟩) w) ((fun w h => (List.mem_append.mp h).elim ((List.forall_mem_cons.mpr ⟨(cl_J4_append_15ec4_2 _ (List.mem_of_getElem? (i := 5) rfl)), List.forall_mem_cons.mpr ⟨(cl_J4_append_15ec4_2 _ (List.mem_of_getElem? (i := 6) rfl)), List.forall_mem_cons.mpr ⟨(cl_J4_append_15ec4_2 _ (List.mem_of_getElem? (i := 7) rfl)), List.forall_mem_cons.mpr ⟨(cl_J4_append_15ec4_2 _ (List.mem_of_getElem? (i := 8) rfl)), List.forall_mem_cons.mpr ⟨(cl_J4_append_15ec4_2 _ (List.mem_of_getElem? (i := 9) rfl)), List.forall_mem_cons.mpr ⟨(cl_J4_append_15ec4_2 _ (List.mem_of_getElem? (i := 10) rfl)), List.forall_mem_cons.mpr ⟨(cl_J4_append_15ec4_2 _ (List.mem_of_getElem? (i := 11) rfl)), List.forall_mem_cons.mpr ⟨(cl_J4_append_15ec4_2 _ (List.mem_of_getElem? (i := 12) rfl)), List.forall_mem_cons.mpr ⟨(cl_J4_append_15ec4_2 _ (List.mem_of_getElem? (i := 13) rfl)), List.forall_mem_cons.mpr ⟨(cl_J4_append_15ec4_2 _ (List.mem_of_getElem? (i := 14) rfl)), List.forall_mem_cons.mpr ⟨(cl_J4_append_15ec4_2 _ (List.mem_of_getElem? (i := 15) rfl)), List.forall_mem_cons.mpr ⟨(cl_J4_append_15ec4_2 _ (List.mem_of_getElem? (i := 16) rfl)), List.forall_mem_cons.mpr ⟨(cl_J4_append_15ec4_2 _ (List.mem_of_getElem? (i := 17) rfl)), List.forall_mem_cons.mpr ⟨(cl_J4_append_15ec4_2 _ (List.mem_of_getElem? (i := 18) rfl)), List.forall_mem_cons.mpr ⟨(cl_J4_append_15ec4_2 _ (List.mem_of_getElem? (i := 19) rfl)), List.forall_mem_cons.mpr ⟨(cl_J4_append_15ec4_2 _ (List.mem_of_getElem? (i := 20) rfl)), List.forall_mem_cons.mpr ⟨(cl_J4_append_15ec4_2 _ (List.mem_of_getElem? (i := 21) rfl)), List.forall_mem_cons.mpr ⟨(cl_J4_append_15ec4_2 _ (List.mem_of_getElem? (i := 22) rfl)), List.forall_mem_cons.mpr ⟨(cl_J4_append_15ec4_2 _ (List.mem_of_getElem? (i := 23) rfl)), List.forall_mem_cons.mpr ⟨(cl_J4_append_15ec4_3 _ (List.mem_of_getElem? (i := 0) rfl)), List.forall_mem_cons.mpr ⟨(cl_J4_append_15ec4_3 _ (List.mem_of_getElem? (i := 1) rfl)), List.forall_mem_cons.mpr ⟨(cl_J4_append_15ec4_3 _ (List.mem_of_getElem? (i := 2) rfl)), List.forall_mem_cons.mpr ⟨(cl_J4_append_15ec4_3 _ (List.mem_of_getElem? (i := 3) rfl)), List.forall_mem_cons.mpr ⟨(cl_J4_append_15ec4_3 _ (List.mem_of_getElem? (i := 4) rfl)), fun _ h => absurd h List.not_mem_nil⟩⟩⟩⟩⟩⟩⟩⟩⟩⟩⟩⟩⟩⟩⟩⟩⟩⟩⟩⟩⟩⟩⟩⟩) w) ((fun w h => (List.mem_append.mp h).elim ((List.forall_mem_cons.mpr ⟨(cl_J4_append_15ec4_3 _ (List.mem_of_getElem? (i := 5) rfl)), List.forall_mem_cons.mpr ⟨(cl_J4_append_15ec4_3 _ (List.mem_of_getElem? (i := 6) rfl)), List.forall_mem_cons.mpr ⟨(cl_J4_append_15ec4_3 _ (List.mem_of_getElem? (i := 7) rfl)), List.forall_mem_cons.mpr ⟨(cl_J4_append_15ec4_3 _ (List.mem_of_getElem? (i := 8) rfl)), List.forall_mem_cons.mpr ⟨(cl_J4_append_15ec4_3 _ (List.mem_of_getElem? (i := 9) rfl)), List.forall_mem_cons.mpr ⟨(cl_J4_append_15ec4_3 _ (List.mem_of_getElem? (i := 10) rfl)), List.forall_mem_cons.mpr ⟨(cl_J4_append_15ec4_3 _ (List.mem_of_getElem? (i := 11) rfl)), List.forall_mem_cons.mpr ⟨(cl_J4_append_15ec4_3 _ (List.mem_of_getElem? (i := 12) rfl)), List.forall_mem_cons.mpr ⟨(cl_J4_append_15ec4_3 _ (List.mem_of_getElem? (i := 13) rfl)), List.forall_mem_cons.mpr ⟨(cl_J4_append_15ec4_3 _ (List.mem_of_getElem? (i := 14) rfl)), List.forall_mem_cons.mpr ⟨(cl_J4_append_15ec4_3 _ (List.mem_of_getElem? (i := 15) rfl)), List.forall_mem_cons.mpr ⟨(cl_J4_append_15ec4_3 _ (List.mem_of_getElem? (i := 16) rfl)), List.forall_mem_cons.mpr ⟨(cl_J4_append_15ec4_3 _ (List.mem_of_getElem? (i := 17) rfl)), List.forall_mem_cons.mpr ⟨(cl_J4_append_15ec4_3 _ (List.mem_of_getElem? (i := 18) rfl)), List.forall_mem_cons.mpr ⟨(cl_J4_append_15ec4_3 _ (List.mem_of_getElem? (i := 19) rfl)), List.forall_mem_cons.mpr ⟨(cl_J4_append_15ec4_3 _ (List.mem_of_getElem? (i := 20) rfl)), List.forall_mem_cons.mpr ⟨(cl_J4_append_15ec4_3 _ (List.mem_of_getElem? (i := 21) rfl)), List.forall_mem_cons.mpr ⟨(cl_J4_append_15ec4_3 _ (List.mem_of_getElem? (i := 22) rfl)), List.forall_mem_cons.mpr ⟨(cl_J4_append_15ec4_3 _ (List.mem_of_getElem? (i := 23) rfl)), List.forall_mem_cons.mpr ⟨(cl_J4_append_15ec4_4 _ (List.mem_of_getElem? (i := 0) rfl)), List.forall_mem_cons.mpr ⟨(cl_J4_append_15ec4_4 _ (List.mem_of_getElem? (i := 1) rfl)), List.forall_mem_cons.mpr ⟨(cl_J4_append_15ec4_4 _ (List.mem_of_getElem? (i := 2) rfl)), List.forall_mem_cons.mpr ⟨(cl_J4_append_15ec4_4 _ (List.mem_of_getElem? (i := 3) rfl)), List.forall_mem_cons.mpr ⟨(cl_J4_append_15ec4_4 _ (List.mem_of_getElem? (i := 4) rfl)), fun _ h => absurd h List.not_mem_nil⟩⟩⟩⟩⟩⟩⟩⟩⟩⟩⟩⟩⟩⟩⟩⟩⟩⟩⟩⟩⟩⟩⟩⟩) w) ((fun w h => (List.mem_append.mp h).elim ((List.forall_mem_cons.mpr ⟨(cl_J4_append_15ec4_4 _ (List.mem_of_getElem? (i := 5) rfl)), List.forall_mem_cons.mpr ⟨(cl_J4_append_15ec4_4 _ (List.mem_of_getElem? (i := 6) rfl)), List.forall_mem_cons.mpr ⟨(cl_J4_append_15ec4_4 _ (List.mem_of_getElem? (i := 7) rfl)), List.forall_mem_cons.mpr ⟨(cl_J4_append_15ec4_4 _ (List.mem_of_getElem? (i := 8) rfl)), List.forall_mem_cons.mpr ⟨(cl_J4_append_15ec4_4 _ (List.mem_of_getElem? (i := 9) rfl)), List.forall_mem_cons.mpr ⟨(cl_J4_append_15ec4_4 _ (List.mem_of_getElem? (i := 10) rfl)), List.forall_mem_cons.mpr ⟨(cl_J4_append_15ec4_4 _ (List.mem_of_getElem? (i := 11) rfl)), List.forall_mem_cons.mpr ⟨(cl_J4_append_15ec4_4 _ (List.mem_of_getElem? (i := 12) rfl)), List.forall_mem_cons.mpr ⟨(cl_J4_append_15ec4_4 _ (List.mem_of_getElem? (i := 13) rfl)), List.forall_mem_cons.mpr ⟨(cl_J4_append_15ec4_4 _ (List.mem_of_getElem? (i := 14) rfl)), List.forall_mem_cons.mpr ⟨(cl_J4_append_15ec4_4 _ (List.mem_of_getElem? (i := 15) rfl)), List.forall_mem_cons.mpr ⟨(cl_J4_append_15ec4_4 _ (List.mem_of_getElem? (i := 16) rfl)), List.forall_mem_cons.mpr ⟨(cl_J4_append_15ec4_4 _ (List.mem_of_getElem? (i := 17) rfl)), List.forall_mem_cons.mpr ⟨(cl_J4_append_15ec4_4 _ (List.mem_of_getElem? (i := 18) rfl)), List.forall_mem_cons.mpr ⟨(cl_J4_append_15ec4_4 _ (List.mem_of_getElem? (i := 19) rfl)), List.forall_mem_cons.mpr ⟨(cl_J4_append_15ec4_4 _ (List.mem_of_getElem? (i := 20) rfl)), List.forall_mem_cons.mpr ⟨(cl_J4_append_15ec4_4 _ (List.mem_of_getElem? (i := 21) rfl)), List.forall_mem_cons.mpr ⟨(cl_J4_append_15ec4_4 _ (List.mem_of_getElem? (i := 22) rfl)), List.forall_mem_cons.mpr ⟨(cl_J4_append_15ec4_4 _ (List.mem_of_getElem? (i := 23) rfl)), List.forall_mem_cons.mpr ⟨(cl_J4_append_15ec4_5 _ (List.mem_of_getElem? (i := 0) rfl)), List.forall_mem_cons.mpr ⟨(cl_J4_append_15ec4_5 _ (List.mem_of_getElem? (i := 1) rfl)), List.forall_mem_cons.mpr ⟨(cl_J4_append_15ec4_5 _ (List.mem_of_getElem? (i := 2) rfl)), List.forall_mem_cons.mpr ⟨(cl_J4_append_15ec4_5 _ (List.mem_of_getElem? (i := 3) rfl)), List.forall_mem_cons.mpr ⟨(cl_J4_append_15ec4_5 _ (List.mem_of_getElem? (i := 4) rfl)), fun _ h => absurd h List.not_mem_nil⟩⟩⟩⟩⟩⟩⟩⟩⟩⟩⟩⟩⟩⟩⟩⟩⟩⟩⟩⟩⟩⟩⟩⟩) w) ((fun w h => (List.mem_append.mp h).elim ((List.forall_mem_cons.mpr ⟨(cl_J4_append_15ec4_5 _ (List.mem_of_getElem? (i := 5) rfl)), List.forall_mem_cons.mpr ⟨(cl_J4_append_15ec4_5 _ (List.mem_of_getElem? (i := 6) rfl)), List.forall_mem_cons.mpr ⟨(cl_J4_append_15ec4_5 _ (List.mem_of_getElem? (i := 7) rfl)), List.forall_mem_cons.mpr ⟨(cl_J4_append_15ec4_5 _ (List.mem_of_getElem? (i := 8) rfl)), List.forall_mem_cons.mpr ⟨(cl_J4_append_15ec4_5 _ (List.mem_of_getElem? (i := 9) rfl)), List.forall_mem_cons.mpr ⟨(cl_J4_append_15ec4_5 _ (List.mem_of_getElem? (i := 10) rfl)), List.forall_mem_cons.mpr ⟨(cl_J4_append_15ec4_5 _ (List.mem_of_getElem? (i := 11) rfl)), List.forall_mem_cons.mpr ⟨(cl_J4_append_15ec4_5 _ (List.mem_of_getElem? (i := 12) rfl)), List.forall_mem_cons.mpr ⟨(cl_J4_append_15ec4_5 _ (List.mem_of_getElem? (i := 13) rfl)), List.forall_mem_cons.mpr ⟨(cl_J4_append_15ec4_5 _ (List.mem_of_getElem? (i := 14) rfl)), List.forall_mem_cons.mpr ⟨(cl_J4_append_15ec4_5 _ (List.mem_of_getElem? (i := 15) rfl)), List.forall_mem_cons.mpr ⟨(cl_J4_append_15ec4_5 _ (List.mem_of_getElem? (i := 16) rfl)), List.forall_mem_cons.mpr ⟨(cl_J4_append_15ec4_5 _ (List.mem_of_getElem? (i := 17) rfl)), List.forall_mem_cons.mpr ⟨(cl_J4_append_15ec4_5 _ (List.mem_of_getElem? (i := 18) rfl)), List.forall_mem_cons.mpr ⟨(cl_J4_append_15ec4_5 _ (List.mem_of_getElem? (i := 19) rfl)), List.forall_mem_cons.mpr ⟨(cl_J4_append_15ec4_5 _ (List.mem_of_getElem? (i := 20) rfl)), List.forall_mem_cons.mpr ⟨(cl_J4_append_15ec4_5 _ (List.mem_of_getElem? (i := 21) rfl)), List.forall_mem_cons.mpr ⟨(cl_J4_append_15ec4_5 _ (List.mem_of_getElem? (i := 22) rfl)), List.forall_mem_cons.mpr ⟨(cl_J4_append_15ec4_5 _ (List.mem_of_getElem? (i := 23) rfl)), List.forall_mem_cons.mpr ⟨(cl_J4_append_15ec4_6 _ (List.mem_of_getElem? (i := 0) rfl)), List.forall_mem_cons.mpr ⟨(cl_J4_append_15ec4_6 _ (List.mem_of_getElem? (i := 1) rfl)), List.forall_mem_cons.mpr ⟨(cl_J4_append_15ec4_6 _ (List.mem_of_getElem? (i := 2) rfl)), List.forall_mem_cons.mpr ⟨(cl_J4_append_15ec4_6 _ (List.mem_of_getElem? (i := 3) rfl)), List.forall_mem_cons.mpr ⟨(cl_J4_append_15ec4_6 _ (List.mem_of_getElem? (i := 4) rfl)), fun _ h => absurd h List.not_mem_nil⟩⟩⟩⟩⟩⟩⟩⟩⟩⟩⟩⟩⟩⟩⟩⟩⟩⟩⟩⟩⟩⟩⟩⟩) w) ((List.forall_mem_cons.mpr ⟨(cl_J4_append_15ec4_6 _ (List.mem_of_getElem? (i := 5) rfl)), List.forall_mem_cons.mpr ⟨(cl_J4_append_15ec4_6 _ (List.mem_of_getElem? (i := 6) rfl)), List.forall_mem_cons.mpr ⟨(cl_J4_append_15ec4_6 _ (List.mem_of_getElem? (i := 7) rfl)), List.forall_mem_cons.mpr ⟨(cl_J4_append_15ec4_6 _ (List.mem_of_getElem? (i := 8) rfl)), List.forall_mem_cons.mpr ⟨(cl_J4_append_15ec4_6 _ (List.mem_of_getElem? (i := 9) rfl)), List.forall_mem_cons.mpr ⟨(cl_J4_append_15ec4_6 _ (List.mem_of_getElem? (i := 10) rfl)), List.forall_mem_cons.mpr ⟨(cl_J4_append_15ec4_6 _ (List.mem_of_getElem? (i := 11) rfl)), List.forall_mem_cons.mpr ⟨(cl_J4_append_15ec4_6 _ (List.mem_of_getElem? (i := 12) rfl)), List.forall_mem_cons.mpr ⟨(cl_J4_append_15ec4_6 _ (List.mem_of_getElem? (i := 13) rfl)), List.forall_mem_cons.mpr ⟨(cl_J4_append_15ec4_6 _ (List.mem_of_getElem? (i := 14) rfl)), List.forall_mem_cons.mpr ⟨(cl_J4_append_15ec4_6 _ (List.mem_of_getElem? (i := 15) rfl)), List.forall_mem_cons.mpr ⟨(cl_J4_append_15ec4_6 _ (List.mem_of_getElem? (i := 16) rfl)), List.forall_mem_cons.mpr ⟨(cl_J4_append_15ec4_6 _ (List.mem_of_getElem? (i := 17) rfl)), List.forall_mem_cons.mpr ⟨(cl_J4_append_15ec4_6 _ (List.mem_of_getElem? (i := 18) rfl)), List.forall_mem_cons.mpr ⟨(cl_J4_append_15ec4_6 _ (List.mem_of_getElem? (i := 19) rfl)), List.forall_mem_cons.mpr ⟨(cl_J4_append_15ec4_6 _ (List.mem_of_getElem? (i := 20) rfl)), List.forall_mem_cons.mpr ⟨(cl_J4_append_15ec4_6 _ (List.mem_of_getElem? (i := 21) rfl)), fun _ h => absurd h List.not_mem_nil⟩⟩⟩⟩⟩⟩⟩⟩⟩⟩⟩⟩⟩⟩⟩⟩⟩) w)) w)) w)) w)) w)) w) ((cl_J4_append_15ec4_7) w)) w) ((cl_J4_append_15ec4_8) w)⟩) (by decide +kernel)
set_option maxRecDepth 20000 in
theorem gJ4_append_15ec4_J5_append_cf1ce_s29 : GoodIn wsJ4_append_15ec4 (va_wsSU RJ4 29 yJ5_append_cf1ce wsJ5_append_cf1ce) := goodIn_app (goodIn_of _ (by decide +kernel)) ggJ4_append_15ec4_J5_append_cf1ce
noncomputable def dz_p04d_7 : List (Nat × Instr × Nat) := [(0, (.aload_n 0, 1)), (1, (.aload_n 1, 1)), (2, (.invokespecial 29, 3)), (5, (.pop, 1)), (6, (.aload_n 0, 1)), (7, (.areturn, 1))]
theorem dy_p04d_7 : dz_ok cJ4_append_15ec4 dz_p04d_7 = true := by decide +kernel
theorem dJ4_append_15ec4_0 : decode cJ4_append_15ec4 0 = .ok (.aload_n 0, 1) := dz_at (i := 0) dy_p04d_7 rfl
theorem dJ4_append_15ec4_1 : decode cJ4_append_15ec4 1 = .ok (.aload_n 1, 1) := dz_at (i := 1) dy_p04d_7 rfl
theorem dJ4_append_15ec4_2 : decode cJ4_append_15ec4 2 = .ok (.invokespecial 29, 3) := dz_at (i := 2) dy_p04d_7 rfl
theorem dJ4_append_15ec4_5 : decode cJ4_append_15ec4 5 = .ok (.pop, 1) := dz_at (i := 3) dy_p04d_7 rfl
theorem dJ4_append_15ec4_6 : decode cJ4_append_15ec4 6 = .ok (.aload_n 0, 1) := dz_at (i := 4) dy_p04d_7 rfl
theorem dJ4_append_15ec4_7 : decode cJ4_append_15ec4 7 = .ok (.areturn, 1) := dz_at (i := 5) dy_p04d_7 rfl
set_option maxHeartbeats 4000000 in
set_option maxRecDepth 100000 in
theorem k_J4_append_15ec4 (l : Launch) (dC : Nat → ClassId) (dI : Nat → Nat → Nat) (cB : ClassId) (h : Nat) (v : Nat) (n : Nat) (mm : Nat) (f : Nat → Int32) (a : Nat) (y : Nat) (w : Nat) (b : List Int32) (sz N : Nat) (hm : mm = 16 ∨ mm = 34) (hf : sb_Fit f) (hwl : w ≤ 2) (hbf : sb_Fit (fun j => b.getD j 0)) (hn : n + w ≤ 34) : Met l yJ4_append_15ec4 wsJ4_append_15ec4 ({ frames := 5, cells := 1, slots := 34, locals := 167 }) (va_Pc [.ref h, .ref a] (xS (dC, dI) xCl [(h, eB v (nI n)), (v, eY cB mm f)] [(cB, .byte)] a y w b sz N)) (va_Qr (fun (u : Nat × Nat × (Nat → Int32)) => (u.2.1 = 16 ∨ u.2.1 = 34) ∧ n + w ≤ u.2.1 ∧ sb_Fit u.2.2) (fun (u : Nat × Nat × (Nat → Int32)) a t => a = h ∧ xW (dC, dI) xCl [(h, eB u.1 (nI (n + w))), (u.1, eY cB u.2.1 u.2.2)] (va_A [(h, eB v (nI n)), (v, eY cB mm f)] sz) t) (va_A [(h, eB v (nI n)), (v, eY cB mm f)] sz)) 1 34 (va_A [(h, eB v (nI n)), (v, eY cB mm f)] sz) := by
  refine Met.ofW (cc := cJ4_append_15ec4) (maxL := 2) (ret := (some (.object "java/lang/StringBuilder"))) (by decide +kernel) rfl ?_
  intro p e s m args below meth c s₁ B hml hv
  obtain ⟨rfl, ⟨⟨hsz, hP, hK, hD0, hN, hG⟩, hT⟩, hSs⟩ := hv
  have hx := B.exec
  have hb := B.bytes
  have hr := B.returns
  have hts := atoms_spec (ws := wsJ4_append_15ec4) B.pre
  have hown : s.vm.findClass RJ4 = some m.cls := findClass_of_methodNamed B.named
  have hlocks := B.notSynchronized
  subst hsz
  have hAN : ∀ q, va_A [(h, eB v (nI n)), (v, eY cB mm f)] s.heap.size q → N ≤ q := xA_N hD0 hN
  have hD := hD0.self (sz := s.heap.size)
  generalize hAe : va_A [(h, eB v (nI n)), (v, eY cB mm f)] s.heap.size = A at hD hAN ⊢
  have hA : ∀ q : Nat, s.heap.size ≤ q → A q := fun q h => by rw [← hAe]; exact Or.inr h
  have hS : va_S A s.heap s.heap [] := va_S.rf
  have hP : va_P (dC, dI) xCl [(h, eB v (nI n)), (v, eY cB mm f)] s.heap := hP
  obtain ⟨hTc, ⟨tO, tT, fO, fT, hTo, hTt, hTa, hTb, hTf, hTg⟩, ⟨adK, adV, hTs, hTr0, hTr1, hTr2⟩, ⟨aE, hTe⟩, hTn⟩ := id hT
  have hl := lv_entry ([.ref h, .ref a]) (n := 2) (Nat.le_of_ble_eq_true rfl)
  rw [lg_entry_eq]
  generalize (lg_sl ([.ref h, .ref a]) ++ List.replicate (2 - (lg_sl ([.ref h, .ref a])).length) Slot.unset).toArray = ls at hl ⊢
  have hl : lv_has ls 2 [(0, .ref h), (1, .ref a)] := hl
  refine lv_aload_n hx hb dJ4_append_15ec4_0 rfl (lv_at hl 0 rfl) ?_
  refine lv_aload_n hx hb dJ4_append_15ec4_1 rfl (lv_at hl 1 rfl) ?_
  have hPc := hP.sub (ws' := [(h, eB v (nI n)), (v, eY cB mm f)]) [0, 1] rfl
  have hDc := hD.sub (ws' := [(h, eB v (nI n)), (v, eY cB mm f)]) [0, 1] (by decide +kernel) rfl
  have hKc := hK.sub (tys' := [(cB, .byte)]) [0] rfl
  have hFc := va_free (wc := [(h, eB v (nI n)), (v, eY cB mm f)]) hD hS hA [0, 1] rfl
  refine va_callr (va_runSU (hK.1 1 _ rfl).2 (As := [.ref a]) (rest := []) ⟨hx, hb, hml, hown, hts⟩ (k_J5_append_cf1ce l dC dI cB h v n mm f a y w b s.heap.size N hm hf hwl hbf (by omega)) (va_cwSU 1 hts gJ4_append_15ec4_J5_append_cf1ce_s29 rfl rfl rfl (by decide +kernel) ⟨Nat.le_of_ble_eq_true rfl, Nat.le_of_ble_eq_true rfl⟩) (xS.preV hKc hPc hDc hAN (Nat.le_trans hN hS.1) (hG.kept hS hAN) (hT.kept hS hAN) (hSs.kept (fun q h1 h2 => hS.2.1 q h1 (fun z => h2 (hAN q z)))) (ci := 1) (q0 := 0) rfl rfl) rfl rfl hl.1 rfl (lv_room (Nat.le_of_ble_eq_true rfl)) dJ4_append_15ec4_2 ⟨(show _ ≤ 1 by omega), (show _ ≤ 34 by omega)⟩) hS (fun q _ h => hFc q h) hFc (fun u_5 r_4 t H locs ht hvm hw hB hz hk hS => ?_)
  obtain ⟨he_r_4, hP1, hD1⟩ := hB
  rw [ht] at hP1
  obtain ⟨v2_1, m2_2, f2_3⟩ := u_5
  obtain ⟨hP, hD⟩ := va_join (wr := []) (w1 := [(h, eB v2_1 (nI (n + w))), (v2_1, eY cB m2_2 f2_3)]) hP hD [0, 1] [] rfl rfl (by decide +kernel) (by decide +kernel) hk hFc hP1 hD1
  have hP : va_P (dC, dI) xCl [(h, eB v2_1 (nI (n + w))), (v2_1, eY cB m2_2 f2_3)] H := hP
  have hD : va_D A [(h, eB v2_1 (nI (n + w))), (v2_1, eY cB m2_2 f2_3)] := hD
  obtain ⟨hm_m2_2, hq_m2_2, hf_m2_2⟩ : (m2_2 = 16 ∨ m2_2 = 34) ∧ n + w ≤ m2_2 ∧ sb_Fit f2_3 := hw
  rw [he_r_4]
  refine lv_pop hx hb dJ4_append_15ec4_5 rfl ?_
  refine lv_aload_n hx hb dJ4_append_15ec4_6 rfl (lv_at hl 0 rfl) ?_
  have hP := hP.sub (ws' := [(h, eB v2_1 (nI (n + w))), (v2_1, eY cB m2_2 f2_3)]) [0, 1] rfl
  have hD := hD.sub (ws' := [(h, eB v2_1 (nI (n + w))), (v2_1, eY cB m2_2 f2_3)]) [0, 1] (by decide +kernel) rfl
  refine W.widen (k := 1) (n := 34) (by omega) (by omega) ?_
  exact W.aret (v := .ref h) hx hb hr (Or.inl ⟨_, rfl⟩) (Or.inr ⟨_, rfl⟩) (fun t ht hW => ⟨⟨(v2_1, m2_2, f2_3), _, rfl, ⟨hm_m2_2, hq_m2_2, hf_m2_2⟩, ⟨rfl, by rw [ht]; exact hP, hD⟩⟩, hS.F ht⟩) hS.2.2 dJ4_append_15ec4_7
noncomputable def dz_p04d_8 : List (Nat × Instr × Nat) := [(0, (.iload_n 1, 1)), (1, (.iload_n 0, 1)), (2, (.if_icmp .ge 35, 3)), (5, (.new 43, 3)), (8, (.dup, 1)), (9, (.new 45, 3)), (12, (.dup, 1)), (13, (.invokespecial 47, 3)), (16, (.iload_n 0, 1)), (17, (.invokevirtual 54, 3)), (20, (.ldc_w 337, 3)), (23, (.invokevirtual 50, 3)), (26, (.iload_n 1, 1)), (27, (.invokevirtual 54, 3)), (30, (.invokevirtual 61, 3)), (33, (.invokespecial 65, 3)), (36, (.athrow, 1)), (37, (.return_, 1))]
theorem dy_p04d_8 : dz_ok cJ7_checkLength_df160 dz_p04d_8 = true := by decide +kernel
theorem dJ7_checkLength_df160_0 : decode cJ7_checkLength_df160 0 = .ok (.iload_n 1, 1) := dz_at (i := 0) dy_p04d_8 rfl
theorem dJ7_checkLength_df160_1 : decode cJ7_checkLength_df160 1 = .ok (.iload_n 0, 1) := dz_at (i := 1) dy_p04d_8 rfl
theorem dJ7_checkLength_df160_2 : decode cJ7_checkLength_df160 2 = .ok (.if_icmp .ge 35, 3) := dz_at (i := 2) dy_p04d_8 rfl
theorem dJ7_checkLength_df160_5 : decode cJ7_checkLength_df160 5 = .ok (.new 43, 3) := dz_at (i := 3) dy_p04d_8 rfl
theorem dJ7_checkLength_df160_8 : decode cJ7_checkLength_df160 8 = .ok (.dup, 1) := dz_at (i := 4) dy_p04d_8 rfl
theorem dJ7_checkLength_df160_9 : decode cJ7_checkLength_df160 9 = .ok (.new 45, 3) := dz_at (i := 5) dy_p04d_8 rfl
theorem dJ7_checkLength_df160_12 : decode cJ7_checkLength_df160 12 = .ok (.dup, 1) := dz_at (i := 6) dy_p04d_8 rfl
theorem dJ7_checkLength_df160_13 : decode cJ7_checkLength_df160 13 = .ok (.invokespecial 47, 3) := dz_at (i := 7) dy_p04d_8 rfl
theorem dJ7_checkLength_df160_16 : decode cJ7_checkLength_df160 16 = .ok (.iload_n 0, 1) := dz_at (i := 8) dy_p04d_8 rfl
theorem dJ7_checkLength_df160_17 : decode cJ7_checkLength_df160 17 = .ok (.invokevirtual 54, 3) := dz_at (i := 9) dy_p04d_8 rfl
theorem dJ7_checkLength_df160_20 : decode cJ7_checkLength_df160 20 = .ok (.ldc_w 337, 3) := dz_at (i := 10) dy_p04d_8 rfl
theorem dJ7_checkLength_df160_23 : decode cJ7_checkLength_df160 23 = .ok (.invokevirtual 50, 3) := dz_at (i := 11) dy_p04d_8 rfl
theorem dJ7_checkLength_df160_26 : decode cJ7_checkLength_df160 26 = .ok (.iload_n 1, 1) := dz_at (i := 12) dy_p04d_8 rfl
theorem dJ7_checkLength_df160_27 : decode cJ7_checkLength_df160 27 = .ok (.invokevirtual 54, 3) := dz_at (i := 13) dy_p04d_8 rfl
theorem dJ7_checkLength_df160_30 : decode cJ7_checkLength_df160 30 = .ok (.invokevirtual 61, 3) := dz_at (i := 14) dy_p04d_8 rfl
theorem dJ7_checkLength_df160_33 : decode cJ7_checkLength_df160 33 = .ok (.invokespecial 65, 3) := dz_at (i := 15) dy_p04d_8 rfl
theorem dJ7_checkLength_df160_36 : decode cJ7_checkLength_df160 36 = .ok (.athrow, 1) := dz_at (i := 16) dy_p04d_8 rfl
theorem dJ7_checkLength_df160_37 : decode cJ7_checkLength_df160 37 = .ok (.return_, 1) := dz_at (i := 17) dy_p04d_8 rfl
set_option maxHeartbeats 4000000 in
set_option maxRecDepth 100000 in
theorem k_J7_checkLength_df160 (l : Launch) (dC : Nat → ClassId) (dI : Nat → Nat → Nat) (cB : ClassId) (n : Nat) (sz N : Nat) (hn : n ≤ 34) : Met l yJ7_checkLength_df160 wsJ7_checkLength_df160 ({ frames := 0, cells := 0, slots := 0, locals := 0 }) (va_Pc [.int 0, .int (nI n)] (xT (dC, dI) xCl [] [(cB, .byte)] sz N)) (va_Qv (fun (u : Unit) => True) (fun (u : Unit) t => xW (dC, dI) xCl [] (va_A [] sz) t) (va_A [] sz)) 0 0 (va_A [] sz) := by
  refine Met.ofW (cc := cJ7_checkLength_df160) (maxL := 2) (ret := none) (by decide +kernel) rfl ?_
  intro p e s m args below meth c s₁ B hml hv
  obtain ⟨rfl, ⟨hsz, hP, hK, hD0, hN, hG⟩, hT⟩ := hv
  have hx := B.exec
  have hb := B.bytes
  have hr := B.returns
  have hts := atoms_spec (ws := wsJ7_checkLength_df160) B.pre
  have hown : s.vm.findClass RJ7 = some m.cls := findClass_of_methodNamed B.named
  have hlocks := B.notSynchronized
  subst hsz
  have hAN : ∀ q, va_A [] s.heap.size q → N ≤ q := xA_N hD0 hN
  have hD := hD0.self (sz := s.heap.size)
  generalize hAe : va_A [] s.heap.size = A at hD hAN ⊢
  have hA : ∀ q : Nat, s.heap.size ≤ q → A q := fun q h => by rw [← hAe]; exact Or.inr h
  have hS : va_S A s.heap s.heap [] := va_S.rf
  have hP : va_P (dC, dI) xCl [] s.heap := hP
  obtain ⟨hTc, ⟨tO, tT, fO, fT, hTo, hTt, hTa, hTb, hTf, hTg⟩, ⟨adK, adV, hTs, hTr0, hTr1, hTr2⟩, ⟨aE, hTe⟩, hTn⟩ := id hT
  have hl := lv_entry ([.int 0, .int (nI n)]) (n := 2) (Nat.le_of_ble_eq_true rfl)
  rw [lg_entry_eq]
  generalize (lg_sl ([.int 0, .int (nI n)]) ++ List.replicate (2 - (lg_sl ([.int 0, .int (nI n)])).length) Slot.unset).toArray = ls at hl ⊢
  have hl : lv_has ls 2 [(0, .int 0), (1, .int (nI n))] := hl
  refine lv_iload_n hx hb dJ7_checkLength_df160_0 rfl (lv_at hl 1 rfl) ?_
  refine lv_iload_n hx hb dJ7_checkLength_df160_1 rfl (lv_at hl 0 rfl) ?_
  refine lv_icmp_ge (tgt := 37) hx hb dJ7_checkLength_df160_2 (by decide +kernel) (fun c9 => ?_) (fun c9 => absurd (nI_pos' (by omega)) c9)
  have hP := xP_nil (D := (dC, dI)) (cl := xCl) (H := s.heap)
  have hD := xD_nil (A := A)
  refine W.widen (k := 0) (n := 0) (by omega) (by omega) ?_
  exact W.vret hx hb hr (fun t ht hW => ⟨⟨(), rfl, trivial, by rw [ht]; exact hP, hD⟩, hS.F ht⟩) hS.2.2 dJ7_checkLength_df160_37
theorem cl_J7_copyOfRangeByte_39247_1 : ∀ w ∈ [.arrayClass .byte, .methodLink RJ7 304 Lib.Math.min.name, .static Lib.Math.min.name, .initialized "java/lang/Math", .code Lib.Math.min.name Lib.Math.min.code 2 (some .int), .methodLink RJ7 150 arraycopyName, .native arraycopyName, .static arraycopyName, .initialized "java/lang/System", .methodLink RJ7 343 yJ7_checkLength_df160, .static yJ7_checkLength_df160, .initialized RJ7, .code yJ7_checkLength_df160 cJ7_checkLength_df160 2 none, .classLink RJ7 45 RJ4, .instantiable RJ4 4, .initialized RJ4], w ∈ wsJ7_copyOfRangeByte_39247 := fun _ h => (List.mem_cons_of_mem _ (List.mem_append_left _ h))
theorem cl_J7_copyOfRangeByte_39247_2 : ∀ w ∈ wsJ40, w ∈ wsJ7_copyOfRangeByte_39247 := fun _ h => (List.mem_cons_of_mem _ (List.mem_append_right _ h))
set_option maxRecDepth 20000 in
theorem ggJ7_copyOfRangeByte_39247_J7_checkLength_df160 : GoodIn wsJ7_copyOfRangeByte_39247 wsJ7_checkLength_df160 := goodIn_sub (List.forall_mem_cons.mpr ⟨(cl_J7_copyOfRangeByte_39247_1 _ (List.mem_of_getElem? (i := 12) rfl)), fun w h => (List.mem_append.mp h).elim ((List.forall_mem_cons.mpr ⟨(cl_J7_copyOfRangeByte_39247_1 _ (List.mem_of_getElem? (i := 13) rfl)), List.forall_mem_cons.mpr ⟨(cl_J7_copyOfRangeByte_39247_1 _ (List.mem_of_getElem? (i := 14) rfl)), List.forall_mem_cons.mpr ⟨(cl_J7_copyOfRangeByte_39247_1 _ (List.mem_of_getElem? (i := 15) rfl)), fun _ h => absurd h List.not_mem_nil⟩⟩⟩) w) ((cl_J7_copyOfRangeByte_39247_2) w)⟩) (by decide +kernel)
set_option maxRecDepth 20000 in
theorem gJ7_copyOfRangeByte_39247_J7_checkLength_df160 : GoodIn wsJ7_copyOfRangeByte_39247 (va_wsS RJ7 343 yJ7_checkLength_df160 wsJ7_checkLength_df160) := goodIn_app (goodIn_sub (List.forall_mem_cons.mpr ⟨(cl_J7_copyOfRangeByte_39247_1 _ (List.mem_of_getElem? (i := 9) rfl)), List.forall_mem_cons.mpr ⟨(cl_J7_copyOfRangeByte_39247_1 _ (List.mem_of_getElem? (i := 10) rfl)), List.forall_mem_cons.mpr ⟨(cl_J7_copyOfRangeByte_39247_1 _ (List.mem_of_getElem? (i := 11) rfl)), fun _ h => absurd h List.not_mem_nil⟩⟩⟩) (by decide +kernel)) ggJ7_copyOfRangeByte_39247_J7_checkLength_df160
noncomputable def dz_p04d_9 : List (Nat × Instr × Nat) := [(0, (.iload_n 1, 1)), (1, (.iload_n 2, 1)), (2, (.invokestatic 343, 3)), (5, (.iload_n 2, 1)), (6, (.iload_n 1, 1)), (7, (.isub, 1)), (8, (.istore_n 3, 1)), (9, (.iload_n 3, 1)), (10, (.newarray .byte, 2)), (12, (.astore 4, 2)), (14, (.aload_n 0, 1)), (15, (.iload_n 1, 1)), (16, (.aload 4, 2)), (18, (.iconst 0, 1)), (19, (.aload_n 0, 1)), (20, (.arraylength, 1)), (21, (.iload_n 1, 1)), (22, (.isub, 1)), (23, (.iload_n 3, 1)), (24, (.invokestatic 304, 3)), (27, (.invokestatic 150, 3)), (30, (.aload 4, 2)), (32, (.areturn, 1))]
theorem dy_p04d_9 : dz_ok cJ7_copyOfRangeByte_39247 dz_p04d_9 = true := by decide +kernel
theorem dJ7_copyOfRangeByte_39247_0 : decode cJ7_copyOfRangeByte_39247 0 = .ok (.iload_n 1, 1) := dz_at (i := 0) dy_p04d_9 rfl
theorem dJ7_copyOfRangeByte_39247_1 : decode cJ7_copyOfRangeByte_39247 1 = .ok (.iload_n 2, 1) := dz_at (i := 1) dy_p04d_9 rfl
theorem dJ7_copyOfRangeByte_39247_2 : decode cJ7_copyOfRangeByte_39247 2 = .ok (.invokestatic 343, 3) := dz_at (i := 2) dy_p04d_9 rfl
theorem dJ7_copyOfRangeByte_39247_5 : decode cJ7_copyOfRangeByte_39247 5 = .ok (.iload_n 2, 1) := dz_at (i := 3) dy_p04d_9 rfl
theorem dJ7_copyOfRangeByte_39247_6 : decode cJ7_copyOfRangeByte_39247 6 = .ok (.iload_n 1, 1) := dz_at (i := 4) dy_p04d_9 rfl
theorem dJ7_copyOfRangeByte_39247_7 : decode cJ7_copyOfRangeByte_39247 7 = .ok (.isub, 1) := dz_at (i := 5) dy_p04d_9 rfl
theorem dJ7_copyOfRangeByte_39247_8 : decode cJ7_copyOfRangeByte_39247 8 = .ok (.istore_n 3, 1) := dz_at (i := 6) dy_p04d_9 rfl
theorem dJ7_copyOfRangeByte_39247_9 : decode cJ7_copyOfRangeByte_39247 9 = .ok (.iload_n 3, 1) := dz_at (i := 7) dy_p04d_9 rfl
theorem dJ7_copyOfRangeByte_39247_10 : decode cJ7_copyOfRangeByte_39247 10 = .ok (.newarray .byte, 2) := dz_at (i := 8) dy_p04d_9 rfl
theorem dJ7_copyOfRangeByte_39247_12 : decode cJ7_copyOfRangeByte_39247 12 = .ok (.astore 4, 2) := dz_at (i := 9) dy_p04d_9 rfl
theorem dJ7_copyOfRangeByte_39247_14 : decode cJ7_copyOfRangeByte_39247 14 = .ok (.aload_n 0, 1) := dz_at (i := 10) dy_p04d_9 rfl
theorem dJ7_copyOfRangeByte_39247_15 : decode cJ7_copyOfRangeByte_39247 15 = .ok (.iload_n 1, 1) := dz_at (i := 11) dy_p04d_9 rfl
theorem dJ7_copyOfRangeByte_39247_16 : decode cJ7_copyOfRangeByte_39247 16 = .ok (.aload 4, 2) := dz_at (i := 12) dy_p04d_9 rfl
theorem dJ7_copyOfRangeByte_39247_18 : decode cJ7_copyOfRangeByte_39247 18 = .ok (.iconst 0, 1) := dz_at (i := 13) dy_p04d_9 rfl
theorem dJ7_copyOfRangeByte_39247_19 : decode cJ7_copyOfRangeByte_39247 19 = .ok (.aload_n 0, 1) := dz_at (i := 14) dy_p04d_9 rfl
theorem dJ7_copyOfRangeByte_39247_20 : decode cJ7_copyOfRangeByte_39247 20 = .ok (.arraylength, 1) := dz_at (i := 15) dy_p04d_9 rfl
theorem dJ7_copyOfRangeByte_39247_21 : decode cJ7_copyOfRangeByte_39247 21 = .ok (.iload_n 1, 1) := dz_at (i := 16) dy_p04d_9 rfl
theorem dJ7_copyOfRangeByte_39247_22 : decode cJ7_copyOfRangeByte_39247 22 = .ok (.isub, 1) := dz_at (i := 17) dy_p04d_9 rfl
theorem dJ7_copyOfRangeByte_39247_23 : decode cJ7_copyOfRangeByte_39247 23 = .ok (.iload_n 3, 1) := dz_at (i := 18) dy_p04d_9 rfl
theorem dJ7_copyOfRangeByte_39247_24 : decode cJ7_copyOfRangeByte_39247 24 = .ok (.invokestatic 304, 3) := dz_at (i := 19) dy_p04d_9 rfl
theorem dJ7_copyOfRangeByte_39247_27 : decode cJ7_copyOfRangeByte_39247 27 = .ok (.invokestatic 150, 3) := dz_at (i := 20) dy_p04d_9 rfl
theorem dJ7_copyOfRangeByte_39247_30 : decode cJ7_copyOfRangeByte_39247 30 = .ok (.aload 4, 2) := dz_at (i := 21) dy_p04d_9 rfl
theorem dJ7_copyOfRangeByte_39247_32 : decode cJ7_copyOfRangeByte_39247 32 = .ok (.areturn, 1) := dz_at (i := 22) dy_p04d_9 rfl
set_option maxHeartbeats 4000000 in
set_option maxRecDepth 100000 in
theorem k_J7_copyOfRangeByte_39247 (l : Launch) (dC : Nat → ClassId) (dI : Nat → Nat → Nat) (cB : ClassId) (v : Nat) (n : Nat) (mm : Nat) (f : Nat → Int32) (sz N : Nat) (hn : n ≤ mm) (hmb : mm ≤ 34) (hf : sb_Fit f) : Met l yJ7_copyOfRangeByte_39247 wsJ7_copyOfRangeByte_39247 ({ frames := 1, cells := 1, slots := 34, locals := 100 }) (va_Pc [.ref v, .int 0, .int (nI n)] (xT (dC, dI) xCl [(v, eY cB mm f)] [(cB, .byte)] sz N)) (va_Qr (fun (u : (Nat → Int32)) => sb_Fit u) (fun (u : (Nat → Int32)) a t => xW (dC, dI) xCl [(a, eY cB n u)] (va_A [(v, eY cB mm f)] sz) t) (va_A [(v, eY cB mm f)] sz)) 1 34 (va_A [(v, eY cB mm f)] sz) := by
  refine Met.ofW (cc := cJ7_copyOfRangeByte_39247) (maxL := 5) (ret := (some (.array .byte))) (by decide +kernel) rfl ?_
  intro p e s m args below meth c s₁ B hml hv
  obtain ⟨rfl, ⟨hsz, hP, hK, hD0, hN, hG⟩, hT⟩ := hv
  have hx := B.exec
  have hb := B.bytes
  have hr := B.returns
  have hts := atoms_spec (ws := wsJ7_copyOfRangeByte_39247) B.pre
  have hown : s.vm.findClass RJ7 = some m.cls := findClass_of_methodNamed B.named
  have hlocks := B.notSynchronized
  subst hsz
  have hAN : ∀ q, va_A [(v, eY cB mm f)] s.heap.size q → N ≤ q := xA_N hD0 hN
  have hD := hD0.self (sz := s.heap.size)
  generalize hAe : va_A [(v, eY cB mm f)] s.heap.size = A at hD hAN ⊢
  have hA : ∀ q : Nat, s.heap.size ≤ q → A q := fun q h => by rw [← hAe]; exact Or.inr h
  have hS : va_S A s.heap s.heap [] := va_S.rf
  have hP : va_P (dC, dI) xCl [(v, eY cB mm f)] s.heap := hP
  obtain ⟨hTc, ⟨tO, tT, fO, fT, hTo, hTt, hTa, hTb, hTf, hTg⟩, ⟨adK, adV, hTs, hTr0, hTr1, hTr2⟩, ⟨aE, hTe⟩, hTn⟩ := id hT
  have hl := lv_entry ([.ref v, .int 0, .int (nI n)]) (n := 5) (Nat.le_of_ble_eq_true rfl)
  rw [lg_entry_eq]
  generalize (lg_sl ([.ref v, .int 0, .int (nI n)]) ++ List.replicate (5 - (lg_sl ([.ref v, .int 0, .int (nI n)])).length) Slot.unset).toArray = ls at hl ⊢
  have hl : lv_has ls 5 [(0, .ref v), (1, .int 0), (2, .int (nI n))] := hl
  refine lv_iload_n hx hb dJ7_copyOfRangeByte_39247_0 rfl (lv_at hl 1 rfl) ?_
  refine lv_iload_n hx hb dJ7_copyOfRangeByte_39247_1 rfl (lv_at hl 2 rfl) ?_
  have hPc := xP_nil (D := (dC, dI)) (cl := xCl) (H := s.heap)
  have hDc := xD_nil (A := A)
  have hKc := hK.sub (tys' := [(cB, .byte)]) [0] rfl
  have hFc := va_free (wc := []) hD hS hA [] rfl
  refine va_callv (va_runS (As := [.int 0, .int (nI n)]) (rest := []) ⟨hx, hb, hml, hown, hts⟩ (k_J7_checkLength_df160 l dC dI cB n s.heap.size N (by omega)) (va_cwS 2 hts gJ7_copyOfRangeByte_39247_J7_checkLength_df160 rfl rfl rfl (by decide +kernel) ⟨Nat.le_of_ble_eq_true rfl, Nat.le_of_ble_eq_true rfl⟩) (xT.preS hKc hPc hDc hAN (Nat.le_trans hN hS.1) (hG.kept hS hAN) (hT.kept hS hAN)) rfl rfl hl.1 rfl (lv_room (Nat.le_of_ble_eq_true rfl)) dJ7_copyOfRangeByte_39247_2 ⟨(show _ ≤ 1 by omega), (show _ ≤ 34 by omega)⟩) hS (fun q _ h => hFc q h) hFc (fun u_2 t H locs ht hvm hw hB hz hk hS => ?_)
  obtain ⟨hP1, hD1⟩ := hB
  rw [ht] at hP1
  obtain ⟨hP, hD⟩ := va_join (wr := [(v, eY cB mm f)]) (w1 := []) hP hD [] [0] rfl rfl (by decide +kernel) (by decide +kernel) hk hFc hP1 hD1
  have hP : va_P (dC, dI) xCl [(v, eY cB mm f)] H := hP
  have hD : va_D A [(v, eY cB mm f)] := hD
  refine lv_iload_n hx hb dJ7_copyOfRangeByte_39247_5 rfl (lv_at hl 2 rfl) ?_
  refine lv_iload_n hx hb dJ7_copyOfRangeByte_39247_6 rfl (lv_at hl 1 rfl) ?_
  refine lv_isub hx hb dJ7_copyOfRangeByte_39247_7 ?_
  rw [show (((nI n) - 0) : Int32) = (nI n) from jl_sub0 _]
  refine lv_istore_n (lv' := [(3, .int (nI n)), (0, .ref v), (1, .int 0), (2, .int (nI n))]) hx hb dJ7_copyOfRangeByte_39247_8 rfl hl (by decide +kernel) rfl (fun ls hl => ?_)
  refine lv_iload_n hx hb dJ7_copyOfRangeByte_39247_9 rfl (lv_at hl 0 rfl) ?_
  refine va_newa (atype := .byte) (a0 := (n, .inl (fun _ => 0))) (N' := n) hx hb (hts (.arrayClass .byte) (by decide +kernel)) rfl hK hP hD hS hA (fun cA => rfl) (nI_pos (by omega)) (nI_clamp (by omega)) (by show n * 1 ≤ _; omega) (show _ ≤ 1 by omega) (show _ ≤ 34 by omega) dJ7_copyOfRangeByte_39247_10 (fun q10 cA H hK9 hP hD hS => ?_)
  have hcA : cA = cB := Option.some.inj ((((hK9.2 1 _ rfl).2).symm).trans (hK.2 0 _ rfl).2)
  rw [hcA] at hP hD
  have hP : va_P (dC, dI) xCl [(v, eY cB mm f), (q10, eY cB n (fun _ => 0))] H := hP
  have hD : va_D A [(v, eY cB mm f), (q10, eY cB n (fun _ => 0))] := hD
  refine lv_astore (lv' := [(4, .ref q10), (3, .int (nI n)), (0, .ref v), (1, .int 0), (2, .int (nI n))]) hx hb dJ7_copyOfRangeByte_39247_12 hl (by decide +kernel) rfl (fun ls hl => ?_)
  refine lv_aload_n hx hb dJ7_copyOfRangeByte_39247_14 rfl (lv_at hl 2 rfl) ?_
  refine lv_iload_n hx hb dJ7_copyOfRangeByte_39247_15 rfl (lv_at hl 3 rfl) ?_
  refine lv_aload hx hb dJ7_copyOfRangeByte_39247_16 (lv_at hl 0 rfl) ?_
  refine lv_iconst (v := 0) hx hb dJ7_copyOfRangeByte_39247_18 (by decide +kernel) ?_
  refine lv_aload_n hx hb dJ7_copyOfRangeByte_39247_19 rfl (lv_at hl 2 rfl) ?_
  refine va_alen hx hb hK hP 0 0 rfl rfl (v := (nI mm)) rfl dJ7_copyOfRangeByte_39247_20 ?_
  refine lv_iload_n hx hb dJ7_copyOfRangeByte_39247_21 rfl (lv_at hl 3 rfl) ?_
  refine lv_isub hx hb dJ7_copyOfRangeByte_39247_22 ?_
  rw [show (((nI mm) - 0) : Int32) = (nI mm) from jl_sub0 _]
  refine lv_iload_n hx hb dJ7_copyOfRangeByte_39247_23 rfl (lv_at hl 1 rfl) ?_
  refine va_mmin hx hb (hml.trans hl.1.symm) hown (hts (.methodLink RJ7 304 Lib.Math.min.name) (by decide +kernel)) (hts (.static Lib.Math.min.name) (by decide +kernel)) (hts (.initialized "java/lang/Math") (by decide +kernel)) (hts (.code Lib.Math.min.name Lib.Math.min.code 2 (some .int)) (by decide +kernel)) (Nat.le_of_ble_eq_true rfl) (Nat.le_of_ble_eq_true rfl) (show _ ≤ 1 by omega) (show _ ≤ 34 by omega) dJ7_copyOfRangeByte_39247_24 ?_
  rw [show ((if ((nI n) : Int32) < (nI mm) then (nI n) else (nI mm)) : Int32) = (nI n) from jl_min hn (by omega)]
  refine va_copyi hx hb (hml.trans hl.1.symm) hown (hts (.methodLink RJ7 150 arraycopyName) (by decide +kernel)) (hts (.native arraycopyName) (by decide +kernel)) (hts (.static arraycopyName) (by decide +kernel)) (hts (.initialized "java/lang/System") (by decide +kernel)) hK hP hD hS 0 1 0 0 (f := f) (g := (fun _ => 0)) rfl rfl rfl rfl rfl (by decide +kernel) (by decide +kernel) (nI_pos (by omega)) (by rw [nI_clamp (by omega), sb_cl0]; omega) (by rw [nI_clamp (by omega), sb_cl0]; omega) (fun i _ => hf _) (Nat.le_of_ble_eq_true rfl) (by decide +kernel) dJ7_copyOfRangeByte_39247_27 (fun H locs hP hD hS => ?_)
  obtain ⟨f_3, hf_3⟩ : ∃ z : Nat → Int32, z = va_cpy f (fun _ => 0) (0 : Int32).toNatClampNeg (0 : Int32).toNatClampNeg ((nI n) : Int32).toNatClampNeg := ⟨_, rfl⟩
  have hf_4 : sb_Fit f_3 := by rw [hf_3]; exact sb_fitC hf sb_fit0
  have hP : va_P (dC, dI) xCl [(v, eY cB mm f), (q10, eY cB n (va_cpy f (fun _ => 0) (0 : Int32).toNatClampNeg (0 : Int32).toNatClampNeg ((nI n) : Int32).toNatClampNeg))] H := hP
  have hD : va_D A [(v, eY cB mm f), (q10, eY cB n (va_cpy f (fun _ => 0) (0 : Int32).toNatClampNeg (0 : Int32).toNatClampNeg ((nI n) : Int32).toNatClampNeg))] := hD
  rw [← hf_3] at hP hD
  have hP : va_P (dC, dI) xCl [(v, eY cB mm f), (q10, eY cB n f_3)] H := hP
  have hD : va_D A [(v, eY cB mm f), (q10, eY cB n f_3)] := hD
  refine lv_aload hx hb dJ7_copyOfRangeByte_39247_30 (lv_at hl 0 rfl) ?_
  have hP := hP.sub (ws' := [(q10, eY cB n f_3)]) [1] rfl
  have hD := hD.sub (ws' := [(q10, eY cB n f_3)]) [1] (by decide +kernel) rfl
  refine W.widen (k := 1) (n := 34) (by omega) (by omega) ?_
  exact W.aret (v := .ref q10) hx hb hr (Or.inr ⟨_, rfl⟩) (Or.inr ⟨_, rfl⟩) (fun t ht hW => ⟨⟨f_3, _, rfl, hf_4, ⟨by rw [ht]; exact hP, hD⟩⟩, hS.F ht⟩) hS.2.2 dJ7_copyOfRangeByte_39247_32
theorem cl_J7_copyOfRange_39247_1 : ∀ w ∈ wsJ7_copyOfRange_39247_r1, w ∈ wsJ7_copyOfRange_39247 := fun _ h => (List.mem_cons_of_mem _ (List.mem_append_left _ (List.mem_append_left _ h)))
theorem cl_J7_copyOfRange_39247_2 : ∀ w ∈ wsJ7_copyOfRange_39247_r2, w ∈ wsJ7_copyOfRange_39247 := fun _ h => (List.mem_cons_of_mem _ (List.mem_append_left _ (List.mem_append_right _ h)))
theorem cl_J7_copyOfRange_39247_3 : ∀ w ∈ wsJ40, w ∈ wsJ7_copyOfRange_39247 := fun _ h => (List.mem_cons_of_mem _ (List.mem_append_right _ h))
set_option maxRecDepth 20000 in
theorem ggJ7_copyOfRange_39247_J7_copyOfRangeByte_39247 : GoodIn wsJ7_copyOfRange_39247 wsJ7_copyOfRangeByte_39247 := goodIn_sub (List.forall_mem_cons.mpr ⟨(cl_J7_copyOfRange_39247_1 _ (List.mem_of_getElem? (i := 9) rfl)), fun w h => (List.mem_append.mp h).elim ((List.forall_mem_cons.mpr ⟨(cl_J7_copyOfRange_39247_1 _ (List.mem_of_getElem? (i := 10) rfl)), List.forall_mem_cons.mpr ⟨(cl_J7_copyOfRange_39247_1 _ (List.mem_of_getElem? (i := 11) rfl)), List.forall_mem_cons.mpr ⟨(cl_J7_copyOfRange_39247_1 _ (List.mem_of_getElem? (i := 12) rfl)), List.forall_mem_cons.mpr ⟨(cl_J7_copyOfRange_39247_1 _ (List.mem_of_getElem? (i := 13) rfl)), List.forall_mem_cons.mpr ⟨(cl_J7_copyOfRange_39247_1 _ (List.mem_of_getElem? (i := 14) rfl)), List.forall_mem_cons.mpr ⟨(cl_J7_copyOfRange_39247_1 _ (List.mem_of_getElem? (i := 15) rfl)), List.forall_mem_cons.mpr ⟨(cl_J7_copyOfRange_39247_1 _ (List.mem_of_getElem? (i := 16) rfl)), List.forall_mem_cons.mpr ⟨(cl_J7_copyOfRange_39247_1 _ (List.mem_of_getElem? (i := 17) rfl)), List.forall_mem_cons.mpr ⟨(cl_J7_copyOfRange_39247_1 _ (List.mem_of_getElem? (i := 18) rfl)), List.forall_mem_cons.mpr ⟨(cl_J7_copyOfRange_39247_1 _ (List.mem_of_getElem? (i := 19) rfl)), List.forall_mem_cons.mpr ⟨(cl_J7_copyOfRange_39247_1 _ (List.mem_of_getElem? (i := 20) rfl)), List.forall_mem_cons.mpr ⟨(cl_J7_copyOfRange_39247_1 _ (List.mem_of_getElem? (i := 8) rfl)), List.forall_mem_cons.mpr ⟨(cl_J7_copyOfRange_39247_1 _ (List.mem_of_getElem? (i := 21) rfl)), List.forall_mem_cons.mpr ⟨(cl_J7_copyOfRange_39247_1 _ (List.mem_of_getElem? (i := 22) rfl)), List.forall_mem_cons.mpr ⟨(cl_J7_copyOfRange_39247_1 _ (List.mem_of_getElem? (i := 23) rfl)), List.forall_mem_cons.mpr ⟨(cl_J7_copyOfRange_39247_2 _ (List.mem_of_getElem? (i := 0) rfl)), fun _ h => absurd h List.not_mem_nil⟩⟩⟩⟩⟩⟩⟩⟩⟩⟩⟩⟩⟩⟩⟩⟩) w) ((cl_J7_copyOfRange_39247_3) w)⟩) (by decide +kernel)
set_option maxRecDepth 20000 in
theorem gJ7_copyOfRange_39247_J7_copyOfRangeByte_39247 : GoodIn wsJ7_copyOfRange_39247 (va_wsS RJ7 339 yJ7_copyOfRangeByte_39247 wsJ7_copyOfRangeByte_39247) := goodIn_app (goodIn_sub (List.forall_mem_cons.mpr ⟨(cl_J7_copyOfRange_39247_1 _ (List.mem_of_getElem? (i := 6) rfl)), List.forall_mem_cons.mpr ⟨(cl_J7_copyOfRange_39247_1 _ (List.mem_of_getElem? (i := 7) rfl)), List.forall_mem_cons.mpr ⟨(cl_J7_copyOfRange_39247_1 _ (List.mem_of_getElem? (i := 8) rfl)), fun _ h => absurd h List.not_mem_nil⟩⟩⟩) (by decide +kernel)) ggJ7_copyOfRange_39247_J7_copyOfRangeByte_39247
noncomputable def dz_p04d_10 : List (Nat × Instr × Nat) := [(0, (.iload_n 1, 1)), (1, (.ifCond .ne 9, 3)), (4, (.iload_n 2, 1)), (5, (.aload_n 0, 1)), (6, (.arraylength, 1)), (7, (.if_icmp .eq 10, 3)), (10, (.aload_n 0, 1)), (11, (.iload_n 1, 1)), (12, (.iload_n 2, 1)), (13, (.invokestatic 339, 3)), (16, (.areturn, 1)), (17, (.aload_n 0, 1)), (18, (.invokevirtual 310, 3)), (21, (.checkcast 311, 3)), (24, (.areturn, 1))]
theorem dy_p04d_10 : dz_ok cJ7_copyOfRange_39247 dz_p04d_10 = true := by decide +kernel
theorem dJ7_copyOfRange_39247_0 : decode cJ7_copyOfRange_39247 0 = .ok (.iload_n 1, 1) := dz_at (i := 0) dy_p04d_10 rfl
theorem dJ7_copyOfRange_39247_1 : decode cJ7_copyOfRange_39247 1 = .ok (.ifCond .ne 9, 3) := dz_at (i := 1) dy_p04d_10 rfl
theorem dJ7_copyOfRange_39247_4 : decode cJ7_copyOfRange_39247 4 = .ok (.iload_n 2, 1) := dz_at (i := 2) dy_p04d_10 rfl
theorem dJ7_copyOfRange_39247_5 : decode cJ7_copyOfRange_39247 5 = .ok (.aload_n 0, 1) := dz_at (i := 3) dy_p04d_10 rfl
theorem dJ7_copyOfRange_39247_6 : decode cJ7_copyOfRange_39247 6 = .ok (.arraylength, 1) := dz_at (i := 4) dy_p04d_10 rfl
theorem dJ7_copyOfRange_39247_7 : decode cJ7_copyOfRange_39247 7 = .ok (.if_icmp .eq 10, 3) := dz_at (i := 5) dy_p04d_10 rfl
theorem dJ7_copyOfRange_39247_10 : decode cJ7_copyOfRange_39247 10 = .ok (.aload_n 0, 1) := dz_at (i := 6) dy_p04d_10 rfl
theorem dJ7_copyOfRange_39247_11 : decode cJ7_copyOfRange_39247 11 = .ok (.iload_n 1, 1) := dz_at (i := 7) dy_p04d_10 rfl
theorem dJ7_copyOfRange_39247_12 : decode cJ7_copyOfRange_39247 12 = .ok (.iload_n 2, 1) := dz_at (i := 8) dy_p04d_10 rfl
theorem dJ7_copyOfRange_39247_13 : decode cJ7_copyOfRange_39247 13 = .ok (.invokestatic 339, 3) := dz_at (i := 9) dy_p04d_10 rfl
theorem dJ7_copyOfRange_39247_16 : decode cJ7_copyOfRange_39247 16 = .ok (.areturn, 1) := dz_at (i := 10) dy_p04d_10 rfl
theorem dJ7_copyOfRange_39247_17 : decode cJ7_copyOfRange_39247 17 = .ok (.aload_n 0, 1) := dz_at (i := 11) dy_p04d_10 rfl
theorem dJ7_copyOfRange_39247_18 : decode cJ7_copyOfRange_39247 18 = .ok (.invokevirtual 310, 3) := dz_at (i := 12) dy_p04d_10 rfl
theorem dJ7_copyOfRange_39247_21 : decode cJ7_copyOfRange_39247 21 = .ok (.checkcast 311, 3) := dz_at (i := 13) dy_p04d_10 rfl
theorem dJ7_copyOfRange_39247_24 : decode cJ7_copyOfRange_39247 24 = .ok (.areturn, 1) := dz_at (i := 14) dy_p04d_10 rfl
set_option maxHeartbeats 4000000 in
set_option maxRecDepth 100000 in
theorem k_J7_copyOfRange_39247 (l : Launch) (dC : Nat → ClassId) (dI : Nat → Nat → Nat) (cB : ClassId) (v : Nat) (n : Nat) (mm : Nat) (f : Nat → Int32) (sz N : Nat) (hn : n ≤ mm) (hmb : mm ≤ 34) (hf : sb_Fit f) : Met l yJ7_copyOfRange_39247 wsJ7_copyOfRange_39247 ({ frames := 2, cells := 1, slots := 34, locals := 124 }) (va_Pc [.ref v, .int 0, .int (nI n)] (xT (dC, dI) xCl [(v, eY cB mm f)] [(cB, .byte)] sz N)) (va_Qr (fun (u : (Nat → Int32)) => sb_Fit u) (fun (u : (Nat → Int32)) a t => xW (dC, dI) xCl [(a, eY cB n u)] (va_A [(v, eY cB mm f)] sz) t) (va_A [(v, eY cB mm f)] sz)) 1 34 (va_A [(v, eY cB mm f)] sz) := by
  refine Met.ofW (cc := cJ7_copyOfRange_39247) (maxL := 3) (ret := (some (.array .byte))) (by decide +kernel) rfl ?_
  intro p e s m args below meth c s₁ B hml hv
  obtain ⟨rfl, ⟨hsz, hP, hK, hD0, hN, hG⟩, hT⟩ := hv
  have hx := B.exec
  have hb := B.bytes
  have hr := B.returns
  have hts := atoms_spec (ws := wsJ7_copyOfRange_39247) B.pre
  have hown : s.vm.findClass RJ7 = some m.cls := findClass_of_methodNamed B.named
  have hlocks := B.notSynchronized
  subst hsz
  have hAN : ∀ q, va_A [(v, eY cB mm f)] s.heap.size q → N ≤ q := xA_N hD0 hN
  have hD := hD0.self (sz := s.heap.size)
  generalize hAe : va_A [(v, eY cB mm f)] s.heap.size = A at hD hAN ⊢
  have hA : ∀ q : Nat, s.heap.size ≤ q → A q := fun q h => by rw [← hAe]; exact Or.inr h
  have hS : va_S A s.heap s.heap [] := va_S.rf
  have hP : va_P (dC, dI) xCl [(v, eY cB mm f)] s.heap := hP
  obtain ⟨hTc, ⟨tO, tT, fO, fT, hTo, hTt, hTa, hTb, hTf, hTg⟩, ⟨adK, adV, hTs, hTr0, hTr1, hTr2⟩, ⟨aE, hTe⟩, hTn⟩ := id hT
  have hl := lv_entry ([.ref v, .int 0, .int (nI n)]) (n := 3) (Nat.le_of_ble_eq_true rfl)
  rw [lg_entry_eq]
  generalize (lg_sl ([.ref v, .int 0, .int (nI n)]) ++ List.replicate (3 - (lg_sl ([.ref v, .int 0, .int (nI n)])).length) Slot.unset).toArray = ls at hl ⊢
  have hl : lv_has ls 3 [(0, .ref v), (1, .int 0), (2, .int (nI n))] := hl
  refine lv_iload_n hx hb dJ7_copyOfRange_39247_0 rfl (lv_at hl 1 rfl) ?_
  refine lv_if_ne (tgt := 10) hx hb dJ7_copyOfRange_39247_1 (by decide +kernel) (fun c9 => absurd c9 (by decide +kernel)) (fun _ => ?_)
  refine lv_iload_n hx hb dJ7_copyOfRange_39247_4 rfl (lv_at hl 2 rfl) ?_
  refine lv_aload_n hx hb dJ7_copyOfRange_39247_5 rfl (lv_at hl 0 rfl) ?_
  refine va_alen hx hb hK hP 0 0 rfl rfl (v := (nI mm)) rfl dJ7_copyOfRange_39247_6 ?_
  refine lv_icmp_eq (tgt := 17) hx hb dJ7_copyOfRange_39247_7 (by decide +kernel) (fun c_1 => ?_) (fun c_1 => ?_)
  · skip
    obtain rfl : mm = n := ((nI_eq (by omega) (by omega)).mp c_1).symm
    refine lv_aload_n hx hb dJ7_copyOfRange_39247_17 rfl (lv_at hl 0 rfl) ?_
    refine va_clone hx hb (hml.trans hl.1.symm) (own := RJ7) (ad := "[B") (index := 310) hown (hts (.methodLink RJ7 310 ⟨"[B", "clone", "()Ljava/lang/Object;"⟩) (by decide +kernel)) (hts (.sameMethod "[B" "java/lang/Object" "clone" "()Ljava/lang/Object;") (by decide +kernel)) (hts (.native ⟨"java/lang/Object", "clone", "()Ljava/lang/Object;"⟩) (by decide +kernel)) (hts (.instanceMethod ⟨"java/lang/Object", "clone", "()Ljava/lang/Object;"⟩) (by decide +kernel)) (hts (.selects "[B" ⟨"[B", "clone", "()Ljava/lang/Object;"⟩ ⟨"java/lang/Object", "clone", "()Ljava/lang/Object;"⟩) (by decide +kernel)) hTn hK hP hD hS hA 0 0 rfl rfl (va_nm_byte (hK.2 0 _ rfl).2) (sb_fitCell hf) (Nat.le_of_ble_eq_true rfl) (Nat.le_of_ble_eq_true rfl) (show _ ≤ 1 by omega) (show _ + mm ≤ 34 by omega) dJ7_copyOfRange_39247_18 (fun q18 H hK9 hP hD hS => ?_)
    have hP : va_P (dC, dI) xCl [(v, eY cB mm f), (q18, eY cB mm f)] H := hP
    have hD : va_D A [(v, eY cB mm f), (q18, eY cB mm f)] := hD
    refine va_castA hx hb hown (hts (.classLink RJ7 311 "[B") (by decide +kernel)) hP 1 rfl (va_nm_byte (hK.2 0 _ rfl).2) dJ7_copyOfRange_39247_21 ?_
    have hP := hP.sub (ws' := [(q18, eY cB mm f)]) [1] rfl
    have hD := hD.sub (ws' := [(q18, eY cB mm f)]) [1] (by decide +kernel) rfl
    refine W.widen (k := 1) (n := 34) (by omega) (by omega) ?_
    exact W.aret (v := .ref q18) hx hb hr (Or.inr ⟨_, rfl⟩) (Or.inr ⟨_, rfl⟩) (fun t ht hW => ⟨⟨f, _, rfl, hf, ⟨by rw [ht]; exact hP, hD⟩⟩, hS.F ht⟩) hS.2.2 dJ7_copyOfRange_39247_24
  · skip
    refine lv_aload_n hx hb dJ7_copyOfRange_39247_10 rfl (lv_at hl 0 rfl) ?_
    refine lv_iload_n hx hb dJ7_copyOfRange_39247_11 rfl (lv_at hl 1 rfl) ?_
    refine lv_iload_n hx hb dJ7_copyOfRange_39247_12 rfl (lv_at hl 2 rfl) ?_
    have hPc := hP.sub (ws' := [(v, eY cB mm f)]) [0] rfl
    have hDc := hD.sub (ws' := [(v, eY cB mm f)]) [0] (by decide +kernel) rfl
    have hKc := hK.sub (tys' := [(cB, .byte)]) [0] rfl
    have hFc := va_free (wc := [(v, eY cB mm f)]) hD hS hA [0] rfl
    refine va_callr (va_runS (As := [.ref v, .int 0, .int (nI n)]) (rest := []) ⟨hx, hb, hml, hown, hts⟩ (k_J7_copyOfRangeByte_39247 l dC dI cB v n mm f s.heap.size N (by omega) (by omega) hf) (va_cwS 3 hts gJ7_copyOfRange_39247_J7_copyOfRangeByte_39247 rfl rfl rfl (by decide +kernel) ⟨Nat.le_of_ble_eq_true rfl, Nat.le_of_ble_eq_true rfl⟩) (xT.preS hKc hPc hDc hAN (Nat.le_trans hN hS.1) (hG.kept hS hAN) (hT.kept hS hAN)) rfl rfl hl.1 rfl (lv_room (Nat.le_of_ble_eq_true rfl)) dJ7_copyOfRange_39247_13 ⟨(show _ ≤ 1 by omega), (show _ ≤ 34 by omega)⟩) hS (fun q _ h => hFc q h) hFc (fun u_4 r_3 t H locs ht hvm hw hB hz hk hS => ?_)
    obtain ⟨hP1, hD1⟩ := hB
    rw [ht] at hP1
    obtain ⟨f2_2, rfl⟩ : ∃ z, z = u_4 := ⟨_, rfl⟩
    obtain ⟨hP, hD⟩ := va_join (wr := []) (w1 := [(r_3, eY cB n f2_2)]) hP hD [0] [] rfl rfl (by decide +kernel) (by decide +kernel) hk hFc hP1 hD1
    have hP : va_P (dC, dI) xCl [(r_3, eY cB n f2_2)] H := hP
    have hD : va_D A [(r_3, eY cB n f2_2)] := hD
    have hf_f2_2 : sb_Fit f2_2 := hw
    have hP := hP.sub (ws' := [(r_3, eY cB n f2_2)]) [0] rfl
    have hD := hD.sub (ws' := [(r_3, eY cB n f2_2)]) [0] (by decide +kernel) rfl
    refine W.widen (k := 1) (n := 34) (by omega) (by omega) ?_
    exact W.aret (v := .ref r_3) hx hb hr (Or.inr ⟨_, rfl⟩) (Or.inr ⟨_, rfl⟩) (fun t ht hW => ⟨⟨f2_2, _, rfl, hf_f2_2, ⟨by rw [ht]; exact hP, hD⟩⟩, hS.F ht⟩) hS.2.2 dJ7_copyOfRange_39247_16
theorem cl_J0_init_db425_1 : ∀ w ∈ wsJ0_init_db425_r1, w ∈ wsJ0_init_db425 := fun _ h => (List.mem_cons_of_mem _ (List.mem_append_left _ (List.mem_append_left _ (List.mem_append_left _ h))))
theorem cl_J0_init_db425_2 : ∀ w ∈ wsJ0_init_db425_r2, w ∈ wsJ0_init_db425 := fun _ h => (List.mem_cons_of_mem _ (List.mem_append_left _ (List.mem_append_left _ (List.mem_append_right _ (List.mem_append_left _ h)))))
theorem cl_J0_init_db425_3 : ∀ w ∈ wsJ0_init_db425_r3, w ∈ wsJ0_init_db425 := fun _ h => (List.mem_cons_of_mem _ (List.mem_append_left _ (List.mem_append_left _ (List.mem_append_right _ (List.mem_append_right _ (List.mem_append_left _ h))))))
theorem cl_J0_init_db425_4 : ∀ w ∈ wsJ0_init_db425_r4, w ∈ wsJ0_init_db425 := fun _ h => (List.mem_cons_of_mem _ (List.mem_append_left _ (List.mem_append_left _ (List.mem_append_right _ (List.mem_append_right _ (List.mem_append_right _ h))))))
theorem cl_J0_init_db425_5 : ∀ w ∈ wsJ00, w ∈ wsJ0_init_db425 := fun _ h => (List.mem_cons_of_mem _ (List.mem_append_left _ (List.mem_append_right _ h)))
theorem cl_J0_init_db425_6 : ∀ w ∈ wsJ40, w ∈ wsJ0_init_db425 := fun _ h => (List.mem_cons_of_mem _ (List.mem_append_right _ h))
set_option maxRecDepth 20000 in
theorem ggJ0_init_db425_J5_getValue_6d5f1 : GoodIn wsJ0_init_db425 wsJ5_getValue_6d5f1 := goodIn_sub (List.forall_mem_cons.mpr ⟨(cl_J0_init_db425_1 _ (List.mem_of_getElem? (i := 12) rfl)), fun w h => (List.mem_append.mp h).elim ((List.forall_mem_cons.mpr ⟨(cl_J0_init_db425_1 _ (List.mem_of_getElem? (i := 13) rfl)), fun _ h => absurd h List.not_mem_nil⟩) w) ((cl_J0_init_db425_6) w)⟩) (by decide +kernel)
set_option maxRecDepth 20000 in
theorem gJ0_init_db425_J5_getValue_6d5f1_u552J4 : GoodIn wsJ0_init_db425 (va_wsU RJ0 552 RJ4 "java/lang/AbstractStringBuilder" ⟨"java/lang/AbstractStringBuilder", "getValue", "()[B"⟩ yJ5_getValue_6d5f1 wsJ5_getValue_6d5f1) := goodIn_app (goodIn_of _ (by decide +kernel)) ggJ0_init_db425_J5_getValue_6d5f1
set_option maxRecDepth 20000 in
theorem ggJ0_init_db425_J4_length_8abf5 : GoodIn wsJ0_init_db425 wsJ4_length_8abf5 := goodIn_sub (List.forall_mem_cons.mpr ⟨(cl_J0_init_db425_1 _ (List.mem_of_getElem? (i := 20) rfl)), fun w h => (List.mem_append.mp h).elim ((List.forall_mem_cons.mpr ⟨(cl_J0_init_db425_1 _ (List.mem_of_getElem? (i := 21) rfl)), List.forall_mem_cons.mpr ⟨(cl_J0_init_db425_1 _ (List.mem_of_getElem? (i := 15) rfl)), List.forall_mem_cons.mpr ⟨(cl_J0_init_db425_1 _ (List.mem_of_getElem? (i := 22) rfl)), List.forall_mem_cons.mpr ⟨(cl_J0_init_db425_1 _ (List.mem_of_getElem? (i := 16) rfl)), List.forall_mem_cons.mpr ⟨(cl_J0_init_db425_1 _ (List.mem_of_getElem? (i := 11) rfl)), List.forall_mem_cons.mpr ⟨(cl_J0_init_db425_2 _ (List.mem_of_getElem? (i := 0) rfl)), List.forall_mem_cons.mpr ⟨(cl_J0_init_db425_2 _ (List.mem_of_getElem? (i := 1) rfl)), fun _ h => absurd h List.not_mem_nil⟩⟩⟩⟩⟩⟩⟩) w) ((cl_J0_init_db425_6) w)⟩) (by decide +kernel)
set_option maxRecDepth 20000 in
theorem gJ0_init_db425_J4_length_8abf5_u549J4 : GoodIn wsJ0_init_db425 (va_wsO RJ0 549 RJ4 "java/lang/AbstractStringBuilder" ⟨"java/lang/AbstractStringBuilder", "length", "()I"⟩ yJ4_length_8abf5 wsJ4_length_8abf5) := goodIn_app (goodIn_of _ (by decide +kernel)) ggJ0_init_db425_J4_length_8abf5
set_option maxRecDepth 20000 in
theorem ggJ0_init_db425_J5_isLatin1_aae02 : GoodIn wsJ0_init_db425 wsJ5_isLatin1_aae02 := goodIn_sub (List.forall_mem_cons.mpr ⟨(cl_J0_init_db425_2 _ (List.mem_of_getElem? (i := 6) rfl)), fun w h => (List.mem_append.mp h).elim ((List.forall_mem_cons.mpr ⟨(cl_J0_init_db425_2 _ (List.mem_of_getElem? (i := 7) rfl)), List.forall_mem_cons.mpr ⟨(cl_J0_init_db425_2 _ (List.mem_of_getElem? (i := 8) rfl)), fun _ h => absurd h List.not_mem_nil⟩⟩) w) ((cl_J0_init_db425_6) w)⟩) (by decide +kernel)
set_option maxRecDepth 20000 in
theorem gJ0_init_db425_J5_isLatin1_aae02_u1047J4 : GoodIn wsJ0_init_db425 (va_wsU RJ0 1047 RJ4 "java/lang/AbstractStringBuilder" ⟨"java/lang/AbstractStringBuilder", "isLatin1", "()Z"⟩ yJ5_isLatin1_aae02 wsJ5_isLatin1_aae02) := goodIn_app (goodIn_of _ (by decide +kernel)) ggJ0_init_db425_J5_isLatin1_aae02
set_option maxRecDepth 20000 in
theorem ggJ0_init_db425_J7_copyOfRange_39247 : GoodIn wsJ0_init_db425 wsJ7_copyOfRange_39247 := goodIn_sub (List.forall_mem_cons.mpr ⟨(cl_J0_init_db425_2 _ (List.mem_of_getElem? (i := 12) rfl)), fun w h => (List.mem_append.mp h).elim ((fun w h => (List.mem_append.mp h).elim ((List.forall_mem_cons.mpr ⟨(cl_J0_init_db425_2 _ (List.mem_of_getElem? (i := 13) rfl)), List.forall_mem_cons.mpr ⟨(cl_J0_init_db425_2 _ (List.mem_of_getElem? (i := 14) rfl)), List.forall_mem_cons.mpr ⟨(cl_J0_init_db425_2 _ (List.mem_of_getElem? (i := 15) rfl)), List.forall_mem_cons.mpr ⟨(cl_J0_init_db425_2 _ (List.mem_of_getElem? (i := 16) rfl)), List.forall_mem_cons.mpr ⟨(cl_J0_init_db425_2 _ (List.mem_of_getElem? (i := 17) rfl)), List.forall_mem_cons.mpr ⟨(cl_J0_init_db425_2 _ (List.mem_of_getElem? (i := 18) rfl)), List.forall_mem_cons.mpr ⟨(cl_J0_init_db425_2 _ (List.mem_of_getElem? (i := 19) rfl)), List.forall_mem_cons.mpr ⟨(cl_J0_init_db425_2 _ (List.mem_of_getElem? (i := 20) rfl)), List.forall_mem_cons.mpr ⟨(cl_J0_init_db425_2 _ (List.mem_of_getElem? (i := 11) rfl)), List.forall_mem_cons.mpr ⟨(cl_J0_init_db425_2 _ (List.mem_of_getElem? (i := 21) rfl)), List.forall_mem_cons.mpr ⟨(cl_J0_init_db425_2 _ (List.mem_of_getElem? (i := 22) rfl)), List.forall_mem_cons.mpr ⟨(cl_J0_init_db425_2 _ (List.mem_of_getElem? (i := 23) rfl)), List.forall_mem_cons.mpr ⟨(cl_J0_init_db425_3 _ (List.mem_of_getElem? (i := 0) rfl)), List.forall_mem_cons.mpr ⟨(cl_J0_init_db425_3 _ (List.mem_of_getElem? (i := 1) rfl)), List.forall_mem_cons.mpr ⟨(cl_J0_init_db425_3 _ (List.mem_of_getElem? (i := 2) rfl)), List.forall_mem_cons.mpr ⟨(cl_J0_init_db425_3 _ (List.mem_of_getElem? (i := 3) rfl)), List.forall_mem_cons.mpr ⟨(cl_J0_init_db425_3 _ (List.mem_of_getElem? (i := 4) rfl)), List.forall_mem_cons.mpr ⟨(cl_J0_init_db425_3 _ (List.mem_of_getElem? (i := 5) rfl)), List.forall_mem_cons.mpr ⟨(cl_J0_init_db425_3 _ (List.mem_of_getElem? (i := 6) rfl)), List.forall_mem_cons.mpr ⟨(cl_J0_init_db425_3 _ (List.mem_of_getElem? (i := 7) rfl)), List.forall_mem_cons.mpr ⟨(cl_J0_init_db425_3 _ (List.mem_of_getElem? (i := 8) rfl)), List.forall_mem_cons.mpr ⟨(cl_J0_init_db425_3 _ (List.mem_of_getElem? (i := 9) rfl)), List.forall_mem_cons.mpr ⟨(cl_J0_init_db425_3 _ (List.mem_of_getElem? (i := 10) rfl)), List.forall_mem_cons.mpr ⟨(cl_J0_init_db425_3 _ (List.mem_of_getElem? (i := 11) rfl)), fun _ h => absurd h List.not_mem_nil⟩⟩⟩⟩⟩⟩⟩⟩⟩⟩⟩⟩⟩⟩⟩⟩⟩⟩⟩⟩⟩⟩⟩⟩) w) ((List.forall_mem_cons.mpr ⟨(cl_J0_init_db425_1 _ (List.mem_of_getElem? (i := 19) rfl)), fun _ h => absurd h List.not_mem_nil⟩) w)) w) ((cl_J0_init_db425_6) w)⟩) (by decide +kernel)
set_option maxRecDepth 20000 in
theorem gJ0_init_db425_J7_copyOfRange_39247 : GoodIn wsJ0_init_db425 (va_wsS RJ0 54 yJ7_copyOfRange_39247 wsJ7_copyOfRange_39247) := goodIn_app (goodIn_sub (List.forall_mem_cons.mpr ⟨(cl_J0_init_db425_2 _ (List.mem_of_getElem? (i := 9) rfl)), List.forall_mem_cons.mpr ⟨(cl_J0_init_db425_2 _ (List.mem_of_getElem? (i := 10) rfl)), List.forall_mem_cons.mpr ⟨(cl_J0_init_db425_2 _ (List.mem_of_getElem? (i := 11) rfl)), fun _ h => absurd h List.not_mem_nil⟩⟩⟩) (by decide +kernel)) ggJ0_init_db425_J7_copyOfRange_39247
set_option maxRecDepth 20000 in
theorem ggJ0_init_db425_J2_compress_39247 : GoodIn wsJ0_init_db425 wsJ2_compress_39247 := goodIn_sub (List.forall_mem_cons.mpr ⟨(cl_J0_init_db425_3 _ (List.mem_of_getElem? (i := 15) rfl)), fun w h => (List.mem_append.mp h).elim ((fun w h => (List.mem_append.mp h).elim ((List.forall_mem_cons.mpr ⟨(cl_J0_init_db425_2 _ (List.mem_of_getElem? (i := 22) rfl)), List.forall_mem_cons.mpr ⟨(cl_J0_init_db425_3 _ (List.mem_of_getElem? (i := 16) rfl)), List.forall_mem_cons.mpr ⟨(cl_J0_init_db425_3 _ (List.mem_of_getElem? (i := 17) rfl)), List.forall_mem_cons.mpr ⟨(cl_J0_init_db425_3 _ (List.mem_of_getElem? (i := 14) rfl)), List.forall_mem_cons.mpr ⟨(cl_J0_init_db425_3 _ (List.mem_of_getElem? (i := 18) rfl)), List.forall_mem_cons.mpr ⟨(cl_J0_init_db425_3 _ (List.mem_of_getElem? (i := 19) rfl)), List.forall_mem_cons.mpr ⟨(cl_J0_init_db425_3 _ (List.mem_of_getElem? (i := 20) rfl)), List.forall_mem_cons.mpr ⟨(cl_J0_init_db425_3 _ (List.mem_of_getElem? (i := 21) rfl)), List.forall_mem_cons.mpr ⟨(cl_J0_init_db425_3 _ (List.mem_of_getElem? (i := 22) rfl)), List.forall_mem_cons.mpr ⟨(cl_J0_init_db425_3 _ (List.mem_of_getElem? (i := 23) rfl)), List.forall_mem_cons.mpr ⟨(cl_J0_init_db425_4 _ (List.mem_of_getElem? (i := 0) rfl)), List.forall_mem_cons.mpr ⟨(cl_J0_init_db425_4 _ (List.mem_of_getElem? (i := 1) rfl)), List.forall_mem_cons.mpr ⟨(cl_J0_init_db425_4 _ (List.mem_of_getElem? (i := 2) rfl)), List.forall_mem_cons.mpr ⟨(cl_J0_init_db425_4 _ (List.mem_of_getElem? (i := 3) rfl)), List.forall_mem_cons.mpr ⟨(cl_J0_init_db425_4 _ (List.mem_of_getElem? (i := 4) rfl)), List.forall_mem_cons.mpr ⟨(cl_J0_init_db425_4 _ (List.mem_of_getElem? (i := 5) rfl)), List.forall_mem_cons.mpr ⟨(cl_J0_init_db425_4 _ (List.mem_of_getElem? (i := 6) rfl)), List.forall_mem_cons.mpr ⟨(cl_J0_init_db425_4 _ (List.mem_of_getElem? (i := 7) rfl)), List.forall_mem_cons.mpr ⟨(cl_J0_init_db425_4 _ (List.mem_of_getElem? (i := 8) rfl)), List.forall_mem_cons.mpr ⟨(cl_J0_init_db425_4 _ (List.mem_of_getElem? (i := 9) rfl)), List.forall_mem_cons.mpr ⟨(cl_J0_init_db425_4 _ (List.mem_of_getElem? (i := 10) rfl)), List.forall_mem_cons.mpr ⟨(cl_J0_init_db425_4 _ (List.mem_of_getElem? (i := 11) rfl)), List.forall_mem_cons.mpr ⟨(cl_J0_init_db425_4 _ (List.mem_of_getElem? (i := 12) rfl)), List.forall_mem_cons.mpr ⟨(cl_J0_init_db425_4 _ (List.mem_of_getElem? (i := 13) rfl)), fun _ h => absurd h List.not_mem_nil⟩⟩⟩⟩⟩⟩⟩⟩⟩⟩⟩⟩⟩⟩⟩⟩⟩⟩⟩⟩⟩⟩⟩⟩) w) ((fun w h => (List.mem_append.mp h).elim ((List.forall_mem_cons.mpr ⟨(cl_J0_init_db425_4 _ (List.mem_of_getElem? (i := 14) rfl)), List.forall_mem_cons.mpr ⟨(cl_J0_init_db425_4 _ (List.mem_of_getElem? (i := 15) rfl)), List.forall_mem_cons.mpr ⟨(cl_J0_init_db425_4 _ (List.mem_of_getElem? (i := 16) rfl)), List.forall_mem_cons.mpr ⟨(cl_J0_init_db425_4 _ (List.mem_of_getElem? (i := 17) rfl)), List.forall_mem_cons.mpr ⟨(cl_J0_init_db425_4 _ (List.mem_of_getElem? (i := 18) rfl)), List.forall_mem_cons.mpr ⟨(cl_J0_init_db425_4 _ (List.mem_of_getElem? (i := 19) rfl)), List.forall_mem_cons.mpr ⟨(cl_J0_init_db425_4 _ (List.mem_of_getElem? (i := 20) rfl)), List.forall_mem_cons.mpr ⟨(cl_J0_init_db425_2 _ (List.mem_of_getElem? (i := 10) rfl)), List.forall_mem_cons.mpr ⟨(cl_J0_init_db425_2 _ (List.mem_of_getElem? (i := 11) rfl)), List.forall_mem_cons.mpr ⟨(cl_J0_init_db425_2 _ (List.mem_of_getElem? (i := 12) rfl)), List.forall_mem_cons.mpr ⟨(cl_J0_init_db425_2 _ (List.mem_of_getElem? (i := 13) rfl)), List.forall_mem_cons.mpr ⟨(cl_J0_init_db425_2 _ (List.mem_of_getElem? (i := 14) rfl)), List.forall_mem_cons.mpr ⟨(cl_J0_init_db425_2 _ (List.mem_of_getElem? (i := 15) rfl)), List.forall_mem_cons.mpr ⟨(cl_J0_init_db425_2 _ (List.mem_of_getElem? (i := 16) rfl)), List.forall_mem_cons.mpr ⟨(cl_J0_init_db425_2 _ (List.mem_of_getElem? (i := 17) rfl)), List.forall_mem_cons.mpr ⟨(cl_J0_init_db425_2 _ (List.mem_of_getElem? (i := 18) rfl)), List.forall_mem_cons.mpr ⟨(cl_J0_init_db425_2 _ (List.mem_of_getElem? (i := 19) rfl)), List.forall_mem_cons.mpr ⟨(cl_J0_init_db425_2 _ (List.mem_of_getElem? (i := 20) rfl)), List.forall_mem_cons.mpr ⟨(cl_J0_init_db425_2 _ (List.mem_of_getElem? (i := 21) rfl)), List.forall_mem_cons.mpr ⟨(cl_J0_init_db425_2 _ (List.mem_of_getElem? (i := 23) rfl)), List.forall_mem_cons.mpr ⟨(cl_J0_init_db425_3 _ (List.mem_of_getElem? (i := 0) rfl)), List.forall_mem_cons.mpr ⟨(cl_J0_init_db425_3 _ (List.mem_of_getElem? (i := 1) rfl)), List.forall_mem_cons.mpr ⟨(cl_J0_init_db425_3 _ (List.mem_of_getElem? (i := 2) rfl)), List.forall_mem_cons.mpr ⟨(cl_J0_init_db425_3 _ (List.mem_of_getElem? (i := 3) rfl)), fun _ h => absurd h List.not_mem_nil⟩⟩⟩⟩⟩⟩⟩⟩⟩⟩⟩⟩⟩⟩⟩⟩⟩⟩⟩⟩⟩⟩⟩⟩) w) ((List.forall_mem_cons.mpr ⟨(cl_J0_init_db425_3 _ (List.mem_of_getElem? (i := 4) rfl)), List.forall_mem_cons.mpr ⟨(cl_J0_init_db425_3 _ (List.mem_of_getElem? (i := 5) rfl)), List.forall_mem_cons.mpr ⟨(cl_J0_init_db425_3 _ (List.mem_of_getElem? (i := 6) rfl)), List.forall_mem_cons.mpr ⟨(cl_J0_init_db425_3 _ (List.mem_of_getElem? (i := 7) rfl)), List.forall_mem_cons.mpr ⟨(cl_J0_init_db425_3 _ (List.mem_of_getElem? (i := 8) rfl)), List.forall_mem_cons.mpr ⟨(cl_J0_init_db425_3 _ (List.mem_of_getElem? (i := 9) rfl)), List.forall_mem_cons.mpr ⟨(cl_J0_init_db425_3 _ (List.mem_of_getElem? (i := 10) rfl)), List.forall_mem_cons.mpr ⟨(cl_J0_init_db425_3 _ (List.mem_of_getElem? (i := 11) rfl)), List.forall_mem_cons.mpr ⟨(cl_J0_init_db425_1 _ (List.mem_of_getElem? (i := 19) rfl)), fun _ h => absurd h List.not_mem_nil⟩⟩⟩⟩⟩⟩⟩⟩⟩) w)) w)) w) ((cl_J0_init_db425_6) w)⟩) (by decide +kernel)
set_option maxRecDepth 20000 in
theorem gJ0_init_db425_J2_compress_39247 : GoodIn wsJ0_init_db425 (va_wsS RJ0 1051 yJ2_compress_39247 wsJ2_compress_39247) := goodIn_app (goodIn_sub (List.forall_mem_cons.mpr ⟨(cl_J0_init_db425_3 _ (List.mem_of_getElem? (i := 12) rfl)), List.forall_mem_cons.mpr ⟨(cl_J0_init_db425_3 _ (List.mem_of_getElem? (i := 13) rfl)), List.forall_mem_cons.mpr ⟨(cl_J0_init_db425_3 _ (List.mem_of_getElem? (i := 14) rfl)), fun _ h => absurd h List.not_mem_nil⟩⟩⟩) (by decide +kernel)) ggJ0_init_db425_J2_compress_39247
set_option maxRecDepth 20000 in
theorem ggJ0_init_db425_J2_coderFromArrayLen_85cad : GoodIn wsJ0_init_db425 wsJ2_coderFromArrayLen_85cad := goodIn_r _ [96] (by decide +kernel) (by decide +kernel)
set_option maxRecDepth 20000 in
theorem gJ0_init_db425_J2_coderFromArrayLen_85cad : GoodIn wsJ0_init_db425 (va_wsS RJ0 47 yJ2_coderFromArrayLen_85cad wsJ2_coderFromArrayLen_85cad) := goodIn_app (goodIn_sub (List.forall_mem_cons.mpr ⟨(cl_J0_init_db425_4 _ (List.mem_of_getElem? (i := 21) rfl)), List.forall_mem_cons.mpr ⟨(cl_J0_init_db425_4 _ (List.mem_of_getElem? (i := 22) rfl)), List.forall_mem_cons.mpr ⟨(cl_J0_init_db425_3 _ (List.mem_of_getElem? (i := 14) rfl)), fun _ h => absurd h List.not_mem_nil⟩⟩⟩) (by decide +kernel)) ggJ0_init_db425_J2_coderFromArrayLen_85cad
noncomputable def dz_p04d_11 : List (Nat × Instr × Nat) := [(0, (.aload_n 0, 1)), (1, (.invokespecial 1, 3)), (4, (.aload_n 1, 1)), (5, (.invokevirtual 552, 3)), (8, (.astore_n 3, 1)), (9, (.aload_n 1, 1)), (10, (.invokevirtual 549, 3)), (13, (.istore 4, 2)), (15, (.aload_n 1, 1)), (16, (.invokevirtual 1047, 3)), (19, (.ifCond .eq 22, 3)), (22, (.aload_n 0, 1)), (23, (.iconst 0, 1)), (24, (.putfield 15, 3)), (27, (.aload_n 0, 1)), (28, (.aload_n 3, 1)), (29, (.iconst 0, 1)), (30, (.iload 4, 2)), (32, (.invokestatic 54, 3)), (35, (.putfield 9, 3)), (38, (.goto 59, 3)), (41, (.getstatic 38, 3)), (44, (.ifCond .eq 35, 3)), (47, (.aload_n 1, 1)), (48, (.getfield 1048, 3)), (51, (.ifCond .eq 28, 3)), (54, (.aload_n 0, 1)), (55, (.aload_n 3, 1)), (56, (.iconst 0, 1)), (57, (.iload 4, 2)), (59, (.invokestatic 1051, 3)), (62, (.putfield 9, 3)), (65, (.aload_n 0, 1)), (66, (.aload_n 0, 1)), (67, (.getfield 9, 3)), (70, (.iload 4, 2)), (72, (.invokestatic 47, 3)), (75, (.putfield 15, 3)), (78, (.return_, 1)), (79, (.aload_n 0, 1))]
theorem dy_p04d_11 : dz_ok cJ0_init_db425 dz_p04d_11 = true := by decide +kernel
theorem dJ0_init_db425_0 : decode cJ0_init_db425 0 = .ok (.aload_n 0, 1) := dz_at (i := 0) dy_p04d_11 rfl
theorem dJ0_init_db425_1 : decode cJ0_init_db425 1 = .ok (.invokespecial 1, 3) := dz_at (i := 1) dy_p04d_11 rfl
theorem dJ0_init_db425_4 : decode cJ0_init_db425 4 = .ok (.aload_n 1, 1) := dz_at (i := 2) dy_p04d_11 rfl
theorem dJ0_init_db425_5 : decode cJ0_init_db425 5 = .ok (.invokevirtual 552, 3) := dz_at (i := 3) dy_p04d_11 rfl
theorem dJ0_init_db425_8 : decode cJ0_init_db425 8 = .ok (.astore_n 3, 1) := dz_at (i := 4) dy_p04d_11 rfl
theorem dJ0_init_db425_9 : decode cJ0_init_db425 9 = .ok (.aload_n 1, 1) := dz_at (i := 5) dy_p04d_11 rfl
theorem dJ0_init_db425_10 : decode cJ0_init_db425 10 = .ok (.invokevirtual 549, 3) := dz_at (i := 6) dy_p04d_11 rfl
theorem dJ0_init_db425_13 : decode cJ0_init_db425 13 = .ok (.istore 4, 2) := dz_at (i := 7) dy_p04d_11 rfl
theorem dJ0_init_db425_15 : decode cJ0_init_db425 15 = .ok (.aload_n 1, 1) := dz_at (i := 8) dy_p04d_11 rfl
theorem dJ0_init_db425_16 : decode cJ0_init_db425 16 = .ok (.invokevirtual 1047, 3) := dz_at (i := 9) dy_p04d_11 rfl
theorem dJ0_init_db425_19 : decode cJ0_init_db425 19 = .ok (.ifCond .eq 22, 3) := dz_at (i := 10) dy_p04d_11 rfl
theorem dJ0_init_db425_22 : decode cJ0_init_db425 22 = .ok (.aload_n 0, 1) := dz_at (i := 11) dy_p04d_11 rfl
theorem dJ0_init_db425_23 : decode cJ0_init_db425 23 = .ok (.iconst 0, 1) := dz_at (i := 12) dy_p04d_11 rfl
theorem dJ0_init_db425_24 : decode cJ0_init_db425 24 = .ok (.putfield 15, 3) := dz_at (i := 13) dy_p04d_11 rfl
theorem dJ0_init_db425_27 : decode cJ0_init_db425 27 = .ok (.aload_n 0, 1) := dz_at (i := 14) dy_p04d_11 rfl
theorem dJ0_init_db425_28 : decode cJ0_init_db425 28 = .ok (.aload_n 3, 1) := dz_at (i := 15) dy_p04d_11 rfl
theorem dJ0_init_db425_29 : decode cJ0_init_db425 29 = .ok (.iconst 0, 1) := dz_at (i := 16) dy_p04d_11 rfl
theorem dJ0_init_db425_30 : decode cJ0_init_db425 30 = .ok (.iload 4, 2) := dz_at (i := 17) dy_p04d_11 rfl
theorem dJ0_init_db425_32 : decode cJ0_init_db425 32 = .ok (.invokestatic 54, 3) := dz_at (i := 18) dy_p04d_11 rfl
theorem dJ0_init_db425_35 : decode cJ0_init_db425 35 = .ok (.putfield 9, 3) := dz_at (i := 19) dy_p04d_11 rfl
theorem dJ0_init_db425_38 : decode cJ0_init_db425 38 = .ok (.goto 59, 3) := dz_at (i := 20) dy_p04d_11 rfl
theorem dJ0_init_db425_41 : decode cJ0_init_db425 41 = .ok (.getstatic 38, 3) := dz_at (i := 21) dy_p04d_11 rfl
theorem dJ0_init_db425_44 : decode cJ0_init_db425 44 = .ok (.ifCond .eq 35, 3) := dz_at (i := 22) dy_p04d_11 rfl
theorem dJ0_init_db425_47 : decode cJ0_init_db425 47 = .ok (.aload_n 1, 1) := dz_at (i := 23) dy_p04d_11 rfl
theorem dJ0_init_db425_48 : decode cJ0_init_db425 48 = .ok (.getfield 1048, 3) := dz_at (i := 24) dy_p04d_11 rfl
theorem dJ0_init_db425_51 : decode cJ0_init_db425 51 = .ok (.ifCond .eq 28, 3) := dz_at (i := 25) dy_p04d_11 rfl
theorem dJ0_init_db425_54 : decode cJ0_init_db425 54 = .ok (.aload_n 0, 1) := dz_at (i := 26) dy_p04d_11 rfl
theorem dJ0_init_db425_55 : decode cJ0_init_db425 55 = .ok (.aload_n 3, 1) := dz_at (i := 27) dy_p04d_11 rfl
theorem dJ0_init_db425_56 : decode cJ0_init_db425 56 = .ok (.iconst 0, 1) := dz_at (i := 28) dy_p04d_11 rfl
theorem dJ0_init_db425_57 : decode cJ0_init_db425 57 = .ok (.iload 4, 2) := dz_at (i := 29) dy_p04d_11 rfl
theorem dJ0_init_db425_59 : decode cJ0_init_db425 59 = .ok (.invokestatic 1051, 3) := dz_at (i := 30) dy_p04d_11 rfl
theorem dJ0_init_db425_62 : decode cJ0_init_db425 62 = .ok (.putfield 9, 3) := dz_at (i := 31) dy_p04d_11 rfl
theorem dJ0_init_db425_65 : decode cJ0_init_db425 65 = .ok (.aload_n 0, 1) := dz_at (i := 32) dy_p04d_11 rfl
theorem dJ0_init_db425_66 : decode cJ0_init_db425 66 = .ok (.aload_n 0, 1) := dz_at (i := 33) dy_p04d_11 rfl
theorem dJ0_init_db425_67 : decode cJ0_init_db425 67 = .ok (.getfield 9, 3) := dz_at (i := 34) dy_p04d_11 rfl
theorem dJ0_init_db425_70 : decode cJ0_init_db425 70 = .ok (.iload 4, 2) := dz_at (i := 35) dy_p04d_11 rfl
theorem dJ0_init_db425_72 : decode cJ0_init_db425 72 = .ok (.invokestatic 47, 3) := dz_at (i := 36) dy_p04d_11 rfl
theorem dJ0_init_db425_75 : decode cJ0_init_db425 75 = .ok (.putfield 15, 3) := dz_at (i := 37) dy_p04d_11 rfl
theorem dJ0_init_db425_78 : decode cJ0_init_db425 78 = .ok (.return_, 1) := dz_at (i := 38) dy_p04d_11 rfl
theorem dJ0_init_db425_79 : decode cJ0_init_db425 79 = .ok (.aload_n 0, 1) := dz_at (i := 39) dy_p04d_11 rfl
noncomputable def dz_p04d_12 : List (Nat × Instr × Nat) := [(80, (.iconst 1, 1)), (81, (.putfield 15, 3)), (84, (.aload_n 0, 1)), (85, (.aload_n 3, 1)), (86, (.iconst 0, 1)), (87, (.iload 4, 2)), (89, (.iconst 1, 1)), (90, (.ishl, 1)), (91, (.invokestatic 54, 3)), (94, (.putfield 9, 3)), (97, (.return_, 1))]
theorem dy_p04d_12 : dz_ok cJ0_init_db425 dz_p04d_12 = true := by decide +kernel
theorem dJ0_init_db425_80 : decode cJ0_init_db425 80 = .ok (.iconst 1, 1) := dz_at (i := 0) dy_p04d_12 rfl
theorem dJ0_init_db425_81 : decode cJ0_init_db425 81 = .ok (.putfield 15, 3) := dz_at (i := 1) dy_p04d_12 rfl
theorem dJ0_init_db425_84 : decode cJ0_init_db425 84 = .ok (.aload_n 0, 1) := dz_at (i := 2) dy_p04d_12 rfl
theorem dJ0_init_db425_85 : decode cJ0_init_db425 85 = .ok (.aload_n 3, 1) := dz_at (i := 3) dy_p04d_12 rfl
theorem dJ0_init_db425_86 : decode cJ0_init_db425 86 = .ok (.iconst 0, 1) := dz_at (i := 4) dy_p04d_12 rfl
theorem dJ0_init_db425_87 : decode cJ0_init_db425 87 = .ok (.iload 4, 2) := dz_at (i := 5) dy_p04d_12 rfl
theorem dJ0_init_db425_89 : decode cJ0_init_db425 89 = .ok (.iconst 1, 1) := dz_at (i := 6) dy_p04d_12 rfl
theorem dJ0_init_db425_90 : decode cJ0_init_db425 90 = .ok (.ishl, 1) := dz_at (i := 7) dy_p04d_12 rfl
theorem dJ0_init_db425_91 : decode cJ0_init_db425 91 = .ok (.invokestatic 54, 3) := dz_at (i := 8) dy_p04d_12 rfl
theorem dJ0_init_db425_94 : decode cJ0_init_db425 94 = .ok (.putfield 9, 3) := dz_at (i := 9) dy_p04d_12 rfl
theorem dJ0_init_db425_97 : decode cJ0_init_db425 97 = .ok (.return_, 1) := dz_at (i := 10) dy_p04d_12 rfl
set_option maxHeartbeats 4000000 in
set_option maxRecDepth 100000 in
theorem k_J0_init_db425 (l : Launch) (dC : Nat → ClassId) (dI : Nat → Nat → Nat) (cB : ClassId) (hs : Nat) (h : Nat) (v : Nat) (n : Nat) (mm : Nat) (f : Nat → Int32) (sz N : Nat) (hn : n ≤ mm) (hmb : mm ≤ 34) (hf : sb_Fit f) : Met l yJ0_init_db425 wsJ0_init_db425 ({ frames := 3, cells := 1, slots := 34, locals := 146 }) (va_Pc [.ref hs, .ref h, .null] (xT (dC, dI) xCl [(hs, .inr (0, [.null, .int 0, .int 0, .int 0])), (h, eB v (nI n)), (v, eY cB mm f)] [(cB, .byte)] sz N)) (va_Qv (fun (u : Unit) => True) (fun (u : Unit) t => xW (dC, dI) xCl [] (va_A [(hs, .inr (0, [.null, .int 0, .int 0, .int 0])), (h, eB v (nI n)), (v, eY cB mm f)] sz) t) (va_A [(hs, .inr (0, [.null, .int 0, .int 0, .int 0])), (h, eB v (nI n)), (v, eY cB mm f)] sz)) 1 34 (va_A [(hs, .inr (0, [.null, .int 0, .int 0, .int 0])), (h, eB v (nI n)), (v, eY cB mm f)] sz) := by
  refine Met.ofW (cc := cJ0_init_db425) (maxL := 5) (ret := none) (by decide +kernel) rfl ?_
  intro p e s m args below meth c s₁ B hml hv
  obtain ⟨rfl, ⟨hsz, hP, hK, hD0, hN, hG⟩, hT⟩ := hv
  have hx := B.exec
  have hb := B.bytes
  have hr := B.returns
  have hts := atoms_spec (ws := wsJ0_init_db425) B.pre
  have hown : s.vm.findClass RJ0 = some m.cls := findClass_of_methodNamed B.named
  have hlocks := B.notSynchronized
  have hin : meth.name = "<init>" := (name_of_methodNamed B.named B.method).1
  subst hsz
  have hAN : ∀ q, va_A [(hs, .inr (0, [.null, .int 0, .int 0, .int 0])), (h, eB v (nI n)), (v, eY cB mm f)] s.heap.size q → N ≤ q := xA_N hD0 hN
  have hD := hD0.self (sz := s.heap.size)
  generalize hAe : va_A [(hs, .inr (0, [.null, .int 0, .int 0, .int 0])), (h, eB v (nI n)), (v, eY cB mm f)] s.heap.size = A at hD hAN ⊢
  have hA : ∀ q : Nat, s.heap.size ≤ q → A q := fun q h => by rw [← hAe]; exact Or.inr h
  have hS : va_S A s.heap s.heap [] := va_S.rf
  have hP : va_P (dC, dI) xCl [(hs, .inr (0, [.null, .int 0, .int 0, .int 0])), (h, eB v (nI n)), (v, eY cB mm f)] s.heap := hP
  obtain ⟨hTc, ⟨tO, tT, fO, fT, hTo, hTt, hTa, hTb, hTf, hTg⟩, ⟨adK, adV, hTs, hTr0, hTr1, hTr2⟩, ⟨aE, hTe⟩, hTn⟩ := id hT
  have hl := lv_entry ([.ref hs, .ref h, .null]) (n := 5) (Nat.le_of_ble_eq_true rfl)
  rw [lg_entry_eq]
  generalize (lg_sl ([.ref hs, .ref h, .null]) ++ List.replicate (5 - (lg_sl ([.ref hs, .ref h, .null])).length) Slot.unset).toArray = ls at hl ⊢
  have hl : lv_has ls 5 [(0, .ref hs), (1, .ref h), (2, .null)] := hl
  refine lv_aload_n hx hb dJ0_init_db425_0 rfl (lv_at hl 0 rfl) ?_
  refine W.objInit hx hb hown (hts (.methodLink RJ0 1 objectInit) (by decide +kernel)) (hts (.instanceMethod objectInit) (by decide +kernel)) (hts (.code objectInit ⟨#[0xb1]⟩ 1 none) (by decide +kernel)) rfl (by rw [hml]; exact hl.1) rfl dJ0_init_db425_1 (Nat.le_of_ble_eq_true rfl) (Nat.le_of_ble_eq_true rfl) ?_
  refine W.eq (g2 := F0 m 4 ls []) rfl ?_
  refine lv_aload_n hx hb dJ0_init_db425_4 rfl (lv_at hl 1 rfl) ?_
  have hPc := hP.sub (ws' := [(h, eB v (nI n))]) [1] rfl
  have hDc := hD.sub (ws' := [(h, eB v (nI n))]) [1] (by decide +kernel) rfl
  have hKc := hK.sub (tys' := [(cB, .byte)]) [0] rfl
  have hFc := va_free (wc := [(h, eB v (nI n))]) hD hS hA [1] rfl
  refine va_callr (va_runU (As := []) (rest := []) ⟨hx, hb, hml, hown, hts⟩ (k_J5_getValue_6d5f1 l dC dI cB h v (nI n) s.heap.size N) (va_cwU 0 hts gJ0_init_db425_J5_getValue_6d5f1_u552J4 rfl rfl rfl rfl (by decide +kernel) ⟨Nat.le_of_ble_eq_true rfl, Nat.le_of_ble_eq_true rfl⟩) (xT.preV hKc hPc hDc hAN (Nat.le_trans hN hS.1) (hG.kept hS hAN) (hT.kept hS hAN) (ci := 1) (q0 := 0) rfl rfl) rfl rfl hl.1 rfl (lv_room (Nat.le_of_ble_eq_true rfl)) dJ0_init_db425_5 ⟨(show _ ≤ 1 by omega), (show _ ≤ 34 by omega)⟩) hS (fun q _ h => hFc q h) hFc (fun u_2 r_1 t H locs ht hvm hw hB hz hk hS => ?_)
  obtain ⟨he_r_1, hP1, hD1⟩ := hB
  rw [ht] at hP1
  obtain ⟨hP, hD⟩ := va_join (wr := [(hs, .inr (0, [.null, .int 0, .int 0, .int 0])), (v, eY cB mm f)]) (w1 := [(h, eB v (nI n))]) hP hD [1] [0, 2] rfl rfl (by decide +kernel) (by decide +kernel) hk hFc hP1 hD1
  have hP : va_P (dC, dI) xCl [(hs, .inr (0, [.null, .int 0, .int 0, .int 0])), (v, eY cB mm f), (h, eB v (nI n))] H := hP
  have hD : va_D A [(hs, .inr (0, [.null, .int 0, .int 0, .int 0])), (v, eY cB mm f), (h, eB v (nI n))] := hD
  rw [he_r_1]
  refine lv_astore_n (lv' := [(3, .ref v), (0, .ref hs), (1, .ref h), (2, .null)]) hx hb dJ0_init_db425_8 rfl hl (by decide +kernel) rfl (fun ls hl => ?_)
  refine lv_aload_n hx hb dJ0_init_db425_9 rfl (lv_at hl 2 rfl) ?_
  have hPc := hP.sub (ws' := [(h, eB v (nI n))]) [2] rfl
  have hDc := hD.sub (ws' := [(h, eB v (nI n))]) [2] (by decide +kernel) rfl
  have hKc := hK.sub (tys' := [(cB, .byte)]) [0] rfl
  have hFc := va_free (wc := [(h, eB v (nI n))]) hD hS hA [2] rfl
  refine va_calli (va_runU (As := []) (rest := []) ⟨hx, hb, hml, hown, hts⟩ (k_J4_length_8abf5 l dC dI cB h v (nI n) H.size N) (va_cwO 0 hts gJ0_init_db425_J4_length_8abf5_u549J4 rfl rfl rfl (b0 := cJ5_length_8abf5) (m0 := 1) (r0 := some .int) (by decide +kernel) (by decide +kernel) ⟨Nat.le_of_ble_eq_true rfl, Nat.le_of_ble_eq_true rfl⟩) (xT.preV hKc hPc hDc hAN (Nat.le_trans hN hS.1) (hG.kept hS hAN) (hT.kept hS hAN) (ci := 1) (q0 := 0) rfl rfl) rfl rfl hl.1 rfl (lv_room (Nat.le_of_ble_eq_true rfl)) dJ0_init_db425_10 ⟨(show _ ≤ 1 by omega), (show _ ≤ 34 by omega)⟩) hS (fun q _ h => hFc q h) hFc (fun r_3 u_4 t H locs ht hvm hw hB hz hk hS => ?_)
  obtain ⟨hP1, hD1⟩ := hB
  rw [ht] at hP1
  obtain ⟨hP, hD⟩ := va_join (wr := [(hs, .inr (0, [.null, .int 0, .int 0, .int 0])), (v, eY cB mm f)]) (w1 := [(h, eB v (nI n))]) hP hD [2] [0, 1] rfl rfl (by decide +kernel) (by decide +kernel) hk hFc hP1 hD1
  have hP : va_P (dC, dI) xCl [(hs, .inr (0, [.null, .int 0, .int 0, .int 0])), (v, eY cB mm f), (h, eB v (nI n))] H := hP
  have hD : va_D A [(hs, .inr (0, [.null, .int 0, .int 0, .int 0])), (v, eY cB mm f), (h, eB v (nI n))] := hD
  have hw : r_3 = (nI n) := hw
  rw [hw]
  refine lv_istore (lv' := [(4, .int (nI n)), (3, .ref v), (0, .ref hs), (1, .ref h), (2, .null)]) hx hb dJ0_init_db425_13 hl (by decide +kernel) rfl (fun ls hl => ?_)
  refine lv_aload_n hx hb dJ0_init_db425_15 rfl (lv_at hl 3 rfl) ?_
  have hPc := hP.sub (ws' := [(h, eB v (nI n))]) [2] rfl
  have hDc := hD.sub (ws' := [(h, eB v (nI n))]) [2] (by decide +kernel) rfl
  have hKc := hK.sub (tys' := [(cB, .byte)]) [0] rfl
  have hFc := va_free (wc := [(h, eB v (nI n))]) hD hS hA [2] rfl
  refine va_calli (va_runU (As := []) (rest := []) ⟨hx, hb, hml, hown, hts⟩ (k_J5_isLatin1_aae02 l dC dI cB h v (nI n) H.size N) (va_cwU 0 hts gJ0_init_db425_J5_isLatin1_aae02_u1047J4 rfl rfl rfl rfl (by decide +kernel) ⟨Nat.le_of_ble_eq_true rfl, Nat.le_of_ble_eq_true rfl⟩) (xT.preV hKc hPc hDc hAN (Nat.le_trans hN hS.1) (hG.kept hS hAN) (hT.kept hS hAN) (ci := 1) (q0 := 0) rfl rfl) rfl rfl hl.1 rfl (lv_room (Nat.le_of_ble_eq_true rfl)) dJ0_init_db425_16 ⟨(show _ ≤ 1 by omega), (show _ ≤ 34 by omega)⟩) hS (fun q _ h => hFc q h) hFc (fun r_5 u_6 t H locs ht hvm hw hB hz hk hS => ?_)
  obtain ⟨hP1, hD1⟩ := hB
  rw [ht] at hP1
  obtain ⟨hP, hD⟩ := va_join (wr := [(hs, .inr (0, [.null, .int 0, .int 0, .int 0])), (v, eY cB mm f)]) (w1 := [(h, eB v (nI n))]) hP hD [2] [0, 1] rfl rfl (by decide +kernel) (by decide +kernel) hk hFc hP1 hD1
  have hP : va_P (dC, dI) xCl [(hs, .inr (0, [.null, .int 0, .int 0, .int 0])), (v, eY cB mm f), (h, eB v (nI n))] H := hP
  have hD : va_D A [(hs, .inr (0, [.null, .int 0, .int 0, .int 0])), (v, eY cB mm f), (h, eB v (nI n))] := hD
  have hw : r_5 = 1 := hw
  rw [hw]
  refine lv_if_eq (tgt := 41) hx hb dJ0_init_db425_19 (by decide +kernel) (fun c9 => absurd c9 (by decide +kernel)) (fun _ => ?_)
  refine lv_aload_n hx hb dJ0_init_db425_22 rfl (lv_at hl 2 rfl) ?_
  refine lv_iconst (v := 0) hx hb dJ0_init_db425_23 (by decide +kernel) ?_
  refine va_putF (D := (dC, dI)) (ci := 0) (v := .int 0) (ty := .byte) (C := RJ0) (T := TJ0) (N := 4) hx hb hts (by decide +kernel) tyJ0 tyJ0_ok nmJ0 hown hK hP hD hS 0 rfl rfl 1 (by decide +kernel) (hts (.fieldLink RJ0 15 "java/lang/String" "coder" "B") (by decide +kernel)) (fun _ h9 => h9) rfl hin rfl (by decide +kernel) rfl rfl (Nat.le_of_ble_eq_true rfl) dJ0_init_db425_24 (fun H locs hP hD hS => ?_)
  have hP : va_P (dC, dI) xCl [(hs, .inr (0, [.null, .int 0, .int 0, .int 0])), (v, eY cB mm f), (h, eB v (nI n))] H := hP
  have hD : va_D A [(hs, .inr (0, [.null, .int 0, .int 0, .int 0])), (v, eY cB mm f), (h, eB v (nI n))] := hD
  refine lv_aload_n hx hb dJ0_init_db425_27 rfl (lv_at hl 2 rfl) ?_
  refine lv_aload_n hx hb dJ0_init_db425_28 rfl (lv_at hl 1 rfl) ?_
  refine lv_iconst (v := 0) hx hb dJ0_init_db425_29 (by decide +kernel) ?_
  refine lv_iload hx hb dJ0_init_db425_30 (lv_at hl 0 rfl) ?_
  have hPc := hP.sub (ws' := [(v, eY cB mm f)]) [1] rfl
  have hDc := hD.sub (ws' := [(v, eY cB mm f)]) [1] (by decide +kernel) rfl
  have hKc := hK.sub (tys' := [(cB, .byte)]) [0] rfl
  have hFc := va_free (wc := [(v, eY cB mm f)]) hD hS hA [1] rfl
  refine va_callr (va_runS (As := [.ref v, .int 0, .int (nI n)]) (rest := [.ref hs]) ⟨hx, hb, hml, hown, hts⟩ (k_J7_copyOfRange_39247 l dC dI cB v n mm f H.size N (by omega) (by omega) hf) (va_cwS 3 hts gJ0_init_db425_J7_copyOfRange_39247 rfl rfl rfl (by decide +kernel) ⟨Nat.le_of_ble_eq_true rfl, Nat.le_of_ble_eq_true rfl⟩) (xT.preS hKc hPc hDc hAN (Nat.le_trans hN hS.1) (hG.kept hS hAN) (hT.kept hS hAN)) rfl rfl hl.1 rfl (lv_room (Nat.le_of_ble_eq_true rfl)) dJ0_init_db425_32 ⟨(show _ ≤ 1 by omega), (show _ ≤ 34 by omega)⟩) hS (fun q _ h => hFc q h) hFc (fun u_9 r_8 t H locs ht hvm hw hB hz hk hS => ?_)
  obtain ⟨hP1, hD1⟩ := hB
  rw [ht] at hP1
  obtain ⟨f2_7, rfl⟩ : ∃ z, z = u_9 := ⟨_, rfl⟩
  obtain ⟨hP, hD⟩ := va_join (wr := [(hs, .inr (0, [.null, .int 0, .int 0, .int 0])), (h, eB v (nI n))]) (w1 := [(r_8, eY cB n f2_7)]) hP hD [1] [0, 2] rfl rfl (by decide +kernel) (by decide +kernel) hk hFc hP1 hD1
  have hP : va_P (dC, dI) xCl [(hs, .inr (0, [.null, .int 0, .int 0, .int 0])), (h, eB v (nI n)), (r_8, eY cB n f2_7)] H := hP
  have hD : va_D A [(hs, .inr (0, [.null, .int 0, .int 0, .int 0])), (h, eB v (nI n)), (r_8, eY cB n f2_7)] := hD
  have hf_f2_7 : sb_Fit f2_7 := hw
  refine va_putF (D := (dC, dI)) (ci := 0) (v := .ref r_8) (ty := (.array .byte)) (C := RJ0) (T := TJ0) (N := 4) hx hb hts (by decide +kernel) tyJ0 tyJ0_ok nmJ0 hown hK hP hD hS 0 rfl rfl 0 (by decide +kernel) (hts (.fieldLink RJ0 9 "java/lang/String" "value" "[B") (by decide +kernel)) (fun _ h9 => h9) rfl hin rfl (by decide +kernel) rfl rfl (Nat.le_of_ble_eq_true rfl) dJ0_init_db425_35 (fun H locs hP hD hS => ?_)
  have hP : va_P (dC, dI) xCl [(hs, .inr (0, [.ref r_8, .int 0, .int 0, .int 0])), (h, eB v (nI n)), (r_8, eY cB n f2_7)] H := hP
  have hD : va_D A [(hs, .inr (0, [.ref r_8, .int 0, .int 0, .int 0])), (h, eB v (nI n)), (r_8, eY cB n f2_7)] := hD
  refine lv_goto (tgt := 97) hx hb dJ0_init_db425_38 (by decide +kernel) ?_
  have hP := xP_nil (D := (dC, dI)) (cl := xCl) (H := H)
  have hD := xD_nil (A := A)
  refine W.widen (k := 1) (n := 34) (by omega) (by omega) ?_
  exact W.vret hx hb hr (fun t ht hW => ⟨⟨(), rfl, trivial, by rw [ht]; exact hP, hD⟩, hS.F ht⟩) hS.2.2 dJ0_init_db425_97
theorem cl_J0_init_81219_1 : ∀ w ∈ wsJ0_init_81219_r1, w ∈ wsJ0_init_81219 := fun _ h => (List.mem_cons_of_mem _ (List.mem_append_left _ (List.mem_append_left _ (List.mem_append_left _ h))))
theorem cl_J0_init_81219_2 : ∀ w ∈ wsJ0_init_81219_r2, w ∈ wsJ0_init_81219 := fun _ h => (List.mem_cons_of_mem _ (List.mem_append_left _ (List.mem_append_left _ (List.mem_append_right _ (List.mem_append_left _ h)))))
theorem cl_J0_init_81219_3 : ∀ w ∈ wsJ0_init_81219_r3, w ∈ wsJ0_init_81219 := fun _ h => (List.mem_cons_of_mem _ (List.mem_append_left _ (List.mem_append_left _ (List.mem_append_right _ (List.mem_append_right _ (List.mem_append_left _ h))))))
theorem cl_J0_init_81219_4 : ∀ w ∈ wsJ0_init_81219_r4, w ∈ wsJ0_init_81219 := fun _ h => (List.mem_cons_of_mem _ (List.mem_append_left _ (List.mem_append_left _ (List.mem_append_right _ (List.mem_append_right _ (List.mem_append_right _ (List.mem_append_left _ h)))))))
theorem cl_J0_init_81219_5 : ∀ w ∈ wsJ0_init_81219_r5, w ∈ wsJ0_init_81219 := fun _ h => (List.mem_cons_of_mem _ (List.mem_append_left _ (List.mem_append_left _ (List.mem_append_right _ (List.mem_append_right _ (List.mem_append_right _ (List.mem_append_right _ h)))))))
theorem cl_J0_init_81219_6 : ∀ w ∈ wsJ00, w ∈ wsJ0_init_81219 := fun _ h => (List.mem_cons_of_mem _ (List.mem_append_left _ (List.mem_append_right _ h)))
theorem cl_J0_init_81219_7 : ∀ w ∈ wsJ40, w ∈ wsJ0_init_81219 := fun _ h => (List.mem_cons_of_mem _ (List.mem_append_right _ h))
set_option maxRecDepth 20000 in
theorem ggJ0_init_81219_J0_init_db425 : GoodIn wsJ0_init_81219 wsJ0_init_db425 := goodIn_sub (List.forall_mem_cons.mpr ⟨(cl_J0_init_81219_1 _ (List.mem_of_getElem? (i := 3) rfl)), fun w h => (List.mem_append.mp h).elim ((fun w h => (List.mem_append.mp h).elim ((fun w h => (List.mem_append.mp h).elim ((List.forall_mem_cons.mpr ⟨(cl_J0_init_81219_1 _ (List.mem_of_getElem? (i := 4) rfl)), List.forall_mem_cons.mpr ⟨(cl_J0_init_81219_1 _ (List.mem_of_getElem? (i := 5) rfl)), List.forall_mem_cons.mpr ⟨(cl_J0_init_81219_1 _ (List.mem_of_getElem? (i := 6) rfl)), List.forall_mem_cons.mpr ⟨(cl_J0_init_81219_1 _ (List.mem_of_getElem? (i := 7) rfl)), List.forall_mem_cons.mpr ⟨(cl_J0_init_81219_1 _ (List.mem_of_getElem? (i := 8) rfl)), List.forall_mem_cons.mpr ⟨(cl_J0_init_81219_1 _ (List.mem_of_getElem? (i := 9) rfl)), List.forall_mem_cons.mpr ⟨(cl_J0_init_81219_1 _ (List.mem_of_getElem? (i := 10) rfl)), List.forall_mem_cons.mpr ⟨(cl_J0_init_81219_1 _ (List.mem_of_getElem? (i := 11) rfl)), List.forall_mem_cons.mpr ⟨(cl_J0_init_81219_1 _ (List.mem_of_getElem? (i := 12) rfl)), List.forall_mem_cons.mpr ⟨(cl_J0_init_81219_1 _ (List.mem_of_getElem? (i := 13) rfl)), List.forall_mem_cons.mpr ⟨(cl_J0_init_81219_1 _ (List.mem_of_getElem? (i := 14) rfl)), List.forall_mem_cons.mpr ⟨(cl_J0_init_81219_1 _ (List.mem_of_getElem? (i := 15) rfl)), List.forall_mem_cons.mpr ⟨(cl_J0_init_81219_1 _ (List.mem_of_getElem? (i := 16) rfl)), List.forall_mem_cons.mpr ⟨(cl_J0_init_81219_1 _ (List.mem_of_getElem? (i := 17) rfl)), List.forall_mem_cons.mpr ⟨(cl_J0_init_81219_1 _ (List.mem_of_getElem? (i := 18) rfl)), List.forall_mem_cons.mpr ⟨(cl_J0_init_81219_1 _ (List.mem_of_getElem? (i := 19) rfl)), List.forall_mem_cons.mpr ⟨(cl_J0_init_81219_1 _ (List.mem_of_getElem? (i := 20) rfl)), List.forall_mem_cons.mpr ⟨(cl_J0_init_81219_1 _ (List.mem_of_getElem? (i := 21) rfl)), List.forall_mem_cons.mpr ⟨(cl_J0_init_81219_1 _ (List.mem_of_getElem? (i := 22) rfl)), List.forall_mem_cons.mpr ⟨(cl_J0_init_81219_1 _ (List.mem_of_getElem? (i := 23) rfl)), List.forall_mem_cons.mpr ⟨(cl_J0_init_81219_2 _ (List.mem_of_getElem? (i := 0) rfl)), List.forall_mem_cons.mpr ⟨(cl_J0_init_81219_2 _ (List.mem_of_getElem? (i := 1) rfl)), List.forall_mem_cons.mpr ⟨(cl_J0_init_81219_2 _ (List.mem_of_getElem? (i := 2) rfl)), List.forall_mem_cons.mpr ⟨(cl_J0_init_81219_1 _ (List.mem_of_getElem? (i := 20) rfl)), fun _ h => absurd h List.not_mem_nil⟩⟩⟩⟩⟩⟩⟩⟩⟩⟩⟩⟩⟩⟩⟩⟩⟩⟩⟩⟩⟩⟩⟩⟩) w) ((fun w h => (List.mem_append.mp h).elim ((List.forall_mem_cons.mpr ⟨(cl_J0_init_81219_2 _ (List.mem_of_getElem? (i := 4) rfl)), List.forall_mem_cons.mpr ⟨(cl_J0_init_81219_2 _ (List.mem_of_getElem? (i := 5) rfl)), List.forall_mem_cons.mpr ⟨(cl_J0_init_81219_2 _ (List.mem_of_getElem? (i := 6) rfl)), List.forall_mem_cons.mpr ⟨(cl_J0_init_81219_2 _ (List.mem_of_getElem? (i := 7) rfl)), List.forall_mem_cons.mpr ⟨(cl_J0_init_81219_2 _ (List.mem_of_getElem? (i := 8) rfl)), List.forall_mem_cons.mpr ⟨(cl_J0_init_81219_2 _ (List.mem_of_getElem? (i := 9) rfl)), List.forall_mem_cons.mpr ⟨(cl_J0_init_81219_2 _ (List.mem_of_getElem? (i := 10) rfl)), List.forall_mem_cons.mpr ⟨(cl_J0_init_81219_2 _ (List.mem_of_getElem? (i := 11) rfl)), List.forall_mem_cons.mpr ⟨(cl_J0_init_81219_2 _ (List.mem_of_getElem? (i := 12) rfl)), List.forall_mem_cons.mpr ⟨(cl_J0_init_81219_2 _ (List.mem_of_getElem? (i := 13) rfl)), List.forall_mem_cons.mpr ⟨(cl_J0_init_81219_2 _ (List.mem_of_getElem? (i := 14) rfl)), List.forall_mem_cons.mpr ⟨(cl_J0_init_81219_2 _ (List.mem_of_getElem? (i := 15) rfl)), List.forall_mem_cons.mpr ⟨(cl_J0_init_81219_2 _ (List.mem_of_getElem? (i := 16) rfl)), List.forall_mem_cons.mpr ⟨(cl_J0_init_81219_2 _ (List.mem_of_getElem? (i := 17) rfl)), List.forall_mem_cons.mpr ⟨(cl_J0_init_81219_2 _ (List.mem_of_getElem? (i := 18) rfl)), List.forall_mem_cons.mpr ⟨(cl_J0_init_81219_2 _ (List.mem_of_getElem? (i := 19) rfl)), List.forall_mem_cons.mpr ⟨(cl_J0_init_81219_2 _ (List.mem_of_getElem? (i := 20) rfl)), List.forall_mem_cons.mpr ⟨(cl_J0_init_81219_2 _ (List.mem_of_getElem? (i := 21) rfl)), List.forall_mem_cons.mpr ⟨(cl_J0_init_81219_2 _ (List.mem_of_getElem? (i := 22) rfl)), List.forall_mem_cons.mpr ⟨(cl_J0_init_81219_2 _ (List.mem_of_getElem? (i := 23) rfl)), List.forall_mem_cons.mpr ⟨(cl_J0_init_81219_3 _ (List.mem_of_getElem? (i := 0) rfl)), List.forall_mem_cons.mpr ⟨(cl_J0_init_81219_3 _ (List.mem_of_getElem? (i := 1) rfl)), List.forall_mem_cons.mpr ⟨(cl_J0_init_81219_3 _ (List.mem_of_getElem? (i := 2) rfl)), List.forall_mem_cons.mpr ⟨(cl_J0_init_81219_3 _ (List.mem_of_getElem? (i := 3) rfl)), fun _ h => absurd h List.not_mem_nil⟩⟩⟩⟩⟩⟩⟩⟩⟩⟩⟩⟩⟩⟩⟩⟩⟩⟩⟩⟩⟩⟩⟩⟩) w) ((fun w h => (List.mem_append.mp h).elim ((List.forall_mem_cons.mpr ⟨(cl_J0_init_81219_3 _ (List.mem_of_getElem? (i := 4) rfl)), List.forall_mem_cons.mpr ⟨(cl_J0_init_81219_3 _ (List.mem_of_getElem? (i := 5) rfl)), List.forall_mem_cons.mpr ⟨(cl_J0_init_81219_3 _ (List.mem_of_getElem? (i := 6) rfl)), List.forall_mem_cons.mpr ⟨(cl_J0_init_81219_3 _ (List.mem_of_getElem? (i := 7) rfl)), List.forall_mem_cons.mpr ⟨(cl_J0_init_81219_3 _ (List.mem_of_getElem? (i := 8) rfl)), List.forall_mem_cons.mpr ⟨(cl_J0_init_81219_3 _ (List.mem_of_getElem? (i := 9) rfl)), List.forall_mem_cons.mpr ⟨(cl_J0_init_81219_3 _ (List.mem_of_getElem? (i := 10) rfl)), List.forall_mem_cons.mpr ⟨(cl_J0_init_81219_3 _ (List.mem_of_getElem? (i := 11) rfl)), List.forall_mem_cons.mpr ⟨(cl_J0_init_81219_3 _ (List.mem_of_getElem? (i := 12) rfl)), List.forall_mem_cons.mpr ⟨(cl_J0_init_81219_3 _ (List.mem_of_getElem? (i := 13) rfl)), List.forall_mem_cons.mpr ⟨(cl_J0_init_81219_3 _ (List.mem_of_getElem? (i := 14) rfl)), List.forall_mem_cons.mpr ⟨(cl_J0_init_81219_3 _ (List.mem_of_getElem? (i := 15) rfl)), List.forall_mem_cons.mpr ⟨(cl_J0_init_81219_3 _ (List.mem_of_getElem? (i := 16) rfl)), List.forall_mem_cons.mpr ⟨(cl_J0_init_81219_3 _ (List.mem_of_getElem? (i := 17) rfl)), List.forall_mem_cons.mpr ⟨(cl_J0_init_81219_3 _ (List.mem_of_getElem? (i := 18) rfl)), List.forall_mem_cons.mpr ⟨(cl_J0_init_81219_3 _ (List.mem_of_getElem? (i := 19) rfl)), List.forall_mem_cons.mpr ⟨(cl_J0_init_81219_3 _ (List.mem_of_getElem? (i := 20) rfl)), List.forall_mem_cons.mpr ⟨(cl_J0_init_81219_3 _ (List.mem_of_getElem? (i := 21) rfl)), List.forall_mem_cons.mpr ⟨(cl_J0_init_81219_3 _ (List.mem_of_getElem? (i := 22) rfl)), List.forall_mem_cons.mpr ⟨(cl_J0_init_81219_3 _ (List.mem_of_getElem? (i := 23) rfl)), List.forall_mem_cons.mpr ⟨(cl_J0_init_81219_4 _ (List.mem_of_getElem? (i := 0) rfl)), List.forall_mem_cons.mpr ⟨(cl_J0_init_81219_4 _ (List.mem_of_getElem? (i := 1) rfl)), List.forall_mem_cons.mpr ⟨(cl_J0_init_81219_4 _ (List.mem_of_getElem? (i := 2) rfl)), List.forall_mem_cons.mpr ⟨(cl_J0_init_81219_4 _ (List.mem_of_getElem? (i := 3) rfl)), fun _ h => absurd h List.not_mem_nil⟩⟩⟩⟩⟩⟩⟩⟩⟩⟩⟩⟩⟩⟩⟩⟩⟩⟩⟩⟩⟩⟩⟩⟩) w) ((List.forall_mem_cons.mpr ⟨(cl_J0_init_81219_4 _ (List.mem_of_getElem? (i := 4) rfl)), List.forall_mem_cons.mpr ⟨(cl_J0_init_81219_4 _ (List.mem_of_getElem? (i := 5) rfl)), List.forall_mem_cons.mpr ⟨(cl_J0_init_81219_4 _ (List.mem_of_getElem? (i := 6) rfl)), List.forall_mem_cons.mpr ⟨(cl_J0_init_81219_1 _ (List.mem_of_getElem? (i := 2) rfl)), List.forall_mem_cons.mpr ⟨(cl_J0_init_81219_4 _ (List.mem_of_getElem? (i := 7) rfl)), List.forall_mem_cons.mpr ⟨(cl_J0_init_81219_4 _ (List.mem_of_getElem? (i := 8) rfl)), List.forall_mem_cons.mpr ⟨(cl_J0_init_81219_4 _ (List.mem_of_getElem? (i := 9) rfl)), List.forall_mem_cons.mpr ⟨(cl_J0_init_81219_4 _ (List.mem_of_getElem? (i := 10) rfl)), List.forall_mem_cons.mpr ⟨(cl_J0_init_81219_4 _ (List.mem_of_getElem? (i := 11) rfl)), List.forall_mem_cons.mpr ⟨(cl_J0_init_81219_4 _ (List.mem_of_getElem? (i := 12) rfl)), List.forall_mem_cons.mpr ⟨(cl_J0_init_81219_4 _ (List.mem_of_getElem? (i := 13) rfl)), List.forall_mem_cons.mpr ⟨(cl_J0_init_81219_4 _ (List.mem_of_getElem? (i := 14) rfl)), List.forall_mem_cons.mpr ⟨(cl_J0_init_81219_4 _ (List.mem_of_getElem? (i := 15) rfl)), List.forall_mem_cons.mpr ⟨(cl_J0_init_81219_4 _ (List.mem_of_getElem? (i := 16) rfl)), List.forall_mem_cons.mpr ⟨(cl_J0_init_81219_4 _ (List.mem_of_getElem? (i := 17) rfl)), List.forall_mem_cons.mpr ⟨(cl_J0_init_81219_4 _ (List.mem_of_getElem? (i := 18) rfl)), List.forall_mem_cons.mpr ⟨(cl_J0_init_81219_4 _ (List.mem_of_getElem? (i := 19) rfl)), List.forall_mem_cons.mpr ⟨(cl_J0_init_81219_4 _ (List.mem_of_getElem? (i := 20) rfl)), List.forall_mem_cons.mpr ⟨(cl_J0_init_81219_4 _ (List.mem_of_getElem? (i := 21) rfl)), List.forall_mem_cons.mpr ⟨(cl_J0_init_81219_4 _ (List.mem_of_getElem? (i := 22) rfl)), List.forall_mem_cons.mpr ⟨(cl_J0_init_81219_4 _ (List.mem_of_getElem? (i := 23) rfl)), List.forall_mem_cons.mpr ⟨(cl_J0_init_81219_5 _ (List.mem_of_getElem? (i := 0) rfl)), List.forall_mem_cons.mpr ⟨(cl_J0_init_81219_5 _ (List.mem_of_getElem? (i := 1) rfl)), List.forall_mem_cons.mpr ⟨(cl_J0_init_81219_5 _ (List.mem_of_getElem? (i := 2) rfl)), fun _ h => absurd h List.not_mem_nil⟩⟩⟩⟩⟩⟩⟩⟩⟩⟩⟩⟩⟩⟩⟩⟩⟩⟩⟩⟩⟩⟩⟩⟩) w)) w)) w)) w) ((cl_J0_init_81219_6) w)) w) ((cl_J0_init_81219_7) w)⟩) (by decide +kernel)
set_option maxRecDepth 20000 in
theorem gJ0_init_81219_J0_init_db425 : GoodIn wsJ0_init_81219 (wsJ0_init_db425) := ggJ0_init_81219_J0_init_db425
noncomputable def dz_p04d_13 : List (Nat × Instr × Nat) := [(0, (.aload_n 0, 1)), (1, (.aload_n 1, 1)), (2, (.aconst_null, 1)), (3, (.invokespecial 489, 3)), (6, (.return_, 1))]
theorem dy_p04d_13 : dz_ok cJ0_init_81219 dz_p04d_13 = true := by decide +kernel
theorem dJ0_init_81219_0 : decode cJ0_init_81219 0 = .ok (.aload_n 0, 1) := dz_at (i := 0) dy_p04d_13 rfl
theorem dJ0_init_81219_1 : decode cJ0_init_81219 1 = .ok (.aload_n 1, 1) := dz_at (i := 1) dy_p04d_13 rfl
theorem dJ0_init_81219_2 : decode cJ0_init_81219 2 = .ok (.aconst_null, 1) := dz_at (i := 2) dy_p04d_13 rfl
theorem dJ0_init_81219_3 : decode cJ0_init_81219 3 = .ok (.invokespecial 489, 3) := dz_at (i := 3) dy_p04d_13 rfl
theorem dJ0_init_81219_6 : decode cJ0_init_81219 6 = .ok (.return_, 1) := dz_at (i := 4) dy_p04d_13 rfl
set_option maxHeartbeats 4000000 in
set_option maxRecDepth 100000 in
theorem k_J0_init_81219 (l : Launch) (dC : Nat → ClassId) (dI : Nat → Nat → Nat) (cB : ClassId) (hs : Nat) (h : Nat) (v : Nat) (n : Nat) (mm : Nat) (f : Nat → Int32) (sz N : Nat) (hn : n ≤ mm) (hmb : mm ≤ 34) (hf : sb_Fit f) : Met l yJ0_init_81219 wsJ0_init_81219 ({ frames := 4, cells := 1, slots := 34, locals := 170 }) (va_Pc [.ref hs, .ref h] (xT (dC, dI) xCl [(hs, .inr (0, [.null, .int 0, .int 0, .int 0])), (h, eB v (nI n)), (v, eY cB mm f)] [(cB, .byte)] sz N)) (va_Qv (fun (u : Unit) => True) (fun (u : Unit) t => xW (dC, dI) xCl [] (va_A [(hs, .inr (0, [.null, .int 0, .int 0, .int 0])), (h, eB v (nI n)), (v, eY cB mm f)] sz) t) (va_A [(hs, .inr (0, [.null, .int 0, .int 0, .int 0])), (h, eB v (nI n)), (v, eY cB mm f)] sz)) 1 34 (va_A [(hs, .inr (0, [.null, .int 0, .int 0, .int 0])), (h, eB v (nI n)), (v, eY cB mm f)] sz) := by
  refine Met.ofW (cc := cJ0_init_81219) (maxL := 2) (ret := none) (by decide +kernel) rfl ?_
  intro p e s m args below meth c s₁ B hml hv
  obtain ⟨rfl, ⟨hsz, hP, hK, hD0, hN, hG⟩, hT⟩ := hv
  have hx := B.exec
  have hb := B.bytes
  have hr := B.returns
  have hts := atoms_spec (ws := wsJ0_init_81219) B.pre
  have hown : s.vm.findClass RJ0 = some m.cls := findClass_of_methodNamed B.named
  have hlocks := B.notSynchronized
  have hin : meth.name = "<init>" := (name_of_methodNamed B.named B.method).1
  subst hsz
  have hAN : ∀ q, va_A [(hs, .inr (0, [.null, .int 0, .int 0, .int 0])), (h, eB v (nI n)), (v, eY cB mm f)] s.heap.size q → N ≤ q := xA_N hD0 hN
  have hD := hD0.self (sz := s.heap.size)
  generalize hAe : va_A [(hs, .inr (0, [.null, .int 0, .int 0, .int 0])), (h, eB v (nI n)), (v, eY cB mm f)] s.heap.size = A at hD hAN ⊢
  have hA : ∀ q : Nat, s.heap.size ≤ q → A q := fun q h => by rw [← hAe]; exact Or.inr h
  have hS : va_S A s.heap s.heap [] := va_S.rf
  have hP : va_P (dC, dI) xCl [(hs, .inr (0, [.null, .int 0, .int 0, .int 0])), (h, eB v (nI n)), (v, eY cB mm f)] s.heap := hP
  obtain ⟨hTc, ⟨tO, tT, fO, fT, hTo, hTt, hTa, hTb, hTf, hTg⟩, ⟨adK, adV, hTs, hTr0, hTr1, hTr2⟩, ⟨aE, hTe⟩, hTn⟩ := id hT
  have hl := lv_entry ([.ref hs, .ref h]) (n := 2) (Nat.le_of_ble_eq_true rfl)
  rw [lg_entry_eq]
  generalize (lg_sl ([.ref hs, .ref h]) ++ List.replicate (2 - (lg_sl ([.ref hs, .ref h])).length) Slot.unset).toArray = ls at hl ⊢
  have hl : lv_has ls 2 [(0, .ref hs), (1, .ref h)] := hl
  refine lv_aload_n hx hb dJ0_init_81219_0 rfl (lv_at hl 0 rfl) ?_
  refine lv_aload_n hx hb dJ0_init_81219_1 rfl (lv_at hl 1 rfl) ?_
  refine lv_null hx hb dJ0_init_81219_2 ?_
  have hPc := hP.sub (ws' := [(hs, .inr (0, [.null, .int 0, .int 0, .int 0])), (h, eB v (nI n)), (v, eY cB mm f)]) [0, 1, 2] rfl
  have hDc := hD.sub (ws' := [(hs, .inr (0, [.null, .int 0, .int 0, .int 0])), (h, eB v (nI n)), (v, eY cB mm f)]) [0, 1, 2] (by decide +kernel) rfl
  have hKc := hK.sub (tys' := [(cB, .byte)]) [0] rfl
  have hFc := va_free (wc := [(hs, .inr (0, [.null, .int 0, .int 0, .int 0])), (h, eB v (nI n)), (v, eY cB mm f)]) hD hS hA [0, 1, 2] rfl
  refine va_callv (va_runI (As := [.ref h, .null]) (rest := []) ⟨hx, hb, hml, hown, hts⟩ (k_J0_init_db425 l dC dI cB hs h v n mm f s.heap.size N (by omega) (by omega) hf) (cwI 2 hts gJ0_init_81219_J0_init_db425 rfl rfl rfl (hts (.initialized RJ0) (by decide +kernel)) (hts (.methodLink RJ0 489 yJ0_init_db425) (by decide +kernel)) (hts (.instanceMethod yJ0_init_db425) (by decide +kernel)) rfl (by decide +kernel) ⟨Nat.le_of_ble_eq_true rfl, Nat.le_of_ble_eq_true rfl⟩) (xT.preS  (As := .ref hs :: [.ref h, .null]) hKc hPc hDc hAN (Nat.le_trans hN hS.1) (hG.kept hS hAN) (hT.kept hS hAN)) rfl rfl hl.1 rfl (lv_room (Nat.le_of_ble_eq_true rfl)) dJ0_init_81219_3 ⟨(show _ ≤ 1 by omega), (show _ ≤ 34 by omega)⟩) hS (fun q _ h => hFc q h) hFc (fun u_2 t H locs ht hvm hw hB hz hk hS => ?_)
  obtain ⟨hP1, hD1⟩ := hB
  rw [ht] at hP1
  obtain ⟨hP, hD⟩ := va_join (wr := []) (w1 := []) hP hD [0, 1, 2] [] rfl rfl (by decide +kernel) (by decide +kernel) hk hFc hP1 hD1
  have hP : va_P (dC, dI) xCl [] H := hP
  have hD : va_D A [] := hD
  have hP := xP_nil (D := (dC, dI)) (cl := xCl) (H := H)
  have hD := xD_nil (A := A)
  refine W.widen (k := 1) (n := 34) (by omega) (by omega) ?_
  exact W.vret hx hb hr (fun t ht hW => ⟨⟨(), rfl, trivial, by rw [ht]; exact hP, hD⟩, hS.F ht⟩) hS.2.2 dJ0_init_81219_6
theorem cl_J4_toString_0e30d_1 : ∀ w ∈ wsJ4_toString_0e30d_r1, w ∈ wsJ4_toString_0e30d := fun _ h => (List.mem_cons_of_mem _ (List.mem_append_left _ (List.mem_append_left _ (List.mem_append_left _ h))))
theorem cl_J4_toString_0e30d_2 : ∀ w ∈ wsJ4_toString_0e30d_r2, w ∈ wsJ4_toString_0e30d := fun _ h => (List.mem_cons_of_mem _ (List.mem_append_left _ (List.mem_append_left _ (List.mem_append_right _ (List.mem_append_left _ h)))))
theorem cl_J4_toString_0e30d_3 : ∀ w ∈ wsJ4_toString_0e30d_r3, w ∈ wsJ4_toString_0e30d := fun _ h => (List.mem_cons_of_mem _ (List.mem_append_left _ (List.mem_append_left _ (List.mem_append_right _ (List.mem_append_right _ (List.mem_append_left _ h))))))
theorem cl_J4_toString_0e30d_4 : ∀ w ∈ wsJ4_toString_0e30d_r4, w ∈ wsJ4_toString_0e30d := fun _ h => (List.mem_cons_of_mem _ (List.mem_append_left _ (List.mem_append_left _ (List.mem_append_right _ (List.mem_append_right _ (List.mem_append_right _ (List.mem_append_left _ h)))))))
theorem cl_J4_toString_0e30d_5 : ∀ w ∈ wsJ4_toString_0e30d_r5, w ∈ wsJ4_toString_0e30d := fun _ h => (List.mem_cons_of_mem _ (List.mem_append_left _ (List.mem_append_left _ (List.mem_append_right _ (List.mem_append_right _ (List.mem_append_right _ (List.mem_append_right _ h)))))))
theorem cl_J4_toString_0e30d_6 : ∀ w ∈ wsJ00, w ∈ wsJ4_toString_0e30d := fun _ h => (List.mem_cons_of_mem _ (List.mem_append_left _ (List.mem_append_right _ h)))
theorem cl_J4_toString_0e30d_7 : ∀ w ∈ wsJ40, w ∈ wsJ4_toString_0e30d := fun _ h => (List.mem_cons_of_mem _ (List.mem_append_right _ h))
set_option maxRecDepth 20000 in
theorem ggJ4_toString_0e30d_J0_init_81219 : GoodIn wsJ4_toString_0e30d wsJ0_init_81219 := goodIn_sub (List.forall_mem_cons.mpr ⟨(cl_J4_toString_0e30d_1 _ (List.mem_of_getElem? (i := 5) rfl)), fun w h => (List.mem_append.mp h).elim ((fun w h => (List.mem_append.mp h).elim ((fun w h => (List.mem_append.mp h).elim ((List.forall_mem_cons.mpr ⟨(cl_J4_toString_0e30d_1 _ (List.mem_of_getElem? (i := 6) rfl)), List.forall_mem_cons.mpr ⟨(cl_J4_toString_0e30d_1 _ (List.mem_of_getElem? (i := 7) rfl)), List.forall_mem_cons.mpr ⟨(cl_J4_toString_0e30d_1 _ (List.mem_of_getElem? (i := 2) rfl)), List.forall_mem_cons.mpr ⟨(cl_J4_toString_0e30d_1 _ (List.mem_of_getElem? (i := 8) rfl)), List.forall_mem_cons.mpr ⟨(cl_J4_toString_0e30d_1 _ (List.mem_of_getElem? (i := 9) rfl)), List.forall_mem_cons.mpr ⟨(cl_J4_toString_0e30d_1 _ (List.mem_of_getElem? (i := 10) rfl)), List.forall_mem_cons.mpr ⟨(cl_J4_toString_0e30d_1 _ (List.mem_of_getElem? (i := 11) rfl)), List.forall_mem_cons.mpr ⟨(cl_J4_toString_0e30d_1 _ (List.mem_of_getElem? (i := 12) rfl)), List.forall_mem_cons.mpr ⟨(cl_J4_toString_0e30d_1 _ (List.mem_of_getElem? (i := 13) rfl)), List.forall_mem_cons.mpr ⟨(cl_J4_toString_0e30d_1 _ (List.mem_of_getElem? (i := 14) rfl)), List.forall_mem_cons.mpr ⟨(cl_J4_toString_0e30d_1 _ (List.mem_of_getElem? (i := 15) rfl)), List.forall_mem_cons.mpr ⟨(cl_J4_toString_0e30d_1 _ (List.mem_of_getElem? (i := 16) rfl)), List.forall_mem_cons.mpr ⟨(cl_J4_toString_0e30d_1 _ (List.mem_of_getElem? (i := 17) rfl)), List.forall_mem_cons.mpr ⟨(cl_J4_toString_0e30d_1 _ (List.mem_of_getElem? (i := 18) rfl)), List.forall_mem_cons.mpr ⟨(cl_J4_toString_0e30d_1 _ (List.mem_of_getElem? (i := 19) rfl)), List.forall_mem_cons.mpr ⟨(cl_J4_toString_0e30d_1 _ (List.mem_of_getElem? (i := 20) rfl)), List.forall_mem_cons.mpr ⟨(cl_J4_toString_0e30d_1 _ (List.mem_of_getElem? (i := 21) rfl)), List.forall_mem_cons.mpr ⟨(cl_J4_toString_0e30d_1 _ (List.mem_of_getElem? (i := 22) rfl)), List.forall_mem_cons.mpr ⟨(cl_J4_toString_0e30d_1 _ (List.mem_of_getElem? (i := 23) rfl)), List.forall_mem_cons.mpr ⟨(cl_J4_toString_0e30d_2 _ (List.mem_of_getElem? (i := 0) rfl)), List.forall_mem_cons.mpr ⟨(cl_J4_toString_0e30d_2 _ (List.mem_of_getElem? (i := 1) rfl)), List.forall_mem_cons.mpr ⟨(cl_J4_toString_0e30d_2 _ (List.mem_of_getElem? (i := 2) rfl)), List.forall_mem_cons.mpr ⟨(cl_J4_toString_0e30d_2 _ (List.mem_of_getElem? (i := 3) rfl)), List.forall_mem_cons.mpr ⟨(cl_J4_toString_0e30d_2 _ (List.mem_of_getElem? (i := 4) rfl)), fun _ h => absurd h List.not_mem_nil⟩⟩⟩⟩⟩⟩⟩⟩⟩⟩⟩⟩⟩⟩⟩⟩⟩⟩⟩⟩⟩⟩⟩⟩) w) ((fun w h => (List.mem_append.mp h).elim ((List.forall_mem_cons.mpr ⟨(cl_J4_toString_0e30d_2 _ (List.mem_of_getElem? (i := 5) rfl)), List.forall_mem_cons.mpr ⟨(cl_J4_toString_0e30d_2 _ (List.mem_of_getElem? (i := 6) rfl)), List.forall_mem_cons.mpr ⟨(cl_J4_toString_0e30d_2 _ (List.mem_of_getElem? (i := 7) rfl)), List.forall_mem_cons.mpr ⟨(cl_J4_toString_0e30d_2 _ (List.mem_of_getElem? (i := 1) rfl)), List.forall_mem_cons.mpr ⟨(cl_J4_toString_0e30d_2 _ (List.mem_of_getElem? (i := 9) rfl)), List.forall_mem_cons.mpr ⟨(cl_J4_toString_0e30d_2 _ (List.mem_of_getElem? (i := 10) rfl)), List.forall_mem_cons.mpr ⟨(cl_J4_toString_0e30d_2 _ (List.mem_of_getElem? (i := 11) rfl)), List.forall_mem_cons.mpr ⟨(cl_J4_toString_0e30d_2 _ (List.mem_of_getElem? (i := 12) rfl)), List.forall_mem_cons.mpr ⟨(cl_J4_toString_0e30d_2 _ (List.mem_of_getElem? (i := 13) rfl)), List.forall_mem_cons.mpr ⟨(cl_J4_toString_0e30d_2 _ (List.mem_of_getElem? (i := 14) rfl)), List.forall_mem_cons.mpr ⟨(cl_J4_toString_0e30d_2 _ (List.mem_of_getElem? (i := 15) rfl)), List.forall_mem_cons.mpr ⟨(cl_J4_toString_0e30d_2 _ (List.mem_of_getElem? (i := 16) rfl)), List.forall_mem_cons.mpr ⟨(cl_J4_toString_0e30d_2 _ (List.mem_of_getElem? (i := 17) rfl)), List.forall_mem_cons.mpr ⟨(cl_J4_toString_0e30d_2 _ (List.mem_of_getElem? (i := 18) rfl)), List.forall_mem_cons.mpr ⟨(cl_J4_toString_0e30d_2 _ (List.mem_of_getElem? (i := 19) rfl)), List.forall_mem_cons.mpr ⟨(cl_J4_toString_0e30d_2 _ (List.mem_of_getElem? (i := 20) rfl)), List.forall_mem_cons.mpr ⟨(cl_J4_toString_0e30d_2 _ (List.mem_of_getElem? (i := 21) rfl)), List.forall_mem_cons.mpr ⟨(cl_J4_toString_0e30d_2 _ (List.mem_of_getElem? (i := 22) rfl)), List.forall_mem_cons.mpr ⟨(cl_J4_toString_0e30d_2 _ (List.mem_of_getElem? (i := 23) rfl)), List.forall_mem_cons.mpr ⟨(cl_J4_toString_0e30d_3 _ (List.mem_of_getElem? (i := 0) rfl)), List.forall_mem_cons.mpr ⟨(cl_J4_toString_0e30d_3 _ (List.mem_of_getElem? (i := 1) rfl)), List.forall_mem_cons.mpr ⟨(cl_J4_toString_0e30d_3 _ (List.mem_of_getElem? (i := 2) rfl)), List.forall_mem_cons.mpr ⟨(cl_J4_toString_0e30d_3 _ (List.mem_of_getElem? (i := 3) rfl)), List.forall_mem_cons.mpr ⟨(cl_J4_toString_0e30d_3 _ (List.mem_of_getElem? (i := 4) rfl)), fun _ h => absurd h List.not_mem_nil⟩⟩⟩⟩⟩⟩⟩⟩⟩⟩⟩⟩⟩⟩⟩⟩⟩⟩⟩⟩⟩⟩⟩⟩) w) ((fun w h => (List.mem_append.mp h).elim ((List.forall_mem_cons.mpr ⟨(cl_J4_toString_0e30d_3 _ (List.mem_of_getElem? (i := 5) rfl)), List.forall_mem_cons.mpr ⟨(cl_J4_toString_0e30d_3 _ (List.mem_of_getElem? (i := 6) rfl)), List.forall_mem_cons.mpr ⟨(cl_J4_toString_0e30d_3 _ (List.mem_of_getElem? (i := 7) rfl)), List.forall_mem_cons.mpr ⟨(cl_J4_toString_0e30d_3 _ (List.mem_of_getElem? (i := 8) rfl)), List.forall_mem_cons.mpr ⟨(cl_J4_toString_0e30d_3 _ (List.mem_of_getElem? (i := 9) rfl)), List.forall_mem_cons.mpr ⟨(cl_J4_toString_0e30d_3 _ (List.mem_of_getElem? (i := 10) rfl)), List.forall_mem_cons.mpr ⟨(cl_J4_toString_0e30d_3 _ (List.mem_of_getElem? (i := 11) rfl)), List.forall_mem_cons.mpr ⟨(cl_J4_toString_0e30d_3 _ (List.mem_of_getElem? (i := 12) rfl)), List.forall_mem_cons.mpr ⟨(cl_J4_toString_0e30d_3 _ (List.mem_of_getElem? (i := 13) rfl)), List.forall_mem_cons.mpr ⟨(cl_J4_toString_0e30d_3 _ (List.mem_of_getElem? (i := 14) rfl)), List.forall_mem_cons.mpr ⟨(cl_J4_toString_0e30d_3 _ (List.mem_of_getElem? (i := 15) rfl)), List.forall_mem_cons.mpr ⟨(cl_J4_toString_0e30d_3 _ (List.mem_of_getElem? (i := 16) rfl)), List.forall_mem_cons.mpr ⟨(cl_J4_toString_0e30d_3 _ (List.mem_of_getElem? (i := 17) rfl)), List.forall_mem_cons.mpr ⟨(cl_J4_toString_0e30d_3 _ (List.mem_of_getElem? (i := 18) rfl)), List.forall_mem_cons.mpr ⟨(cl_J4_toString_0e30d_3 _ (List.mem_of_getElem? (i := 19) rfl)), List.forall_mem_cons.mpr ⟨(cl_J4_toString_0e30d_3 _ (List.mem_of_getElem? (i := 20) rfl)), List.forall_mem_cons.mpr ⟨(cl_J4_toString_0e30d_3 _ (List.mem_of_getElem? (i := 21) rfl)), List.forall_mem_cons.mpr ⟨(cl_J4_toString_0e30d_3 _ (List.mem_of_getElem? (i := 22) rfl)), List.forall_mem_cons.mpr ⟨(cl_J4_toString_0e30d_3 _ (List.mem_of_getElem? (i := 23) rfl)), List.forall_mem_cons.mpr ⟨(cl_J4_toString_0e30d_4 _ (List.mem_of_getElem? (i := 0) rfl)), List.forall_mem_cons.mpr ⟨(cl_J4_toString_0e30d_4 _ (List.mem_of_getElem? (i := 1) rfl)), List.forall_mem_cons.mpr ⟨(cl_J4_toString_0e30d_4 _ (List.mem_of_getElem? (i := 2) rfl)), List.forall_mem_cons.mpr ⟨(cl_J4_toString_0e30d_4 _ (List.mem_of_getElem? (i := 3) rfl)), List.forall_mem_cons.mpr ⟨(cl_J4_toString_0e30d_4 _ (List.mem_of_getElem? (i := 4) rfl)), fun _ h => absurd h List.not_mem_nil⟩⟩⟩⟩⟩⟩⟩⟩⟩⟩⟩⟩⟩⟩⟩⟩⟩⟩⟩⟩⟩⟩⟩⟩) w) ((fun w h => (List.mem_append.mp h).elim ((List.forall_mem_cons.mpr ⟨(cl_J4_toString_0e30d_4 _ (List.mem_of_getElem? (i := 5) rfl)), List.forall_mem_cons.mpr ⟨(cl_J4_toString_0e30d_4 _ (List.mem_of_getElem? (i := 6) rfl)), List.forall_mem_cons.mpr ⟨(cl_J4_toString_0e30d_4 _ (List.mem_of_getElem? (i := 7) rfl)), List.forall_mem_cons.mpr ⟨(cl_J4_toString_0e30d_4 _ (List.mem_of_getElem? (i := 8) rfl)), List.forall_mem_cons.mpr ⟨(cl_J4_toString_0e30d_4 _ (List.mem_of_getElem? (i := 9) rfl)), List.forall_mem_cons.mpr ⟨(cl_J4_toString_0e30d_4 _ (List.mem_of_getElem? (i := 10) rfl)), List.forall_mem_cons.mpr ⟨(cl_J4_toString_0e30d_4 _ (List.mem_of_getElem? (i := 11) rfl)), List.forall_mem_cons.mpr ⟨(cl_J4_toString_0e30d_4 _ (List.mem_of_getElem? (i := 12) rfl)), List.forall_mem_cons.mpr ⟨(cl_J4_toString_0e30d_4 _ (List.mem_of_getElem? (i := 13) rfl)), List.forall_mem_cons.mpr ⟨(cl_J4_toString_0e30d_4 _ (List.mem_of_getElem? (i := 14) rfl)), List.forall_mem_cons.mpr ⟨(cl_J4_toString_0e30d_4 _ (List.mem_of_getElem? (i := 15) rfl)), List.forall_mem_cons.mpr ⟨(cl_J4_toString_0e30d_4 _ (List.mem_of_getElem? (i := 16) rfl)), List.forall_mem_cons.mpr ⟨(cl_J4_toString_0e30d_4 _ (List.mem_of_getElem? (i := 17) rfl)), List.forall_mem_cons.mpr ⟨(cl_J4_toString_0e30d_4 _ (List.mem_of_getElem? (i := 18) rfl)), List.forall_mem_cons.mpr ⟨(cl_J4_toString_0e30d_4 _ (List.mem_of_getElem? (i := 19) rfl)), List.forall_mem_cons.mpr ⟨(cl_J4_toString_0e30d_4 _ (List.mem_of_getElem? (i := 20) rfl)), List.forall_mem_cons.mpr ⟨(cl_J4_toString_0e30d_4 _ (List.mem_of_getElem? (i := 21) rfl)), List.forall_mem_cons.mpr ⟨(cl_J4_toString_0e30d_4 _ (List.mem_of_getElem? (i := 22) rfl)), List.forall_mem_cons.mpr ⟨(cl_J4_toString_0e30d_4 _ (List.mem_of_getElem? (i := 23) rfl)), List.forall_mem_cons.mpr ⟨(cl_J4_toString_0e30d_5 _ (List.mem_of_getElem? (i := 0) rfl)), List.forall_mem_cons.mpr ⟨(cl_J4_toString_0e30d_5 _ (List.mem_of_getElem? (i := 1) rfl)), List.forall_mem_cons.mpr ⟨(cl_J4_toString_0e30d_5 _ (List.mem_of_getElem? (i := 2) rfl)), List.forall_mem_cons.mpr ⟨(cl_J4_toString_0e30d_5 _ (List.mem_of_getElem? (i := 3) rfl)), List.forall_mem_cons.mpr ⟨(cl_J4_toString_0e30d_5 _ (List.mem_of_getElem? (i := 4) rfl)), fun _ h => absurd h List.not_mem_nil⟩⟩⟩⟩⟩⟩⟩⟩⟩⟩⟩⟩⟩⟩⟩⟩⟩⟩⟩⟩⟩⟩⟩⟩) w) ((List.forall_mem_cons.mpr ⟨(cl_J4_toString_0e30d_5 _ (List.mem_of_getElem? (i := 5) rfl)), List.forall_mem_cons.mpr ⟨(cl_J4_toString_0e30d_5 _ (List.mem_of_getElem? (i := 6) rfl)), List.forall_mem_cons.mpr ⟨(cl_J4_toString_0e30d_5 _ (List.mem_of_getElem? (i := 7) rfl)), fun _ h => absurd h List.not_mem_nil⟩⟩⟩) w)) w)) w)) w)) w) ((cl_J4_toString_0e30d_6) w)) w) ((cl_J4_toString_0e30d_7) w)⟩) (by decide +kernel)
set_option maxRecDepth 20000 in
theorem gJ4_toString_0e30d_J0_init_81219 : GoodIn wsJ4_toString_0e30d (wsJ0_init_81219) := ggJ4_toString_0e30d_J0_init_81219
noncomputable def dz_p04d_14 : List (Nat × Instr × Nat) := [(0, (.new 18, 3)), (3, (.dup, 1)), (4, (.aload_n 0, 1)), (5, (.invokespecial 137, 3)), (8, (.areturn, 1))]
theorem dy_p04d_14 : dz_ok cJ4_toString_0e30d dz_p04d_14 = true := by decide +kernel
theorem dJ4_toString_0e30d_0 : decode cJ4_toString_0e30d 0 = .ok (.new 18, 3) := dz_at (i := 0) dy_p04d_14 rfl
theorem dJ4_toString_0e30d_3 : decode cJ4_toString_0e30d 3 = .ok (.dup, 1) := dz_at (i := 1) dy_p04d_14 rfl
theorem dJ4_toString_0e30d_4 : decode cJ4_toString_0e30d 4 = .ok (.aload_n 0, 1) := dz_at (i := 2) dy_p04d_14 rfl
theorem dJ4_toString_0e30d_5 : decode cJ4_toString_0e30d 5 = .ok (.invokespecial 137, 3) := dz_at (i := 3) dy_p04d_14 rfl
theorem dJ4_toString_0e30d_8 : decode cJ4_toString_0e30d 8 = .ok (.areturn, 1) := dz_at (i := 4) dy_p04d_14 rfl
set_option maxHeartbeats 4000000 in
set_option maxRecDepth 100000 in
theorem k_J4_toString_0e30d (l : Launch) (dC : Nat → ClassId) (dI : Nat → Nat → Nat) (cB : ClassId) (h : Nat) (v : Nat) (n : Nat) (mm : Nat) (f : Nat → Int32) (sz N : Nat) (hn : n ≤ mm) (hmb : mm ≤ 34) (hf : sb_Fit f) : Met l yJ4_toString_0e30d wsJ4_toString_0e30d ({ frames := 5, cells := 2, slots := 38, locals := 191 }) (va_Pc [.ref h] (xT (dC, dI) xCl [(h, eB v (nI n)), (v, eY cB mm f)] [(cB, .byte)] sz N)) (va_Qr (fun (u : Unit) => True) (fun (u : Unit) a t => xW (dC, dI) xCl [] (va_A [(h, eB v (nI n)), (v, eY cB mm f)] sz) t) (va_A [(h, eB v (nI n)), (v, eY cB mm f)] sz)) 2 38 (va_A [(h, eB v (nI n)), (v, eY cB mm f)] sz) := by
  refine Met.ofW (cc := cJ4_toString_0e30d) (maxL := 1) (ret := (some (.object "java/lang/String"))) (by decide +kernel) rfl ?_
  intro p e s m args below meth c s₁ B hml hv
  obtain ⟨rfl, ⟨hsz, hP, hK, hD0, hN, hG⟩, hT⟩ := hv
  have hx := B.exec
  have hb := B.bytes
  have hr := B.returns
  have hts := atoms_spec (ws := wsJ4_toString_0e30d) B.pre
  have hown : s.vm.findClass RJ4 = some m.cls := findClass_of_methodNamed B.named
  have hlocks := B.notSynchronized
  subst hsz
  have hAN : ∀ q, va_A [(h, eB v (nI n)), (v, eY cB mm f)] s.heap.size q → N ≤ q := xA_N hD0 hN
  have hD := hD0.self (sz := s.heap.size)
  generalize hAe : va_A [(h, eB v (nI n)), (v, eY cB mm f)] s.heap.size = A at hD hAN ⊢
  have hA : ∀ q : Nat, s.heap.size ≤ q → A q := fun q h => by rw [← hAe]; exact Or.inr h
  have hS : va_S A s.heap s.heap [] := va_S.rf
  have hP : va_P (dC, dI) xCl [(h, eB v (nI n)), (v, eY cB mm f)] s.heap := hP
  obtain ⟨hTc, ⟨tO, tT, fO, fT, hTo, hTt, hTa, hTb, hTf, hTg⟩, ⟨adK, adV, hTs, hTr0, hTr1, hTr2⟩, ⟨aE, hTe⟩, hTn⟩ := id hT
  have hl := lv_entry ([.ref h]) (n := 1) (Nat.le_of_ble_eq_true rfl)
  rw [lg_entry_eq]
  generalize (lg_sl ([.ref h]) ++ List.replicate (1 - (lg_sl ([.ref h])).length) Slot.unset).toArray = ls at hl ⊢
  have hl : lv_has ls 1 [(0, .ref h)] := hl
  refine va_new (ci := 0) (fs := [.null, .int 0, .int 0, .int 0]) (C := RJ0) (T := TJ0) (N := 4) hx hb hts (by decide +kernel) tyJ0 tyJ0_ok hown (hts (.classLink RJ4 18 RJ0) (by decide +kernel)) (hts (.instantiable RJ0 4) (by decide +kernel)) (hts (.initialized RJ0) (by decide +kernel)) hK hP hD hS hA rfl (fun j hj => by rcases (show j = 0 ∨ j = 1 ∨ j = 2 ∨ j = 3 by omega) with rfl | rfl | rfl | rfl <;> rfl) (show _ ≤ 2 by omega) (show _ ≤ 38 by omega) dJ4_toString_0e30d_0 (fun q0 H hP hD hS => ?_)
  have hP : va_P (dC, dI) xCl [(h, eB v (nI n)), (v, eY cB mm f), (q0, .inr (0, [.null, .int 0, .int 0, .int 0]))] H := hP
  have hD : va_D A [(h, eB v (nI n)), (v, eY cB mm f), (q0, .inr (0, [.null, .int 0, .int 0, .int 0]))] := hD
  refine lv_dup hx hb dJ4_toString_0e30d_3 rfl ?_
  refine lv_aload_n hx hb dJ4_toString_0e30d_4 rfl (lv_at hl 0 rfl) ?_
  have hPc := hP.sub (ws' := [(q0, .inr (0, [.null, .int 0, .int 0, .int 0])), (h, eB v (nI n)), (v, eY cB mm f)]) [2, 0, 1] rfl
  have hDc := hD.sub (ws' := [(q0, .inr (0, [.null, .int 0, .int 0, .int 0])), (h, eB v (nI n)), (v, eY cB mm f)]) [2, 0, 1] (by decide +kernel) rfl
  have hKc := hK.sub (tys' := [(cB, .byte)]) [0] rfl
  have hFc := va_free (wc := [(q0, .inr (0, [.null, .int 0, .int 0, .int 0])), (h, eB v (nI n)), (v, eY cB mm f)]) hD hS hA [2, 0, 1] rfl
  refine va_callv (va_runI (As := [.ref h]) (rest := [.ref q0]) ⟨hx, hb, hml, hown, hts⟩ (k_J0_init_81219 l dC dI cB q0 h v n mm f H.size N (by omega) (by omega) hf) (cwI 1 hts gJ4_toString_0e30d_J0_init_81219 rfl rfl rfl (hts (.initialized RJ0) (by decide +kernel)) (hts (.methodLink RJ4 137 yJ0_init_81219) (by decide +kernel)) (hts (.instanceMethod yJ0_init_81219) (by decide +kernel)) rfl (by decide +kernel) ⟨Nat.le_of_ble_eq_true rfl, Nat.le_of_ble_eq_true rfl⟩) (xT.preS  (As := .ref q0 :: [.ref h]) hKc hPc hDc hAN (Nat.le_trans hN hS.1) (hG.kept hS hAN) (hT.kept hS hAN)) rfl rfl hl.1 rfl (lv_room (Nat.le_of_ble_eq_true rfl)) dJ4_toString_0e30d_5 ⟨(show _ ≤ 2 by omega), (show _ ≤ 38 by omega)⟩) hS (fun q _ h => hFc q h) hFc (fun u_2 t H locs ht hvm hw hB hz hk hS => ?_)
  obtain ⟨hP1, hD1⟩ := hB
  rw [ht] at hP1
  obtain ⟨hP, hD⟩ := va_join (wr := []) (w1 := []) hP hD [2, 0, 1] [] rfl rfl (by decide +kernel) (by decide +kernel) hk hFc hP1 hD1
  have hP : va_P (dC, dI) xCl [] H := hP
  have hD : va_D A [] := hD
  have hP := xP_nil (D := (dC, dI)) (cl := xCl) (H := H)
  have hD := xD_nil (A := A)
  refine W.widen (k := 2) (n := 38) (by omega) (by omega) ?_
  exact W.aret (v := .ref q0) hx hb hr (Or.inl ⟨_, rfl⟩) (Or.inr ⟨_, rfl⟩) (fun t ht hW => ⟨⟨(), _, rfl, trivial, ⟨by rw [ht]; exact hP, hD⟩⟩, hS.F ht⟩) hS.2.2 dJ4_toString_0e30d_8
