/-! the JDK's text methods, of Latin-1 texts of at most 34 letters: each returns, what it makes is bounded -/
noncomputable abbrev eB (v : Nat) (n : Int32) : va_E := .inr (1, [.ref v, .int 0, .int 0, .int n])
noncomputable abbrev eY (cB : ClassId) (m : Nat) (f : Nat → Int32) : va_E := .inl (cB, m, .inl f)
theorem sb_nar (x : Int32) : fits .byte (.int (vp_nar .byte x)) = true := by rw [vp_nar_byte]; exact pk_fb _
theorem sb_fitCell {cA : ClassId} {n : Nat} {f : Nat → Int32} (h : sb_Fit f) : ∀ (i : Nat) (v : Value), (vp_cell cA (n, .inl f)).slots[i]? = some v → fits .byte v = true := by
  intro i v hv
  rw [vp_cell_i] at hv
  by_cases z : i < n
  · rw [arrV_read _ _ z] at hv
    cases hv
    exact h i
  · have h1 := (Array.getElem?_eq_some_iff.mp hv).1
    rw [arrV_size] at h1
    exact absurd h1 z
theorem jl_max {g : Nat} (h : g ≤ 18) : (if (nI g) < 18 then 18 else (nI g)) = 18 := by
  by_cases z : nI g < 18
  · rw [if_pos z]
  · rw [if_neg z]
    have h2 : ¬ g < 18 := fun q => z (show nI g < nI 18 from nI_lt q (by decide +kernel))
    rw [show g = 18 by omega]; rfl
theorem jl_min {n m : Nat} (h : n ≤ m) (hm : m < 2 ^ 31) : (if (nI n) < (nI m) then (nI n) else (nI m)) = nI n := by
  by_cases z : nI n < nI m
  · rw [if_pos z]
  · rw [if_neg z]
    have h2 : ¬ n < m := fun q => z (nI_lt q hm)
    rw [show n = m by omega]
theorem jl_sub0 (x : Int32) : x - 0 = x := by simp
theorem jl_le {q m : Nat} (hq : q ≤ 4096) (hm : m ≤ 4096) : ((nI q) - (nI m) ≤ 0) ↔ q ≤ m := by
  have e1 : (nI q - nI m).toInt = (q : Int) - m := pk_sub_toInt (by omega) (by omega)
  rw [Int32.le_iff_toInt_le]
  rw [e1, Int32.toInt_zero]
  omega
/-- a String constant: its address, its bytes' address, how many, which -/
noncomputable def xS (D : va_G) (cl : List vw_C) (ws : va_W) (tys : List (ClassId × FieldType)) (a y w : Nat) (b : List Int32) (sz N : Nat) (U : State) : Prop := xT D cl ws tys sz N U ∧ vk_S 1 [w] [b] (fun _ => a) (fun _ => y) (aN N) U U.heap
theorem xS.blind {D : va_G} {cl : List vw_C} {ws : va_W} {tys : List (ClassId × FieldType)} {a y w : Nat} {b : List Int32} {sz N : Nat} {av : List Value} : FrameBlind (va_Pc av (xS D cl ws tys a y w b sz N)) := by
  intro a U g mk q
  obtain ⟨q0, q1, q2⟩ := q
  have h := xT.blind a U g mk (show va_Pc av (xT D cl ws tys sz N) a U from ⟨q0, q1⟩)
  exact ⟨h.1, h.2, vk_S.moved (u := U) (U := U.calling g mk a) (Vm.Alike.refl U.vm) q2⟩
theorem xS.preV {D : va_G} {cl : List vw_C} {ws : va_W} {tys : List (ClassId × FieldType)} {s : State} {H : Heap} {A : Nat → Prop} {r q0 ci N n a y w : Nat} {b : List Int32} {C : String} {T : u_T} {fs As : List Value} (hK : va_K D cl tys s) (hP : va_P D cl ws H) (hD : va_D A ws) (hAN : ∀ q, A q → N ≤ q) (hN : N ≤ H.size) (hG : gG N s H) (hT : gT N s H) (hSs : vk_S 1 [w] [b] (fun _ => a) (fun _ => y) (aN N) s H) (hc : cl[ci]? = some (C, T, n)) (he : ws[q0]? = some (r, .inr (ci, fs))) : PreV s H C r (va_Pc (Value.ref r :: As) (xS D cl ws tys a y w b H.size N)) As :=
  ⟨xS.blind, va_recv hK hP hc he, fun U hU hW => ⟨rfl, ((xT.preV (As := As) hK hP hD hAN hN hG hT hc he).2.2 U hU hW).2, by rw [hU]; exact vk_S.moved hW.alike hSs⟩⟩
theorem xS.preVS {D : va_G} {cl : List vw_C} {ws : va_W} {tys : List (ClassId × FieldType)} {s : State} {H : Heap} {A : Nat → Prop} {r N a y w : Nat} {b : List Int32} {C : String} {As : List Value} (hK : va_K D cl tys s) (hP : va_P D cl ws H) (hD : va_D A ws) (hAN : ∀ q, A q → N ≤ q) (hN : N ≤ H.size) (hG : gG N s H) (hT : gT N s H) (hSs : vk_S 1 [w] [b] (fun _ => a) (fun _ => y) (aN N) s H) (hr : ∃ cell : Cell, H[r]? = some cell ∧ cell.vm.isStatics = false ∧ s.vm.findClass C = some cell.cls) : PreV s H C r (va_Pc (Value.ref r :: As) (xS D cl ws tys a y w b H.size N)) As :=
  ⟨xS.blind, hr, fun U hU hW => ⟨rfl, ((xT.preS (As := Value.ref r :: As) hK hP hD hAN hN hG hT).2 U hU hW).2, by rw [hU]; exact vk_S.moved hW.alike hSs⟩⟩

theorem cl_J5_init_d00df_1 : ∀ w ∈ [.methodLink RJ5 3 objectInit, .instanceMethod objectInit, .code objectInit ⟨#[0xb1]⟩ 1 none, .fieldLink RJ5 18 "java/lang/String" "COMPACT_STRINGS" "Z", .arrayClass .byte, .fieldLink RJ5 15 "java/lang/AbstractStringBuilder" "value" "[B", .fieldLink RJ5 22 "java/lang/AbstractStringBuilder" "coder" "B", .methodLink RJ5 26 yJ2_newBytesFor_77867, .static yJ2_newBytesFor_77867, .initialized RJ2, .code yJ2_newBytesFor_77867 cJ2_newBytesFor_77867 1 (some (.array .byte)), .methodLink RJ2 11 yJ2_newBytesLength_0f7a4, .static yJ2_newBytesLength_0f7a4, .code yJ2_newBytesLength_0f7a4 cJ2_newBytesLength_0f7a4 1 (some .int), .constant RJ2 20 (1073741823)], w ∈ wsJ5_init_d00df := fun _ h => (List.mem_cons_of_mem _ (List.mem_append_left _ h))
theorem cl_J5_init_d00df_2 : ∀ w ∈ wsJ40, w ∈ wsJ5_init_d00df := fun _ h => (List.mem_cons_of_mem _ (List.mem_append_right _ h))
set_option maxRecDepth 20000 in
theorem ggJ5_init_d00df_J2_newBytesFor_77867 : GoodIn wsJ5_init_d00df wsJ2_newBytesFor_77867 := goodIn_sub (List.forall_mem_cons.mpr ⟨(cl_J5_init_d00df_1 _ (List.mem_of_getElem? (i := 10) rfl)), List.forall_mem_cons.mpr ⟨(cl_J5_init_d00df_1 _ (List.mem_of_getElem? (i := 4) rfl)), List.forall_mem_cons.mpr ⟨(cl_J5_init_d00df_1 _ (List.mem_of_getElem? (i := 11) rfl)), List.forall_mem_cons.mpr ⟨(cl_J5_init_d00df_1 _ (List.mem_of_getElem? (i := 12) rfl)), List.forall_mem_cons.mpr ⟨(cl_J5_init_d00df_1 _ (List.mem_of_getElem? (i := 9) rfl)), List.forall_mem_cons.mpr ⟨(cl_J5_init_d00df_1 _ (List.mem_of_getElem? (i := 13) rfl)), List.forall_mem_cons.mpr ⟨(cl_J5_init_d00df_1 _ (List.mem_of_getElem? (i := 14) rfl)), fun _ h => absurd h List.not_mem_nil⟩⟩⟩⟩⟩⟩⟩) (by decide +kernel)
set_option maxRecDepth 20000 in
theorem gJ5_init_d00df_J2_newBytesFor_77867 : GoodIn wsJ5_init_d00df (va_wsS RJ5 26 yJ2_newBytesFor_77867 wsJ2_newBytesFor_77867) := goodIn_app (goodIn_sub (List.forall_mem_cons.mpr ⟨(cl_J5_init_d00df_1 _ (List.mem_of_getElem? (i := 7) rfl)), List.forall_mem_cons.mpr ⟨(cl_J5_init_d00df_1 _ (List.mem_of_getElem? (i := 8) rfl)), List.forall_mem_cons.mpr ⟨(cl_J5_init_d00df_1 _ (List.mem_of_getElem? (i := 9) rfl)), fun _ h => absurd h List.not_mem_nil⟩⟩⟩) (by decide +kernel)) ggJ5_init_d00df_J2_newBytesFor_77867
noncomputable def dz_p04b_1 : List (Nat × Instr × Nat) := [(0, (.aload_n 0, 1)), (1, (.invokespecial 3, 3)), (4, (.getstatic 18, 3)), (7, (.ifCond .eq 18, 3)), (10, (.aload_n 0, 1)), (11, (.iload_n 1, 1)), (12, (.newarray .byte, 2)), (14, (.putfield 15, 3)), (17, (.aload_n 0, 1)), (18, (.iconst 0, 1)), (19, (.putfield 22, 3)), (22, (.goto 16, 3)), (25, (.aload_n 0, 1)), (26, (.iload_n 1, 1)), (27, (.invokestatic 26, 3)), (30, (.putfield 15, 3)), (33, (.aload_n 0, 1)), (34, (.iconst 1, 1)), (35, (.putfield 22, 3)), (38, (.return_, 1))]
theorem dy_p04b_1 : dz_ok cJ5_init_d00df dz_p04b_1 = true := by decide +kernel
theorem dJ5_init_d00df_0 : decode cJ5_init_d00df 0 = .ok (.aload_n 0, 1) := dz_at (i := 0) dy_p04b_1 rfl
theorem dJ5_init_d00df_1 : decode cJ5_init_d00df 1 = .ok (.invokespecial 3, 3) := dz_at (i := 1) dy_p04b_1 rfl
theorem dJ5_init_d00df_4 : decode cJ5_init_d00df 4 = .ok (.getstatic 18, 3) := dz_at (i := 2) dy_p04b_1 rfl
theorem dJ5_init_d00df_7 : decode cJ5_init_d00df 7 = .ok (.ifCond .eq 18, 3) := dz_at (i := 3) dy_p04b_1 rfl
theorem dJ5_init_d00df_10 : decode cJ5_init_d00df 10 = .ok (.aload_n 0, 1) := dz_at (i := 4) dy_p04b_1 rfl
theorem dJ5_init_d00df_11 : decode cJ5_init_d00df 11 = .ok (.iload_n 1, 1) := dz_at (i := 5) dy_p04b_1 rfl
theorem dJ5_init_d00df_12 : decode cJ5_init_d00df 12 = .ok (.newarray .byte, 2) := dz_at (i := 6) dy_p04b_1 rfl
theorem dJ5_init_d00df_14 : decode cJ5_init_d00df 14 = .ok (.putfield 15, 3) := dz_at (i := 7) dy_p04b_1 rfl
theorem dJ5_init_d00df_17 : decode cJ5_init_d00df 17 = .ok (.aload_n 0, 1) := dz_at (i := 8) dy_p04b_1 rfl
theorem dJ5_init_d00df_18 : decode cJ5_init_d00df 18 = .ok (.iconst 0, 1) := dz_at (i := 9) dy_p04b_1 rfl
theorem dJ5_init_d00df_19 : decode cJ5_init_d00df 19 = .ok (.putfield 22, 3) := dz_at (i := 10) dy_p04b_1 rfl
theorem dJ5_init_d00df_22 : decode cJ5_init_d00df 22 = .ok (.goto 16, 3) := dz_at (i := 11) dy_p04b_1 rfl
theorem dJ5_init_d00df_25 : decode cJ5_init_d00df 25 = .ok (.aload_n 0, 1) := dz_at (i := 12) dy_p04b_1 rfl
theorem dJ5_init_d00df_26 : decode cJ5_init_d00df 26 = .ok (.iload_n 1, 1) := dz_at (i := 13) dy_p04b_1 rfl
theorem dJ5_init_d00df_27 : decode cJ5_init_d00df 27 = .ok (.invokestatic 26, 3) := dz_at (i := 14) dy_p04b_1 rfl
theorem dJ5_init_d00df_30 : decode cJ5_init_d00df 30 = .ok (.putfield 15, 3) := dz_at (i := 15) dy_p04b_1 rfl
theorem dJ5_init_d00df_33 : decode cJ5_init_d00df 33 = .ok (.aload_n 0, 1) := dz_at (i := 16) dy_p04b_1 rfl
theorem dJ5_init_d00df_34 : decode cJ5_init_d00df 34 = .ok (.iconst 1, 1) := dz_at (i := 17) dy_p04b_1 rfl
theorem dJ5_init_d00df_35 : decode cJ5_init_d00df 35 = .ok (.putfield 22, 3) := dz_at (i := 18) dy_p04b_1 rfl
theorem dJ5_init_d00df_38 : decode cJ5_init_d00df 38 = .ok (.return_, 1) := dz_at (i := 19) dy_p04b_1 rfl
set_option maxHeartbeats 4000000 in
set_option maxRecDepth 100000 in
theorem k_J5_init_d00df (l : Launch) (dC : Nat → ClassId) (dI : Nat → Nat → Nat) (cB : ClassId) (h : Nat) (sz N : Nat) : Met l yJ5_init_d00df wsJ5_init_d00df ({ frames := 1, cells := 1, slots := 16, locals := 30 }) (va_Pc [.ref h, .int 16] (xT (dC, dI) xCl [(h, .inr (1, [.null, .int 0, .int 0, .int 0]))] [(cB, .byte)] sz N)) (va_Qv (fun (u : Nat) => True) (fun (u : Nat) t => xW (dC, dI) xCl [(h, eB u 0), (u, eY cB 16 (fun _ => 0))] (va_A [(h, .inr (1, [.null, .int 0, .int 0, .int 0]))] sz) t) (va_A [(h, .inr (1, [.null, .int 0, .int 0, .int 0]))] sz)) 1 16 (va_A [(h, .inr (1, [.null, .int 0, .int 0, .int 0]))] sz) := by
  refine Met.ofW (cc := cJ5_init_d00df) (maxL := 2) (ret := none) (by decide +kernel) rfl ?_
  intro p e s m args below meth c s₁ B hml hv
  obtain ⟨rfl, ⟨hsz, hP, hK, hD0, hN, hG⟩, hT⟩ := hv
  have hx := B.exec
  have hb := B.bytes
  have hr := B.returns
  have hts := atoms_spec (ws := wsJ5_init_d00df) B.pre
  have hown : s.vm.findClass RJ5 = some m.cls := findClass_of_methodNamed B.named
  have hlocks := B.notSynchronized
  have hin : meth.name = "<init>" := (name_of_methodNamed B.named B.method).1
  subst hsz
  have hAN : ∀ q, va_A [(h, .inr (1, [.null, .int 0, .int 0, .int 0]))] s.heap.size q → N ≤ q := xA_N hD0 hN
  have hD := hD0.self (sz := s.heap.size)
  generalize hAe : va_A [(h, .inr (1, [.null, .int 0, .int 0, .int 0]))] s.heap.size = A at hD hAN ⊢
  have hA : ∀ q : Nat, s.heap.size ≤ q → A q := fun q h => by rw [← hAe]; exact Or.inr h
  have hS : va_S A s.heap s.heap [] := va_S.rf
  have hP : va_P (dC, dI) xCl [(h, .inr (1, [.null, .int 0, .int 0, .int 0]))] s.heap := hP
  obtain ⟨hTc, ⟨tO, tT, fO, fT, hTo, hTt, hTa, hTb, hTf, hTg⟩, ⟨adK, adV, hTs, hTr0, hTr1, hTr2⟩, ⟨aE, hTe⟩, hTn⟩ := id hT
  have hl := lv_entry ([.ref h, .int 16]) (n := 2) (Nat.le_of_ble_eq_true rfl)
  rw [lg_entry_eq]
  generalize (lg_sl ([.ref h, .int 16]) ++ List.replicate (2 - (lg_sl ([.ref h, .int 16])).length) Slot.unset).toArray = ls at hl ⊢
  have hl : lv_has ls 2 [(0, .ref h), (1, .int 16)] := hl
  refine lv_aload_n hx hb dJ5_init_d00df_0 rfl (lv_at hl 0 rfl) ?_
  refine W.objInit hx hb hown (hts (.methodLink RJ5 3 objectInit) (by decide +kernel)) (hts (.instanceMethod objectInit) (by decide +kernel)) (hts (.code objectInit ⟨#[0xb1]⟩ 1 none) (by decide +kernel)) rfl (by rw [hml]; exact hl.1) rfl dJ5_init_d00df_1 (Nat.le_of_ble_eq_true rfl) (Nat.le_of_ble_eq_true rfl) ?_
  refine W.eq (g2 := F0 m 4 ls []) rfl ?_
  refine va_gets hx hb (va_Z.narrow hTc hAN) hS hown (hts (.fieldLink RJ5 18 "java/lang/String" "COMPACT_STRINGS" "Z") (by decide +kernel)) (fun _ h9 => h9) dJ5_init_d00df_4 ?_
  refine lv_if_eq (tgt := 25) hx hb dJ5_init_d00df_7 (by decide +kernel) (fun c9 => absurd c9 (by decide +kernel)) (fun _ => ?_)
  refine lv_aload_n hx hb dJ5_init_d00df_10 rfl (lv_at hl 0 rfl) ?_
  refine lv_iload_n hx hb dJ5_init_d00df_11 rfl (lv_at hl 1 rfl) ?_
  refine va_newa (atype := .byte) (a0 := (16, .inl (fun _ => 0))) (N' := 16) hx hb (hts (.arrayClass .byte) (by decide +kernel)) rfl hK hP hD hS hA (fun cA => rfl) (by decide +kernel) (by decide +kernel) (by decide +kernel) (show _ ≤ 1 by omega) (show _ ≤ 16 by omega) dJ5_init_d00df_12 (fun q12 cA H hK9 hP hD hS => ?_)
  have hcA : cA = cB := Option.some.inj ((((hK9.2 1 _ rfl).2).symm).trans (hK.2 0 _ rfl).2)
  rw [hcA] at hP hD
  have hP : va_P (dC, dI) xCl [(h, .inr (1, [.null, .int 0, .int 0, .int 0])), (q12, eY cB 16 (fun _ => 0))] H := hP
  have hD : va_D A [(h, .inr (1, [.null, .int 0, .int 0, .int 0])), (q12, eY cB 16 (fun _ => 0))] := hD
  refine va_put (D := (dC, dI)) (ci := 1) (v := .ref q12) (ty := (.array .byte)) (C := RJ4) (T := TJ4) (N := 4) hx hb hts (by decide +kernel) tyJ4 tyJ4_ok nmJ4 hown hK hP hD hS 0 rfl rfl 0 (by decide +kernel) (hts (.fieldLink RJ5 15 "java/lang/AbstractStringBuilder" "value" "[B") (by decide +kernel)) (fun _ h9 => h9) rfl (by decide +kernel) rfl rfl (Nat.le_of_ble_eq_true rfl) dJ5_init_d00df_14 (fun H locs hP hD hS => ?_)
  have hP : va_P (dC, dI) xCl [(h, .inr (1, [.ref q12, .int 0, .int 0, .int 0])), (q12, eY cB 16 (fun _ => 0))] H := hP
  have hD : va_D A [(h, .inr (1, [.ref q12, .int 0, .int 0, .int 0])), (q12, eY cB 16 (fun _ => 0))] := hD
  refine lv_aload_n hx hb dJ5_init_d00df_17 rfl (lv_at hl 0 rfl) ?_
  refine lv_iconst (v := 0) hx hb dJ5_init_d00df_18 (by decide +kernel) ?_
  refine va_put (D := (dC, dI)) (ci := 1) (v := .int 0) (ty := .byte) (C := RJ4) (T := TJ4) (N := 4) hx hb hts (by decide +kernel) tyJ4 tyJ4_ok nmJ4 hown hK hP hD hS 0 rfl rfl 1 (by decide +kernel) (hts (.fieldLink RJ5 22 "java/lang/AbstractStringBuilder" "coder" "B") (by decide +kernel)) (fun _ h9 => h9) rfl (by decide +kernel) rfl rfl (Nat.le_of_ble_eq_true rfl) dJ5_init_d00df_19 (fun H locs hP hD hS => ?_)
  have hP : va_P (dC, dI) xCl [(h, .inr (1, [.ref q12, .int 0, .int 0, .int 0])), (q12, eY cB 16 (fun _ => 0))] H := hP
  have hD : va_D A [(h, .inr (1, [.ref q12, .int 0, .int 0, .int 0])), (q12, eY cB 16 (fun _ => 0))] := hD
  refine lv_goto (tgt := 38) hx hb dJ5_init_d00df_22 (by decide +kernel) ?_
  have hP := hP.sub (ws' := [(h, .inr (1, [.ref q12, .int 0, .int 0, .int 0])), (q12, eY cB 16 (fun _ => 0))]) [0, 1] rfl
  have hD := hD.sub (ws' := [(h, .inr (1, [.ref q12, .int 0, .int 0, .int 0])), (q12, eY cB 16 (fun _ => 0))]) [0, 1] (by decide +kernel) rfl
  refine W.widen (k := 1) (n := 16) (by omega) (by omega) ?_
  exact W.vret hx hb hr (fun t ht hW => ⟨⟨q12, rfl, trivial, by rw [ht]; exact hP, hD⟩, hS.F ht⟩) hS.2.2 dJ5_init_d00df_38
theorem cl_J4_init_da8c8_1 : ∀ w ∈ [.methodLink RJ4 1 yJ5_init_d00df, .instanceMethod yJ5_init_d00df, .initialized RJ5, .code yJ5_init_d00df cJ5_init_d00df 2 none, .methodLink RJ5 3 objectInit, .instanceMethod objectInit, .code objectInit ⟨#[0xb1]⟩ 1 none, .fieldLink RJ5 18 "java/lang/String" "COMPACT_STRINGS" "Z", .arrayClass .byte, .fieldLink RJ5 15 "java/lang/AbstractStringBuilder" "value" "[B", .fieldLink RJ5 22 "java/lang/AbstractStringBuilder" "coder" "B", .methodLink RJ5 26 yJ2_newBytesFor_77867, .static yJ2_newBytesFor_77867, .initialized RJ2, .code yJ2_newBytesFor_77867 cJ2_newBytesFor_77867 1 (some (.array .byte)), .methodLink RJ2 11 yJ2_newBytesLength_0f7a4, .static yJ2_newBytesLength_0f7a4, .code yJ2_newBytesLength_0f7a4 cJ2_newBytesLength_0f7a4 1 (some .int), .constant RJ2 20 (1073741823)], w ∈ wsJ4_init_da8c8 := fun _ h => (List.mem_cons_of_mem _ (List.mem_append_left _ h))
theorem cl_J4_init_da8c8_2 : ∀ w ∈ wsJ40, w ∈ wsJ4_init_da8c8 := fun _ h => (List.mem_cons_of_mem _ (List.mem_append_right _ h))
set_option maxRecDepth 20000 in
theorem ggJ4_init_da8c8_J5_init_d00df : GoodIn wsJ4_init_da8c8 wsJ5_init_d00df := goodIn_sub (List.forall_mem_cons.mpr ⟨(cl_J4_init_da8c8_1 _ (List.mem_of_getElem? (i := 3) rfl)), fun w h => (List.mem_append.mp h).elim ((List.forall_mem_cons.mpr ⟨(cl_J4_init_da8c8_1 _ (List.mem_of_getElem? (i := 4) rfl)), List.forall_mem_cons.mpr ⟨(cl_J4_init_da8c8_1 _ (List.mem_of_getElem? (i := 5) rfl)), List.forall_mem_cons.mpr ⟨(cl_J4_init_da8c8_1 _ (List.mem_of_getElem? (i := 6) rfl)), List.forall_mem_cons.mpr ⟨(cl_J4_init_da8c8_1 _ (List.mem_of_getElem? (i := 7) rfl)), List.forall_mem_cons.mpr ⟨(cl_J4_init_da8c8_1 _ (List.mem_of_getElem? (i := 8) rfl)), List.forall_mem_cons.mpr ⟨(cl_J4_init_da8c8_1 _ (List.mem_of_getElem? (i := 9) rfl)), List.forall_mem_cons.mpr ⟨(cl_J4_init_da8c8_1 _ (List.mem_of_getElem? (i := 10) rfl)), List.forall_mem_cons.mpr ⟨(cl_J4_init_da8c8_1 _ (List.mem_of_getElem? (i := 11) rfl)), List.forall_mem_cons.mpr ⟨(cl_J4_init_da8c8_1 _ (List.mem_of_getElem? (i := 12) rfl)), List.forall_mem_cons.mpr ⟨(cl_J4_init_da8c8_1 _ (List.mem_of_getElem? (i := 13) rfl)), List.forall_mem_cons.mpr ⟨(cl_J4_init_da8c8_1 _ (List.mem_of_getElem? (i := 14) rfl)), List.forall_mem_cons.mpr ⟨(cl_J4_init_da8c8_1 _ (List.mem_of_getElem? (i := 15) rfl)), List.forall_mem_cons.mpr ⟨(cl_J4_init_da8c8_1 _ (List.mem_of_getElem? (i := 16) rfl)), List.forall_mem_cons.mpr ⟨(cl_J4_init_da8c8_1 _ (List.mem_of_getElem? (i := 17) rfl)), List.forall_mem_cons.mpr ⟨(cl_J4_init_da8c8_1 _ (List.mem_of_getElem? (i := 18) rfl)), fun _ h => absurd h List.not_mem_nil⟩⟩⟩⟩⟩⟩⟩⟩⟩⟩⟩⟩⟩⟩⟩) w) ((cl_J4_init_da8c8_2) w)⟩) (by decide +kernel)
set_option maxRecDepth 20000 in
theorem gJ4_init_da8c8_J5_init_d00df : GoodIn wsJ4_init_da8c8 (wsJ5_init_d00df) := ggJ4_init_da8c8_J5_init_d00df
noncomputable def dz_p04b_2 : List (Nat × Instr × Nat) := [(0, (.aload_n 0, 1)), (1, (.bipush 16, 2)), (3, (.invokespecial 1, 3)), (6, (.return_, 1))]
theorem dy_p04b_2 : dz_ok cJ4_init_da8c8 dz_p04b_2 = true := by decide +kernel
theorem dJ4_init_da8c8_0 : decode cJ4_init_da8c8 0 = .ok (.aload_n 0, 1) := dz_at (i := 0) dy_p04b_2 rfl
theorem dJ4_init_da8c8_1 : decode cJ4_init_da8c8 1 = .ok (.bipush 16, 2) := dz_at (i := 1) dy_p04b_2 rfl
theorem dJ4_init_da8c8_3 : decode cJ4_init_da8c8 3 = .ok (.invokespecial 1, 3) := dz_at (i := 2) dy_p04b_2 rfl
theorem dJ4_init_da8c8_6 : decode cJ4_init_da8c8 6 = .ok (.return_, 1) := dz_at (i := 3) dy_p04b_2 rfl
set_option maxHeartbeats 4000000 in
set_option maxRecDepth 100000 in
theorem k_J4_init_da8c8 (l : Launch) (dC : Nat → ClassId) (dI : Nat → Nat → Nat) (cB : ClassId) (h : Nat) (sz N : Nat) : Met l yJ4_init_da8c8 wsJ4_init_da8c8 ({ frames := 2, cells := 1, slots := 16, locals := 51 }) (va_Pc [.ref h] (xT (dC, dI) xCl [(h, .inr (1, [.null, .int 0, .int 0, .int 0]))] [(cB, .byte)] sz N)) (va_Qv (fun (u : Nat) => True) (fun (u : Nat) t => xW (dC, dI) xCl [(h, eB u 0), (u, eY cB 16 (fun _ => 0))] (va_A [(h, .inr (1, [.null, .int 0, .int 0, .int 0]))] sz) t) (va_A [(h, .inr (1, [.null, .int 0, .int 0, .int 0]))] sz)) 1 16 (va_A [(h, .inr (1, [.null, .int 0, .int 0, .int 0]))] sz) := by
  refine Met.ofW (cc := cJ4_init_da8c8) (maxL := 1) (ret := none) (by decide +kernel) rfl ?_
  intro p e s m args below meth c s₁ B hml hv
  obtain ⟨rfl, ⟨hsz, hP, hK, hD0, hN, hG⟩, hT⟩ := hv
  have hx := B.exec
  have hb := B.bytes
  have hr := B.returns
  have hts := atoms_spec (ws := wsJ4_init_da8c8) B.pre
  have hown : s.vm.findClass RJ4 = some m.cls := findClass_of_methodNamed B.named
  have hlocks := B.notSynchronized
  have hin : meth.name = "<init>" := (name_of_methodNamed B.named B.method).1
  subst hsz
  have hAN : ∀ q, va_A [(h, .inr (1, [.null, .int 0, .int 0, .int 0]))] s.heap.size q → N ≤ q := xA_N hD0 hN
  have hD := hD0.self (sz := s.heap.size)
  generalize hAe : va_A [(h, .inr (1, [.null, .int 0, .int 0, .int 0]))] s.heap.size = A at hD hAN ⊢
  have hA : ∀ q : Nat, s.heap.size ≤ q → A q := fun q h => by rw [← hAe]; exact Or.inr h
  have hS : va_S A s.heap s.heap [] := va_S.rf
  have hP : va_P (dC, dI) xCl [(h, .inr (1, [.null, .int 0, .int 0, .int 0]))] s.heap := hP
  obtain ⟨hTc, ⟨tO, tT, fO, fT, hTo, hTt, hTa, hTb, hTf, hTg⟩, ⟨adK, adV, hTs, hTr0, hTr1, hTr2⟩, ⟨aE, hTe⟩, hTn⟩ := id hT
  have hl := lv_entry ([.ref h]) (n := 1) (Nat.le_of_ble_eq_true rfl)
  rw [lg_entry_eq]
  generalize (lg_sl ([.ref h]) ++ List.replicate (1 - (lg_sl ([.ref h])).length) Slot.unset).toArray = ls at hl ⊢
  have hl : lv_has ls 1 [(0, .ref h)] := hl
  refine lv_aload_n hx hb dJ4_init_da8c8_0 rfl (lv_at hl 0 rfl) ?_
  refine lv_bipush (v := 16) hx hb dJ4_init_da8c8_1 (by decide +kernel) ?_
  have hPc := hP.sub (ws' := [(h, .inr (1, [.null, .int 0, .int 0, .int 0]))]) [0] rfl
  have hDc := hD.sub (ws' := [(h, .inr (1, [.null, .int 0, .int 0, .int 0]))]) [0] (by decide +kernel) rfl
  have hKc := hK.sub (tys' := [(cB, .byte)]) [0] rfl
  have hFc := va_free (wc := [(h, .inr (1, [.null, .int 0, .int 0, .int 0]))]) hD hS hA [0] rfl
  refine va_callv (va_runI (As := [.int 16]) (rest := []) ⟨hx, hb, hml, hown, hts⟩ (k_J5_init_d00df l dC dI cB h s.heap.size N) (cwI 1 hts gJ4_init_da8c8_J5_init_d00df rfl rfl rfl (hts (.initialized RJ5) (by decide +kernel)) (hts (.methodLink RJ4 1 yJ5_init_d00df) (by decide +kernel)) (hts (.instanceMethod yJ5_init_d00df) (by decide +kernel)) rfl (by decide +kernel) ⟨Nat.le_of_ble_eq_true rfl, Nat.le_of_ble_eq_true rfl⟩) (xT.preS  (As := .ref h :: [.int 16]) hKc hPc hDc hAN (Nat.le_trans hN hS.1) (hG.kept hS hAN) (hT.kept hS hAN)) rfl rfl hl.1 rfl (lv_room (Nat.le_of_ble_eq_true rfl)) dJ4_init_da8c8_3 ⟨(show _ ≤ 1 by omega), (show _ ≤ 16 by omega)⟩) hS (fun q _ h => hFc q h) hFc (fun u_3 t H locs ht hvm hw hB hz hk hS => ?_)
  obtain ⟨hP1, hD1⟩ := hB
  rw [ht] at hP1
  obtain ⟨v_1, rfl⟩ : ∃ z, z = u_3 := ⟨_, rfl⟩
  obtain ⟨hP, hD⟩ := va_join (wr := []) (w1 := [(h, eB v_1 0), (v_1, eY cB 16 (fun _ => 0))]) hP hD [0] [] rfl rfl (by decide +kernel) (by decide +kernel) hk hFc hP1 hD1
  have hP : va_P (dC, dI) xCl [(h, eB v_1 0), (v_1, eY cB 16 (fun _ => 0))] H := hP
  have hD : va_D A [(h, eB v_1 0), (v_1, eY cB 16 (fun _ => 0))] := hD
  have hP := hP.sub (ws' := [(h, eB v_1 0), (v_1, eY cB 16 (fun _ => 0))]) [0, 1] rfl
  have hD := hD.sub (ws' := [(h, eB v_1 0), (v_1, eY cB 16 (fun _ => 0))]) [0, 1] (by decide +kernel) rfl
  refine W.widen (k := 1) (n := 16) (by omega) (by omega) ?_
  exact W.vret hx hb hr (fun t ht hW => ⟨⟨v_1, rfl, trivial, by rw [ht]; exact hP, hD⟩, hS.F ht⟩) hS.2.2 dJ4_init_da8c8_6
noncomputable def dz_p04b_3 : List (Nat × Instr × Nat) := [(0, (.getstatic 18, 3)), (3, (.ifCond .eq 14, 3)), (6, (.aload_n 0, 1)), (7, (.getfield 22, 3)), (10, (.ifCond .ne 7, 3)), (13, (.iconst 1, 1)), (14, (.goto 4, 3)), (17, (.iconst 0, 1)), (18, (.ireturn, 1))]
theorem dy_p04b_3 : dz_ok cJ5_isLatin1_aae02 dz_p04b_3 = true := by decide +kernel
theorem dJ5_isLatin1_aae02_0 : decode cJ5_isLatin1_aae02 0 = .ok (.getstatic 18, 3) := dz_at (i := 0) dy_p04b_3 rfl
theorem dJ5_isLatin1_aae02_3 : decode cJ5_isLatin1_aae02 3 = .ok (.ifCond .eq 14, 3) := dz_at (i := 1) dy_p04b_3 rfl
theorem dJ5_isLatin1_aae02_6 : decode cJ5_isLatin1_aae02 6 = .ok (.aload_n 0, 1) := dz_at (i := 2) dy_p04b_3 rfl
theorem dJ5_isLatin1_aae02_7 : decode cJ5_isLatin1_aae02 7 = .ok (.getfield 22, 3) := dz_at (i := 3) dy_p04b_3 rfl
theorem dJ5_isLatin1_aae02_10 : decode cJ5_isLatin1_aae02 10 = .ok (.ifCond .ne 7, 3) := dz_at (i := 4) dy_p04b_3 rfl
theorem dJ5_isLatin1_aae02_13 : decode cJ5_isLatin1_aae02 13 = .ok (.iconst 1, 1) := dz_at (i := 5) dy_p04b_3 rfl
theorem dJ5_isLatin1_aae02_14 : decode cJ5_isLatin1_aae02 14 = .ok (.goto 4, 3) := dz_at (i := 6) dy_p04b_3 rfl
theorem dJ5_isLatin1_aae02_17 : decode cJ5_isLatin1_aae02 17 = .ok (.iconst 0, 1) := dz_at (i := 7) dy_p04b_3 rfl
theorem dJ5_isLatin1_aae02_18 : decode cJ5_isLatin1_aae02 18 = .ok (.ireturn, 1) := dz_at (i := 8) dy_p04b_3 rfl
set_option maxHeartbeats 4000000 in
set_option maxRecDepth 100000 in
theorem k_J5_isLatin1_aae02 (l : Launch) (dC : Nat → ClassId) (dI : Nat → Nat → Nat) (cB : ClassId) (h : Nat) (v : Nat) (n : Int32) (sz N : Nat) : Met l yJ5_isLatin1_aae02 wsJ5_isLatin1_aae02 ({ frames := 0, cells := 0, slots := 0, locals := 0 }) (va_Pc [.ref h] (xT (dC, dI) xCl [(h, eB v n)] [(cB, .byte)] sz N)) (va_Qi (fun (r : Int32) (u : Unit) => r = 1) (fun (u : Unit) t => xW (dC, dI) xCl [(h, eB v n)] (va_A [(h, eB v n)] sz) t) (va_A [(h, eB v n)] sz)) 0 0 (va_A [(h, eB v n)] sz) := by
  refine Met.ofW (cc := cJ5_isLatin1_aae02) (maxL := 1) (ret := (some .boolean)) (by decide +kernel) rfl ?_
  intro p e s m args below meth c s₁ B hml hv
  obtain ⟨rfl, ⟨hsz, hP, hK, hD0, hN, hG⟩, hT⟩ := hv
  have hx := B.exec
  have hb := B.bytes
  have hr := B.returns
  have hts := atoms_spec (ws := wsJ5_isLatin1_aae02) B.pre
  have hown : s.vm.findClass RJ5 = some m.cls := findClass_of_methodNamed B.named
  have hlocks := B.notSynchronized
  subst hsz
  have hAN : ∀ q, va_A [(h, eB v n)] s.heap.size q → N ≤ q := xA_N hD0 hN
  have hD := hD0.self (sz := s.heap.size)
  generalize hAe : va_A [(h, eB v n)] s.heap.size = A at hD hAN ⊢
  have hA : ∀ q : Nat, s.heap.size ≤ q → A q := fun q h => by rw [← hAe]; exact Or.inr h
  have hS : va_S A s.heap s.heap [] := va_S.rf
  have hP : va_P (dC, dI) xCl [(h, eB v n)] s.heap := hP
  obtain ⟨hTc, ⟨tO, tT, fO, fT, hTo, hTt, hTa, hTb, hTf, hTg⟩, ⟨adK, adV, hTs, hTr0, hTr1, hTr2⟩, ⟨aE, hTe⟩, hTn⟩ := id hT
  have hl := lv_entry ([.ref h]) (n := 1) (Nat.le_of_ble_eq_true rfl)
  rw [lg_entry_eq]
  generalize (lg_sl ([.ref h]) ++ List.replicate (1 - (lg_sl ([.ref h])).length) Slot.unset).toArray = ls at hl ⊢
  have hl : lv_has ls 1 [(0, .ref h)] := hl
  refine va_gets hx hb (va_Z.narrow hTc hAN) hS hown (hts (.fieldLink RJ5 18 "java/lang/String" "COMPACT_STRINGS" "Z") (by decide +kernel)) (fun _ h9 => h9) dJ5_isLatin1_aae02_0 ?_
  refine lv_if_eq (tgt := 17) hx hb dJ5_isLatin1_aae02_3 (by decide +kernel) (fun c9 => absurd c9 (by decide +kernel)) (fun _ => ?_)
  refine lv_aload_n hx hb dJ5_isLatin1_aae02_6 rfl (lv_at hl 0 rfl) ?_
  refine va_get (D := (dC, dI)) (ci := 1) (v := .int 0) (C := RJ4) (T := TJ4) (N := 4) hx hb hts (by decide +kernel) hown hK hP 0 rfl rfl 1 (by decide +kernel) (hts (.fieldLink RJ5 22 "java/lang/AbstractStringBuilder" "coder" "B") (by decide +kernel)) (fun _ h9 => h9) rfl dJ5_isLatin1_aae02_7 ?_
  refine lv_if_ne (tgt := 17) hx hb dJ5_isLatin1_aae02_10 (by decide +kernel) (fun c9 => absurd c9 (by decide +kernel)) (fun _ => ?_)
  refine lv_iconst (v := 1) hx hb dJ5_isLatin1_aae02_13 (by decide +kernel) ?_
  refine lv_goto (tgt := 18) hx hb dJ5_isLatin1_aae02_14 (by decide +kernel) ?_
  have hP := hP.sub (ws' := [(h, eB v n)]) [0] rfl
  have hD := hD.sub (ws' := [(h, eB v n)]) [0] (by decide +kernel) rfl
  refine W.widen (k := 0) (n := 0) (by omega) (by omega) ?_
  exact W.zret (v := 1) (ty := .boolean) hx hb hr rfl (fun t ht hW => ⟨⟨_, (), rfl, rfl, by rw [ht]; exact hP, hD⟩, hS.F ht⟩) hS.2.2 dJ5_isLatin1_aae02_18
noncomputable def dz_p04b_4 : List (Nat × Instr × Nat) := [(0, (.aload_n 0, 1)), (1, (.getfield 15, 3)), (4, (.areturn, 1))]
theorem dy_p04b_4 : dz_ok cJ5_getValue_6d5f1 dz_p04b_4 = true := by decide +kernel
theorem dJ5_getValue_6d5f1_0 : decode cJ5_getValue_6d5f1 0 = .ok (.aload_n 0, 1) := dz_at (i := 0) dy_p04b_4 rfl
theorem dJ5_getValue_6d5f1_1 : decode cJ5_getValue_6d5f1 1 = .ok (.getfield 15, 3) := dz_at (i := 1) dy_p04b_4 rfl
theorem dJ5_getValue_6d5f1_4 : decode cJ5_getValue_6d5f1 4 = .ok (.areturn, 1) := dz_at (i := 2) dy_p04b_4 rfl
set_option maxHeartbeats 4000000 in
set_option maxRecDepth 100000 in
theorem k_J5_getValue_6d5f1 (l : Launch) (dC : Nat → ClassId) (dI : Nat → Nat → Nat) (cB : ClassId) (h : Nat) (v : Nat) (n : Int32) (sz N : Nat) : Met l yJ5_getValue_6d5f1 wsJ5_getValue_6d5f1 ({ frames := 0, cells := 0, slots := 0, locals := 0 }) (va_Pc [.ref h] (xT (dC, dI) xCl [(h, eB v n)] [(cB, .byte)] sz N)) (va_Qr (fun (u : Unit) => True) (fun (u : Unit) a t => a = v ∧ xW (dC, dI) xCl [(h, eB v n)] (va_A [(h, eB v n)] sz) t) (va_A [(h, eB v n)] sz)) 0 0 (va_A [(h, eB v n)] sz) := by
  refine Met.ofW (cc := cJ5_getValue_6d5f1) (maxL := 1) (ret := (some (.array .byte))) (by decide +kernel) rfl ?_
  intro p e s m args below meth c s₁ B hml hv
  obtain ⟨rfl, ⟨hsz, hP, hK, hD0, hN, hG⟩, hT⟩ := hv
  have hx := B.exec
  have hb := B.bytes
  have hr := B.returns
  have hts := atoms_spec (ws := wsJ5_getValue_6d5f1) B.pre
  have hown : s.vm.findClass RJ5 = some m.cls := findClass_of_methodNamed B.named
  have hlocks := B.notSynchronized
  subst hsz
  have hAN : ∀ q, va_A [(h, eB v n)] s.heap.size q → N ≤ q := xA_N hD0 hN
  have hD := hD0.self (sz := s.heap.size)
  generalize hAe : va_A [(h, eB v n)] s.heap.size = A at hD hAN ⊢
  have hA : ∀ q : Nat, s.heap.size ≤ q → A q := fun q h => by rw [← hAe]; exact Or.inr h
  have hS : va_S A s.heap s.heap [] := va_S.rf
  have hP : va_P (dC, dI) xCl [(h, eB v n)] s.heap := hP
  obtain ⟨hTc, ⟨tO, tT, fO, fT, hTo, hTt, hTa, hTb, hTf, hTg⟩, ⟨adK, adV, hTs, hTr0, hTr1, hTr2⟩, ⟨aE, hTe⟩, hTn⟩ := id hT
  have hl := lv_entry ([.ref h]) (n := 1) (Nat.le_of_ble_eq_true rfl)
  rw [lg_entry_eq]
  generalize (lg_sl ([.ref h]) ++ List.replicate (1 - (lg_sl ([.ref h])).length) Slot.unset).toArray = ls at hl ⊢
  have hl : lv_has ls 1 [(0, .ref h)] := hl
  refine lv_aload_n hx hb dJ5_getValue_6d5f1_0 rfl (lv_at hl 0 rfl) ?_
  refine va_get (D := (dC, dI)) (ci := 1) (v := .ref v) (C := RJ4) (T := TJ4) (N := 4) hx hb hts (by decide +kernel) hown hK hP 0 rfl rfl 0 (by decide +kernel) (hts (.fieldLink RJ5 15 "java/lang/AbstractStringBuilder" "value" "[B") (by decide +kernel)) (fun _ h9 => h9) rfl dJ5_getValue_6d5f1_1 ?_
  have hP := hP.sub (ws' := [(h, eB v n)]) [0] rfl
  have hD := hD.sub (ws' := [(h, eB v n)]) [0] (by decide +kernel) rfl
  refine W.widen (k := 0) (n := 0) (by omega) (by omega) ?_
  exact W.aret (v := .ref v) hx hb hr (Or.inr ⟨_, rfl⟩) (Or.inr ⟨_, rfl⟩) (fun t ht hW => ⟨⟨(), _, rfl, trivial, ⟨rfl, by rw [ht]; exact hP, hD⟩⟩, hS.F ht⟩) hS.2.2 dJ5_getValue_6d5f1_4
noncomputable def dz_p04b_5 : List (Nat × Instr × Nat) := [(0, (.aload_n 0, 1)), (1, (.getfield 79, 3)), (4, (.ireturn, 1))]
theorem dy_p04b_5 : dz_ok cJ5_length_8abf5 dz_p04b_5 = true := by decide +kernel
theorem dJ5_length_8abf5_0 : decode cJ5_length_8abf5 0 = .ok (.aload_n 0, 1) := dz_at (i := 0) dy_p04b_5 rfl
theorem dJ5_length_8abf5_1 : decode cJ5_length_8abf5 1 = .ok (.getfield 79, 3) := dz_at (i := 1) dy_p04b_5 rfl
theorem dJ5_length_8abf5_4 : decode cJ5_length_8abf5 4 = .ok (.ireturn, 1) := dz_at (i := 2) dy_p04b_5 rfl
set_option maxHeartbeats 4000000 in
set_option maxRecDepth 100000 in
theorem k_J5_length_8abf5 (l : Launch) (dC : Nat → ClassId) (dI : Nat → Nat → Nat) (cB : ClassId) (h : Nat) (v : Nat) (n : Int32) (sz N : Nat) : Met l yJ5_length_8abf5 wsJ5_length_8abf5 ({ frames := 0, cells := 0, slots := 0, locals := 0 }) (va_Pc [.ref h] (xT (dC, dI) xCl [(h, eB v n)] [(cB, .byte)] sz N)) (va_Qi (fun (r : Int32) (u : Unit) => r = n) (fun (u : Unit) t => xW (dC, dI) xCl [(h, eB v n)] (va_A [(h, eB v n)] sz) t) (va_A [(h, eB v n)] sz)) 0 0 (va_A [(h, eB v n)] sz) := by
  refine Met.ofW (cc := cJ5_length_8abf5) (maxL := 1) (ret := (some .int)) (by decide +kernel) rfl ?_
  intro p e s m args below meth c s₁ B hml hv
  obtain ⟨rfl, ⟨hsz, hP, hK, hD0, hN, hG⟩, hT⟩ := hv
  have hx := B.exec
  have hb := B.bytes
  have hr := B.returns
  have hts := atoms_spec (ws := wsJ5_length_8abf5) B.pre
  have hown : s.vm.findClass RJ5 = some m.cls := findClass_of_methodNamed B.named
  have hlocks := B.notSynchronized
  subst hsz
  have hAN : ∀ q, va_A [(h, eB v n)] s.heap.size q → N ≤ q := xA_N hD0 hN
  have hD := hD0.self (sz := s.heap.size)
  generalize hAe : va_A [(h, eB v n)] s.heap.size = A at hD hAN ⊢
  have hA : ∀ q : Nat, s.heap.size ≤ q → A q := fun q h => by rw [← hAe]; exact Or.inr h
  have hS : va_S A s.heap s.heap [] := va_S.rf
  have hP : va_P (dC, dI) xCl [(h, eB v n)] s.heap := hP
  obtain ⟨hTc, ⟨tO, tT, fO, fT, hTo, hTt, hTa, hTb, hTf, hTg⟩, ⟨adK, adV, hTs, hTr0, hTr1, hTr2⟩, ⟨aE, hTe⟩, hTn⟩ := id hT
  have hl := lv_entry ([.ref h]) (n := 1) (Nat.le_of_ble_eq_true rfl)
  rw [lg_entry_eq]
  generalize (lg_sl ([.ref h]) ++ List.replicate (1 - (lg_sl ([.ref h])).length) Slot.unset).toArray = ls at hl ⊢
  have hl : lv_has ls 1 [(0, .ref h)] := hl
  refine lv_aload_n hx hb dJ5_length_8abf5_0 rfl (lv_at hl 0 rfl) ?_
  refine va_get (D := (dC, dI)) (ci := 1) (v := .int n) (C := RJ4) (T := TJ4) (N := 4) hx hb hts (by decide +kernel) hown hK hP 0 rfl rfl 3 (by decide +kernel) (hts (.fieldLink RJ5 79 "java/lang/AbstractStringBuilder" "count" "I") (by decide +kernel)) (fun _ h9 => h9) rfl dJ5_length_8abf5_1 ?_
  have hP := hP.sub (ws' := [(h, eB v n)]) [0] rfl
  have hD := hD.sub (ws' := [(h, eB v n)]) [0] (by decide +kernel) rfl
  refine W.widen (k := 0) (n := 0) (by omega) (by omega) ?_
  exact W.iret (v := n) hx hb hr (fun t ht hW => ⟨⟨_, (), rfl, rfl, by rw [ht]; exact hP, hD⟩, hS.F ht⟩) hS.2.2 dJ5_length_8abf5_4
theorem cl_J4_length_8abf5_1 : ∀ w ∈ [.methodLink RJ4 343 yJ5_length_8abf5, .sameMethod "java/lang/AbstractStringBuilder" "java/lang/AbstractStringBuilder" "length" "()I", .superclass RJ4 RJ5, .instanceMethod yJ5_length_8abf5, .initialized RJ5, .code yJ5_length_8abf5 cJ5_length_8abf5 1 (some .int), .fieldLink RJ5 79 "java/lang/AbstractStringBuilder" "count" "I"], w ∈ wsJ4_length_8abf5 := fun _ h => (List.mem_cons_of_mem _ (List.mem_append_left _ h))
theorem cl_J4_length_8abf5_2 : ∀ w ∈ wsJ40, w ∈ wsJ4_length_8abf5 := fun _ h => (List.mem_cons_of_mem _ (List.mem_append_right _ h))
set_option maxRecDepth 20000 in
theorem ggJ4_length_8abf5_J5_length_8abf5 : GoodIn wsJ4_length_8abf5 wsJ5_length_8abf5 := goodIn_sub (List.forall_mem_cons.mpr ⟨(cl_J4_length_8abf5_1 _ (List.mem_of_getElem? (i := 5) rfl)), fun w h => (List.mem_append.mp h).elim ((List.forall_mem_cons.mpr ⟨(cl_J4_length_8abf5_1 _ (List.mem_of_getElem? (i := 6) rfl)), fun _ h => absurd h List.not_mem_nil⟩) w) ((cl_J4_length_8abf5_2) w)⟩) (by decide +kernel)
set_option maxRecDepth 20000 in
theorem gJ4_length_8abf5_J5_length_8abf5_s343 : GoodIn wsJ4_length_8abf5 (va_wsSU RJ4 343 yJ5_length_8abf5 wsJ5_length_8abf5) := goodIn_app (goodIn_of _ (by decide +kernel)) ggJ4_length_8abf5_J5_length_8abf5
noncomputable def dz_p04b_6 : List (Nat × Instr × Nat) := [(0, (.aload_n 0, 1)), (1, (.invokespecial 343, 3)), (4, (.ireturn, 1))]
theorem dy_p04b_6 : dz_ok cJ4_length_8abf5 dz_p04b_6 = true := by decide +kernel
theorem dJ4_length_8abf5_0 : decode cJ4_length_8abf5 0 = .ok (.aload_n 0, 1) := dz_at (i := 0) dy_p04b_6 rfl
theorem dJ4_length_8abf5_1 : decode cJ4_length_8abf5 1 = .ok (.invokespecial 343, 3) := dz_at (i := 1) dy_p04b_6 rfl
theorem dJ4_length_8abf5_4 : decode cJ4_length_8abf5 4 = .ok (.ireturn, 1) := dz_at (i := 2) dy_p04b_6 rfl
set_option maxHeartbeats 4000000 in
set_option maxRecDepth 100000 in
theorem k_J4_length_8abf5 (l : Launch) (dC : Nat → ClassId) (dI : Nat → Nat → Nat) (cB : ClassId) (h : Nat) (v : Nat) (n : Int32) (sz N : Nat) : Met l yJ4_length_8abf5 wsJ4_length_8abf5 ({ frames := 1, cells := 0, slots := 0, locals := 20 }) (va_Pc [.ref h] (xT (dC, dI) xCl [(h, eB v n)] [(cB, .byte)] sz N)) (va_Qi (fun (r : Int32) (u : Unit) => r = n) (fun (u : Unit) t => xW (dC, dI) xCl [(h, eB v n)] (va_A [(h, eB v n)] sz) t) (va_A [(h, eB v n)] sz)) 0 0 (va_A [(h, eB v n)] sz) := by
  refine Met.ofW (cc := cJ4_length_8abf5) (maxL := 1) (ret := (some .int)) (by decide +kernel) rfl ?_
  intro p e s m args below meth c s₁ B hml hv
  obtain ⟨rfl, ⟨hsz, hP, hK, hD0, hN, hG⟩, hT⟩ := hv
  have hx := B.exec
  have hb := B.bytes
  have hr := B.returns
  have hts := atoms_spec (ws := wsJ4_length_8abf5) B.pre
  have hown : s.vm.findClass RJ4 = some m.cls := findClass_of_methodNamed B.named
  have hlocks := B.notSynchronized
  subst hsz
  have hAN : ∀ q, va_A [(h, eB v n)] s.heap.size q → N ≤ q := xA_N hD0 hN
  have hD := hD0.self (sz := s.heap.size)
  generalize hAe : va_A [(h, eB v n)] s.heap.size = A at hD hAN ⊢
  have hA : ∀ q : Nat, s.heap.size ≤ q → A q := fun q h => by rw [← hAe]; exact Or.inr h
  have hS : va_S A s.heap s.heap [] := va_S.rf
  have hP : va_P (dC, dI) xCl [(h, eB v n)] s.heap := hP
  obtain ⟨hTc, ⟨tO, tT, fO, fT, hTo, hTt, hTa, hTb, hTf, hTg⟩, ⟨adK, adV, hTs, hTr0, hTr1, hTr2⟩, ⟨aE, hTe⟩, hTn⟩ := id hT
  have hl := lv_entry ([.ref h]) (n := 1) (Nat.le_of_ble_eq_true rfl)
  rw [lg_entry_eq]
  generalize (lg_sl ([.ref h]) ++ List.replicate (1 - (lg_sl ([.ref h])).length) Slot.unset).toArray = ls at hl ⊢
  have hl : lv_has ls 1 [(0, .ref h)] := hl
  refine lv_aload_n hx hb dJ4_length_8abf5_0 rfl (lv_at hl 0 rfl) ?_
  have hPc := hP.sub (ws' := [(h, eB v n)]) [0] rfl
  have hDc := hD.sub (ws' := [(h, eB v n)]) [0] (by decide +kernel) rfl
  have hKc := hK.sub (tys' := [(cB, .byte)]) [0] rfl
  have hFc := va_free (wc := [(h, eB v n)]) hD hS hA [0] rfl
  refine va_calli (va_runSU (hK.1 1 _ rfl).2 (As := []) (rest := []) ⟨hx, hb, hml, hown, hts⟩ (k_J5_length_8abf5 l dC dI cB h v n s.heap.size N) (va_cwSU 0 hts gJ4_length_8abf5_J5_length_8abf5_s343 rfl rfl rfl (by decide +kernel) ⟨Nat.le_of_ble_eq_true rfl, Nat.le_of_ble_eq_true rfl⟩) (xT.preV hKc hPc hDc hAN (Nat.le_trans hN hS.1) (hG.kept hS hAN) (hT.kept hS hAN) (ci := 1) (q0 := 0) rfl rfl) rfl rfl hl.1 rfl (lv_room (Nat.le_of_ble_eq_true rfl)) dJ4_length_8abf5_1 ⟨(show _ ≤ 0 by omega), (show _ ≤ 0 by omega)⟩) hS (fun q _ h => hFc q h) hFc (fun r_1 u_2 t H locs ht hvm hw hB hz hk hS => ?_)
  obtain ⟨hP1, hD1⟩ := hB
  rw [ht] at hP1
  obtain ⟨hP, hD⟩ := va_join (wr := []) (w1 := [(h, eB v n)]) hP hD [0] [] rfl rfl (by decide +kernel) (by decide +kernel) hk hFc hP1 hD1
  have hP : va_P (dC, dI) xCl [(h, eB v n)] H := hP
  have hD : va_D A [(h, eB v n)] := hD
  have hw : r_1 = n := hw
  rw [hw]
  have hP := hP.sub (ws' := [(h, eB v n)]) [0] rfl
  have hD := hD.sub (ws' := [(h, eB v n)]) [0] (by decide +kernel) rfl
  refine W.widen (k := 0) (n := 0) (by omega) (by omega) ?_
  exact W.iret (v := n) hx hb hr (fun t ht hW => ⟨⟨_, (), rfl, rfl, by rw [ht]; exact hP, hD⟩, hS.F ht⟩) hS.2.2 dJ4_length_8abf5_4
theorem cl_J8_newLength_cabcc_1 : ∀ w ∈ [.methodLink RJ8 194 Lib.Math.max.name, .static Lib.Math.max.name, .initialized "java/lang/Math", .code Lib.Math.max.name Lib.Math.max.code 2 (some .int), .constant RJ8 200 (2147483639), .methodLink RJ8 201 yJ8_hugeLength_7cf53, .static yJ8_hugeLength_7cf53, .initialized RJ8, .code yJ8_hugeLength_7cf53 cJ8_hugeLength_7cf53 3 (some .int)], w ∈ wsJ8_newLength_cabcc := fun _ h => (List.mem_cons_of_mem _ h)
set_option maxRecDepth 20000 in
theorem ggJ8_newLength_cabcc_J8_hugeLength_7cf53 : GoodIn wsJ8_newLength_cabcc wsJ8_hugeLength_7cf53 := goodIn_sub (List.forall_mem_cons.mpr ⟨(cl_J8_newLength_cabcc_1 _ (List.mem_of_getElem? (i := 8) rfl)), List.forall_mem_cons.mpr ⟨(cl_J8_newLength_cabcc_1 _ (List.mem_of_getElem? (i := 4) rfl)), fun _ h => absurd h List.not_mem_nil⟩⟩) (by decide +kernel)
set_option maxRecDepth 20000 in
theorem gJ8_newLength_cabcc_J8_hugeLength_7cf53 : GoodIn wsJ8_newLength_cabcc (va_wsS RJ8 201 yJ8_hugeLength_7cf53 wsJ8_hugeLength_7cf53) := goodIn_app (goodIn_sub (List.forall_mem_cons.mpr ⟨(cl_J8_newLength_cabcc_1 _ (List.mem_of_getElem? (i := 5) rfl)), List.forall_mem_cons.mpr ⟨(cl_J8_newLength_cabcc_1 _ (List.mem_of_getElem? (i := 6) rfl)), List.forall_mem_cons.mpr ⟨(cl_J8_newLength_cabcc_1 _ (List.mem_of_getElem? (i := 7) rfl)), fun _ h => absurd h List.not_mem_nil⟩⟩⟩) (by decide +kernel)) ggJ8_newLength_cabcc_J8_hugeLength_7cf53
noncomputable def dz_p04b_7 : List (Nat × Instr × Nat) := [(0, (.iload_n 0, 1)), (1, (.iload_n 1, 1)), (2, (.iload_n 2, 1)), (3, (.invokestatic 194, 3)), (6, (.iadd, 1)), (7, (.istore_n 3, 1)), (8, (.iconst 0, 1)), (9, (.iload_n 3, 1)), (10, (.if_icmp .ge 11, 3)), (13, (.iload_n 3, 1)), (14, (.ldc 200, 2)), (16, (.if_icmp .gt 5, 3)), (19, (.iload_n 3, 1)), (20, (.ireturn, 1)), (21, (.iload_n 0, 1)), (22, (.iload_n 1, 1)), (23, (.invokestatic 201, 3)), (26, (.ireturn, 1))]
theorem dy_p04b_7 : dz_ok cJ8_newLength_cabcc dz_p04b_7 = true := by decide +kernel
theorem dJ8_newLength_cabcc_0 : decode cJ8_newLength_cabcc 0 = .ok (.iload_n 0, 1) := dz_at (i := 0) dy_p04b_7 rfl
theorem dJ8_newLength_cabcc_1 : decode cJ8_newLength_cabcc 1 = .ok (.iload_n 1, 1) := dz_at (i := 1) dy_p04b_7 rfl
theorem dJ8_newLength_cabcc_2 : decode cJ8_newLength_cabcc 2 = .ok (.iload_n 2, 1) := dz_at (i := 2) dy_p04b_7 rfl
theorem dJ8_newLength_cabcc_3 : decode cJ8_newLength_cabcc 3 = .ok (.invokestatic 194, 3) := dz_at (i := 3) dy_p04b_7 rfl
theorem dJ8_newLength_cabcc_6 : decode cJ8_newLength_cabcc 6 = .ok (.iadd, 1) := dz_at (i := 4) dy_p04b_7 rfl
theorem dJ8_newLength_cabcc_7 : decode cJ8_newLength_cabcc 7 = .ok (.istore_n 3, 1) := dz_at (i := 5) dy_p04b_7 rfl
theorem dJ8_newLength_cabcc_8 : decode cJ8_newLength_cabcc 8 = .ok (.iconst 0, 1) := dz_at (i := 6) dy_p04b_7 rfl
theorem dJ8_newLength_cabcc_9 : decode cJ8_newLength_cabcc 9 = .ok (.iload_n 3, 1) := dz_at (i := 7) dy_p04b_7 rfl
theorem dJ8_newLength_cabcc_10 : decode cJ8_newLength_cabcc 10 = .ok (.if_icmp .ge 11, 3) := dz_at (i := 8) dy_p04b_7 rfl
theorem dJ8_newLength_cabcc_13 : decode cJ8_newLength_cabcc 13 = .ok (.iload_n 3, 1) := dz_at (i := 9) dy_p04b_7 rfl
theorem dJ8_newLength_cabcc_14 : decode cJ8_newLength_cabcc 14 = .ok (.ldc 200, 2) := dz_at (i := 10) dy_p04b_7 rfl
theorem dJ8_newLength_cabcc_16 : decode cJ8_newLength_cabcc 16 = .ok (.if_icmp .gt 5, 3) := dz_at (i := 11) dy_p04b_7 rfl
theorem dJ8_newLength_cabcc_19 : decode cJ8_newLength_cabcc 19 = .ok (.iload_n 3, 1) := dz_at (i := 12) dy_p04b_7 rfl
theorem dJ8_newLength_cabcc_20 : decode cJ8_newLength_cabcc 20 = .ok (.ireturn, 1) := dz_at (i := 13) dy_p04b_7 rfl
theorem dJ8_newLength_cabcc_21 : decode cJ8_newLength_cabcc 21 = .ok (.iload_n 0, 1) := dz_at (i := 14) dy_p04b_7 rfl
theorem dJ8_newLength_cabcc_22 : decode cJ8_newLength_cabcc 22 = .ok (.iload_n 1, 1) := dz_at (i := 15) dy_p04b_7 rfl
theorem dJ8_newLength_cabcc_23 : decode cJ8_newLength_cabcc 23 = .ok (.invokestatic 201, 3) := dz_at (i := 16) dy_p04b_7 rfl
theorem dJ8_newLength_cabcc_26 : decode cJ8_newLength_cabcc 26 = .ok (.ireturn, 1) := dz_at (i := 17) dy_p04b_7 rfl
set_option maxHeartbeats 4000000 in
set_option maxRecDepth 100000 in
theorem k_J8_newLength_cabcc (l : Launch) (dC : Nat → ClassId) (dI : Nat → Nat → Nat) (cB : ClassId) (g : Nat) (sz N : Nat) (hg : g ≤ 18) : Met l yJ8_newLength_cabcc wsJ8_newLength_cabcc ({ frames := 1, cells := 0, slots := 0, locals := 60 }) (va_Pc [.int 16, .int (nI g), .int 18] (xT (dC, dI) xCl [] [(cB, .byte)] sz N)) (va_Qi (fun (r : Int32) (u : Unit) => r = 34) (fun (u : Unit) t => xW (dC, dI) xCl [] (va_A [] sz) t) (va_A [] sz)) 0 0 (va_A [] sz) := by
  refine Met.ofW (cc := cJ8_newLength_cabcc) (maxL := 4) (ret := (some .int)) (by decide +kernel) rfl ?_
  intro p e s m args below meth c s₁ B hml hv
  obtain ⟨rfl, ⟨hsz, hP, hK, hD0, hN, hG⟩, hT⟩ := hv
  have hx := B.exec
  have hb := B.bytes
  have hr := B.returns
  have hts := atoms_spec (ws := wsJ8_newLength_cabcc) B.pre
  have hown : s.vm.findClass RJ8 = some m.cls := findClass_of_methodNamed B.named
  have hlocks := B.notSynchronized
  subst hsz
  have hAN : ∀ q, va_A [] s.heap.size q → N ≤ q := xA_N hD0 hN
  have hD := hD0.self (sz := s.heap.size)
  generalize hAe : va_A [] s.heap.size = A at hD hAN ⊢
  have hA : ∀ q : Nat, s.heap.size ≤ q → A q := fun q h => by rw [← hAe]; exact Or.inr h
  have hS : va_S A s.heap s.heap [] := va_S.rf
  have hP : va_P (dC, dI) xCl [] s.heap := hP
  obtain ⟨hTc, ⟨tO, tT, fO, fT, hTo, hTt, hTa, hTb, hTf, hTg⟩, ⟨adK, adV, hTs, hTr0, hTr1, hTr2⟩, ⟨aE, hTe⟩, hTn⟩ := id hT
  have hl := lv_entry ([.int 16, .int (nI g), .int 18]) (n := 4) (Nat.le_of_ble_eq_true rfl)
  rw [lg_entry_eq]
  generalize (lg_sl ([.int 16, .int (nI g), .int 18]) ++ List.replicate (4 - (lg_sl ([.int 16, .int (nI g), .int 18])).length) Slot.unset).toArray = ls at hl ⊢
  have hl : lv_has ls 4 [(0, .int 16), (1, .int (nI g)), (2, .int 18)] := hl
  refine lv_iload_n hx hb dJ8_newLength_cabcc_0 rfl (lv_at hl 0 rfl) ?_
  refine lv_iload_n hx hb dJ8_newLength_cabcc_1 rfl (lv_at hl 1 rfl) ?_
  refine lv_iload_n hx hb dJ8_newLength_cabcc_2 rfl (lv_at hl 2 rfl) ?_
  refine va_mmax hx hb (hml.trans hl.1.symm) hown (hts (.methodLink RJ8 194 Lib.Math.max.name) (by decide +kernel)) (hts (.static Lib.Math.max.name) (by decide +kernel)) (hts (.initialized "java/lang/Math") (by decide +kernel)) (hts (.code Lib.Math.max.name Lib.Math.max.code 2 (some .int)) (by decide +kernel)) (Nat.le_of_ble_eq_true rfl) (Nat.le_of_ble_eq_true rfl) (show _ ≤ 0 by omega) (show _ ≤ 0 by omega) dJ8_newLength_cabcc_3 ?_
  rw [show ((if ((nI g) : Int32) < 18 then 18 else (nI g)) : Int32) = 18 from jl_max hg]
  refine lv_iadd hx hb dJ8_newLength_cabcc_6 ?_
  rw [show ((16 : Int32) + 18) = 34 from by decide]
  refine lv_istore_n (lv' := [(3, .int 34), (0, .int 16), (1, .int (nI g)), (2, .int 18)]) hx hb dJ8_newLength_cabcc_7 rfl hl (by decide +kernel) rfl (fun ls hl => ?_)
  refine lv_iconst (v := 0) hx hb dJ8_newLength_cabcc_8 (by decide +kernel) ?_
  refine lv_iload_n hx hb dJ8_newLength_cabcc_9 rfl (lv_at hl 0 rfl) ?_
  refine lv_icmp_ge (tgt := 21) hx hb dJ8_newLength_cabcc_10 (by decide +kernel) (fun c9 => absurd c9 (by decide +kernel)) (fun _ => ?_)
  refine lv_iload_n hx hb dJ8_newLength_cabcc_13 rfl (lv_at hl 0 rfl) ?_
  refine lv_ldc (own := RJ8) (index := 200) (v := 2147483639) hx hb hown (hts (.constant RJ8 200 (2147483639)) (by decide +kernel)) dJ8_newLength_cabcc_14 ?_
  refine lv_icmp_gt (tgt := 21) hx hb dJ8_newLength_cabcc_16 (by decide +kernel) (fun c9 => absurd c9 (by decide +kernel)) (fun _ => ?_)
  refine lv_iload_n hx hb dJ8_newLength_cabcc_19 rfl (lv_at hl 0 rfl) ?_
  have hP := xP_nil (D := (dC, dI)) (cl := xCl) (H := s.heap)
  have hD := xD_nil (A := A)
  refine W.widen (k := 0) (n := 0) (by omega) (by omega) ?_
  exact W.iret (v := 34) hx hb hr (fun t ht hW => ⟨⟨_, (), rfl, rfl, by rw [ht]; exact hP, hD⟩, hS.F ht⟩) hS.2.2 dJ8_newLength_cabcc_20
theorem cl_J5_newCapacity_0f7a4_1 : ∀ w ∈ [.fieldLink RJ5 15 "java/lang/AbstractStringBuilder" "value" "[B", .fieldLink RJ5 22 "java/lang/AbstractStringBuilder" "coder" "B", .constant RJ5 39 (2147483647), .methodLink RJ5 114 yJ8_newLength_cabcc, .static yJ8_newLength_cabcc, .initialized RJ8, .code yJ8_newLength_cabcc cJ8_newLength_cabcc 4 (some .int), .methodLink RJ8 194 Lib.Math.max.name, .static Lib.Math.max.name, .initialized "java/lang/Math", .code Lib.Math.max.name Lib.Math.max.code 2 (some .int), .constant RJ8 200 (2147483639), .methodLink RJ8 201 yJ8_hugeLength_7cf53, .static yJ8_hugeLength_7cf53, .code yJ8_hugeLength_7cf53 cJ8_hugeLength_7cf53 3 (some .int)], w ∈ wsJ5_newCapacity_0f7a4 := fun _ h => (List.mem_cons_of_mem _ (List.mem_append_left _ h))
theorem cl_J5_newCapacity_0f7a4_2 : ∀ w ∈ wsJ40, w ∈ wsJ5_newCapacity_0f7a4 := fun _ h => (List.mem_cons_of_mem _ (List.mem_append_right _ h))
set_option maxRecDepth 20000 in
theorem ggJ5_newCapacity_0f7a4_J8_newLength_cabcc : GoodIn wsJ5_newCapacity_0f7a4 wsJ8_newLength_cabcc := goodIn_sub (List.forall_mem_cons.mpr ⟨(cl_J5_newCapacity_0f7a4_1 _ (List.mem_of_getElem? (i := 6) rfl)), List.forall_mem_cons.mpr ⟨(cl_J5_newCapacity_0f7a4_1 _ (List.mem_of_getElem? (i := 7) rfl)), List.forall_mem_cons.mpr ⟨(cl_J5_newCapacity_0f7a4_1 _ (List.mem_of_getElem? (i := 8) rfl)), List.forall_mem_cons.mpr ⟨(cl_J5_newCapacity_0f7a4_1 _ (List.mem_of_getElem? (i := 9) rfl)), List.forall_mem_cons.mpr ⟨(cl_J5_newCapacity_0f7a4_1 _ (List.mem_of_getElem? (i := 10) rfl)), List.forall_mem_cons.mpr ⟨(cl_J5_newCapacity_0f7a4_1 _ (List.mem_of_getElem? (i := 11) rfl)), List.forall_mem_cons.mpr ⟨(cl_J5_newCapacity_0f7a4_1 _ (List.mem_of_getElem? (i := 12) rfl)), List.forall_mem_cons.mpr ⟨(cl_J5_newCapacity_0f7a4_1 _ (List.mem_of_getElem? (i := 13) rfl)), List.forall_mem_cons.mpr ⟨(cl_J5_newCapacity_0f7a4_1 _ (List.mem_of_getElem? (i := 5) rfl)), List.forall_mem_cons.mpr ⟨(cl_J5_newCapacity_0f7a4_1 _ (List.mem_of_getElem? (i := 14) rfl)), fun _ h => absurd h List.not_mem_nil⟩⟩⟩⟩⟩⟩⟩⟩⟩⟩) (by decide +kernel)
set_option maxRecDepth 20000 in
theorem gJ5_newCapacity_0f7a4_J8_newLength_cabcc : GoodIn wsJ5_newCapacity_0f7a4 (va_wsS RJ5 114 yJ8_newLength_cabcc wsJ8_newLength_cabcc) := goodIn_app (goodIn_sub (List.forall_mem_cons.mpr ⟨(cl_J5_newCapacity_0f7a4_1 _ (List.mem_of_getElem? (i := 3) rfl)), List.forall_mem_cons.mpr ⟨(cl_J5_newCapacity_0f7a4_1 _ (List.mem_of_getElem? (i := 4) rfl)), List.forall_mem_cons.mpr ⟨(cl_J5_newCapacity_0f7a4_1 _ (List.mem_of_getElem? (i := 5) rfl)), fun _ h => absurd h List.not_mem_nil⟩⟩⟩) (by decide +kernel)) ggJ5_newCapacity_0f7a4_J8_newLength_cabcc
noncomputable def dz_p04b_8 : List (Nat × Instr × Nat) := [(0, (.aload_n 0, 1)), (1, (.getfield 15, 3)), (4, (.arraylength, 1)), (5, (.istore_n 2, 1)), (6, (.iload_n 1, 1)), (7, (.aload_n 0, 1)), (8, (.getfield 22, 3)), (11, (.ishl, 1)), (12, (.istore_n 3, 1)), (13, (.iload_n 3, 1)), (14, (.iload_n 2, 1)), (15, (.isub, 1)), (16, (.istore 4, 2)), (18, (.iload_n 2, 1)), (19, (.iload 4, 2)), (21, (.iload_n 2, 1)), (22, (.iconst 2, 1)), (23, (.aload_n 0, 1)), (24, (.getfield 22, 3)), (27, (.ishl, 1)), (28, (.iadd, 1)), (29, (.invokestatic 114, 3)), (32, (.istore 5, 2)), (34, (.iload 5, 2)), (36, (.ldc 39, 2)), (38, (.if_icmp .ne 13, 3)), (41, (.new 120, 3)), (44, (.dup, 1)), (45, (.ldc 122, 2)), (47, (.invokespecial 124, 3)), (50, (.athrow, 1)), (51, (.iload 5, 2)), (53, (.aload_n 0, 1)), (54, (.getfield 22, 3)), (57, (.ishr, 1)), (58, (.ireturn, 1))]
theorem dy_p04b_8 : dz_ok cJ5_newCapacity_0f7a4 dz_p04b_8 = true := by decide +kernel
theorem dJ5_newCapacity_0f7a4_0 : decode cJ5_newCapacity_0f7a4 0 = .ok (.aload_n 0, 1) := dz_at (i := 0) dy_p04b_8 rfl
theorem dJ5_newCapacity_0f7a4_1 : decode cJ5_newCapacity_0f7a4 1 = .ok (.getfield 15, 3) := dz_at (i := 1) dy_p04b_8 rfl
theorem dJ5_newCapacity_0f7a4_4 : decode cJ5_newCapacity_0f7a4 4 = .ok (.arraylength, 1) := dz_at (i := 2) dy_p04b_8 rfl
theorem dJ5_newCapacity_0f7a4_5 : decode cJ5_newCapacity_0f7a4 5 = .ok (.istore_n 2, 1) := dz_at (i := 3) dy_p04b_8 rfl
theorem dJ5_newCapacity_0f7a4_6 : decode cJ5_newCapacity_0f7a4 6 = .ok (.iload_n 1, 1) := dz_at (i := 4) dy_p04b_8 rfl
theorem dJ5_newCapacity_0f7a4_7 : decode cJ5_newCapacity_0f7a4 7 = .ok (.aload_n 0, 1) := dz_at (i := 5) dy_p04b_8 rfl
theorem dJ5_newCapacity_0f7a4_8 : decode cJ5_newCapacity_0f7a4 8 = .ok (.getfield 22, 3) := dz_at (i := 6) dy_p04b_8 rfl
theorem dJ5_newCapacity_0f7a4_11 : decode cJ5_newCapacity_0f7a4 11 = .ok (.ishl, 1) := dz_at (i := 7) dy_p04b_8 rfl
theorem dJ5_newCapacity_0f7a4_12 : decode cJ5_newCapacity_0f7a4 12 = .ok (.istore_n 3, 1) := dz_at (i := 8) dy_p04b_8 rfl
theorem dJ5_newCapacity_0f7a4_13 : decode cJ5_newCapacity_0f7a4 13 = .ok (.iload_n 3, 1) := dz_at (i := 9) dy_p04b_8 rfl
theorem dJ5_newCapacity_0f7a4_14 : decode cJ5_newCapacity_0f7a4 14 = .ok (.iload_n 2, 1) := dz_at (i := 10) dy_p04b_8 rfl
theorem dJ5_newCapacity_0f7a4_15 : decode cJ5_newCapacity_0f7a4 15 = .ok (.isub, 1) := dz_at (i := 11) dy_p04b_8 rfl
theorem dJ5_newCapacity_0f7a4_16 : decode cJ5_newCapacity_0f7a4 16 = .ok (.istore 4, 2) := dz_at (i := 12) dy_p04b_8 rfl
theorem dJ5_newCapacity_0f7a4_18 : decode cJ5_newCapacity_0f7a4 18 = .ok (.iload_n 2, 1) := dz_at (i := 13) dy_p04b_8 rfl
theorem dJ5_newCapacity_0f7a4_19 : decode cJ5_newCapacity_0f7a4 19 = .ok (.iload 4, 2) := dz_at (i := 14) dy_p04b_8 rfl
theorem dJ5_newCapacity_0f7a4_21 : decode cJ5_newCapacity_0f7a4 21 = .ok (.iload_n 2, 1) := dz_at (i := 15) dy_p04b_8 rfl
theorem dJ5_newCapacity_0f7a4_22 : decode cJ5_newCapacity_0f7a4 22 = .ok (.iconst 2, 1) := dz_at (i := 16) dy_p04b_8 rfl
theorem dJ5_newCapacity_0f7a4_23 : decode cJ5_newCapacity_0f7a4 23 = .ok (.aload_n 0, 1) := dz_at (i := 17) dy_p04b_8 rfl
theorem dJ5_newCapacity_0f7a4_24 : decode cJ5_newCapacity_0f7a4 24 = .ok (.getfield 22, 3) := dz_at (i := 18) dy_p04b_8 rfl
theorem dJ5_newCapacity_0f7a4_27 : decode cJ5_newCapacity_0f7a4 27 = .ok (.ishl, 1) := dz_at (i := 19) dy_p04b_8 rfl
theorem dJ5_newCapacity_0f7a4_28 : decode cJ5_newCapacity_0f7a4 28 = .ok (.iadd, 1) := dz_at (i := 20) dy_p04b_8 rfl
theorem dJ5_newCapacity_0f7a4_29 : decode cJ5_newCapacity_0f7a4 29 = .ok (.invokestatic 114, 3) := dz_at (i := 21) dy_p04b_8 rfl
theorem dJ5_newCapacity_0f7a4_32 : decode cJ5_newCapacity_0f7a4 32 = .ok (.istore 5, 2) := dz_at (i := 22) dy_p04b_8 rfl
theorem dJ5_newCapacity_0f7a4_34 : decode cJ5_newCapacity_0f7a4 34 = .ok (.iload 5, 2) := dz_at (i := 23) dy_p04b_8 rfl
theorem dJ5_newCapacity_0f7a4_36 : decode cJ5_newCapacity_0f7a4 36 = .ok (.ldc 39, 2) := dz_at (i := 24) dy_p04b_8 rfl
theorem dJ5_newCapacity_0f7a4_38 : decode cJ5_newCapacity_0f7a4 38 = .ok (.if_icmp .ne 13, 3) := dz_at (i := 25) dy_p04b_8 rfl
theorem dJ5_newCapacity_0f7a4_41 : decode cJ5_newCapacity_0f7a4 41 = .ok (.new 120, 3) := dz_at (i := 26) dy_p04b_8 rfl
theorem dJ5_newCapacity_0f7a4_44 : decode cJ5_newCapacity_0f7a4 44 = .ok (.dup, 1) := dz_at (i := 27) dy_p04b_8 rfl
theorem dJ5_newCapacity_0f7a4_45 : decode cJ5_newCapacity_0f7a4 45 = .ok (.ldc 122, 2) := dz_at (i := 28) dy_p04b_8 rfl
theorem dJ5_newCapacity_0f7a4_47 : decode cJ5_newCapacity_0f7a4 47 = .ok (.invokespecial 124, 3) := dz_at (i := 29) dy_p04b_8 rfl
theorem dJ5_newCapacity_0f7a4_50 : decode cJ5_newCapacity_0f7a4 50 = .ok (.athrow, 1) := dz_at (i := 30) dy_p04b_8 rfl
theorem dJ5_newCapacity_0f7a4_51 : decode cJ5_newCapacity_0f7a4 51 = .ok (.iload 5, 2) := dz_at (i := 31) dy_p04b_8 rfl
theorem dJ5_newCapacity_0f7a4_53 : decode cJ5_newCapacity_0f7a4 53 = .ok (.aload_n 0, 1) := dz_at (i := 32) dy_p04b_8 rfl
theorem dJ5_newCapacity_0f7a4_54 : decode cJ5_newCapacity_0f7a4 54 = .ok (.getfield 22, 3) := dz_at (i := 33) dy_p04b_8 rfl
theorem dJ5_newCapacity_0f7a4_57 : decode cJ5_newCapacity_0f7a4 57 = .ok (.ishr, 1) := dz_at (i := 34) dy_p04b_8 rfl
theorem dJ5_newCapacity_0f7a4_58 : decode cJ5_newCapacity_0f7a4 58 = .ok (.ireturn, 1) := dz_at (i := 35) dy_p04b_8 rfl
set_option maxHeartbeats 4000000 in
set_option maxRecDepth 100000 in
theorem k_J5_newCapacity_0f7a4 (l : Launch) (dC : Nat → ClassId) (dI : Nat → Nat → Nat) (cB : ClassId) (h : Nat) (v : Nat) (n : Int32) (f : Nat → Int32) (q : Nat) (sz N : Nat) (hq1 : 16 < q) (hq2 : q ≤ 34) : Met l yJ5_newCapacity_0f7a4 wsJ5_newCapacity_0f7a4 ({ frames := 2, cells := 0, slots := 0, locals := 83 }) (va_Pc [.ref h, .int (nI q)] (xT (dC, dI) xCl [(h, eB v n), (v, eY cB 16 f)] [(cB, .byte)] sz N)) (va_Qi (fun (r : Int32) (u : Unit) => r = 34) (fun (u : Unit) t => xW (dC, dI) xCl [(h, eB v n), (v, eY cB 16 f)] (va_A [(h, eB v n), (v, eY cB 16 f)] sz) t) (va_A [(h, eB v n), (v, eY cB 16 f)] sz)) 0 0 (va_A [(h, eB v n), (v, eY cB 16 f)] sz) := by
  refine Met.ofW (cc := cJ5_newCapacity_0f7a4) (maxL := 6) (ret := (some .int)) (by decide +kernel) rfl ?_
  intro p e s m args below meth c s₁ B hml hv
  obtain ⟨rfl, ⟨hsz, hP, hK, hD0, hN, hG⟩, hT⟩ := hv
  have hx := B.exec
  have hb := B.bytes
  have hr := B.returns
  have hts := atoms_spec (ws := wsJ5_newCapacity_0f7a4) B.pre
  have hown : s.vm.findClass RJ5 = some m.cls := findClass_of_methodNamed B.named
  have hlocks := B.notSynchronized
  subst hsz
  have hAN : ∀ q, va_A [(h, eB v n), (v, eY cB 16 f)] s.heap.size q → N ≤ q := xA_N hD0 hN
  have hD := hD0.self (sz := s.heap.size)
  generalize hAe : va_A [(h, eB v n), (v, eY cB 16 f)] s.heap.size = A at hD hAN ⊢
  have hA : ∀ q : Nat, s.heap.size ≤ q → A q := fun q h => by rw [← hAe]; exact Or.inr h
  have hS : va_S A s.heap s.heap [] := va_S.rf
  have hP : va_P (dC, dI) xCl [(h, eB v n), (v, eY cB 16 f)] s.heap := hP
  obtain ⟨hTc, ⟨tO, tT, fO, fT, hTo, hTt, hTa, hTb, hTf, hTg⟩, ⟨adK, adV, hTs, hTr0, hTr1, hTr2⟩, ⟨aE, hTe⟩, hTn⟩ := id hT
  have hl := lv_entry ([.ref h, .int (nI q)]) (n := 6) (Nat.le_of_ble_eq_true rfl)
  rw [lg_entry_eq]
  generalize (lg_sl ([.ref h, .int (nI q)]) ++ List.replicate (6 - (lg_sl ([.ref h, .int (nI q)])).length) Slot.unset).toArray = ls at hl ⊢
  have hl : lv_has ls 6 [(0, .ref h), (1, .int (nI q))] := hl
  refine lv_aload_n hx hb dJ5_newCapacity_0f7a4_0 rfl (lv_at hl 0 rfl) ?_
  refine va_get (D := (dC, dI)) (ci := 1) (v := .ref v) (C := RJ4) (T := TJ4) (N := 4) hx hb hts (by decide +kernel) hown hK hP 0 rfl rfl 0 (by decide +kernel) (hts (.fieldLink RJ5 15 "java/lang/AbstractStringBuilder" "value" "[B") (by decide +kernel)) (fun _ h9 => h9) rfl dJ5_newCapacity_0f7a4_1 ?_
  refine va_alen hx hb hK hP 1 0 rfl rfl (v := 16) rfl dJ5_newCapacity_0f7a4_4 ?_
  refine lv_istore_n (lv' := [(2, .int 16), (0, .ref h), (1, .int (nI q))]) hx hb dJ5_newCapacity_0f7a4_5 rfl hl (by decide +kernel) rfl (fun ls hl => ?_)
  refine lv_iload_n hx hb dJ5_newCapacity_0f7a4_6 rfl (lv_at hl 2 rfl) ?_
  refine lv_aload_n hx hb dJ5_newCapacity_0f7a4_7 rfl (lv_at hl 1 rfl) ?_
  refine va_get (D := (dC, dI)) (ci := 1) (v := .int 0) (C := RJ4) (T := TJ4) (N := 4) hx hb hts (by decide +kernel) hown hK hP 0 rfl rfl 1 (by decide +kernel) (hts (.fieldLink RJ5 22 "java/lang/AbstractStringBuilder" "coder" "B") (by decide +kernel)) (fun _ h9 => h9) rfl dJ5_newCapacity_0f7a4_8 ?_
  refine lv_ishl hx hb dJ5_newCapacity_0f7a4_11 ?_
  rw [show ((((nI q) : Int32) <<< ((0 : Int32) &&& 31)) : Int32) = (nI q) from sb_shl0 _]
  refine lv_istore_n (lv' := [(3, .int (nI q)), (2, .int 16), (0, .ref h), (1, .int (nI q))]) hx hb dJ5_newCapacity_0f7a4_12 rfl hl (by decide +kernel) rfl (fun ls hl => ?_)
  refine lv_iload_n hx hb dJ5_newCapacity_0f7a4_13 rfl (lv_at hl 0 rfl) ?_
  refine lv_iload_n hx hb dJ5_newCapacity_0f7a4_14 rfl (lv_at hl 1 rfl) ?_
  refine lv_isub hx hb dJ5_newCapacity_0f7a4_15 ?_
  rw [show (((nI q) - 16) : Int32) = (nI (q - 16)) from (show nI q - nI 16 = nI (q - 16) from pk_sub (by omega))]
  refine lv_istore (lv' := [(4, .int (nI (q - 16))), (3, .int (nI q)), (2, .int 16), (0, .ref h), (1, .int (nI q))]) hx hb dJ5_newCapacity_0f7a4_16 hl (by decide +kernel) rfl (fun ls hl => ?_)
  refine lv_iload_n hx hb dJ5_newCapacity_0f7a4_18 rfl (lv_at hl 2 rfl) ?_
  refine lv_iload hx hb dJ5_newCapacity_0f7a4_19 (lv_at hl 0 rfl) ?_
  refine lv_iload_n hx hb dJ5_newCapacity_0f7a4_21 rfl (lv_at hl 2 rfl) ?_
  refine lv_iconst (v := 2) hx hb dJ5_newCapacity_0f7a4_22 (by decide +kernel) ?_
  refine lv_aload_n hx hb dJ5_newCapacity_0f7a4_23 rfl (lv_at hl 3 rfl) ?_
  refine va_get (D := (dC, dI)) (ci := 1) (v := .int 0) (C := RJ4) (T := TJ4) (N := 4) hx hb hts (by decide +kernel) hown hK hP 0 rfl rfl 1 (by decide +kernel) (hts (.fieldLink RJ5 22 "java/lang/AbstractStringBuilder" "coder" "B") (by decide +kernel)) (fun _ h9 => h9) rfl dJ5_newCapacity_0f7a4_24 ?_
  refine lv_ishl hx hb dJ5_newCapacity_0f7a4_27 ?_
  rw [show (((2 : Int32) <<< ((0 : Int32) &&& 31)) : Int32) = 2 from by decide]
  refine lv_iadd hx hb dJ5_newCapacity_0f7a4_28 ?_
  rw [show ((16 : Int32) + 2) = 18 from by decide]
  have hPc := xP_nil (D := (dC, dI)) (cl := xCl) (H := s.heap)
  have hDc := xD_nil (A := A)
  have hKc := hK.sub (tys' := [(cB, .byte)]) [0] rfl
  have hFc := va_free (wc := []) hD hS hA [] rfl
  refine va_calli (va_runS (As := [.int 16, .int (nI (q - 16)), .int 18]) (rest := []) ⟨hx, hb, hml, hown, hts⟩ (k_J8_newLength_cabcc l dC dI cB (q - 16) s.heap.size N (by omega)) (va_cwS 3 hts gJ5_newCapacity_0f7a4_J8_newLength_cabcc rfl rfl rfl (by decide +kernel) ⟨Nat.le_of_ble_eq_true rfl, Nat.le_of_ble_eq_true rfl⟩) (xT.preS hKc hPc hDc hAN (Nat.le_trans hN hS.1) (hG.kept hS hAN) (hT.kept hS hAN)) rfl rfl hl.1 rfl (lv_room (Nat.le_of_ble_eq_true rfl)) dJ5_newCapacity_0f7a4_29 ⟨(show _ ≤ 0 by omega), (show _ ≤ 0 by omega)⟩) hS (fun q _ h => hFc q h) hFc (fun r_1 u_2 t H locs ht hvm hw hB hz hk hS => ?_)
  obtain ⟨hP1, hD1⟩ := hB
  rw [ht] at hP1
  obtain ⟨hP, hD⟩ := va_join (wr := [(h, eB v n), (v, eY cB 16 f)]) (w1 := []) hP hD [] [0, 1] rfl rfl (by decide +kernel) (by decide +kernel) hk hFc hP1 hD1
  have hP : va_P (dC, dI) xCl [(h, eB v n), (v, eY cB 16 f)] H := hP
  have hD : va_D A [(h, eB v n), (v, eY cB 16 f)] := hD
  have hw : r_1 = 34 := hw
  rw [hw]
  refine lv_istore (lv' := [(5, .int 34), (4, .int (nI (q - 16))), (3, .int (nI q)), (2, .int 16), (0, .ref h), (1, .int (nI q))]) hx hb dJ5_newCapacity_0f7a4_32 hl (by decide +kernel) rfl (fun ls hl => ?_)
  refine lv_iload hx hb dJ5_newCapacity_0f7a4_34 (lv_at hl 0 rfl) ?_
  refine lv_ldc (own := RJ5) (index := 39) (v := 2147483647) hx hb hown (hts (.constant RJ5 39 (2147483647)) (by decide +kernel)) dJ5_newCapacity_0f7a4_36 ?_
  refine lv_icmp_ne (tgt := 51) hx hb dJ5_newCapacity_0f7a4_38 (by decide +kernel) (fun _ => ?_) (fun c9 => absurd c9 (by decide +kernel))
  refine lv_iload hx hb dJ5_newCapacity_0f7a4_51 (lv_at hl 0 rfl) ?_
  refine lv_aload_n hx hb dJ5_newCapacity_0f7a4_53 rfl (lv_at hl 4 rfl) ?_
  refine va_get (D := (dC, dI)) (ci := 1) (v := .int 0) (C := RJ4) (T := TJ4) (N := 4) hx hb hts (by decide +kernel) hown hK hP 0 rfl rfl 1 (by decide +kernel) (hts (.fieldLink RJ5 22 "java/lang/AbstractStringBuilder" "coder" "B") (by decide +kernel)) (fun _ h9 => h9) rfl dJ5_newCapacity_0f7a4_54 ?_
  refine lv_ishr hx hb dJ5_newCapacity_0f7a4_57 ?_
  rw [show (((34 : Int32) >>> ((0 : Int32) &&& 31)) : Int32) = 34 from by decide]
  have hP := hP.sub (ws' := [(h, eB v n), (v, eY cB 16 f)]) [0, 1] rfl
  have hD := hD.sub (ws' := [(h, eB v n), (v, eY cB 16 f)]) [0, 1] (by decide +kernel) rfl
  refine W.widen (k := 0) (n := 0) (by omega) (by omega) ?_
  exact W.iret (v := 34) hx hb hr (fun t ht hW => ⟨⟨_, (), rfl, rfl, by rw [ht]; exact hP, hD⟩, hS.F ht⟩) hS.2.2 dJ5_newCapacity_0f7a4_58
noncomputable def dz_p04b_9 : List (Nat × Instr × Nat) := [(0, (.iload_n 1, 1)), (1, (.aload_n 0, 1)), (2, (.arraylength, 1)), (3, (.if_icmp .ne 11, 3)), (6, (.aload_n 0, 1)), (7, (.invokevirtual 310, 3)), (10, (.checkcast 311, 3)), (13, (.areturn, 1)), (14, (.iload_n 1, 1)), (15, (.newarray .byte, 2)), (17, (.astore_n 2, 1)), (18, (.aload_n 0, 1)), (19, (.iconst 0, 1)), (20, (.aload_n 2, 1)), (21, (.iconst 0, 1)), (22, (.aload_n 0, 1)), (23, (.arraylength, 1)), (24, (.iload_n 1, 1)), (25, (.invokestatic 304, 3)), (28, (.invokestatic 150, 3)), (31, (.aload_n 2, 1)), (32, (.areturn, 1))]
theorem dy_p04b_9 : dz_ok cJ7_copyOf_9075b dz_p04b_9 = true := by decide +kernel
theorem dJ7_copyOf_9075b_0 : decode cJ7_copyOf_9075b 0 = .ok (.iload_n 1, 1) := dz_at (i := 0) dy_p04b_9 rfl
theorem dJ7_copyOf_9075b_1 : decode cJ7_copyOf_9075b 1 = .ok (.aload_n 0, 1) := dz_at (i := 1) dy_p04b_9 rfl
theorem dJ7_copyOf_9075b_2 : decode cJ7_copyOf_9075b 2 = .ok (.arraylength, 1) := dz_at (i := 2) dy_p04b_9 rfl
theorem dJ7_copyOf_9075b_3 : decode cJ7_copyOf_9075b 3 = .ok (.if_icmp .ne 11, 3) := dz_at (i := 3) dy_p04b_9 rfl
theorem dJ7_copyOf_9075b_6 : decode cJ7_copyOf_9075b 6 = .ok (.aload_n 0, 1) := dz_at (i := 4) dy_p04b_9 rfl
theorem dJ7_copyOf_9075b_7 : decode cJ7_copyOf_9075b 7 = .ok (.invokevirtual 310, 3) := dz_at (i := 5) dy_p04b_9 rfl
theorem dJ7_copyOf_9075b_10 : decode cJ7_copyOf_9075b 10 = .ok (.checkcast 311, 3) := dz_at (i := 6) dy_p04b_9 rfl
theorem dJ7_copyOf_9075b_13 : decode cJ7_copyOf_9075b 13 = .ok (.areturn, 1) := dz_at (i := 7) dy_p04b_9 rfl
theorem dJ7_copyOf_9075b_14 : decode cJ7_copyOf_9075b 14 = .ok (.iload_n 1, 1) := dz_at (i := 8) dy_p04b_9 rfl
theorem dJ7_copyOf_9075b_15 : decode cJ7_copyOf_9075b 15 = .ok (.newarray .byte, 2) := dz_at (i := 9) dy_p04b_9 rfl
theorem dJ7_copyOf_9075b_17 : decode cJ7_copyOf_9075b 17 = .ok (.astore_n 2, 1) := dz_at (i := 10) dy_p04b_9 rfl
theorem dJ7_copyOf_9075b_18 : decode cJ7_copyOf_9075b 18 = .ok (.aload_n 0, 1) := dz_at (i := 11) dy_p04b_9 rfl
theorem dJ7_copyOf_9075b_19 : decode cJ7_copyOf_9075b 19 = .ok (.iconst 0, 1) := dz_at (i := 12) dy_p04b_9 rfl
theorem dJ7_copyOf_9075b_20 : decode cJ7_copyOf_9075b 20 = .ok (.aload_n 2, 1) := dz_at (i := 13) dy_p04b_9 rfl
theorem dJ7_copyOf_9075b_21 : decode cJ7_copyOf_9075b 21 = .ok (.iconst 0, 1) := dz_at (i := 14) dy_p04b_9 rfl
theorem dJ7_copyOf_9075b_22 : decode cJ7_copyOf_9075b 22 = .ok (.aload_n 0, 1) := dz_at (i := 15) dy_p04b_9 rfl
theorem dJ7_copyOf_9075b_23 : decode cJ7_copyOf_9075b 23 = .ok (.arraylength, 1) := dz_at (i := 16) dy_p04b_9 rfl
theorem dJ7_copyOf_9075b_24 : decode cJ7_copyOf_9075b 24 = .ok (.iload_n 1, 1) := dz_at (i := 17) dy_p04b_9 rfl
theorem dJ7_copyOf_9075b_25 : decode cJ7_copyOf_9075b 25 = .ok (.invokestatic 304, 3) := dz_at (i := 18) dy_p04b_9 rfl
theorem dJ7_copyOf_9075b_28 : decode cJ7_copyOf_9075b 28 = .ok (.invokestatic 150, 3) := dz_at (i := 19) dy_p04b_9 rfl
theorem dJ7_copyOf_9075b_31 : decode cJ7_copyOf_9075b 31 = .ok (.aload_n 2, 1) := dz_at (i := 20) dy_p04b_9 rfl
theorem dJ7_copyOf_9075b_32 : decode cJ7_copyOf_9075b 32 = .ok (.areturn, 1) := dz_at (i := 21) dy_p04b_9 rfl
set_option maxHeartbeats 4000000 in
set_option maxRecDepth 100000 in
theorem k_J7_copyOf_9075b (l : Launch) (dC : Nat → ClassId) (dI : Nat → Nat → Nat) (cB : ClassId) (v : Nat) (f : Nat → Int32) (sz N : Nat) (hf : sb_Fit f) : Met l yJ7_copyOf_9075b wsJ7_copyOf_9075b ({ frames := 1, cells := 1, slots := 34, locals := 100 }) (va_Pc [.ref v, .int 34] (xT (dC, dI) xCl [(v, eY cB 16 f)] [(cB, .byte)] sz N)) (va_Qr (fun (u : (Nat → Int32)) => sb_Fit u) (fun (u : (Nat → Int32)) a t => xW (dC, dI) xCl [(a, eY cB 34 u)] (va_A [(v, eY cB 16 f)] sz) t) (va_A [(v, eY cB 16 f)] sz)) 1 34 (va_A [(v, eY cB 16 f)] sz) := by
  refine Met.ofW (cc := cJ7_copyOf_9075b) (maxL := 3) (ret := (some (.array .byte))) (by decide +kernel) rfl ?_
  intro p e s m args below meth c s₁ B hml hv
  obtain ⟨rfl, ⟨hsz, hP, hK, hD0, hN, hG⟩, hT⟩ := hv
  have hx := B.exec
  have hb := B.bytes
  have hr := B.returns
  have hts := atoms_spec (ws := wsJ7_copyOf_9075b) B.pre
  have hown : s.vm.findClass RJ7 = some m.cls := findClass_of_methodNamed B.named
  have hlocks := B.notSynchronized
  subst hsz
  have hAN : ∀ q, va_A [(v, eY cB 16 f)] s.heap.size q → N ≤ q := xA_N hD0 hN
  have hD := hD0.self (sz := s.heap.size)
  generalize hAe : va_A [(v, eY cB 16 f)] s.heap.size = A at hD hAN ⊢
  have hA : ∀ q : Nat, s.heap.size ≤ q → A q := fun q h => by rw [← hAe]; exact Or.inr h
  have hS : va_S A s.heap s.heap [] := va_S.rf
  have hP : va_P (dC, dI) xCl [(v, eY cB 16 f)] s.heap := hP
  obtain ⟨hTc, ⟨tO, tT, fO, fT, hTo, hTt, hTa, hTb, hTf, hTg⟩, ⟨adK, adV, hTs, hTr0, hTr1, hTr2⟩, ⟨aE, hTe⟩, hTn⟩ := id hT
  have hl := lv_entry ([.ref v, .int 34]) (n := 3) (Nat.le_of_ble_eq_true rfl)
  rw [lg_entry_eq]
  generalize (lg_sl ([.ref v, .int 34]) ++ List.replicate (3 - (lg_sl ([.ref v, .int 34])).length) Slot.unset).toArray = ls at hl ⊢
  have hl : lv_has ls 3 [(0, .ref v), (1, .int 34)] := hl
  refine lv_iload_n hx hb dJ7_copyOf_9075b_0 rfl (lv_at hl 1 rfl) ?_
  refine lv_aload_n hx hb dJ7_copyOf_9075b_1 rfl (lv_at hl 0 rfl) ?_
  refine va_alen hx hb hK hP 0 0 rfl rfl (v := 16) rfl dJ7_copyOf_9075b_2 ?_
  refine lv_icmp_ne (tgt := 14) hx hb dJ7_copyOf_9075b_3 (by decide +kernel) (fun _ => ?_) (fun c9 => absurd c9 (by decide +kernel))
  refine lv_iload_n hx hb dJ7_copyOf_9075b_14 rfl (lv_at hl 1 rfl) ?_
  refine va_newa (atype := .byte) (a0 := (34, .inl (fun _ => 0))) (N' := 34) hx hb (hts (.arrayClass .byte) (by decide +kernel)) rfl hK hP hD hS hA (fun cA => rfl) (by decide +kernel) (by decide +kernel) (by decide +kernel) (show _ ≤ 1 by omega) (show _ ≤ 34 by omega) dJ7_copyOf_9075b_15 (fun q15 cA H hK9 hP hD hS => ?_)
  have hcA : cA = cB := Option.some.inj ((((hK9.2 1 _ rfl).2).symm).trans (hK.2 0 _ rfl).2)
  rw [hcA] at hP hD
  have hP : va_P (dC, dI) xCl [(v, eY cB 16 f), (q15, eY cB 34 (fun _ => 0))] H := hP
  have hD : va_D A [(v, eY cB 16 f), (q15, eY cB 34 (fun _ => 0))] := hD
  refine lv_astore_n (lv' := [(2, .ref q15), (0, .ref v), (1, .int 34)]) hx hb dJ7_copyOf_9075b_17 rfl hl (by decide +kernel) rfl (fun ls hl => ?_)
  refine lv_aload_n hx hb dJ7_copyOf_9075b_18 rfl (lv_at hl 1 rfl) ?_
  refine lv_iconst (v := 0) hx hb dJ7_copyOf_9075b_19 (by decide +kernel) ?_
  refine lv_aload_n hx hb dJ7_copyOf_9075b_20 rfl (lv_at hl 0 rfl) ?_
  refine lv_iconst (v := 0) hx hb dJ7_copyOf_9075b_21 (by decide +kernel) ?_
  refine lv_aload_n hx hb dJ7_copyOf_9075b_22 rfl (lv_at hl 1 rfl) ?_
  refine va_alen hx hb hK hP 0 0 rfl rfl (v := 16) rfl dJ7_copyOf_9075b_23 ?_
  refine lv_iload_n hx hb dJ7_copyOf_9075b_24 rfl (lv_at hl 2 rfl) ?_
  refine va_mmin hx hb (hml.trans hl.1.symm) hown (hts (.methodLink RJ7 304 Lib.Math.min.name) (by decide +kernel)) (hts (.static Lib.Math.min.name) (by decide +kernel)) (hts (.initialized "java/lang/Math") (by decide +kernel)) (hts (.code Lib.Math.min.name Lib.Math.min.code 2 (some .int)) (by decide +kernel)) (Nat.le_of_ble_eq_true rfl) (Nat.le_of_ble_eq_true rfl) (show _ ≤ 1 by omega) (show _ ≤ 34 by omega) dJ7_copyOf_9075b_25 ?_
  rw [show ((if (34 : Int32) < 16 then 34 else 16) : Int32) = 16 from by decide]
  refine va_copyi hx hb (hml.trans hl.1.symm) hown (hts (.methodLink RJ7 150 arraycopyName) (by decide +kernel)) (hts (.native arraycopyName) (by decide +kernel)) (hts (.static arraycopyName) (by decide +kernel)) (hts (.initialized "java/lang/System") (by decide +kernel)) hK hP hD hS 0 1 0 0 (f := f) (g := (fun _ => 0)) rfl rfl rfl rfl rfl (by decide +kernel) (by decide +kernel) (by decide +kernel) (by decide +kernel) (by decide +kernel) (fun i _ => hf _) (Nat.le_of_ble_eq_true rfl) (by decide +kernel) dJ7_copyOf_9075b_28 (fun H locs hP hD hS => ?_)
  obtain ⟨f_1, hf_1⟩ : ∃ z : Nat → Int32, z = va_cpy f (fun _ => 0) (0 : Int32).toNatClampNeg (0 : Int32).toNatClampNeg (16 : Int32).toNatClampNeg := ⟨_, rfl⟩
  have hf_2 : sb_Fit f_1 := by rw [hf_1]; exact sb_fitC hf sb_fit0
  have hP : va_P (dC, dI) xCl [(v, eY cB 16 f), (q15, eY cB 34 (va_cpy f (fun _ => 0) (0 : Int32).toNatClampNeg (0 : Int32).toNatClampNeg (16 : Int32).toNatClampNeg))] H := hP
  have hD : va_D A [(v, eY cB 16 f), (q15, eY cB 34 (va_cpy f (fun _ => 0) (0 : Int32).toNatClampNeg (0 : Int32).toNatClampNeg (16 : Int32).toNatClampNeg))] := hD
  rw [← hf_1] at hP hD
  have hP : va_P (dC, dI) xCl [(v, eY cB 16 f), (q15, eY cB 34 f_1)] H := hP
  have hD : va_D A [(v, eY cB 16 f), (q15, eY cB 34 f_1)] := hD
  refine lv_aload_n hx hb dJ7_copyOf_9075b_31 rfl (lv_at hl 0 rfl) ?_
  have hP := hP.sub (ws' := [(q15, eY cB 34 f_1)]) [1] rfl
  have hD := hD.sub (ws' := [(q15, eY cB 34 f_1)]) [1] (by decide +kernel) rfl
  refine W.widen (k := 1) (n := 34) (by omega) (by omega) ?_
  exact W.aret (v := .ref q15) hx hb hr (Or.inr ⟨_, rfl⟩) (Or.inr ⟨_, rfl⟩) (fun t ht hW => ⟨⟨f_1, _, rfl, hf_2, ⟨by rw [ht]; exact hP, hD⟩⟩, hS.F ht⟩) hS.2.2 dJ7_copyOf_9075b_32
theorem cl_J5_ensureCapacityInternal_d00df_1 : ∀ w ∈ wsJ5_ensureCapacityInternal_d00df_r1, w ∈ wsJ5_ensureCapacityInternal_d00df := fun _ h => (List.mem_cons_of_mem _ (List.mem_append_left _ (List.mem_append_left _ h)))
theorem cl_J5_ensureCapacityInternal_d00df_2 : ∀ w ∈ wsJ5_ensureCapacityInternal_d00df_r2, w ∈ wsJ5_ensureCapacityInternal_d00df := fun _ h => (List.mem_cons_of_mem _ (List.mem_append_left _ (List.mem_append_right _ h)))
theorem cl_J5_ensureCapacityInternal_d00df_3 : ∀ w ∈ wsJ40, w ∈ wsJ5_ensureCapacityInternal_d00df := fun _ h => (List.mem_cons_of_mem _ (List.mem_append_right _ h))
set_option maxRecDepth 20000 in
theorem ggJ5_ensureCapacityInternal_d00df_J5_newCapacity_0f7a4 : GoodIn wsJ5_ensureCapacityInternal_d00df wsJ5_newCapacity_0f7a4 := goodIn_sub (List.forall_mem_cons.mpr ⟨(cl_J5_ensureCapacityInternal_d00df_1 _ (List.mem_of_getElem? (i := 7) rfl)), fun w h => (List.mem_append.mp h).elim ((List.forall_mem_cons.mpr ⟨(cl_J5_ensureCapacityInternal_d00df_1 _ (List.mem_of_getElem? (i := 0) rfl)), List.forall_mem_cons.mpr ⟨(cl_J5_ensureCapacityInternal_d00df_1 _ (List.mem_of_getElem? (i := 1) rfl)), List.forall_mem_cons.mpr ⟨(cl_J5_ensureCapacityInternal_d00df_1 _ (List.mem_of_getElem? (i := 8) rfl)), List.forall_mem_cons.mpr ⟨(cl_J5_ensureCapacityInternal_d00df_1 _ (List.mem_of_getElem? (i := 9) rfl)), List.forall_mem_cons.mpr ⟨(cl_J5_ensureCapacityInternal_d00df_1 _ (List.mem_of_getElem? (i := 10) rfl)), List.forall_mem_cons.mpr ⟨(cl_J5_ensureCapacityInternal_d00df_1 _ (List.mem_of_getElem? (i := 11) rfl)), List.forall_mem_cons.mpr ⟨(cl_J5_ensureCapacityInternal_d00df_1 _ (List.mem_of_getElem? (i := 12) rfl)), List.forall_mem_cons.mpr ⟨(cl_J5_ensureCapacityInternal_d00df_1 _ (List.mem_of_getElem? (i := 13) rfl)), List.forall_mem_cons.mpr ⟨(cl_J5_ensureCapacityInternal_d00df_1 _ (List.mem_of_getElem? (i := 14) rfl)), List.forall_mem_cons.mpr ⟨(cl_J5_ensureCapacityInternal_d00df_1 _ (List.mem_of_getElem? (i := 15) rfl)), List.forall_mem_cons.mpr ⟨(cl_J5_ensureCapacityInternal_d00df_1 _ (List.mem_of_getElem? (i := 16) rfl)), List.forall_mem_cons.mpr ⟨(cl_J5_ensureCapacityInternal_d00df_1 _ (List.mem_of_getElem? (i := 17) rfl)), List.forall_mem_cons.mpr ⟨(cl_J5_ensureCapacityInternal_d00df_1 _ (List.mem_of_getElem? (i := 18) rfl)), List.forall_mem_cons.mpr ⟨(cl_J5_ensureCapacityInternal_d00df_1 _ (List.mem_of_getElem? (i := 19) rfl)), List.forall_mem_cons.mpr ⟨(cl_J5_ensureCapacityInternal_d00df_1 _ (List.mem_of_getElem? (i := 20) rfl)), fun _ h => absurd h List.not_mem_nil⟩⟩⟩⟩⟩⟩⟩⟩⟩⟩⟩⟩⟩⟩⟩) w) ((cl_J5_ensureCapacityInternal_d00df_3) w)⟩) (by decide +kernel)
set_option maxRecDepth 20000 in
theorem gJ5_ensureCapacityInternal_d00df_J5_newCapacity_0f7a4_u104J4 : GoodIn wsJ5_ensureCapacityInternal_d00df (va_wsU RJ5 104 RJ4 "java/lang/AbstractStringBuilder" ⟨"java/lang/AbstractStringBuilder", "newCapacity", "(I)I"⟩ yJ5_newCapacity_0f7a4 wsJ5_newCapacity_0f7a4) := goodIn_app (goodIn_of _ (by decide +kernel)) ggJ5_ensureCapacityInternal_d00df_J5_newCapacity_0f7a4
set_option maxRecDepth 20000 in
theorem ggJ5_ensureCapacityInternal_d00df_J7_copyOf_9075b : GoodIn wsJ5_ensureCapacityInternal_d00df wsJ7_copyOf_9075b := goodIn_sub (List.forall_mem_cons.mpr ⟨(cl_J5_ensureCapacityInternal_d00df_2 _ (List.mem_of_getElem? (i := 0) rfl)), List.forall_mem_cons.mpr ⟨(cl_J5_ensureCapacityInternal_d00df_2 _ (List.mem_of_getElem? (i := 1) rfl)), List.forall_mem_cons.mpr ⟨(cl_J5_ensureCapacityInternal_d00df_2 _ (List.mem_of_getElem? (i := 2) rfl)), List.forall_mem_cons.mpr ⟨(cl_J5_ensureCapacityInternal_d00df_2 _ (List.mem_of_getElem? (i := 3) rfl)), List.forall_mem_cons.mpr ⟨(cl_J5_ensureCapacityInternal_d00df_2 _ (List.mem_of_getElem? (i := 4) rfl)), List.forall_mem_cons.mpr ⟨(cl_J5_ensureCapacityInternal_d00df_2 _ (List.mem_of_getElem? (i := 5) rfl)), List.forall_mem_cons.mpr ⟨(cl_J5_ensureCapacityInternal_d00df_2 _ (List.mem_of_getElem? (i := 6) rfl)), List.forall_mem_cons.mpr ⟨(cl_J5_ensureCapacityInternal_d00df_2 _ (List.mem_of_getElem? (i := 7) rfl)), List.forall_mem_cons.mpr ⟨(cl_J5_ensureCapacityInternal_d00df_2 _ (List.mem_of_getElem? (i := 8) rfl)), List.forall_mem_cons.mpr ⟨(cl_J5_ensureCapacityInternal_d00df_2 _ (List.mem_of_getElem? (i := 9) rfl)), List.forall_mem_cons.mpr ⟨(cl_J5_ensureCapacityInternal_d00df_1 _ (List.mem_of_getElem? (i := 15) rfl)), List.forall_mem_cons.mpr ⟨(cl_J5_ensureCapacityInternal_d00df_2 _ (List.mem_of_getElem? (i := 10) rfl)), List.forall_mem_cons.mpr ⟨(cl_J5_ensureCapacityInternal_d00df_2 _ (List.mem_of_getElem? (i := 11) rfl)), List.forall_mem_cons.mpr ⟨(cl_J5_ensureCapacityInternal_d00df_2 _ (List.mem_of_getElem? (i := 12) rfl)), List.forall_mem_cons.mpr ⟨(cl_J5_ensureCapacityInternal_d00df_2 _ (List.mem_of_getElem? (i := 13) rfl)), List.forall_mem_cons.mpr ⟨(cl_J5_ensureCapacityInternal_d00df_2 _ (List.mem_of_getElem? (i := 14) rfl)), fun _ h => absurd h List.not_mem_nil⟩⟩⟩⟩⟩⟩⟩⟩⟩⟩⟩⟩⟩⟩⟩⟩) (by decide +kernel)
set_option maxRecDepth 20000 in
theorem gJ5_ensureCapacityInternal_d00df_J7_copyOf_9075b : GoodIn wsJ5_ensureCapacityInternal_d00df (va_wsS RJ5 108 yJ7_copyOf_9075b wsJ7_copyOf_9075b) := goodIn_app (goodIn_sub (List.forall_mem_cons.mpr ⟨(cl_J5_ensureCapacityInternal_d00df_1 _ (List.mem_of_getElem? (i := 21) rfl)), List.forall_mem_cons.mpr ⟨(cl_J5_ensureCapacityInternal_d00df_1 _ (List.mem_of_getElem? (i := 22) rfl)), List.forall_mem_cons.mpr ⟨(cl_J5_ensureCapacityInternal_d00df_1 _ (List.mem_of_getElem? (i := 23) rfl)), fun _ h => absurd h List.not_mem_nil⟩⟩⟩) (by decide +kernel)) ggJ5_ensureCapacityInternal_d00df_J7_copyOf_9075b
noncomputable def dz_p04b_10 : List (Nat × Instr × Nat) := [(0, (.aload_n 0, 1)), (1, (.getfield 15, 3)), (4, (.arraylength, 1)), (5, (.aload_n 0, 1)), (6, (.getfield 22, 3)), (9, (.ishr, 1)), (10, (.istore_n 2, 1)), (11, (.iload_n 1, 1)), (12, (.iload_n 2, 1)), (13, (.isub, 1)), (14, (.ifCond .le 24, 3)), (17, (.aload_n 0, 1)), (18, (.aload_n 0, 1)), (19, (.getfield 15, 3)), (22, (.aload_n 0, 1)), (23, (.iload_n 1, 1)), (24, (.invokevirtual 104, 3)), (27, (.aload_n 0, 1)), (28, (.getfield 22, 3)), (31, (.ishl, 1)), (32, (.invokestatic 108, 3)), (35, (.putfield 15, 3)), (38, (.return_, 1))]
theorem dy_p04b_10 : dz_ok cJ5_ensureCapacityInternal_d00df dz_p04b_10 = true := by decide +kernel
theorem dJ5_ensureCapacityInternal_d00df_0 : decode cJ5_ensureCapacityInternal_d00df 0 = .ok (.aload_n 0, 1) := dz_at (i := 0) dy_p04b_10 rfl
theorem dJ5_ensureCapacityInternal_d00df_1 : decode cJ5_ensureCapacityInternal_d00df 1 = .ok (.getfield 15, 3) := dz_at (i := 1) dy_p04b_10 rfl
theorem dJ5_ensureCapacityInternal_d00df_4 : decode cJ5_ensureCapacityInternal_d00df 4 = .ok (.arraylength, 1) := dz_at (i := 2) dy_p04b_10 rfl
theorem dJ5_ensureCapacityInternal_d00df_5 : decode cJ5_ensureCapacityInternal_d00df 5 = .ok (.aload_n 0, 1) := dz_at (i := 3) dy_p04b_10 rfl
theorem dJ5_ensureCapacityInternal_d00df_6 : decode cJ5_ensureCapacityInternal_d00df 6 = .ok (.getfield 22, 3) := dz_at (i := 4) dy_p04b_10 rfl
theorem dJ5_ensureCapacityInternal_d00df_9 : decode cJ5_ensureCapacityInternal_d00df 9 = .ok (.ishr, 1) := dz_at (i := 5) dy_p04b_10 rfl
theorem dJ5_ensureCapacityInternal_d00df_10 : decode cJ5_ensureCapacityInternal_d00df 10 = .ok (.istore_n 2, 1) := dz_at (i := 6) dy_p04b_10 rfl
theorem dJ5_ensureCapacityInternal_d00df_11 : decode cJ5_ensureCapacityInternal_d00df 11 = .ok (.iload_n 1, 1) := dz_at (i := 7) dy_p04b_10 rfl
theorem dJ5_ensureCapacityInternal_d00df_12 : decode cJ5_ensureCapacityInternal_d00df 12 = .ok (.iload_n 2, 1) := dz_at (i := 8) dy_p04b_10 rfl
theorem dJ5_ensureCapacityInternal_d00df_13 : decode cJ5_ensureCapacityInternal_d00df 13 = .ok (.isub, 1) := dz_at (i := 9) dy_p04b_10 rfl
theorem dJ5_ensureCapacityInternal_d00df_14 : decode cJ5_ensureCapacityInternal_d00df 14 = .ok (.ifCond .le 24, 3) := dz_at (i := 10) dy_p04b_10 rfl
theorem dJ5_ensureCapacityInternal_d00df_17 : decode cJ5_ensureCapacityInternal_d00df 17 = .ok (.aload_n 0, 1) := dz_at (i := 11) dy_p04b_10 rfl
theorem dJ5_ensureCapacityInternal_d00df_18 : decode cJ5_ensureCapacityInternal_d00df 18 = .ok (.aload_n 0, 1) := dz_at (i := 12) dy_p04b_10 rfl
theorem dJ5_ensureCapacityInternal_d00df_19 : decode cJ5_ensureCapacityInternal_d00df 19 = .ok (.getfield 15, 3) := dz_at (i := 13) dy_p04b_10 rfl
theorem dJ5_ensureCapacityInternal_d00df_22 : decode cJ5_ensureCapacityInternal_d00df 22 = .ok (.aload_n 0, 1) := dz_at (i := 14) dy_p04b_10 rfl
theorem dJ5_ensureCapacityInternal_d00df_23 : decode cJ5_ensureCapacityInternal_d00df 23 = .ok (.iload_n 1, 1) := dz_at (i := 15) dy_p04b_10 rfl
theorem dJ5_ensureCapacityInternal_d00df_24 : decode cJ5_ensureCapacityInternal_d00df 24 = .ok (.invokevirtual 104, 3) := dz_at (i := 16) dy_p04b_10 rfl
theorem dJ5_ensureCapacityInternal_d00df_27 : decode cJ5_ensureCapacityInternal_d00df 27 = .ok (.aload_n 0, 1) := dz_at (i := 17) dy_p04b_10 rfl
theorem dJ5_ensureCapacityInternal_d00df_28 : decode cJ5_ensureCapacityInternal_d00df 28 = .ok (.getfield 22, 3) := dz_at (i := 18) dy_p04b_10 rfl
theorem dJ5_ensureCapacityInternal_d00df_31 : decode cJ5_ensureCapacityInternal_d00df 31 = .ok (.ishl, 1) := dz_at (i := 19) dy_p04b_10 rfl
theorem dJ5_ensureCapacityInternal_d00df_32 : decode cJ5_ensureCapacityInternal_d00df 32 = .ok (.invokestatic 108, 3) := dz_at (i := 20) dy_p04b_10 rfl
theorem dJ5_ensureCapacityInternal_d00df_35 : decode cJ5_ensureCapacityInternal_d00df 35 = .ok (.putfield 15, 3) := dz_at (i := 21) dy_p04b_10 rfl
theorem dJ5_ensureCapacityInternal_d00df_38 : decode cJ5_ensureCapacityInternal_d00df 38 = .ok (.return_, 1) := dz_at (i := 22) dy_p04b_10 rfl
set_option maxHeartbeats 4000000 in
set_option maxRecDepth 100000 in
theorem k_J5_ensureCapacityInternal_d00df (l : Launch) (dC : Nat → ClassId) (dI : Nat → Nat → Nat) (cB : ClassId) (h : Nat) (v : Nat) (n : Int32) (mm : Nat) (f : Nat → Int32) (q : Nat) (sz N : Nat) (hm : mm = 16 ∨ mm = 34) (hf : sb_Fit f) (hq : q ≤ 34) : Met l yJ5_ensureCapacityInternal_d00df wsJ5_ensureCapacityInternal_d00df ({ frames := 3, cells := 1, slots := 34, locals := 122 }) (va_Pc [.ref h, .int (nI q)] (xT (dC, dI) xCl [(h, eB v n), (v, eY cB mm f)] [(cB, .byte)] sz N)) (va_Qv (fun (u : Nat × Nat × (Nat → Int32)) => (u.2.1 = 16 ∨ u.2.1 = 34) ∧ q ≤ u.2.1 ∧ sb_Fit u.2.2) (fun (u : Nat × Nat × (Nat → Int32)) t => xW (dC, dI) xCl [(h, eB u.1 n), (u.1, eY cB u.2.1 u.2.2)] (va_A [(h, eB v n), (v, eY cB mm f)] sz) t) (va_A [(h, eB v n), (v, eY cB mm f)] sz)) 1 34 (va_A [(h, eB v n), (v, eY cB mm f)] sz) := by
  refine Met.ofW (cc := cJ5_ensureCapacityInternal_d00df) (maxL := 3) (ret := none) (by decide +kernel) rfl ?_
  intro p e s m args below meth c s₁ B hml hv
  obtain ⟨rfl, ⟨hsz, hP, hK, hD0, hN, hG⟩, hT⟩ := hv
  have hx := B.exec
  have hb := B.bytes
  have hr := B.returns
  have hts := atoms_spec (ws := wsJ5_ensureCapacityInternal_d00df) B.pre
  have hown : s.vm.findClass RJ5 = some m.cls := findClass_of_methodNamed B.named
  have hlocks := B.notSynchronized
  subst hsz
  have hAN : ∀ q, va_A [(h, eB v n), (v, eY cB mm f)] s.heap.size q → N ≤ q := xA_N hD0 hN
  have hD := hD0.self (sz := s.heap.size)
  generalize hAe : va_A [(h, eB v n), (v, eY cB mm f)] s.heap.size = A at hD hAN ⊢
  have hA : ∀ q : Nat, s.heap.size ≤ q → A q := fun q h => by rw [← hAe]; exact Or.inr h
  have hS : va_S A s.heap s.heap [] := va_S.rf
  have hP : va_P (dC, dI) xCl [(h, eB v n), (v, eY cB mm f)] s.heap := hP
  obtain ⟨hTc, ⟨tO, tT, fO, fT, hTo, hTt, hTa, hTb, hTf, hTg⟩, ⟨adK, adV, hTs, hTr0, hTr1, hTr2⟩, ⟨aE, hTe⟩, hTn⟩ := id hT
  have hl := lv_entry ([.ref h, .int (nI q)]) (n := 3) (Nat.le_of_ble_eq_true rfl)
  rw [lg_entry_eq]
  generalize (lg_sl ([.ref h, .int (nI q)]) ++ List.replicate (3 - (lg_sl ([.ref h, .int (nI q)])).length) Slot.unset).toArray = ls at hl ⊢
  have hl : lv_has ls 3 [(0, .ref h), (1, .int (nI q))] := hl
  refine lv_aload_n hx hb dJ5_ensureCapacityInternal_d00df_0 rfl (lv_at hl 0 rfl) ?_
  refine va_get (D := (dC, dI)) (ci := 1) (v := .ref v) (C := RJ4) (T := TJ4) (N := 4) hx hb hts (by decide +kernel) hown hK hP 0 rfl rfl 0 (by decide +kernel) (hts (.fieldLink RJ5 15 "java/lang/AbstractStringBuilder" "value" "[B") (by decide +kernel)) (fun _ h9 => h9) rfl dJ5_ensureCapacityInternal_d00df_1 ?_
  refine va_alen hx hb hK hP 1 0 rfl rfl (v := (nI mm)) rfl dJ5_ensureCapacityInternal_d00df_4 ?_
  refine lv_aload_n hx hb dJ5_ensureCapacityInternal_d00df_5 rfl (lv_at hl 0 rfl) ?_
  refine va_get (D := (dC, dI)) (ci := 1) (v := .int 0) (C := RJ4) (T := TJ4) (N := 4) hx hb hts (by decide +kernel) hown hK hP 0 rfl rfl 1 (by decide +kernel) (hts (.fieldLink RJ5 22 "java/lang/AbstractStringBuilder" "coder" "B") (by decide +kernel)) (fun _ h9 => h9) rfl dJ5_ensureCapacityInternal_d00df_6 ?_
  refine lv_ishr hx hb dJ5_ensureCapacityInternal_d00df_9 ?_
  rw [show ((((nI mm) : Int32) >>> ((0 : Int32) &&& 31)) : Int32) = (nI mm) from sb_shr0 _]
  refine lv_istore_n (lv' := [(2, .int (nI mm)), (0, .ref h), (1, .int (nI q))]) hx hb dJ5_ensureCapacityInternal_d00df_10 rfl hl (by decide +kernel) rfl (fun ls hl => ?_)
  refine lv_iload_n hx hb dJ5_ensureCapacityInternal_d00df_11 rfl (lv_at hl 2 rfl) ?_
  refine lv_iload_n hx hb dJ5_ensureCapacityInternal_d00df_12 rfl (lv_at hl 0 rfl) ?_
  refine lv_isub hx hb dJ5_ensureCapacityInternal_d00df_13 ?_
  refine lv_if_le (tgt := 38) hx hb dJ5_ensureCapacityInternal_d00df_14 (by decide +kernel) (fun c_1 => ?_) (fun c_1 => ?_)
  · skip
    have hql : q ≤ mm := (jl_le (by omega) (by omega)).mp c_1
    have hP := hP.sub (ws' := [(h, eB v n), (v, eY cB mm f)]) [0, 1] rfl
    have hD := hD.sub (ws' := [(h, eB v n), (v, eY cB mm f)]) [0, 1] (by decide +kernel) rfl
    refine W.widen (k := 1) (n := 34) (by omega) (by omega) ?_
    exact W.vret hx hb hr (fun t ht hW => ⟨⟨(v, mm, f), rfl, ⟨hm, hql, hf⟩, by rw [ht]; exact hP, hD⟩, hS.F ht⟩) hS.2.2 dJ5_ensureCapacityInternal_d00df_38
  · skip
    have hlt : ¬ q ≤ mm := fun z => c_1 ((jl_le (by omega) (by omega)).mpr z)
    obtain rfl : mm = 16 := by omega
    have hq1 : 16 < q := by omega
    have hP : va_P (dC, dI) xCl [(h, eB v n), (v, eY cB 16 f)] s.heap := hP
    have hD : va_D A [(h, eB v n), (v, eY cB 16 f)] := hD
    refine lv_aload_n hx hb dJ5_ensureCapacityInternal_d00df_17 rfl (lv_at hl 1 rfl) ?_
    refine lv_aload_n hx hb dJ5_ensureCapacityInternal_d00df_18 rfl (lv_at hl 1 rfl) ?_
    refine va_get (D := (dC, dI)) (ci := 1) (v := .ref v) (C := RJ4) (T := TJ4) (N := 4) hx hb hts (by decide +kernel) hown hK hP 0 rfl rfl 0 (by decide +kernel) (hts (.fieldLink RJ5 15 "java/lang/AbstractStringBuilder" "value" "[B") (by decide +kernel)) (fun _ h9 => h9) rfl dJ5_ensureCapacityInternal_d00df_19 ?_
    refine lv_aload_n hx hb dJ5_ensureCapacityInternal_d00df_22 rfl (lv_at hl 1 rfl) ?_
    refine lv_iload_n hx hb dJ5_ensureCapacityInternal_d00df_23 rfl (lv_at hl 2 rfl) ?_
    have hPc := hP.sub (ws' := [(h, eB v n), (v, eY cB 16 f)]) [0, 1] rfl
    have hDc := hD.sub (ws' := [(h, eB v n), (v, eY cB 16 f)]) [0, 1] (by decide +kernel) rfl
    have hKc := hK.sub (tys' := [(cB, .byte)]) [0] rfl
    have hFc := va_free (wc := [(h, eB v n), (v, eY cB 16 f)]) hD hS hA [0, 1] rfl
    refine va_calli (va_runU (As := [.int (nI q)]) (rest := [.ref v, .ref h]) ⟨hx, hb, hml, hown, hts⟩ (k_J5_newCapacity_0f7a4 l dC dI cB h v n f q s.heap.size N (by omega) (by omega)) (va_cwU 1 hts gJ5_ensureCapacityInternal_d00df_J5_newCapacity_0f7a4_u104J4 rfl rfl rfl rfl (by decide +kernel) ⟨Nat.le_of_ble_eq_true rfl, Nat.le_of_ble_eq_true rfl⟩) (xT.preV hKc hPc hDc hAN (Nat.le_trans hN hS.1) (hG.kept hS hAN) (hT.kept hS hAN) (ci := 1) (q0 := 0) rfl rfl) rfl rfl hl.1 rfl (lv_room (Nat.le_of_ble_eq_true rfl)) dJ5_ensureCapacityInternal_d00df_24 ⟨(show _ ≤ 1 by omega), (show _ ≤ 34 by omega)⟩) hS (fun q _ h => hFc q h) hFc (fun r_2 u_3 t H locs ht hvm hw hB hz hk hS => ?_)
    obtain ⟨hP1, hD1⟩ := hB
    rw [ht] at hP1
    obtain ⟨hP, hD⟩ := va_join (wr := []) (w1 := [(h, eB v n), (v, eY cB 16 f)]) hP hD [0, 1] [] rfl rfl (by decide +kernel) (by decide +kernel) hk hFc hP1 hD1
    have hP : va_P (dC, dI) xCl [(h, eB v n), (v, eY cB 16 f)] H := hP
    have hD : va_D A [(h, eB v n), (v, eY cB 16 f)] := hD
    have hw : r_2 = 34 := hw
    rw [hw]
    refine lv_aload_n hx hb dJ5_ensureCapacityInternal_d00df_27 rfl (lv_at hl 1 rfl) ?_
    refine va_get (D := (dC, dI)) (ci := 1) (v := .int 0) (C := RJ4) (T := TJ4) (N := 4) hx hb hts (by decide +kernel) hown hK hP 0 rfl rfl 1 (by decide +kernel) (hts (.fieldLink RJ5 22 "java/lang/AbstractStringBuilder" "coder" "B") (by decide +kernel)) (fun _ h9 => h9) rfl dJ5_ensureCapacityInternal_d00df_28 ?_
    refine lv_ishl hx hb dJ5_ensureCapacityInternal_d00df_31 ?_
    rw [show (((34 : Int32) <<< ((0 : Int32) &&& 31)) : Int32) = 34 from by decide]
    have hPc := hP.sub (ws' := [(v, eY cB 16 f)]) [1] rfl
    have hDc := hD.sub (ws' := [(v, eY cB 16 f)]) [1] (by decide +kernel) rfl
    have hKc := hK.sub (tys' := [(cB, .byte)]) [0] rfl
    have hFc := va_free (wc := [(v, eY cB 16 f)]) hD hS hA [1] rfl
    refine va_callr (va_runS (As := [.ref v, .int 34]) (rest := [.ref h]) ⟨hx, hb, hml, hown, hts⟩ (k_J7_copyOf_9075b l dC dI cB v f H.size N hf) (va_cwS 2 hts gJ5_ensureCapacityInternal_d00df_J7_copyOf_9075b rfl rfl rfl (by decide +kernel) ⟨Nat.le_of_ble_eq_true rfl, Nat.le_of_ble_eq_true rfl⟩) (xT.preS hKc hPc hDc hAN (Nat.le_trans hN hS.1) (hG.kept hS hAN) (hT.kept hS hAN)) rfl rfl hl.1 rfl (lv_room (Nat.le_of_ble_eq_true rfl)) dJ5_ensureCapacityInternal_d00df_32 ⟨(show _ ≤ 1 by omega), (show _ ≤ 34 by omega)⟩) hS (fun q _ h => hFc q h) hFc (fun u_6 r_5 t H locs ht hvm hw hB hz hk hS => ?_)
    obtain ⟨hP1, hD1⟩ := hB
    rw [ht] at hP1
    obtain ⟨f2_4, rfl⟩ : ∃ z, z = u_6 := ⟨_, rfl⟩
    obtain ⟨hP, hD⟩ := va_join (wr := [(h, eB v n)]) (w1 := [(r_5, eY cB 34 f2_4)]) hP hD [1] [0] rfl rfl (by decide +kernel) (by decide +kernel) hk hFc hP1 hD1
    have hP : va_P (dC, dI) xCl [(h, eB v n), (r_5, eY cB 34 f2_4)] H := hP
    have hD : va_D A [(h, eB v n), (r_5, eY cB 34 f2_4)] := hD
    have hf_f2_4 : sb_Fit f2_4 := hw
    refine va_put (D := (dC, dI)) (ci := 1) (v := .ref r_5) (ty := (.array .byte)) (C := RJ4) (T := TJ4) (N := 4) hx hb hts (by decide +kernel) tyJ4 tyJ4_ok nmJ4 hown hK hP hD hS 0 rfl rfl 0 (by decide +kernel) (hts (.fieldLink RJ5 15 "java/lang/AbstractStringBuilder" "value" "[B") (by decide +kernel)) (fun _ h9 => h9) rfl (by decide +kernel) rfl rfl (Nat.le_of_ble_eq_true rfl) dJ5_ensureCapacityInternal_d00df_35 (fun H locs hP hD hS => ?_)
    have hP : va_P (dC, dI) xCl [(h, eB r_5 n), (r_5, eY cB 34 f2_4)] H := hP
    have hD : va_D A [(h, eB r_5 n), (r_5, eY cB 34 f2_4)] := hD
    have hP := hP.sub (ws' := [(h, eB r_5 n), (r_5, eY cB 34 f2_4)]) [0, 1] rfl
    have hD := hD.sub (ws' := [(h, eB r_5 n), (r_5, eY cB 34 f2_4)]) [0, 1] (by decide +kernel) rfl
    refine W.widen (k := 1) (n := 34) (by omega) (by omega) ?_
    exact W.vret hx hb hr (fun t ht hW => ⟨⟨(r_5, 34, f2_4), rfl, ⟨Or.inr rfl, hq, hf_f2_4⟩, by rw [ht]; exact hP, hD⟩, hS.F ht⟩) hS.2.2 dJ5_ensureCapacityInternal_d00df_38
noncomputable def dz_p04b_11 : List (Nat × Instr × Nat) := [(0, (.iload_n 0, 1)), (1, (.sipush 255, 3)), (4, (.if_icmp .gt 7, 3)), (7, (.iconst 1, 1)), (8, (.goto 4, 3)), (11, (.iconst 0, 1)), (12, (.ireturn, 1))]
theorem dy_p04b_11 : dz_ok cJ1_canEncode_fc78d dz_p04b_11 = true := by decide +kernel
theorem dJ1_canEncode_fc78d_0 : decode cJ1_canEncode_fc78d 0 = .ok (.iload_n 0, 1) := dz_at (i := 0) dy_p04b_11 rfl
theorem dJ1_canEncode_fc78d_1 : decode cJ1_canEncode_fc78d 1 = .ok (.sipush 255, 3) := dz_at (i := 1) dy_p04b_11 rfl
theorem dJ1_canEncode_fc78d_4 : decode cJ1_canEncode_fc78d 4 = .ok (.if_icmp .gt 7, 3) := dz_at (i := 2) dy_p04b_11 rfl
theorem dJ1_canEncode_fc78d_7 : decode cJ1_canEncode_fc78d 7 = .ok (.iconst 1, 1) := dz_at (i := 3) dy_p04b_11 rfl
theorem dJ1_canEncode_fc78d_8 : decode cJ1_canEncode_fc78d 8 = .ok (.goto 4, 3) := dz_at (i := 4) dy_p04b_11 rfl
theorem dJ1_canEncode_fc78d_11 : decode cJ1_canEncode_fc78d 11 = .ok (.iconst 0, 1) := dz_at (i := 5) dy_p04b_11 rfl
theorem dJ1_canEncode_fc78d_12 : decode cJ1_canEncode_fc78d 12 = .ok (.ireturn, 1) := dz_at (i := 6) dy_p04b_11 rfl
set_option maxHeartbeats 4000000 in
set_option maxRecDepth 100000 in
theorem k_J1_canEncode_fc78d (l : Launch) (dC : Nat → ClassId) (dI : Nat → Nat → Nat) (cB : ClassId) (ch : Nat) (sz N : Nat) (hc : ch < 256) : Met l yJ1_canEncode_fc78d wsJ1_canEncode_fc78d ({ frames := 0, cells := 0, slots := 0, locals := 0 }) (va_Pc [.int (nI ch)] (xT (dC, dI) xCl [] [(cB, .byte)] sz N)) (va_Qi (fun (r : Int32) (u : Unit) => r = 1) (fun (u : Unit) t => xW (dC, dI) xCl [] (va_A [] sz) t) (va_A [] sz)) 0 0 (va_A [] sz) := by
  refine Met.ofW (cc := cJ1_canEncode_fc78d) (maxL := 1) (ret := (some .boolean)) (by decide +kernel) rfl ?_
  intro p e s m args below meth c s₁ B hml hv
  obtain ⟨rfl, ⟨hsz, hP, hK, hD0, hN, hG⟩, hT⟩ := hv
  have hx := B.exec
  have hb := B.bytes
  have hr := B.returns
  have hts := atoms_spec (ws := wsJ1_canEncode_fc78d) B.pre
  have hown : s.vm.findClass RJ1 = some m.cls := findClass_of_methodNamed B.named
  have hlocks := B.notSynchronized
  subst hsz
  have hAN : ∀ q, va_A [] s.heap.size q → N ≤ q := xA_N hD0 hN
  have hD := hD0.self (sz := s.heap.size)
  generalize hAe : va_A [] s.heap.size = A at hD hAN ⊢
  have hA : ∀ q : Nat, s.heap.size ≤ q → A q := fun q h => by rw [← hAe]; exact Or.inr h
  have hS : va_S A s.heap s.heap [] := va_S.rf
  have hP : va_P (dC, dI) xCl [] s.heap := hP
  obtain ⟨hTc, ⟨tO, tT, fO, fT, hTo, hTt, hTa, hTb, hTf, hTg⟩, ⟨adK, adV, hTs, hTr0, hTr1, hTr2⟩, ⟨aE, hTe⟩, hTn⟩ := id hT
  have hl := lv_entry ([.int (nI ch)]) (n := 1) (Nat.le_of_ble_eq_true rfl)
  rw [lg_entry_eq]
  generalize (lg_sl ([.int (nI ch)]) ++ List.replicate (1 - (lg_sl ([.int (nI ch)])).length) Slot.unset).toArray = ls at hl ⊢
  have hl : lv_has ls 1 [(0, .int (nI ch))] := hl
  refine lv_iload_n hx hb dJ1_canEncode_fc78d_0 rfl (lv_at hl 0 rfl) ?_
  refine lv_sipush (v := 255) hx hb dJ1_canEncode_fc78d_1 (by decide +kernel) ?_
  refine lv_icmp_gt (tgt := 11) hx hb dJ1_canEncode_fc78d_4 (by decide +kernel) (fun c9 => absurd c9 (show ¬ (255 : Int32) < nI ch from nI_nlt (a := 255) (b := ch) (by omega) (by decide +kernel))) (fun c9 => ?_)
  refine lv_iconst (v := 1) hx hb dJ1_canEncode_fc78d_7 (by decide +kernel) ?_
  refine lv_goto (tgt := 12) hx hb dJ1_canEncode_fc78d_8 (by decide +kernel) ?_
  have hP := xP_nil (D := (dC, dI)) (cl := xCl) (H := s.heap)
  have hD := xD_nil (A := A)
  refine W.widen (k := 0) (n := 0) (by omega) (by omega) ?_
  exact W.zret (v := 1) (ty := .boolean) hx hb hr rfl (fun t ht hW => ⟨⟨_, (), rfl, rfl, by rw [ht]; exact hP, hD⟩, hS.F ht⟩) hS.2.2 dJ1_canEncode_fc78d_12
theorem cl_J5_append_3fe6f_1 : ∀ w ∈ wsJ5_append_3fe6f_r1, w ∈ wsJ5_append_3fe6f := fun _ h => (List.mem_cons_of_mem _ (List.mem_append_left _ (List.mem_append_left _ h)))
theorem cl_J5_append_3fe6f_2 : ∀ w ∈ wsJ5_append_3fe6f_r2, w ∈ wsJ5_append_3fe6f := fun _ h => (List.mem_cons_of_mem _ (List.mem_append_left _ (List.mem_append_right _ (List.mem_append_left _ h))))
theorem cl_J5_append_3fe6f_3 : ∀ w ∈ wsJ5_append_3fe6f_r3, w ∈ wsJ5_append_3fe6f := fun _ h => (List.mem_cons_of_mem _ (List.mem_append_left _ (List.mem_append_right _ (List.mem_append_right _ (List.mem_append_left _ h)))))
theorem cl_J5_append_3fe6f_4 : ∀ w ∈ wsJ5_append_3fe6f_r4, w ∈ wsJ5_append_3fe6f := fun _ h => (List.mem_cons_of_mem _ (List.mem_append_left _ (List.mem_append_right _ (List.mem_append_right _ (List.mem_append_right _ (List.mem_append_left _ h))))))
theorem cl_J5_append_3fe6f_5 : ∀ w ∈ wsJ5_append_3fe6f_r5, w ∈ wsJ5_append_3fe6f := fun _ h => (List.mem_cons_of_mem _ (List.mem_append_left _ (List.mem_append_right _ (List.mem_append_right _ (List.mem_append_right _ (List.mem_append_right _ h))))))
theorem cl_J5_append_3fe6f_6 : ∀ w ∈ wsJ40, w ∈ wsJ5_append_3fe6f := fun _ h => (List.mem_cons_of_mem _ (List.mem_append_right _ h))
set_option maxRecDepth 20000 in
theorem ggJ5_append_3fe6f_J5_ensureCapacityInternal_d00df : GoodIn wsJ5_append_3fe6f wsJ5_ensureCapacityInternal_d00df := goodIn_sub (List.forall_mem_cons.mpr ⟨(cl_J5_append_3fe6f_1 _ (List.mem_of_getElem? (i := 7) rfl)), fun w h => (List.mem_append.mp h).elim ((fun w h => (List.mem_append.mp h).elim ((List.forall_mem_cons.mpr ⟨(cl_J5_append_3fe6f_1 _ (List.mem_of_getElem? (i := 1) rfl)), List.forall_mem_cons.mpr ⟨(cl_J5_append_3fe6f_1 _ (List.mem_of_getElem? (i := 8) rfl)), List.forall_mem_cons.mpr ⟨(cl_J5_append_3fe6f_1 _ (List.mem_of_getElem? (i := 9) rfl)), List.forall_mem_cons.mpr ⟨(cl_J5_append_3fe6f_1 _ (List.mem_of_getElem? (i := 10) rfl)), List.forall_mem_cons.mpr ⟨(cl_J5_append_3fe6f_1 _ (List.mem_of_getElem? (i := 11) rfl)), List.forall_mem_cons.mpr ⟨(cl_J5_append_3fe6f_1 _ (List.mem_of_getElem? (i := 12) rfl)), List.forall_mem_cons.mpr ⟨(cl_J5_append_3fe6f_1 _ (List.mem_of_getElem? (i := 6) rfl)), List.forall_mem_cons.mpr ⟨(cl_J5_append_3fe6f_1 _ (List.mem_of_getElem? (i := 13) rfl)), List.forall_mem_cons.mpr ⟨(cl_J5_append_3fe6f_1 _ (List.mem_of_getElem? (i := 14) rfl)), List.forall_mem_cons.mpr ⟨(cl_J5_append_3fe6f_1 _ (List.mem_of_getElem? (i := 15) rfl)), List.forall_mem_cons.mpr ⟨(cl_J5_append_3fe6f_1 _ (List.mem_of_getElem? (i := 16) rfl)), List.forall_mem_cons.mpr ⟨(cl_J5_append_3fe6f_1 _ (List.mem_of_getElem? (i := 17) rfl)), List.forall_mem_cons.mpr ⟨(cl_J5_append_3fe6f_1 _ (List.mem_of_getElem? (i := 18) rfl)), List.forall_mem_cons.mpr ⟨(cl_J5_append_3fe6f_1 _ (List.mem_of_getElem? (i := 19) rfl)), List.forall_mem_cons.mpr ⟨(cl_J5_append_3fe6f_1 _ (List.mem_of_getElem? (i := 20) rfl)), List.forall_mem_cons.mpr ⟨(cl_J5_append_3fe6f_1 _ (List.mem_of_getElem? (i := 21) rfl)), List.forall_mem_cons.mpr ⟨(cl_J5_append_3fe6f_1 _ (List.mem_of_getElem? (i := 22) rfl)), List.forall_mem_cons.mpr ⟨(cl_J5_append_3fe6f_1 _ (List.mem_of_getElem? (i := 23) rfl)), List.forall_mem_cons.mpr ⟨(cl_J5_append_3fe6f_2 _ (List.mem_of_getElem? (i := 0) rfl)), List.forall_mem_cons.mpr ⟨(cl_J5_append_3fe6f_2 _ (List.mem_of_getElem? (i := 1) rfl)), List.forall_mem_cons.mpr ⟨(cl_J5_append_3fe6f_2 _ (List.mem_of_getElem? (i := 2) rfl)), List.forall_mem_cons.mpr ⟨(cl_J5_append_3fe6f_2 _ (List.mem_of_getElem? (i := 3) rfl)), List.forall_mem_cons.mpr ⟨(cl_J5_append_3fe6f_2 _ (List.mem_of_getElem? (i := 4) rfl)), List.forall_mem_cons.mpr ⟨(cl_J5_append_3fe6f_2 _ (List.mem_of_getElem? (i := 5) rfl)), fun _ h => absurd h List.not_mem_nil⟩⟩⟩⟩⟩⟩⟩⟩⟩⟩⟩⟩⟩⟩⟩⟩⟩⟩⟩⟩⟩⟩⟩⟩) w) ((List.forall_mem_cons.mpr ⟨(cl_J5_append_3fe6f_2 _ (List.mem_of_getElem? (i := 6) rfl)), List.forall_mem_cons.mpr ⟨(cl_J5_append_3fe6f_2 _ (List.mem_of_getElem? (i := 7) rfl)), List.forall_mem_cons.mpr ⟨(cl_J5_append_3fe6f_2 _ (List.mem_of_getElem? (i := 8) rfl)), List.forall_mem_cons.mpr ⟨(cl_J5_append_3fe6f_2 _ (List.mem_of_getElem? (i := 9) rfl)), List.forall_mem_cons.mpr ⟨(cl_J5_append_3fe6f_2 _ (List.mem_of_getElem? (i := 10) rfl)), List.forall_mem_cons.mpr ⟨(cl_J5_append_3fe6f_2 _ (List.mem_of_getElem? (i := 11) rfl)), List.forall_mem_cons.mpr ⟨(cl_J5_append_3fe6f_2 _ (List.mem_of_getElem? (i := 12) rfl)), List.forall_mem_cons.mpr ⟨(cl_J5_append_3fe6f_2 _ (List.mem_of_getElem? (i := 13) rfl)), List.forall_mem_cons.mpr ⟨(cl_J5_append_3fe6f_2 _ (List.mem_of_getElem? (i := 14) rfl)), List.forall_mem_cons.mpr ⟨(cl_J5_append_3fe6f_2 _ (List.mem_of_getElem? (i := 15) rfl)), List.forall_mem_cons.mpr ⟨(cl_J5_append_3fe6f_2 _ (List.mem_of_getElem? (i := 16) rfl)), List.forall_mem_cons.mpr ⟨(cl_J5_append_3fe6f_2 _ (List.mem_of_getElem? (i := 17) rfl)), List.forall_mem_cons.mpr ⟨(cl_J5_append_3fe6f_2 _ (List.mem_of_getElem? (i := 18) rfl)), List.forall_mem_cons.mpr ⟨(cl_J5_append_3fe6f_2 _ (List.mem_of_getElem? (i := 19) rfl)), List.forall_mem_cons.mpr ⟨(cl_J5_append_3fe6f_2 _ (List.mem_of_getElem? (i := 20) rfl)), fun _ h => absurd h List.not_mem_nil⟩⟩⟩⟩⟩⟩⟩⟩⟩⟩⟩⟩⟩⟩⟩) w)) w) ((cl_J5_append_3fe6f_6) w)⟩) (by decide +kernel)
set_option maxRecDepth 20000 in
theorem gJ5_append_3fe6f_J5_ensureCapacityInternal_d00df_u100J4 : GoodIn wsJ5_append_3fe6f (va_wsU RJ5 100 RJ4 "java/lang/AbstractStringBuilder" ⟨"java/lang/AbstractStringBuilder", "ensureCapacityInternal", "(I)V"⟩ yJ5_ensureCapacityInternal_d00df wsJ5_ensureCapacityInternal_d00df) := goodIn_app (goodIn_of _ (by decide +kernel)) ggJ5_append_3fe6f_J5_ensureCapacityInternal_d00df
set_option maxRecDepth 20000 in
theorem ggJ5_append_3fe6f_J5_isLatin1_aae02 : GoodIn wsJ5_append_3fe6f wsJ5_isLatin1_aae02 := goodIn_sub (List.forall_mem_cons.mpr ⟨(cl_J5_append_3fe6f_3 _ (List.mem_of_getElem? (i := 1) rfl)), fun w h => (List.mem_append.mp h).elim ((List.forall_mem_cons.mpr ⟨(cl_J5_append_3fe6f_3 _ (List.mem_of_getElem? (i := 2) rfl)), List.forall_mem_cons.mpr ⟨(cl_J5_append_3fe6f_1 _ (List.mem_of_getElem? (i := 8) rfl)), fun _ h => absurd h List.not_mem_nil⟩⟩) w) ((cl_J5_append_3fe6f_6) w)⟩) (by decide +kernel)
set_option maxRecDepth 20000 in
theorem gJ5_append_3fe6f_J5_isLatin1_aae02_u83J4 : GoodIn wsJ5_append_3fe6f (va_wsU RJ5 83 RJ4 "java/lang/AbstractStringBuilder" ⟨"java/lang/AbstractStringBuilder", "isLatin1", "()Z"⟩ yJ5_isLatin1_aae02 wsJ5_isLatin1_aae02) := goodIn_app (goodIn_of _ (by decide +kernel)) ggJ5_append_3fe6f_J5_isLatin1_aae02
set_option maxRecDepth 20000 in
theorem ggJ5_append_3fe6f_J1_canEncode_fc78d : GoodIn wsJ5_append_3fe6f wsJ1_canEncode_fc78d := goodIn_r _ [55] (by decide +kernel) (by decide +kernel)
set_option maxRecDepth 20000 in
theorem gJ5_append_3fe6f_J1_canEncode_fc78d : GoodIn wsJ5_append_3fe6f (va_wsS RJ5 191 yJ1_canEncode_fc78d wsJ1_canEncode_fc78d) := goodIn_app (goodIn_sub (List.forall_mem_cons.mpr ⟨(cl_J5_append_3fe6f_3 _ (List.mem_of_getElem? (i := 3) rfl)), List.forall_mem_cons.mpr ⟨(cl_J5_append_3fe6f_3 _ (List.mem_of_getElem? (i := 4) rfl)), List.forall_mem_cons.mpr ⟨(cl_J5_append_3fe6f_3 _ (List.mem_of_getElem? (i := 5) rfl)), fun _ h => absurd h List.not_mem_nil⟩⟩⟩) (by decide +kernel)) ggJ5_append_3fe6f_J1_canEncode_fc78d
set_option maxRecDepth 20000 in
theorem ggJ5_append_3fe6f_J5_inflate_da8c8 : GoodIn wsJ5_append_3fe6f wsJ5_inflate_da8c8 := goodIn_sub (List.forall_mem_cons.mpr ⟨(cl_J5_append_3fe6f_3 _ (List.mem_of_getElem? (i := 11) rfl)), fun w h => (List.mem_append.mp h).elim ((fun w h => (List.mem_append.mp h).elim ((List.forall_mem_cons.mpr ⟨(cl_J5_append_3fe6f_1 _ (List.mem_of_getElem? (i := 1) rfl)), List.forall_mem_cons.mpr ⟨(cl_J5_append_3fe6f_1 _ (List.mem_of_getElem? (i := 0) rfl)), List.forall_mem_cons.mpr ⟨(cl_J5_append_3fe6f_1 _ (List.mem_of_getElem? (i := 8) rfl)), List.forall_mem_cons.mpr ⟨(cl_J5_append_3fe6f_2 _ (List.mem_of_getElem? (i := 21) rfl)), List.forall_mem_cons.mpr ⟨(cl_J5_append_3fe6f_2 _ (List.mem_of_getElem? (i := 22) rfl)), List.forall_mem_cons.mpr ⟨(cl_J5_append_3fe6f_2 _ (List.mem_of_getElem? (i := 23) rfl)), List.forall_mem_cons.mpr ⟨(cl_J5_append_3fe6f_3 _ (List.mem_of_getElem? (i := 0) rfl)), List.forall_mem_cons.mpr ⟨(cl_J5_append_3fe6f_1 _ (List.mem_of_getElem? (i := 6) rfl)), List.forall_mem_cons.mpr ⟨(cl_J5_append_3fe6f_3 _ (List.mem_of_getElem? (i := 1) rfl)), List.forall_mem_cons.mpr ⟨(cl_J5_append_3fe6f_3 _ (List.mem_of_getElem? (i := 2) rfl)), List.forall_mem_cons.mpr ⟨(cl_J5_append_3fe6f_3 _ (List.mem_of_getElem? (i := 12) rfl)), List.forall_mem_cons.mpr ⟨(cl_J5_append_3fe6f_3 _ (List.mem_of_getElem? (i := 13) rfl)), List.forall_mem_cons.mpr ⟨(cl_J5_append_3fe6f_3 _ (List.mem_of_getElem? (i := 14) rfl)), List.forall_mem_cons.mpr ⟨(cl_J5_append_3fe6f_3 _ (List.mem_of_getElem? (i := 15) rfl)), List.forall_mem_cons.mpr ⟨(cl_J5_append_3fe6f_2 _ (List.mem_of_getElem? (i := 13) rfl)), List.forall_mem_cons.mpr ⟨(cl_J5_append_3fe6f_3 _ (List.mem_of_getElem? (i := 16) rfl)), List.forall_mem_cons.mpr ⟨(cl_J5_append_3fe6f_3 _ (List.mem_of_getElem? (i := 17) rfl)), List.forall_mem_cons.mpr ⟨(cl_J5_append_3fe6f_3 _ (List.mem_of_getElem? (i := 18) rfl)), List.forall_mem_cons.mpr ⟨(cl_J5_append_3fe6f_3 _ (List.mem_of_getElem? (i := 19) rfl)), List.forall_mem_cons.mpr ⟨(cl_J5_append_3fe6f_3 _ (List.mem_of_getElem? (i := 20) rfl)), List.forall_mem_cons.mpr ⟨(cl_J5_append_3fe6f_3 _ (List.mem_of_getElem? (i := 21) rfl)), List.forall_mem_cons.mpr ⟨(cl_J5_append_3fe6f_3 _ (List.mem_of_getElem? (i := 5) rfl)), List.forall_mem_cons.mpr ⟨(cl_J5_append_3fe6f_3 _ (List.mem_of_getElem? (i := 22) rfl)), List.forall_mem_cons.mpr ⟨(cl_J5_append_3fe6f_3 _ (List.mem_of_getElem? (i := 23) rfl)), fun _ h => absurd h List.not_mem_nil⟩⟩⟩⟩⟩⟩⟩⟩⟩⟩⟩⟩⟩⟩⟩⟩⟩⟩⟩⟩⟩⟩⟩⟩) w) ((List.forall_mem_cons.mpr ⟨(cl_J5_append_3fe6f_4 _ (List.mem_of_getElem? (i := 0) rfl)), List.forall_mem_cons.mpr ⟨(cl_J5_append_3fe6f_4 _ (List.mem_of_getElem? (i := 1) rfl)), List.forall_mem_cons.mpr ⟨(cl_J5_append_3fe6f_4 _ (List.mem_of_getElem? (i := 2) rfl)), List.forall_mem_cons.mpr ⟨(cl_J5_append_3fe6f_4 _ (List.mem_of_getElem? (i := 3) rfl)), List.forall_mem_cons.mpr ⟨(cl_J5_append_3fe6f_4 _ (List.mem_of_getElem? (i := 4) rfl)), List.forall_mem_cons.mpr ⟨(cl_J5_append_3fe6f_4 _ (List.mem_of_getElem? (i := 5) rfl)), List.forall_mem_cons.mpr ⟨(cl_J5_append_3fe6f_4 _ (List.mem_of_getElem? (i := 6) rfl)), List.forall_mem_cons.mpr ⟨(cl_J5_append_3fe6f_4 _ (List.mem_of_getElem? (i := 7) rfl)), List.forall_mem_cons.mpr ⟨(cl_J5_append_3fe6f_4 _ (List.mem_of_getElem? (i := 8) rfl)), List.forall_mem_cons.mpr ⟨(cl_J5_append_3fe6f_4 _ (List.mem_of_getElem? (i := 9) rfl)), List.forall_mem_cons.mpr ⟨(cl_J5_append_3fe6f_4 _ (List.mem_of_getElem? (i := 10) rfl)), List.forall_mem_cons.mpr ⟨(cl_J5_append_3fe6f_4 _ (List.mem_of_getElem? (i := 11) rfl)), List.forall_mem_cons.mpr ⟨(cl_J5_append_3fe6f_4 _ (List.mem_of_getElem? (i := 12) rfl)), List.forall_mem_cons.mpr ⟨(cl_J5_append_3fe6f_4 _ (List.mem_of_getElem? (i := 13) rfl)), List.forall_mem_cons.mpr ⟨(cl_J5_append_3fe6f_4 _ (List.mem_of_getElem? (i := 14) rfl)), List.forall_mem_cons.mpr ⟨(cl_J5_append_3fe6f_4 _ (List.mem_of_getElem? (i := 15) rfl)), List.forall_mem_cons.mpr ⟨(cl_J5_append_3fe6f_4 _ (List.mem_of_getElem? (i := 16) rfl)), List.forall_mem_cons.mpr ⟨(cl_J5_append_3fe6f_4 _ (List.mem_of_getElem? (i := 17) rfl)), List.forall_mem_cons.mpr ⟨(cl_J5_append_3fe6f_4 _ (List.mem_of_getElem? (i := 18) rfl)), List.forall_mem_cons.mpr ⟨(cl_J5_append_3fe6f_4 _ (List.mem_of_getElem? (i := 19) rfl)), List.forall_mem_cons.mpr ⟨(cl_J5_append_3fe6f_4 _ (List.mem_of_getElem? (i := 20) rfl)), List.forall_mem_cons.mpr ⟨(cl_J5_append_3fe6f_4 _ (List.mem_of_getElem? (i := 21) rfl)), List.forall_mem_cons.mpr ⟨(cl_J5_append_3fe6f_4 _ (List.mem_of_getElem? (i := 22) rfl)), fun _ h => absurd h List.not_mem_nil⟩⟩⟩⟩⟩⟩⟩⟩⟩⟩⟩⟩⟩⟩⟩⟩⟩⟩⟩⟩⟩⟩⟩) w)) w) ((cl_J5_append_3fe6f_6) w)⟩) (by decide +kernel)
set_option maxRecDepth 20000 in
theorem gJ5_append_3fe6f_J5_inflate_da8c8_u195J4 : GoodIn wsJ5_append_3fe6f (va_wsU RJ5 195 RJ4 "java/lang/AbstractStringBuilder" ⟨"java/lang/AbstractStringBuilder", "inflate", "()V"⟩ yJ5_inflate_da8c8 wsJ5_inflate_da8c8) := goodIn_app (goodIn_of _ (by decide +kernel)) ggJ5_append_3fe6f_J5_inflate_da8c8
set_option maxRecDepth 20000 in
theorem ggJ5_append_3fe6f_J2_putCharSB_b72d1 : GoodIn wsJ5_append_3fe6f wsJ2_putCharSB_b72d1 := goodIn_sub (List.forall_mem_cons.mpr ⟨(cl_J5_append_3fe6f_5 _ (List.mem_of_getElem? (i := 1) rfl)), List.forall_mem_cons.mpr ⟨(cl_J5_append_3fe6f_5 _ (List.mem_of_getElem? (i := 2) rfl)), List.forall_mem_cons.mpr ⟨(cl_J5_append_3fe6f_5 _ (List.mem_of_getElem? (i := 3) rfl)), List.forall_mem_cons.mpr ⟨(cl_J5_append_3fe6f_3 _ (List.mem_of_getElem? (i := 14) rfl)), List.forall_mem_cons.mpr ⟨(cl_J5_append_3fe6f_5 _ (List.mem_of_getElem? (i := 4) rfl)), List.forall_mem_cons.mpr ⟨(cl_J5_append_3fe6f_4 _ (List.mem_of_getElem? (i := 5) rfl)), List.forall_mem_cons.mpr ⟨(cl_J5_append_3fe6f_4 _ (List.mem_of_getElem? (i := 6) rfl)), List.forall_mem_cons.mpr ⟨(cl_J5_append_3fe6f_4 _ (List.mem_of_getElem? (i := 7) rfl)), List.forall_mem_cons.mpr ⟨(cl_J5_append_3fe6f_5 _ (List.mem_of_getElem? (i := 5) rfl)), List.forall_mem_cons.mpr ⟨(cl_J5_append_3fe6f_5 _ (List.mem_of_getElem? (i := 6) rfl)), List.forall_mem_cons.mpr ⟨(cl_J5_append_3fe6f_4 _ (List.mem_of_getElem? (i := 10) rfl)), List.forall_mem_cons.mpr ⟨(cl_J5_append_3fe6f_5 _ (List.mem_of_getElem? (i := 7) rfl)), List.forall_mem_cons.mpr ⟨(cl_J5_append_3fe6f_4 _ (List.mem_of_getElem? (i := 12) rfl)), List.forall_mem_cons.mpr ⟨(cl_J5_append_3fe6f_5 _ (List.mem_of_getElem? (i := 8) rfl)), List.forall_mem_cons.mpr ⟨(cl_J5_append_3fe6f_5 _ (List.mem_of_getElem? (i := 9) rfl)), List.forall_mem_cons.mpr ⟨(cl_J5_append_3fe6f_4 _ (List.mem_of_getElem? (i := 15) rfl)), List.forall_mem_cons.mpr ⟨(cl_J5_append_3fe6f_5 _ (List.mem_of_getElem? (i := 10) rfl)), List.forall_mem_cons.mpr ⟨(cl_J5_append_3fe6f_4 _ (List.mem_of_getElem? (i := 17) rfl)), List.forall_mem_cons.mpr ⟨(cl_J5_append_3fe6f_4 _ (List.mem_of_getElem? (i := 18) rfl)), List.forall_mem_cons.mpr ⟨(cl_J5_append_3fe6f_4 _ (List.mem_of_getElem? (i := 19) rfl)), List.forall_mem_cons.mpr ⟨(cl_J5_append_3fe6f_4 _ (List.mem_of_getElem? (i := 20) rfl)), List.forall_mem_cons.mpr ⟨(cl_J5_append_3fe6f_4 _ (List.mem_of_getElem? (i := 21) rfl)), List.forall_mem_cons.mpr ⟨(cl_J5_append_3fe6f_4 _ (List.mem_of_getElem? (i := 22) rfl)), fun _ h => absurd h List.not_mem_nil⟩⟩⟩⟩⟩⟩⟩⟩⟩⟩⟩⟩⟩⟩⟩⟩⟩⟩⟩⟩⟩⟩⟩) (by decide +kernel)
set_option maxRecDepth 20000 in
theorem gJ5_append_3fe6f_J2_putCharSB_b72d1 : GoodIn wsJ5_append_3fe6f (va_wsS RJ5 197 yJ2_putCharSB_b72d1 wsJ2_putCharSB_b72d1) := goodIn_app (goodIn_sub (List.forall_mem_cons.mpr ⟨(cl_J5_append_3fe6f_4 _ (List.mem_of_getElem? (i := 23) rfl)), List.forall_mem_cons.mpr ⟨(cl_J5_append_3fe6f_5 _ (List.mem_of_getElem? (i := 0) rfl)), List.forall_mem_cons.mpr ⟨(cl_J5_append_3fe6f_3 _ (List.mem_of_getElem? (i := 14) rfl)), fun _ h => absurd h List.not_mem_nil⟩⟩⟩) (by decide +kernel)) ggJ5_append_3fe6f_J2_putCharSB_b72d1
noncomputable def dz_p04b_12 : List (Nat × Instr × Nat) := [(0, (.aload_n 0, 1)), (1, (.aload_n 0, 1)), (2, (.getfield 79, 3)), (5, (.iconst 1, 1)), (6, (.iadd, 1)), (7, (.invokevirtual 100, 3)), (10, (.aload_n 0, 1)), (11, (.invokevirtual 83, 3)), (14, (.ifCond .eq 31, 3)), (17, (.iload_n 1, 1)), (18, (.invokestatic 191, 3)), (21, (.ifCond .eq 24, 3)), (24, (.aload_n 0, 1)), (25, (.getfield 15, 3)), (28, (.aload_n 0, 1)), (29, (.dup, 1)), (30, (.getfield 79, 3)), (33, (.dup_x1, 1)), (34, (.iconst 1, 1)), (35, (.iadd, 1)), (36, (.putfield 79, 3)), (39, (.iload_n 1, 1)), (40, (.i2b, 1)), (41, (.bastore, 1)), (42, (.goto 33, 3)), (45, (.aload_n 0, 1)), (46, (.invokevirtual 83, 3)), (49, (.ifCond .eq 7, 3)), (52, (.aload_n 0, 1)), (53, (.invokevirtual 195, 3)), (56, (.aload_n 0, 1)), (57, (.getfield 15, 3)), (60, (.aload_n 0, 1)), (61, (.dup, 1)), (62, (.getfield 79, 3)), (65, (.dup_x1, 1)), (66, (.iconst 1, 1)), (67, (.iadd, 1)), (68, (.putfield 79, 3)), (71, (.iload_n 1, 1))]
theorem dy_p04b_12 : dz_ok cJ5_append_3fe6f dz_p04b_12 = true := by decide +kernel
theorem dJ5_append_3fe6f_0 : decode cJ5_append_3fe6f 0 = .ok (.aload_n 0, 1) := dz_at (i := 0) dy_p04b_12 rfl
theorem dJ5_append_3fe6f_1 : decode cJ5_append_3fe6f 1 = .ok (.aload_n 0, 1) := dz_at (i := 1) dy_p04b_12 rfl
theorem dJ5_append_3fe6f_2 : decode cJ5_append_3fe6f 2 = .ok (.getfield 79, 3) := dz_at (i := 2) dy_p04b_12 rfl
theorem dJ5_append_3fe6f_5 : decode cJ5_append_3fe6f 5 = .ok (.iconst 1, 1) := dz_at (i := 3) dy_p04b_12 rfl
theorem dJ5_append_3fe6f_6 : decode cJ5_append_3fe6f 6 = .ok (.iadd, 1) := dz_at (i := 4) dy_p04b_12 rfl
theorem dJ5_append_3fe6f_7 : decode cJ5_append_3fe6f 7 = .ok (.invokevirtual 100, 3) := dz_at (i := 5) dy_p04b_12 rfl
theorem dJ5_append_3fe6f_10 : decode cJ5_append_3fe6f 10 = .ok (.aload_n 0, 1) := dz_at (i := 6) dy_p04b_12 rfl
theorem dJ5_append_3fe6f_11 : decode cJ5_append_3fe6f 11 = .ok (.invokevirtual 83, 3) := dz_at (i := 7) dy_p04b_12 rfl
theorem dJ5_append_3fe6f_14 : decode cJ5_append_3fe6f 14 = .ok (.ifCond .eq 31, 3) := dz_at (i := 8) dy_p04b_12 rfl
theorem dJ5_append_3fe6f_17 : decode cJ5_append_3fe6f 17 = .ok (.iload_n 1, 1) := dz_at (i := 9) dy_p04b_12 rfl
theorem dJ5_append_3fe6f_18 : decode cJ5_append_3fe6f 18 = .ok (.invokestatic 191, 3) := dz_at (i := 10) dy_p04b_12 rfl
theorem dJ5_append_3fe6f_21 : decode cJ5_append_3fe6f 21 = .ok (.ifCond .eq 24, 3) := dz_at (i := 11) dy_p04b_12 rfl
theorem dJ5_append_3fe6f_24 : decode cJ5_append_3fe6f 24 = .ok (.aload_n 0, 1) := dz_at (i := 12) dy_p04b_12 rfl
theorem dJ5_append_3fe6f_25 : decode cJ5_append_3fe6f 25 = .ok (.getfield 15, 3) := dz_at (i := 13) dy_p04b_12 rfl
theorem dJ5_append_3fe6f_28 : decode cJ5_append_3fe6f 28 = .ok (.aload_n 0, 1) := dz_at (i := 14) dy_p04b_12 rfl
theorem dJ5_append_3fe6f_29 : decode cJ5_append_3fe6f 29 = .ok (.dup, 1) := dz_at (i := 15) dy_p04b_12 rfl
theorem dJ5_append_3fe6f_30 : decode cJ5_append_3fe6f 30 = .ok (.getfield 79, 3) := dz_at (i := 16) dy_p04b_12 rfl
theorem dJ5_append_3fe6f_33 : decode cJ5_append_3fe6f 33 = .ok (.dup_x1, 1) := dz_at (i := 17) dy_p04b_12 rfl
theorem dJ5_append_3fe6f_34 : decode cJ5_append_3fe6f 34 = .ok (.iconst 1, 1) := dz_at (i := 18) dy_p04b_12 rfl
theorem dJ5_append_3fe6f_35 : decode cJ5_append_3fe6f 35 = .ok (.iadd, 1) := dz_at (i := 19) dy_p04b_12 rfl
theorem dJ5_append_3fe6f_36 : decode cJ5_append_3fe6f 36 = .ok (.putfield 79, 3) := dz_at (i := 20) dy_p04b_12 rfl
theorem dJ5_append_3fe6f_39 : decode cJ5_append_3fe6f 39 = .ok (.iload_n 1, 1) := dz_at (i := 21) dy_p04b_12 rfl
theorem dJ5_append_3fe6f_40 : decode cJ5_append_3fe6f 40 = .ok (.i2b, 1) := dz_at (i := 22) dy_p04b_12 rfl
theorem dJ5_append_3fe6f_41 : decode cJ5_append_3fe6f 41 = .ok (.bastore, 1) := dz_at (i := 23) dy_p04b_12 rfl
theorem dJ5_append_3fe6f_42 : decode cJ5_append_3fe6f 42 = .ok (.goto 33, 3) := dz_at (i := 24) dy_p04b_12 rfl
theorem dJ5_append_3fe6f_45 : decode cJ5_append_3fe6f 45 = .ok (.aload_n 0, 1) := dz_at (i := 25) dy_p04b_12 rfl
theorem dJ5_append_3fe6f_46 : decode cJ5_append_3fe6f 46 = .ok (.invokevirtual 83, 3) := dz_at (i := 26) dy_p04b_12 rfl
theorem dJ5_append_3fe6f_49 : decode cJ5_append_3fe6f 49 = .ok (.ifCond .eq 7, 3) := dz_at (i := 27) dy_p04b_12 rfl
theorem dJ5_append_3fe6f_52 : decode cJ5_append_3fe6f 52 = .ok (.aload_n 0, 1) := dz_at (i := 28) dy_p04b_12 rfl
theorem dJ5_append_3fe6f_53 : decode cJ5_append_3fe6f 53 = .ok (.invokevirtual 195, 3) := dz_at (i := 29) dy_p04b_12 rfl
theorem dJ5_append_3fe6f_56 : decode cJ5_append_3fe6f 56 = .ok (.aload_n 0, 1) := dz_at (i := 30) dy_p04b_12 rfl
theorem dJ5_append_3fe6f_57 : decode cJ5_append_3fe6f 57 = .ok (.getfield 15, 3) := dz_at (i := 31) dy_p04b_12 rfl
theorem dJ5_append_3fe6f_60 : decode cJ5_append_3fe6f 60 = .ok (.aload_n 0, 1) := dz_at (i := 32) dy_p04b_12 rfl
theorem dJ5_append_3fe6f_61 : decode cJ5_append_3fe6f 61 = .ok (.dup, 1) := dz_at (i := 33) dy_p04b_12 rfl
theorem dJ5_append_3fe6f_62 : decode cJ5_append_3fe6f 62 = .ok (.getfield 79, 3) := dz_at (i := 34) dy_p04b_12 rfl
theorem dJ5_append_3fe6f_65 : decode cJ5_append_3fe6f 65 = .ok (.dup_x1, 1) := dz_at (i := 35) dy_p04b_12 rfl
theorem dJ5_append_3fe6f_66 : decode cJ5_append_3fe6f 66 = .ok (.iconst 1, 1) := dz_at (i := 36) dy_p04b_12 rfl
theorem dJ5_append_3fe6f_67 : decode cJ5_append_3fe6f 67 = .ok (.iadd, 1) := dz_at (i := 37) dy_p04b_12 rfl
theorem dJ5_append_3fe6f_68 : decode cJ5_append_3fe6f 68 = .ok (.putfield 79, 3) := dz_at (i := 38) dy_p04b_12 rfl
theorem dJ5_append_3fe6f_71 : decode cJ5_append_3fe6f 71 = .ok (.iload_n 1, 1) := dz_at (i := 39) dy_p04b_12 rfl
noncomputable def dz_p04b_13 : List (Nat × Instr × Nat) := [(72, (.invokestatic 197, 3)), (75, (.aload_n 0, 1)), (76, (.areturn, 1))]
theorem dy_p04b_13 : dz_ok cJ5_append_3fe6f dz_p04b_13 = true := by decide +kernel
theorem dJ5_append_3fe6f_72 : decode cJ5_append_3fe6f 72 = .ok (.invokestatic 197, 3) := dz_at (i := 0) dy_p04b_13 rfl
theorem dJ5_append_3fe6f_75 : decode cJ5_append_3fe6f 75 = .ok (.aload_n 0, 1) := dz_at (i := 1) dy_p04b_13 rfl
theorem dJ5_append_3fe6f_76 : decode cJ5_append_3fe6f 76 = .ok (.areturn, 1) := dz_at (i := 2) dy_p04b_13 rfl
set_option maxHeartbeats 4000000 in
set_option maxRecDepth 100000 in
theorem k_J5_append_3fe6f (l : Launch) (dC : Nat → ClassId) (dI : Nat → Nat → Nat) (cB : ClassId) (h : Nat) (v : Nat) (n : Nat) (mm : Nat) (f : Nat → Int32) (ch : Nat) (sz N : Nat) (hm : mm = 16 ∨ mm = 34) (hf : sb_Fit f) (hn : n + 1 ≤ 34) (hc : ch < 256) : Met l yJ5_append_3fe6f wsJ5_append_3fe6f ({ frames := 4, cells := 1, slots := 34, locals := 144 }) (va_Pc [.ref h, .int (nI ch)] (xT (dC, dI) xCl [(h, eB v (nI n)), (v, eY cB mm f)] [(cB, .byte)] sz N)) (va_Qr (fun (u : Nat × Nat × (Nat → Int32)) => (u.2.1 = 16 ∨ u.2.1 = 34) ∧ n + 1 ≤ u.2.1 ∧ sb_Fit u.2.2) (fun (u : Nat × Nat × (Nat → Int32)) a t => a = h ∧ xW (dC, dI) xCl [(h, eB u.1 (nI (n + 1))), (u.1, eY cB u.2.1 u.2.2)] (va_A [(h, eB v (nI n)), (v, eY cB mm f)] sz) t) (va_A [(h, eB v (nI n)), (v, eY cB mm f)] sz)) 1 34 (va_A [(h, eB v (nI n)), (v, eY cB mm f)] sz) := by
  refine Met.ofW (cc := cJ5_append_3fe6f) (maxL := 2) (ret := (some (.object "java/lang/AbstractStringBuilder"))) (by decide +kernel) rfl ?_
  intro p e s m args below meth c s₁ B hml hv
  obtain ⟨rfl, ⟨hsz, hP, hK, hD0, hN, hG⟩, hT⟩ := hv
  have hx := B.exec
  have hb := B.bytes
  have hr := B.returns
  have hts := atoms_spec (ws := wsJ5_append_3fe6f) B.pre
  have hown : s.vm.findClass RJ5 = some m.cls := findClass_of_methodNamed B.named
  have hlocks := B.notSynchronized
  subst hsz
  have hAN : ∀ q, va_A [(h, eB v (nI n)), (v, eY cB mm f)] s.heap.size q → N ≤ q := xA_N hD0 hN
  have hD := hD0.self (sz := s.heap.size)
  generalize hAe : va_A [(h, eB v (nI n)), (v, eY cB mm f)] s.heap.size = A at hD hAN ⊢
  have hA : ∀ q : Nat, s.heap.size ≤ q → A q := fun q h => by rw [← hAe]; exact Or.inr h
  have hS : va_S A s.heap s.heap [] := va_S.rf
  have hP : va_P (dC, dI) xCl [(h, eB v (nI n)), (v, eY cB mm f)] s.heap := hP
  obtain ⟨hTc, ⟨tO, tT, fO, fT, hTo, hTt, hTa, hTb, hTf, hTg⟩, ⟨adK, adV, hTs, hTr0, hTr1, hTr2⟩, ⟨aE, hTe⟩, hTn⟩ := id hT
  have hl := lv_entry ([.ref h, .int (nI ch)]) (n := 2) (Nat.le_of_ble_eq_true rfl)
  rw [lg_entry_eq]
  generalize (lg_sl ([.ref h, .int (nI ch)]) ++ List.replicate (2 - (lg_sl ([.ref h, .int (nI ch)])).length) Slot.unset).toArray = ls at hl ⊢
  have hl : lv_has ls 2 [(0, .ref h), (1, .int (nI ch))] := hl
  refine lv_aload_n hx hb dJ5_append_3fe6f_0 rfl (lv_at hl 0 rfl) ?_
  refine lv_aload_n hx hb dJ5_append_3fe6f_1 rfl (lv_at hl 0 rfl) ?_
  refine va_get (D := (dC, dI)) (ci := 1) (v := .int (nI n)) (C := RJ4) (T := TJ4) (N := 4) hx hb hts (by decide +kernel) hown hK hP 0 rfl rfl 3 (by decide +kernel) (hts (.fieldLink RJ5 79 "java/lang/AbstractStringBuilder" "count" "I") (by decide +kernel)) (fun _ h9 => h9) rfl dJ5_append_3fe6f_2 ?_
  refine lv_iconst (v := 1) hx hb dJ5_append_3fe6f_5 (by decide +kernel) ?_
  refine lv_iadd hx hb dJ5_append_3fe6f_6 ?_
  rw [show (((nI n) + 1) : Int32) = (nI (n + 1)) from nI_1 n]
  have hPc := hP.sub (ws' := [(h, eB v (nI n)), (v, eY cB mm f)]) [0, 1] rfl
  have hDc := hD.sub (ws' := [(h, eB v (nI n)), (v, eY cB mm f)]) [0, 1] (by decide +kernel) rfl
  have hKc := hK.sub (tys' := [(cB, .byte)]) [0] rfl
  have hFc := va_free (wc := [(h, eB v (nI n)), (v, eY cB mm f)]) hD hS hA [0, 1] rfl
  refine va_callv (va_runU (As := [.int (nI (n + 1))]) (rest := []) ⟨hx, hb, hml, hown, hts⟩ (k_J5_ensureCapacityInternal_d00df l dC dI cB h v (nI n) mm f (n + 1) s.heap.size N hm hf (by omega)) (va_cwU 1 hts gJ5_append_3fe6f_J5_ensureCapacityInternal_d00df_u100J4 rfl rfl rfl rfl (by decide +kernel) ⟨Nat.le_of_ble_eq_true rfl, Nat.le_of_ble_eq_true rfl⟩) (xT.preV hKc hPc hDc hAN (Nat.le_trans hN hS.1) (hG.kept hS hAN) (hT.kept hS hAN) (ci := 1) (q0 := 0) rfl rfl) rfl rfl hl.1 rfl (lv_room (Nat.le_of_ble_eq_true rfl)) dJ5_append_3fe6f_7 ⟨(show _ ≤ 1 by omega), (show _ ≤ 34 by omega)⟩) hS (fun q _ h => hFc q h) hFc (fun u_5 t H locs ht hvm hw hB hz hk hS => ?_)
  obtain ⟨hP1, hD1⟩ := hB
  rw [ht] at hP1
  obtain ⟨v2_1, m2_2, f2_3⟩ := u_5
  obtain ⟨hP, hD⟩ := va_join (wr := []) (w1 := [(h, eB v2_1 (nI n)), (v2_1, eY cB m2_2 f2_3)]) hP hD [0, 1] [] rfl rfl (by decide +kernel) (by decide +kernel) hk hFc hP1 hD1
  have hP : va_P (dC, dI) xCl [(h, eB v2_1 (nI n)), (v2_1, eY cB m2_2 f2_3)] H := hP
  have hD : va_D A [(h, eB v2_1 (nI n)), (v2_1, eY cB m2_2 f2_3)] := hD
  obtain ⟨hm_m2_2, hq_m2_2, hf_m2_2⟩ : (m2_2 = 16 ∨ m2_2 = 34) ∧ (n + 1) ≤ m2_2 ∧ sb_Fit f2_3 := hw
  refine lv_aload_n hx hb dJ5_append_3fe6f_10 rfl (lv_at hl 0 rfl) ?_
  have hPc := hP.sub (ws' := [(h, eB v2_1 (nI n))]) [0] rfl
  have hDc := hD.sub (ws' := [(h, eB v2_1 (nI n))]) [0] (by decide +kernel) rfl
  have hKc := hK.sub (tys' := [(cB, .byte)]) [0] rfl
  have hFc := va_free (wc := [(h, eB v2_1 (nI n))]) hD hS hA [0] rfl
  refine va_calli (va_runU (As := []) (rest := []) ⟨hx, hb, hml, hown, hts⟩ (k_J5_isLatin1_aae02 l dC dI cB h v2_1 (nI n) H.size N) (va_cwU 0 hts gJ5_append_3fe6f_J5_isLatin1_aae02_u83J4 rfl rfl rfl rfl (by decide +kernel) ⟨Nat.le_of_ble_eq_true rfl, Nat.le_of_ble_eq_true rfl⟩) (xT.preV hKc hPc hDc hAN (Nat.le_trans hN hS.1) (hG.kept hS hAN) (hT.kept hS hAN) (ci := 1) (q0 := 0) rfl rfl) rfl rfl hl.1 rfl (lv_room (Nat.le_of_ble_eq_true rfl)) dJ5_append_3fe6f_11 ⟨(show _ ≤ 1 by omega), (show _ ≤ 34 by omega)⟩) hS (fun q _ h => hFc q h) hFc (fun r_7 u_8 t H locs ht hvm hw hB hz hk hS => ?_)
  obtain ⟨hP1, hD1⟩ := hB
  rw [ht] at hP1
  obtain ⟨hP, hD⟩ := va_join (wr := [(v2_1, eY cB m2_2 f2_3)]) (w1 := [(h, eB v2_1 (nI n))]) hP hD [0] [1] rfl rfl (by decide +kernel) (by decide +kernel) hk hFc hP1 hD1
  have hP : va_P (dC, dI) xCl [(v2_1, eY cB m2_2 f2_3), (h, eB v2_1 (nI n))] H := hP
  have hD : va_D A [(v2_1, eY cB m2_2 f2_3), (h, eB v2_1 (nI n))] := hD
  have hw : r_7 = 1 := hw
  rw [hw]
  refine lv_if_eq (tgt := 45) hx hb dJ5_append_3fe6f_14 (by decide +kernel) (fun c9 => absurd c9 (by decide +kernel)) (fun _ => ?_)
  refine lv_iload_n hx hb dJ5_append_3fe6f_17 rfl (lv_at hl 1 rfl) ?_
  have hPc := xP_nil (D := (dC, dI)) (cl := xCl) (H := H)
  have hDc := xD_nil (A := A)
  have hKc := hK.sub (tys' := [(cB, .byte)]) [0] rfl
  have hFc := va_free (wc := []) hD hS hA [] rfl
  refine va_calli (va_runS (As := [.int (nI ch)]) (rest := []) ⟨hx, hb, hml, hown, hts⟩ (k_J1_canEncode_fc78d l dC dI cB ch H.size N hc) (va_cwS 1 hts gJ5_append_3fe6f_J1_canEncode_fc78d rfl rfl rfl (by decide +kernel) ⟨Nat.le_of_ble_eq_true rfl, Nat.le_of_ble_eq_true rfl⟩) (xT.preS hKc hPc hDc hAN (Nat.le_trans hN hS.1) (hG.kept hS hAN) (hT.kept hS hAN)) rfl rfl hl.1 rfl (lv_room (Nat.le_of_ble_eq_true rfl)) dJ5_append_3fe6f_18 ⟨(show _ ≤ 1 by omega), (show _ ≤ 34 by omega)⟩) hS (fun q _ h => hFc q h) hFc (fun r_9 u_10 t H locs ht hvm hw hB hz hk hS => ?_)
  obtain ⟨hP1, hD1⟩ := hB
  rw [ht] at hP1
  obtain ⟨hP, hD⟩ := va_join (wr := [(v2_1, eY cB m2_2 f2_3), (h, eB v2_1 (nI n))]) (w1 := []) hP hD [] [0, 1] rfl rfl (by decide +kernel) (by decide +kernel) hk hFc hP1 hD1
  have hP : va_P (dC, dI) xCl [(v2_1, eY cB m2_2 f2_3), (h, eB v2_1 (nI n))] H := hP
  have hD : va_D A [(v2_1, eY cB m2_2 f2_3), (h, eB v2_1 (nI n))] := hD
  have hw : r_9 = 1 := hw
  rw [hw]
  refine lv_if_eq (tgt := 45) hx hb dJ5_append_3fe6f_21 (by decide +kernel) (fun c9 => absurd c9 (by decide +kernel)) (fun _ => ?_)
  refine lv_aload_n hx hb dJ5_append_3fe6f_24 rfl (lv_at hl 0 rfl) ?_
  refine va_get (D := (dC, dI)) (ci := 1) (v := .ref v2_1) (C := RJ4) (T := TJ4) (N := 4) hx hb hts (by decide +kernel) hown hK hP 1 rfl rfl 0 (by decide +kernel) (hts (.fieldLink RJ5 15 "java/lang/AbstractStringBuilder" "value" "[B") (by decide +kernel)) (fun _ h9 => h9) rfl dJ5_append_3fe6f_25 ?_
  refine lv_aload_n hx hb dJ5_append_3fe6f_28 rfl (lv_at hl 0 rfl) ?_
  refine lv_dup hx hb dJ5_append_3fe6f_29 rfl ?_
  refine va_get (D := (dC, dI)) (ci := 1) (v := .int (nI n)) (C := RJ4) (T := TJ4) (N := 4) hx hb hts (by decide +kernel) hown hK hP 1 rfl rfl 3 (by decide +kernel) (hts (.fieldLink RJ5 79 "java/lang/AbstractStringBuilder" "count" "I") (by decide +kernel)) (fun _ h9 => h9) rfl dJ5_append_3fe6f_30 ?_
  refine lv_dup_x1 hx hb dJ5_append_3fe6f_33 rfl rfl ?_
  refine lv_iconst (v := 1) hx hb dJ5_append_3fe6f_34 (by decide +kernel) ?_
  refine lv_iadd hx hb dJ5_append_3fe6f_35 ?_
  rw [show (((nI n) + 1) : Int32) = (nI (n + 1)) from nI_1 n]
  refine va_put (D := (dC, dI)) (ci := 1) (v := .int (nI (n + 1))) (ty := .int) (C := RJ4) (T := TJ4) (N := 4) hx hb hts (by decide +kernel) tyJ4 tyJ4_ok nmJ4 hown hK hP hD hS 1 rfl rfl 3 (by decide +kernel) (hts (.fieldLink RJ5 79 "java/lang/AbstractStringBuilder" "count" "I") (by decide +kernel)) (fun _ h9 => h9) rfl (by decide +kernel) rfl rfl (Nat.le_of_ble_eq_true rfl) dJ5_append_3fe6f_36 (fun H locs hP hD hS => ?_)
  have hP : va_P (dC, dI) xCl [(v2_1, eY cB m2_2 f2_3), (h, eB v2_1 (nI (n + 1)))] H := hP
  have hD : va_D A [(v2_1, eY cB m2_2 f2_3), (h, eB v2_1 (nI (n + 1)))] := hD
  refine lv_iload_n hx hb dJ5_append_3fe6f_39 rfl (lv_at hl 1 rfl) ?_
  refine lv_i2b (v := (nI ch).toInt8.toInt32) hx hb dJ5_append_3fe6f_40 rfl ?_
  refine va_bast hx hb hK hP hD hS 0 0 rfl rfl (vp_in_nI (n := n) (N := m2_2) (by omega) (by omega)) dJ5_append_3fe6f_41 (fun H locs hP hD hS => ?_)
  have hP : va_P (dC, dI) xCl [(v2_1, eY cB m2_2 (upd f2_3 (nI n).toNatClampNeg (vp_nar .byte ((nI ch).toInt8.toInt32)))), (h, eB v2_1 (nI (n + 1)))] H := hP
  have hD : va_D A [(v2_1, eY cB m2_2 (upd f2_3 (nI n).toNatClampNeg (vp_nar .byte ((nI ch).toInt8.toInt32)))), (h, eB v2_1 (nI (n + 1)))] := hD
  obtain ⟨f_11, hf_11⟩ : ∃ z : Nat → Int32, z = (upd f2_3 (nI n).toNatClampNeg (vp_nar .byte ((nI ch).toInt8.toInt32))) := ⟨_, rfl⟩
  have hf_12 : sb_Fit f_11 := by rw [hf_11]; exact sb_fitU hf_m2_2 (sb_nar _)
  rw [← hf_11] at hP hD
  have hP : va_P (dC, dI) xCl [(v2_1, eY cB m2_2 f_11), (h, eB v2_1 (nI (n + 1)))] H := hP
  have hD : va_D A [(v2_1, eY cB m2_2 f_11), (h, eB v2_1 (nI (n + 1)))] := hD
  refine lv_goto (tgt := 75) hx hb dJ5_append_3fe6f_42 (by decide +kernel) ?_
  refine lv_aload_n hx hb dJ5_append_3fe6f_75 rfl (lv_at hl 0 rfl) ?_
  have hP := hP.sub (ws' := [(h, eB v2_1 (nI (n + 1))), (v2_1, eY cB m2_2 f_11)]) [1, 0] rfl
  have hD := hD.sub (ws' := [(h, eB v2_1 (nI (n + 1))), (v2_1, eY cB m2_2 f_11)]) [1, 0] (by decide +kernel) rfl
  refine W.widen (k := 1) (n := 34) (by omega) (by omega) ?_
  exact W.aret (v := .ref h) hx hb hr (Or.inl ⟨_, rfl⟩) (Or.inr ⟨_, rfl⟩) (fun t ht hW => ⟨⟨(v2_1, m2_2, f_11), _, rfl, ⟨hm_m2_2, hq_m2_2, hf_12⟩, ⟨rfl, by rw [ht]; exact hP, hD⟩⟩, hS.F ht⟩) hS.2.2 dJ5_append_3fe6f_76
theorem cl_J4_append_cf468_1 : ∀ w ∈ wsJ4_append_cf468_r1, w ∈ wsJ4_append_cf468 := fun _ h => (List.mem_cons_of_mem _ (List.mem_append_left _ (List.mem_append_left _ h)))
theorem cl_J4_append_cf468_2 : ∀ w ∈ wsJ4_append_cf468_r2, w ∈ wsJ4_append_cf468 := fun _ h => (List.mem_cons_of_mem _ (List.mem_append_left _ (List.mem_append_right _ (List.mem_append_left _ h))))
theorem cl_J4_append_cf468_3 : ∀ w ∈ wsJ4_append_cf468_r3, w ∈ wsJ4_append_cf468 := fun _ h => (List.mem_cons_of_mem _ (List.mem_append_left _ (List.mem_append_right _ (List.mem_append_right _ (List.mem_append_left _ h)))))
theorem cl_J4_append_cf468_4 : ∀ w ∈ wsJ4_append_cf468_r4, w ∈ wsJ4_append_cf468 := fun _ h => (List.mem_cons_of_mem _ (List.mem_append_left _ (List.mem_append_right _ (List.mem_append_right _ (List.mem_append_right _ (List.mem_append_left _ h))))))
theorem cl_J4_append_cf468_5 : ∀ w ∈ wsJ4_append_cf468_r5, w ∈ wsJ4_append_cf468 := fun _ h => (List.mem_cons_of_mem _ (List.mem_append_left _ (List.mem_append_right _ (List.mem_append_right _ (List.mem_append_right _ (List.mem_append_right _ h))))))
theorem cl_J4_append_cf468_6 : ∀ w ∈ wsJ40, w ∈ wsJ4_append_cf468 := fun _ h => (List.mem_cons_of_mem _ (List.mem_append_right _ h))
set_option maxRecDepth 20000 in
theorem ggJ4_append_cf468_J5_append_3fe6f : GoodIn wsJ4_append_cf468 wsJ5_append_3fe6f := goodIn_sub (List.forall_mem_cons.mpr ⟨(cl_J4_append_cf468_1 _ (List.mem_of_getElem? (i := 5) rfl)), fun w h => (List.mem_append.mp h).elim ((fun w h => (List.mem_append.mp h).elim ((List.forall_mem_cons.mpr ⟨(cl_J4_append_cf468_1 _ (List.mem_of_getElem? (i := 6) rfl)), List.forall_mem_cons.mpr ⟨(cl_J4_append_cf468_1 _ (List.mem_of_getElem? (i := 7) rfl)), List.forall_mem_cons.mpr ⟨(cl_J4_append_cf468_1 _ (List.mem_of_getElem? (i := 8) rfl)), List.forall_mem_cons.mpr ⟨(cl_J4_append_cf468_1 _ (List.mem_of_getElem? (i := 9) rfl)), List.forall_mem_cons.mpr ⟨(cl_J4_append_cf468_1 _ (List.mem_of_getElem? (i := 10) rfl)), List.forall_mem_cons.mpr ⟨(cl_J4_append_cf468_1 _ (List.mem_of_getElem? (i := 11) rfl)), List.forall_mem_cons.mpr ⟨(cl_J4_append_cf468_1 _ (List.mem_of_getElem? (i := 4) rfl)), List.forall_mem_cons.mpr ⟨(cl_J4_append_cf468_1 _ (List.mem_of_getElem? (i := 12) rfl)), List.forall_mem_cons.mpr ⟨(cl_J4_append_cf468_1 _ (List.mem_of_getElem? (i := 13) rfl)), List.forall_mem_cons.mpr ⟨(cl_J4_append_cf468_1 _ (List.mem_of_getElem? (i := 14) rfl)), List.forall_mem_cons.mpr ⟨(cl_J4_append_cf468_1 _ (List.mem_of_getElem? (i := 15) rfl)), List.forall_mem_cons.mpr ⟨(cl_J4_append_cf468_1 _ (List.mem_of_getElem? (i := 16) rfl)), List.forall_mem_cons.mpr ⟨(cl_J4_append_cf468_1 _ (List.mem_of_getElem? (i := 17) rfl)), List.forall_mem_cons.mpr ⟨(cl_J4_append_cf468_1 _ (List.mem_of_getElem? (i := 18) rfl)), List.forall_mem_cons.mpr ⟨(cl_J4_append_cf468_1 _ (List.mem_of_getElem? (i := 19) rfl)), List.forall_mem_cons.mpr ⟨(cl_J4_append_cf468_1 _ (List.mem_of_getElem? (i := 20) rfl)), List.forall_mem_cons.mpr ⟨(cl_J4_append_cf468_1 _ (List.mem_of_getElem? (i := 21) rfl)), List.forall_mem_cons.mpr ⟨(cl_J4_append_cf468_1 _ (List.mem_of_getElem? (i := 22) rfl)), List.forall_mem_cons.mpr ⟨(cl_J4_append_cf468_1 _ (List.mem_of_getElem? (i := 23) rfl)), List.forall_mem_cons.mpr ⟨(cl_J4_append_cf468_2 _ (List.mem_of_getElem? (i := 0) rfl)), List.forall_mem_cons.mpr ⟨(cl_J4_append_cf468_2 _ (List.mem_of_getElem? (i := 1) rfl)), List.forall_mem_cons.mpr ⟨(cl_J4_append_cf468_2 _ (List.mem_of_getElem? (i := 2) rfl)), List.forall_mem_cons.mpr ⟨(cl_J4_append_cf468_2 _ (List.mem_of_getElem? (i := 3) rfl)), List.forall_mem_cons.mpr ⟨(cl_J4_append_cf468_2 _ (List.mem_of_getElem? (i := 4) rfl)), fun _ h => absurd h List.not_mem_nil⟩⟩⟩⟩⟩⟩⟩⟩⟩⟩⟩⟩⟩⟩⟩⟩⟩⟩⟩⟩⟩⟩⟩⟩) w) ((fun w h => (List.mem_append.mp h).elim ((List.forall_mem_cons.mpr ⟨(cl_J4_append_cf468_2 _ (List.mem_of_getElem? (i := 5) rfl)), List.forall_mem_cons.mpr ⟨(cl_J4_append_cf468_2 _ (List.mem_of_getElem? (i := 6) rfl)), List.forall_mem_cons.mpr ⟨(cl_J4_append_cf468_2 _ (List.mem_of_getElem? (i := 7) rfl)), List.forall_mem_cons.mpr ⟨(cl_J4_append_cf468_2 _ (List.mem_of_getElem? (i := 8) rfl)), List.forall_mem_cons.mpr ⟨(cl_J4_append_cf468_2 _ (List.mem_of_getElem? (i := 9) rfl)), List.forall_mem_cons.mpr ⟨(cl_J4_append_cf468_2 _ (List.mem_of_getElem? (i := 10) rfl)), List.forall_mem_cons.mpr ⟨(cl_J4_append_cf468_2 _ (List.mem_of_getElem? (i := 11) rfl)), List.forall_mem_cons.mpr ⟨(cl_J4_append_cf468_2 _ (List.mem_of_getElem? (i := 12) rfl)), List.forall_mem_cons.mpr ⟨(cl_J4_append_cf468_2 _ (List.mem_of_getElem? (i := 13) rfl)), List.forall_mem_cons.mpr ⟨(cl_J4_append_cf468_2 _ (List.mem_of_getElem? (i := 14) rfl)), List.forall_mem_cons.mpr ⟨(cl_J4_append_cf468_2 _ (List.mem_of_getElem? (i := 15) rfl)), List.forall_mem_cons.mpr ⟨(cl_J4_append_cf468_2 _ (List.mem_of_getElem? (i := 16) rfl)), List.forall_mem_cons.mpr ⟨(cl_J4_append_cf468_2 _ (List.mem_of_getElem? (i := 17) rfl)), List.forall_mem_cons.mpr ⟨(cl_J4_append_cf468_2 _ (List.mem_of_getElem? (i := 18) rfl)), List.forall_mem_cons.mpr ⟨(cl_J4_append_cf468_2 _ (List.mem_of_getElem? (i := 19) rfl)), List.forall_mem_cons.mpr ⟨(cl_J4_append_cf468_2 _ (List.mem_of_getElem? (i := 20) rfl)), List.forall_mem_cons.mpr ⟨(cl_J4_append_cf468_2 _ (List.mem_of_getElem? (i := 21) rfl)), List.forall_mem_cons.mpr ⟨(cl_J4_append_cf468_2 _ (List.mem_of_getElem? (i := 22) rfl)), List.forall_mem_cons.mpr ⟨(cl_J4_append_cf468_2 _ (List.mem_of_getElem? (i := 23) rfl)), List.forall_mem_cons.mpr ⟨(cl_J4_append_cf468_3 _ (List.mem_of_getElem? (i := 0) rfl)), List.forall_mem_cons.mpr ⟨(cl_J4_append_cf468_3 _ (List.mem_of_getElem? (i := 1) rfl)), List.forall_mem_cons.mpr ⟨(cl_J4_append_cf468_3 _ (List.mem_of_getElem? (i := 2) rfl)), List.forall_mem_cons.mpr ⟨(cl_J4_append_cf468_3 _ (List.mem_of_getElem? (i := 3) rfl)), List.forall_mem_cons.mpr ⟨(cl_J4_append_cf468_3 _ (List.mem_of_getElem? (i := 4) rfl)), fun _ h => absurd h List.not_mem_nil⟩⟩⟩⟩⟩⟩⟩⟩⟩⟩⟩⟩⟩⟩⟩⟩⟩⟩⟩⟩⟩⟩⟩⟩) w) ((fun w h => (List.mem_append.mp h).elim ((List.forall_mem_cons.mpr ⟨(cl_J4_append_cf468_3 _ (List.mem_of_getElem? (i := 5) rfl)), List.forall_mem_cons.mpr ⟨(cl_J4_append_cf468_3 _ (List.mem_of_getElem? (i := 6) rfl)), List.forall_mem_cons.mpr ⟨(cl_J4_append_cf468_3 _ (List.mem_of_getElem? (i := 7) rfl)), List.forall_mem_cons.mpr ⟨(cl_J4_append_cf468_3 _ (List.mem_of_getElem? (i := 8) rfl)), List.forall_mem_cons.mpr ⟨(cl_J4_append_cf468_3 _ (List.mem_of_getElem? (i := 9) rfl)), List.forall_mem_cons.mpr ⟨(cl_J4_append_cf468_3 _ (List.mem_of_getElem? (i := 10) rfl)), List.forall_mem_cons.mpr ⟨(cl_J4_append_cf468_3 _ (List.mem_of_getElem? (i := 11) rfl)), List.forall_mem_cons.mpr ⟨(cl_J4_append_cf468_3 _ (List.mem_of_getElem? (i := 12) rfl)), List.forall_mem_cons.mpr ⟨(cl_J4_append_cf468_3 _ (List.mem_of_getElem? (i := 13) rfl)), List.forall_mem_cons.mpr ⟨(cl_J4_append_cf468_3 _ (List.mem_of_getElem? (i := 14) rfl)), List.forall_mem_cons.mpr ⟨(cl_J4_append_cf468_3 _ (List.mem_of_getElem? (i := 15) rfl)), List.forall_mem_cons.mpr ⟨(cl_J4_append_cf468_3 _ (List.mem_of_getElem? (i := 16) rfl)), List.forall_mem_cons.mpr ⟨(cl_J4_append_cf468_3 _ (List.mem_of_getElem? (i := 17) rfl)), List.forall_mem_cons.mpr ⟨(cl_J4_append_cf468_3 _ (List.mem_of_getElem? (i := 18) rfl)), List.forall_mem_cons.mpr ⟨(cl_J4_append_cf468_3 _ (List.mem_of_getElem? (i := 19) rfl)), List.forall_mem_cons.mpr ⟨(cl_J4_append_cf468_3 _ (List.mem_of_getElem? (i := 20) rfl)), List.forall_mem_cons.mpr ⟨(cl_J4_append_cf468_3 _ (List.mem_of_getElem? (i := 21) rfl)), List.forall_mem_cons.mpr ⟨(cl_J4_append_cf468_3 _ (List.mem_of_getElem? (i := 22) rfl)), List.forall_mem_cons.mpr ⟨(cl_J4_append_cf468_3 _ (List.mem_of_getElem? (i := 23) rfl)), List.forall_mem_cons.mpr ⟨(cl_J4_append_cf468_4 _ (List.mem_of_getElem? (i := 0) rfl)), List.forall_mem_cons.mpr ⟨(cl_J4_append_cf468_4 _ (List.mem_of_getElem? (i := 1) rfl)), List.forall_mem_cons.mpr ⟨(cl_J4_append_cf468_4 _ (List.mem_of_getElem? (i := 2) rfl)), List.forall_mem_cons.mpr ⟨(cl_J4_append_cf468_4 _ (List.mem_of_getElem? (i := 3) rfl)), List.forall_mem_cons.mpr ⟨(cl_J4_append_cf468_4 _ (List.mem_of_getElem? (i := 4) rfl)), fun _ h => absurd h List.not_mem_nil⟩⟩⟩⟩⟩⟩⟩⟩⟩⟩⟩⟩⟩⟩⟩⟩⟩⟩⟩⟩⟩⟩⟩⟩) w) ((fun w h => (List.mem_append.mp h).elim ((List.forall_mem_cons.mpr ⟨(cl_J4_append_cf468_4 _ (List.mem_of_getElem? (i := 5) rfl)), List.forall_mem_cons.mpr ⟨(cl_J4_append_cf468_4 _ (List.mem_of_getElem? (i := 6) rfl)), List.forall_mem_cons.mpr ⟨(cl_J4_append_cf468_4 _ (List.mem_of_getElem? (i := 7) rfl)), List.forall_mem_cons.mpr ⟨(cl_J4_append_cf468_4 _ (List.mem_of_getElem? (i := 8) rfl)), List.forall_mem_cons.mpr ⟨(cl_J4_append_cf468_4 _ (List.mem_of_getElem? (i := 9) rfl)), List.forall_mem_cons.mpr ⟨(cl_J4_append_cf468_4 _ (List.mem_of_getElem? (i := 10) rfl)), List.forall_mem_cons.mpr ⟨(cl_J4_append_cf468_4 _ (List.mem_of_getElem? (i := 11) rfl)), List.forall_mem_cons.mpr ⟨(cl_J4_append_cf468_4 _ (List.mem_of_getElem? (i := 12) rfl)), List.forall_mem_cons.mpr ⟨(cl_J4_append_cf468_4 _ (List.mem_of_getElem? (i := 13) rfl)), List.forall_mem_cons.mpr ⟨(cl_J4_append_cf468_4 _ (List.mem_of_getElem? (i := 14) rfl)), List.forall_mem_cons.mpr ⟨(cl_J4_append_cf468_4 _ (List.mem_of_getElem? (i := 15) rfl)), List.forall_mem_cons.mpr ⟨(cl_J4_append_cf468_4 _ (List.mem_of_getElem? (i := 16) rfl)), List.forall_mem_cons.mpr ⟨(cl_J4_append_cf468_4 _ (List.mem_of_getElem? (i := 17) rfl)), List.forall_mem_cons.mpr ⟨(cl_J4_append_cf468_4 _ (List.mem_of_getElem? (i := 18) rfl)), List.forall_mem_cons.mpr ⟨(cl_J4_append_cf468_4 _ (List.mem_of_getElem? (i := 19) rfl)), List.forall_mem_cons.mpr ⟨(cl_J4_append_cf468_4 _ (List.mem_of_getElem? (i := 20) rfl)), List.forall_mem_cons.mpr ⟨(cl_J4_append_cf468_4 _ (List.mem_of_getElem? (i := 21) rfl)), List.forall_mem_cons.mpr ⟨(cl_J4_append_cf468_4 _ (List.mem_of_getElem? (i := 22) rfl)), List.forall_mem_cons.mpr ⟨(cl_J4_append_cf468_4 _ (List.mem_of_getElem? (i := 23) rfl)), List.forall_mem_cons.mpr ⟨(cl_J4_append_cf468_5 _ (List.mem_of_getElem? (i := 0) rfl)), List.forall_mem_cons.mpr ⟨(cl_J4_append_cf468_5 _ (List.mem_of_getElem? (i := 1) rfl)), List.forall_mem_cons.mpr ⟨(cl_J4_append_cf468_5 _ (List.mem_of_getElem? (i := 2) rfl)), List.forall_mem_cons.mpr ⟨(cl_J4_append_cf468_5 _ (List.mem_of_getElem? (i := 3) rfl)), List.forall_mem_cons.mpr ⟨(cl_J4_append_cf468_5 _ (List.mem_of_getElem? (i := 4) rfl)), fun _ h => absurd h List.not_mem_nil⟩⟩⟩⟩⟩⟩⟩⟩⟩⟩⟩⟩⟩⟩⟩⟩⟩⟩⟩⟩⟩⟩⟩⟩) w) ((List.forall_mem_cons.mpr ⟨(cl_J4_append_cf468_5 _ (List.mem_of_getElem? (i := 5) rfl)), List.forall_mem_cons.mpr ⟨(cl_J4_append_cf468_5 _ (List.mem_of_getElem? (i := 6) rfl)), List.forall_mem_cons.mpr ⟨(cl_J4_append_cf468_5 _ (List.mem_of_getElem? (i := 7) rfl)), List.forall_mem_cons.mpr ⟨(cl_J4_append_cf468_5 _ (List.mem_of_getElem? (i := 8) rfl)), List.forall_mem_cons.mpr ⟨(cl_J4_append_cf468_5 _ (List.mem_of_getElem? (i := 9) rfl)), List.forall_mem_cons.mpr ⟨(cl_J4_append_cf468_5 _ (List.mem_of_getElem? (i := 10) rfl)), List.forall_mem_cons.mpr ⟨(cl_J4_append_cf468_5 _ (List.mem_of_getElem? (i := 11) rfl)), List.forall_mem_cons.mpr ⟨(cl_J4_append_cf468_5 _ (List.mem_of_getElem? (i := 12) rfl)), List.forall_mem_cons.mpr ⟨(cl_J4_append_cf468_5 _ (List.mem_of_getElem? (i := 13) rfl)), List.forall_mem_cons.mpr ⟨(cl_J4_append_cf468_5 _ (List.mem_of_getElem? (i := 14) rfl)), List.forall_mem_cons.mpr ⟨(cl_J4_append_cf468_5 _ (List.mem_of_getElem? (i := 15) rfl)), fun _ h => absurd h List.not_mem_nil⟩⟩⟩⟩⟩⟩⟩⟩⟩⟩⟩) w)) w)) w)) w)) w) ((cl_J4_append_cf468_6) w)⟩) (by decide +kernel)
set_option maxRecDepth 20000 in
theorem gJ4_append_cf468_J5_append_3fe6f_s50 : GoodIn wsJ4_append_cf468 (va_wsSU RJ4 50 yJ5_append_3fe6f wsJ5_append_3fe6f) := goodIn_app (goodIn_of _ (by decide +kernel)) ggJ4_append_cf468_J5_append_3fe6f
noncomputable def dz_p04b_14 : List (Nat × Instr × Nat) := [(0, (.aload_n 0, 1)), (1, (.iload_n 1, 1)), (2, (.invokespecial 50, 3)), (5, (.pop, 1)), (6, (.aload_n 0, 1)), (7, (.areturn, 1))]
theorem dy_p04b_14 : dz_ok cJ4_append_cf468 dz_p04b_14 = true := by decide +kernel
theorem dJ4_append_cf468_0 : decode cJ4_append_cf468 0 = .ok (.aload_n 0, 1) := dz_at (i := 0) dy_p04b_14 rfl
theorem dJ4_append_cf468_1 : decode cJ4_append_cf468 1 = .ok (.iload_n 1, 1) := dz_at (i := 1) dy_p04b_14 rfl
theorem dJ4_append_cf468_2 : decode cJ4_append_cf468 2 = .ok (.invokespecial 50, 3) := dz_at (i := 2) dy_p04b_14 rfl
theorem dJ4_append_cf468_5 : decode cJ4_append_cf468 5 = .ok (.pop, 1) := dz_at (i := 3) dy_p04b_14 rfl
theorem dJ4_append_cf468_6 : decode cJ4_append_cf468 6 = .ok (.aload_n 0, 1) := dz_at (i := 4) dy_p04b_14 rfl
theorem dJ4_append_cf468_7 : decode cJ4_append_cf468 7 = .ok (.areturn, 1) := dz_at (i := 5) dy_p04b_14 rfl
set_option maxHeartbeats 4000000 in
set_option maxRecDepth 100000 in
theorem k_J4_append_cf468 (l : Launch) (dC : Nat → ClassId) (dI : Nat → Nat → Nat) (cB : ClassId) (h : Nat) (v : Nat) (n : Nat) (mm : Nat) (f : Nat → Int32) (ch : Nat) (sz N : Nat) (hm : mm = 16 ∨ mm = 34) (hf : sb_Fit f) (hn : n + 1 ≤ 34) (hc : ch < 256) : Met l yJ4_append_cf468 wsJ4_append_cf468 ({ frames := 5, cells := 1, slots := 34, locals := 165 }) (va_Pc [.ref h, .int (nI ch)] (xT (dC, dI) xCl [(h, eB v (nI n)), (v, eY cB mm f)] [(cB, .byte)] sz N)) (va_Qr (fun (u : Nat × Nat × (Nat → Int32)) => (u.2.1 = 16 ∨ u.2.1 = 34) ∧ n + 1 ≤ u.2.1 ∧ sb_Fit u.2.2) (fun (u : Nat × Nat × (Nat → Int32)) a t => a = h ∧ xW (dC, dI) xCl [(h, eB u.1 (nI (n + 1))), (u.1, eY cB u.2.1 u.2.2)] (va_A [(h, eB v (nI n)), (v, eY cB mm f)] sz) t) (va_A [(h, eB v (nI n)), (v, eY cB mm f)] sz)) 1 34 (va_A [(h, eB v (nI n)), (v, eY cB mm f)] sz) := by
  refine Met.ofW (cc := cJ4_append_cf468) (maxL := 2) (ret := (some (.object "java/lang/StringBuilder"))) (by decide +kernel) rfl ?_
  intro p e s m args below meth c s₁ B hml hv
  obtain ⟨rfl, ⟨hsz, hP, hK, hD0, hN, hG⟩, hT⟩ := hv
  have hx := B.exec
  have hb := B.bytes
  have hr := B.returns
  have hts := atoms_spec (ws := wsJ4_append_cf468) B.pre
  have hown : s.vm.findClass RJ4 = some m.cls := findClass_of_methodNamed B.named
  have hlocks := B.notSynchronized
  subst hsz
  have hAN : ∀ q, va_A [(h, eB v (nI n)), (v, eY cB mm f)] s.heap.size q → N ≤ q := xA_N hD0 hN
  have hD := hD0.self (sz := s.heap.size)
  generalize hAe : va_A [(h, eB v (nI n)), (v, eY cB mm f)] s.heap.size = A at hD hAN ⊢
  have hA : ∀ q : Nat, s.heap.size ≤ q → A q := fun q h => by rw [← hAe]; exact Or.inr h
  have hS : va_S A s.heap s.heap [] := va_S.rf
  have hP : va_P (dC, dI) xCl [(h, eB v (nI n)), (v, eY cB mm f)] s.heap := hP
  obtain ⟨hTc, ⟨tO, tT, fO, fT, hTo, hTt, hTa, hTb, hTf, hTg⟩, ⟨adK, adV, hTs, hTr0, hTr1, hTr2⟩, ⟨aE, hTe⟩, hTn⟩ := id hT
  have hl := lv_entry ([.ref h, .int (nI ch)]) (n := 2) (Nat.le_of_ble_eq_true rfl)
  rw [lg_entry_eq]
  generalize (lg_sl ([.ref h, .int (nI ch)]) ++ List.replicate (2 - (lg_sl ([.ref h, .int (nI ch)])).length) Slot.unset).toArray = ls at hl ⊢
  have hl : lv_has ls 2 [(0, .ref h), (1, .int (nI ch))] := hl
  refine lv_aload_n hx hb dJ4_append_cf468_0 rfl (lv_at hl 0 rfl) ?_
  refine lv_iload_n hx hb dJ4_append_cf468_1 rfl (lv_at hl 1 rfl) ?_
  have hPc := hP.sub (ws' := [(h, eB v (nI n)), (v, eY cB mm f)]) [0, 1] rfl
  have hDc := hD.sub (ws' := [(h, eB v (nI n)), (v, eY cB mm f)]) [0, 1] (by decide +kernel) rfl
  have hKc := hK.sub (tys' := [(cB, .byte)]) [0] rfl
  have hFc := va_free (wc := [(h, eB v (nI n)), (v, eY cB mm f)]) hD hS hA [0, 1] rfl
  refine va_callr (va_runSU (hK.1 1 _ rfl).2 (As := [.int (nI ch)]) (rest := []) ⟨hx, hb, hml, hown, hts⟩ (k_J5_append_3fe6f l dC dI cB h v n mm f ch s.heap.size N hm hf (by omega) (by omega)) (va_cwSU 1 hts gJ4_append_cf468_J5_append_3fe6f_s50 rfl rfl rfl (by decide +kernel) ⟨Nat.le_of_ble_eq_true rfl, Nat.le_of_ble_eq_true rfl⟩) (xT.preV hKc hPc hDc hAN (Nat.le_trans hN hS.1) (hG.kept hS hAN) (hT.kept hS hAN) (ci := 1) (q0 := 0) rfl rfl) rfl rfl hl.1 rfl (lv_room (Nat.le_of_ble_eq_true rfl)) dJ4_append_cf468_2 ⟨(show _ ≤ 1 by omega), (show _ ≤ 34 by omega)⟩) hS (fun q _ h => hFc q h) hFc (fun u_5 r_4 t H locs ht hvm hw hB hz hk hS => ?_)
  obtain ⟨he_r_4, hP1, hD1⟩ := hB
  rw [ht] at hP1
  obtain ⟨v2_1, m2_2, f2_3⟩ := u_5
  obtain ⟨hP, hD⟩ := va_join (wr := []) (w1 := [(h, eB v2_1 (nI (n + 1))), (v2_1, eY cB m2_2 f2_3)]) hP hD [0, 1] [] rfl rfl (by decide +kernel) (by decide +kernel) hk hFc hP1 hD1
  have hP : va_P (dC, dI) xCl [(h, eB v2_1 (nI (n + 1))), (v2_1, eY cB m2_2 f2_3)] H := hP
  have hD : va_D A [(h, eB v2_1 (nI (n + 1))), (v2_1, eY cB m2_2 f2_3)] := hD
  obtain ⟨hm_m2_2, hq_m2_2, hf_m2_2⟩ : (m2_2 = 16 ∨ m2_2 = 34) ∧ n + 1 ≤ m2_2 ∧ sb_Fit f2_3 := hw
  rw [he_r_4]
  refine lv_pop hx hb dJ4_append_cf468_5 rfl ?_
  refine lv_aload_n hx hb dJ4_append_cf468_6 rfl (lv_at hl 0 rfl) ?_
  have hP := hP.sub (ws' := [(h, eB v2_1 (nI (n + 1))), (v2_1, eY cB m2_2 f2_3)]) [0, 1] rfl
  have hD := hD.sub (ws' := [(h, eB v2_1 (nI (n + 1))), (v2_1, eY cB m2_2 f2_3)]) [0, 1] (by decide +kernel) rfl
  refine W.widen (k := 1) (n := 34) (by omega) (by omega) ?_
  exact W.aret (v := .ref h) hx hb hr (Or.inl ⟨_, rfl⟩) (Or.inr ⟨_, rfl⟩) (fun t ht hW => ⟨⟨(v2_1, m2_2, f2_3), _, rfl, ⟨hm_m2_2, hq_m2_2, hf_m2_2⟩, ⟨rfl, by rw [ht]; exact hP, hD⟩⟩, hS.F ht⟩) hS.2.2 dJ4_append_cf468_7
