set_option maxRecDepth 20000 in
theorem ggX1_text_J4_init_da8c8 : GoodIn wsX1_text wsJ4_init_da8c8 := goodIn_r _ [6, 7, 8, 9, 10, 11, 12, 13, 14, 15, 16, 17, 18, 19, 20, 21, 22, 23, 24, 25, 241, 242, 243, 244] (by decide +kernel) (by decide +kernel)
set_option maxRecDepth 20000 in
theorem gX1_text_J4_init_da8c8 : GoodIn wsX1_text (wsJ4_init_da8c8) := ggX1_text_J4_init_da8c8
set_option maxRecDepth 20000 in
theorem ggX1_text_X1_hasSign : GoodIn wsX1_text wsX1_hasSign := goodIn_r _ [30, 31, 245, 246, 247, 248, 249, 250, 251] (by decide +kernel) (by decide +kernel)
set_option maxRecDepth 20000 in
theorem gX1_text_X1_hasSign : GoodIn wsX1_text (wsV RX1 60 RX1 yX1_hasSign wsX1_hasSign) := goodIn_app (goodIn_of _ (by decide +kernel)) ggX1_text_X1_hasSign
set_option maxRecDepth 20000 in
theorem ggX1_text_J4_append_cf468 : GoodIn wsX1_text wsJ4_append_cf468 := goodIn_r _ [35, 36, 37, 38, 39, 9, 40, 41, 16, 42, 43, 44, 45, 46, 17, 47, 48, 49, 50, 51, 52, 53, 54, 55, 56, 57, 58, 59, 60, 61, 62, 63, 64, 65, 66, 67, 68, 69, 70, 71, 72, 73, 74, 15, 75, 76, 77, 78, 79, 80, 81, 82, 83, 84, 85, 86, 14, 87, 88, 89, 90, 91, 92, 93, 94, 95, 18, 19, 20, 21, 22, 23, 24, 25, 96, 97, 98, 99, 100, 101, 102, 103, 104, 105, 106, 107, 108, 109, 110, 111, 112, 113, 114, 115, 116, 117, 118, 119, 120, 121, 122, 123, 124, 125, 126, 127, 128, 129, 130, 131, 132, 133, 134, 241, 242, 243, 244] (by decide +kernel) (by decide +kernel)
set_option maxRecDepth 20000 in
theorem gX1_text_J4_append_cf468 : GoodIn wsX1_text (wsV RX1 79 RJ4 yJ4_append_cf468 wsJ4_append_cf468) := goodIn_app (goodIn_of _ (by decide +kernel)) ggX1_text_J4_append_cf468
set_option maxRecDepth 20000 in
theorem ggX1_text_X1_exponent : GoodIn wsX1_text wsX1_exponent := goodIn_r _ [138, 139, 140, 245, 246, 247, 248, 249, 250, 251] (by decide +kernel) (by decide +kernel)
set_option maxRecDepth 20000 in
theorem gX1_text_X1_exponent : GoodIn wsX1_text (wsV RX1 34 RX1 yX1_exponent wsX1_exponent) := goodIn_app (goodIn_of _ (by decide +kernel)) ggX1_text_X1_exponent
set_option maxRecDepth 20000 in
theorem ggX1_text_J4_append_bf812 : GoodIn wsX1_text wsJ4_append_bf812 := goodIn_r _ [144, 145, 146, 38, 147, 9, 148, 41, 16, 149, 150, 151, 152, 42, 43, 44, 45, 46, 17, 47, 48, 49, 50, 51, 52, 53, 54, 55, 56, 57, 58, 59, 60, 61, 62, 63, 64, 65, 66, 67, 68, 69, 70, 71, 72, 73, 74, 15, 75, 76, 77, 78, 79, 80, 81, 82, 83, 84, 85, 86, 14, 153, 154, 155, 156, 157, 158, 159, 20, 160, 120, 161, 162, 163, 105, 106, 107, 164, 165, 110, 166, 112, 167, 168, 115, 169, 170, 171, 172, 173, 174, 117, 118, 119, 121, 122, 241, 242, 243, 244] (by decide +kernel) (by decide +kernel)
set_option maxRecDepth 20000 in
theorem gX1_text_J4_append_bf812 : GoodIn wsX1_text (wsV RX1 83 RJ4 yJ4_append_bf812 wsJ4_append_bf812) := goodIn_app (goodIn_of _ (by decide +kernel)) ggX1_text_J4_append_bf812
set_option maxRecDepth 20000 in
theorem ggX1_text_X1_fraction : GoodIn wsX1_text wsX1_fraction := goodIn_r _ [178, 179, 245, 246, 247, 248, 249, 250, 251] (by decide +kernel) (by decide +kernel)
set_option maxRecDepth 20000 in
theorem gX1_text_X1_fraction : GoodIn wsX1_text (wsV RX1 38 RX1 yX1_fraction wsX1_fraction) := goodIn_app (goodIn_of _ (by decide +kernel)) ggX1_text_X1_fraction
set_option maxRecDepth 20000 in
theorem ggX1_text_X1_appendWhole : GoodIn wsX1_text wsX1_appendWhole := goodIn_r _ [183, 184, 185, 141, 142, 143, 3, 144, 145, 146, 38, 147, 9, 148, 41, 16, 149, 150, 151, 152, 42, 43, 44, 45, 46, 17, 47, 48, 49, 50, 51, 52, 53, 54, 55, 56, 57, 58, 59, 60, 61, 62, 63, 64, 65, 66, 67, 68, 69, 70, 71, 72, 73, 74, 15, 75, 76, 77, 78, 79, 80, 81, 82, 83, 84, 85, 86, 14, 153, 154, 155, 156, 157, 158, 159, 20, 160, 120, 161, 162, 163, 105, 106, 107, 164, 165, 110, 166, 112, 167, 168, 115, 169, 170, 171, 172, 173, 174, 117, 118, 119, 121, 122, 32, 33, 34, 35, 36, 37, 39, 40, 87, 88, 89, 90, 91, 92, 93, 94, 95, 18, 19, 21, 22, 23, 24, 25, 96, 97, 98, 99, 100, 101, 102, 103, 104, 108, 109, 111, 113, 114, 116, 123, 124, 125, 126, 127, 128, 129, 130, 131, 132, 133, 134, 241, 242, 243, 244] (by decide +kernel) (by decide +kernel)
set_option maxRecDepth 20000 in
theorem gX1_text_X1_appendWhole : GoodIn wsX1_text (wsV RX1 86 RX1 yX1_appendWhole wsX1_appendWhole) := goodIn_app (goodIn_of _ (by decide +kernel)) ggX1_text_X1_appendWhole
set_option maxRecDepth 20000 in
theorem ggX1_text_J4_toString_0e30d : GoodIn wsX1_text wsJ4_toString_0e30d := goodIn_r _ [189, 190, 191, 110, 192, 193, 194, 195, 196, 197, 198, 12, 13, 199, 200, 201, 202, 203, 204, 205, 206, 9, 207, 16, 208, 209, 210, 211, 212, 3, 213, 214, 38, 215, 216, 41, 217, 83, 84, 85, 86, 14, 17, 218, 219, 67, 220, 69, 70, 71, 72, 73, 74, 221, 222, 223, 15, 75, 76, 59, 77, 78, 79, 80, 81, 224, 225, 226, 227, 2, 228, 229, 20, 230, 231, 232, 233, 102, 103, 104, 105, 106, 107, 108, 109, 111, 112, 113, 114, 115, 116, 234, 235, 236, 120, 121, 122, 22, 23, 24, 25, 237, 238, 239, 240, 252, 253, 254, 255, 241, 242, 243, 244] (by decide +kernel) (by decide +kernel)
set_option maxRecDepth 20000 in
theorem gX1_text_J4_toString_0e30d : GoodIn wsX1_text (wsV RX1 90 RJ4 yJ4_toString_0e30d wsJ4_toString_0e30d) := goodIn_app (goodIn_of _ (by decide +kernel)) ggX1_text_J4_toString_0e30d
theorem dX1_text_0 : decode cX1_text 0 = .ok (.new 76, 3) := by decide +kernel
theorem dX1_text_3 : decode cX1_text 3 = .ok (.dup, 1) := by decide +kernel
theorem dX1_text_4 : decode cX1_text 4 = .ok (.invokespecial 78, 3) := by decide +kernel
theorem dX1_text_7 : decode cX1_text 7 = .ok (.astore_n 3, 1) := by decide +kernel
theorem dX1_text_8 : decode cX1_text 8 = .ok (.aload_n 3, 1) := by decide +kernel
theorem dX1_text_9 : decode cX1_text 9 = .ok (.aload_n 0, 1) := by decide +kernel
theorem dX1_text_10 : decode cX1_text 10 = .ok (.lload_n 1, 1) := by decide +kernel
theorem dX1_text_11 : decode cX1_text 11 = .ok (.invokevirtual 60, 3) := by decide +kernel
theorem dX1_text_14 : decode cX1_text 14 = .ok (.ifCond .eq 8, 3) := by decide +kernel
theorem dX1_text_17 : decode cX1_text 17 = .ok (.bipush 49, 2) := by decide +kernel
theorem dX1_text_19 : decode cX1_text 19 = .ok (.goto 5, 3) := by decide +kernel
theorem dX1_text_22 : decode cX1_text 22 = .ok (.bipush 48, 2) := by decide +kernel
theorem dX1_text_24 : decode cX1_text 24 = .ok (.invokevirtual 79, 3) := by decide +kernel
theorem dX1_text_27 : decode cX1_text 27 = .ok (.pop, 1) := by decide +kernel
theorem dX1_text_28 : decode cX1_text 28 = .ok (.aload_n 3, 1) := by decide +kernel
theorem dX1_text_29 : decode cX1_text 29 = .ok (.bipush 32, 2) := by decide +kernel
theorem dX1_text_31 : decode cX1_text 31 = .ok (.invokevirtual 79, 3) := by decide +kernel
theorem dX1_text_34 : decode cX1_text 34 = .ok (.pop, 1) := by decide +kernel
theorem dX1_text_35 : decode cX1_text 35 = .ok (.aload_n 3, 1) := by decide +kernel
theorem dX1_text_36 : decode cX1_text 36 = .ok (.aload_n 0, 1) := by decide +kernel
theorem dX1_text_37 : decode cX1_text 37 = .ok (.lload_n 1, 1) := by decide +kernel
theorem dX1_text_38 : decode cX1_text 38 = .ok (.invokevirtual 34, 3) := by decide +kernel
theorem dX1_text_41 : decode cX1_text 41 = .ok (.invokevirtual 83, 3) := by decide +kernel
theorem dX1_text_44 : decode cX1_text 44 = .ok (.pop, 1) := by decide +kernel
theorem dX1_text_45 : decode cX1_text 45 = .ok (.aload_n 3, 1) := by decide +kernel
theorem dX1_text_46 : decode cX1_text 46 = .ok (.bipush 32, 2) := by decide +kernel
theorem dX1_text_48 : decode cX1_text 48 = .ok (.invokevirtual 79, 3) := by decide +kernel
theorem dX1_text_51 : decode cX1_text 51 = .ok (.pop, 1) := by decide +kernel
theorem dX1_text_52 : decode cX1_text 52 = .ok (.aload_n 0, 1) := by decide +kernel
theorem dX1_text_53 : decode cX1_text 53 = .ok (.aload_n 3, 1) := by decide +kernel
theorem dX1_text_54 : decode cX1_text 54 = .ok (.aload_n 0, 1) := by decide +kernel
theorem dX1_text_55 : decode cX1_text 55 = .ok (.lload_n 1, 1) := by decide +kernel
theorem dX1_text_56 : decode cX1_text 56 = .ok (.invokevirtual 38, 3) := by decide +kernel
theorem dX1_text_59 : decode cX1_text 59 = .ok (.invokevirtual 86, 3) := by decide +kernel
theorem dX1_text_62 : decode cX1_text 62 = .ok (.aload_n 3, 1) := by decide +kernel
theorem dX1_text_63 : decode cX1_text 63 = .ok (.invokevirtual 90, 3) := by decide +kernel
theorem dX1_text_66 : decode cX1_text 66 = .ok (.areturn, 1) := by decide +kernel
set_option maxHeartbeats 4000000 in
set_option maxRecDepth 100000 in
theorem k_X1_text (l : Launch) (dC : Nat → ClassId) (dI : Nat → Nat → Nat) (cB : ClassId) (h0 : Nat) (wd : Bool) (d : Int64) (sz N : Nat) (hok : okN wd d) : Met l yX1_text wsX1_text ({ frames := 7, cells := 18, slots := 540, locals := 214 }) (va_Pc [.ref h0, .long d] (xT (dC, dI) xCl [(h0, eW wd)] [(cB, .byte)] sz N)) (va_Qr (fun (u : Unit) => True) (fun (u : Unit) a t => xW (dC, dI) xCl [(h0, eW wd)] (va_A [(h0, eW wd)] sz) t) (va_A [(h0, eW wd)] sz)) 18 540 (va_A [(h0, eW wd)] sz) := by
  refine Met.ofW (cc := cX1_text) (maxL := 4) (ret := (some (.object "java/lang/String"))) (by decide +kernel) rfl ?_
  intro p e s m args below meth c s₁ B hml hv
  obtain ⟨rfl, ⟨hsz, hP, hK, hD0, hN, hG⟩, hT⟩ := hv
  have hx := B.exec
  have hb := B.bytes
  have hr := B.returns
  have hts := atoms_spec (ws := wsX1_text) B.pre
  have hown : s.vm.findClass RX1 = some m.cls := findClass_of_methodNamed B.named
  have hlocks := B.notSynchronized
  subst hsz
  have hAN : ∀ q, va_A [(h0, eW wd)] s.heap.size q → N ≤ q := xA_N hD0 hN
  have hD := hD0.self (sz := s.heap.size)
  generalize hAe : va_A [(h0, eW wd)] s.heap.size = A at hD hAN ⊢
  have hA : ∀ q : Nat, s.heap.size ≤ q → A q := fun q h => by rw [← hAe]; exact Or.inr h
  have hS : va_S A s.heap s.heap [] := va_S.rf
  have hP : va_P (dC, dI) xCl [(h0, eW wd)] s.heap := hP
  obtain ⟨hTc, ⟨tO, tT, fO, fT, hTo, hTt, hTa, hTb, hTf, hTg⟩, ⟨adK, adV, hTs, hTr0, hTr1, hTr2⟩, ⟨aE, hTe⟩, hTn⟩ := id hT
  have hl := lv_entry ([.ref h0, .long d]) (n := 4) (Nat.le_of_ble_eq_true rfl)
  rw [lg_entry_eq]
  generalize (lg_sl ([.ref h0, .long d]) ++ List.replicate (4 - (lg_sl ([.ref h0, .long d])).length) Slot.unset).toArray = ls at hl ⊢
  have hl : lv_has ls 4 [(0, .ref h0), (1, .long d)] := hl
  obtain ⟨⟨ex, hex, hE, -⟩, ⟨Wn, hW0, hF, -⟩⟩ := jx_of hok
  have hd4 := dg_le4 (w := ex) (by omega)
  refine va_new (ci := 1) (fs := [.null, .int 0, .int 0, .int 0]) (C := RJ4) (T := TJ4) (N := 4) hx hb hts (by decide +kernel) tyJ4 tyJ4_ok hown (hts (.classLink RX1 76 RJ4) (by decide +kernel)) (hts (.instantiable RJ4 4) (by decide +kernel)) (hts (.initialized RJ4) (by decide +kernel)) hK hP hD hS hA rfl (fun j hj => by rcases (show j = 0 ∨ j = 1 ∨ j = 2 ∨ j = 3 by omega) with rfl | rfl | rfl | rfl <;> rfl) (show _ ≤ 18 by omega) (show _ ≤ 540 by omega) dX1_text_0 (fun q0 H hP hD hS => ?_)
  have hP : va_P (dC, dI) xCl [(h0, eW wd), (q0, .inr (1, [.null, .int 0, .int 0, .int 0]))] H := hP
  have hD : va_D A [(h0, eW wd), (q0, .inr (1, [.null, .int 0, .int 0, .int 0]))] := hD
  refine lv_dup hx hb dX1_text_3 rfl ?_
  have hPc := hP.sub (ws' := [(q0, .inr (1, [.null, .int 0, .int 0, .int 0]))]) [1] rfl
  have hDc := hD.sub (ws' := [(q0, .inr (1, [.null, .int 0, .int 0, .int 0]))]) [1] (by decide) rfl
  have hKc := hK.sub (tys' := [(cB, .byte)]) [0] rfl
  have hFc := va_free (wc := [(q0, .inr (1, [.null, .int 0, .int 0, .int 0]))]) hD hS hA [1] rfl
  refine va_callv (va_runI (As := []) (rest := [.ref q0]) ⟨hx, hb, hml, hown, hts⟩ (k_J4_init_da8c8 l dC dI cB q0 H.size N) (cwI 0 hts gX1_text_J4_init_da8c8 rfl rfl rfl (hts (.initialized RJ4) (by decide +kernel)) (hts (.methodLink RX1 78 yJ4_init_da8c8) (by decide +kernel)) (hts (.instanceMethod yJ4_init_da8c8) (by decide +kernel)) rfl (by decide +kernel) ⟨Nat.le_of_ble_eq_true rfl, Nat.le_of_ble_eq_true rfl⟩) (xT.preS  (As := .ref q0 :: []) hKc hPc hDc hAN (Nat.le_trans hN hS.1) (hG.kept hS hAN) (hT.kept hS hAN)) rfl rfl hl.1 rfl (lv_room (Nat.le_of_ble_eq_true rfl)) dX1_text_4 ⟨(show _ ≤ 18 by omega), (show _ ≤ 540 by omega)⟩) hS (fun q _ h => hFc q h) hFc (fun u_3 t H locs ht hvm hw hB hz hk hS => ?_)
  obtain ⟨hP1, hD1⟩ := hB
  rw [ht] at hP1
  obtain ⟨v_1, rfl⟩ : ∃ z, z = u_3 := ⟨_, rfl⟩
  obtain ⟨hP, hD⟩ := va_join (wr := [(h0, eW wd)]) (w1 := [(q0, eB v_1 0), (v_1, eY cB 16 (fun _ => 0))]) hP hD [1] [0] rfl rfl (by decide) (by decide) hk hFc hP1 hD1
  have hP : va_P (dC, dI) xCl [(h0, eW wd), (q0, eB v_1 0), (v_1, eY cB 16 (fun _ => 0))] H := hP
  have hD : va_D A [(h0, eW wd), (q0, eB v_1 0), (v_1, eY cB 16 (fun _ => 0))] := hD
  refine lv_astore_n (lv' := [(3, .ref q0), (0, .ref h0), (1, .long d)]) hx hb dX1_text_7 rfl hl (by decide) rfl (fun ls hl => ?_)
  refine lv_aload_n hx hb dX1_text_8 rfl (lv_at hl 0 rfl) ?_
  refine lv_aload_n hx hb dX1_text_9 rfl (lv_at hl 1 rfl) ?_
  refine lv_lload_n hx hb dX1_text_10 rfl (lv_at hl 2 rfl) ?_
  have hPc := hP.sub (ws' := [(h0, eW wd)]) [0] rfl
  have hDc := hD.sub (ws' := [(h0, eW wd)]) [0] (by decide) rfl
  have hKc := hK.sub (tys' := []) [] rfl
  have hFc := va_free (wc := [(h0, eW wd)]) hD hS hA [0] rfl
  refine va_calli (va_runV (As := [.long d]) (rest := [.ref q0]) ⟨hx, hb, hml, hown, hts⟩ (k_X1_hasSign l dC dI h0 wd H.size d) (cwV 1 hts gX1_text_X1_hasSign rfl rfl rfl (by decide +kernel) ⟨Nat.le_of_ble_eq_true rfl, Nat.le_of_ble_eq_true rfl⟩) (xB.preV hKc hPc (ci := 3) (q0 := 0) rfl rfl) rfl rfl hl.1 rfl (lv_room (Nat.le_of_ble_eq_true rfl)) dX1_text_11 ⟨(show _ ≤ 18 by omega), (show _ ≤ 540 by omega)⟩) hS xA_old (fun q h => hA q (Nat.le_trans hS.1 h)) (fun r_4 u_5 t H locs ht hvm hw hB hz hk hS => ?_)
  have hP := xP_keep hP hk
  have hw : r_4 = b2i (o_X1_hasSign wd d) := hw
  rw [hw]
  refine xz_eq (tgt := 22) hx hb dX1_text_14 (by decide) (fun c_6 => ?_) (fun c_6 => ?_)
  · skip
    refine lv_bipush (v := 48) hx hb dX1_text_22 (by decide) ?_
    have hPc := hP.sub (ws' := [(q0, eB v_1 0), (v_1, eY cB 16 (fun _ => 0))]) [1, 2] rfl
    have hDc := hD.sub (ws' := [(q0, eB v_1 0), (v_1, eY cB 16 (fun _ => 0))]) [1, 2] (by decide) rfl
    have hKc := hK.sub (tys' := [(cB, .byte)]) [0] rfl
    have hFc := va_free (wc := [(q0, eB v_1 0), (v_1, eY cB 16 (fun _ => 0))]) hD hS hA [1, 2] rfl
    refine va_callr (va_runV (As := [.int 48]) (rest := []) ⟨hx, hb, hml, hown, hts⟩ (k_J4_append_cf468 l dC dI cB q0 v_1 0 16 (fun _ => 0) 48 H.size N (Or.inl rfl) sb_fit0 (by omega) (by decide)) (cwV 1 hts gX1_text_J4_append_cf468 rfl rfl rfl (by decide +kernel) ⟨Nat.le_of_ble_eq_true rfl, Nat.le_of_ble_eq_true rfl⟩) (xT.preV hKc hPc hDc hAN (Nat.le_trans hN hS.1) (hG.kept hS hAN) (hT.kept hS hAN) (ci := 1) (q0 := 0) rfl rfl) rfl rfl hl.1 rfl (lv_room (Nat.le_of_ble_eq_true rfl)) dX1_text_24 ⟨(show _ ≤ 18 by omega), (show _ ≤ 540 by omega)⟩) hS (fun q _ h => hFc q h) hFc (fun u_11 r_10 t H locs ht hvm hw hB hz hk hS => ?_)
    obtain ⟨he_r_10, hP1, hD1⟩ := hB
    rw [ht] at hP1
    obtain ⟨v2_7, m2_8, f2_9⟩ := u_11
    obtain ⟨hP, hD⟩ := va_join (wr := [(h0, eW wd)]) (w1 := [(q0, eB v2_7 (nI (0 + 1))), (v2_7, eY cB m2_8 f2_9)]) hP hD [1, 2] [0] rfl rfl (by decide) (by decide) hk hFc hP1 hD1
    have hP : va_P (dC, dI) xCl [(h0, eW wd), (q0, eB v2_7 (nI (0 + 1))), (v2_7, eY cB m2_8 f2_9)] H := hP
    have hD : va_D A [(h0, eW wd), (q0, eB v2_7 (nI (0 + 1))), (v2_7, eY cB m2_8 f2_9)] := hD
    obtain ⟨hm_m2_8, hq_m2_8, hf_m2_8⟩ : (m2_8 = 16 ∨ m2_8 = 34) ∧ 0 + 1 ≤ m2_8 ∧ sb_Fit f2_9 := hw
    rw [he_r_10]
    refine lv_pop hx hb dX1_text_27 rfl ?_
    refine lv_aload_n hx hb dX1_text_28 rfl (lv_at hl 0 rfl) ?_
    refine lv_bipush (v := 32) hx hb dX1_text_29 (by decide) ?_
    have hPc := hP.sub (ws' := [(q0, eB v2_7 (nI (0 + 1))), (v2_7, eY cB m2_8 f2_9)]) [1, 2] rfl
    have hDc := hD.sub (ws' := [(q0, eB v2_7 (nI (0 + 1))), (v2_7, eY cB m2_8 f2_9)]) [1, 2] (by decide) rfl
    have hKc := hK.sub (tys' := [(cB, .byte)]) [0] rfl
    have hFc := va_free (wc := [(q0, eB v2_7 (nI (0 + 1))), (v2_7, eY cB m2_8 f2_9)]) hD hS hA [1, 2] rfl
    refine va_callr (va_runV (As := [.int 32]) (rest := []) ⟨hx, hb, hml, hown, hts⟩ (k_J4_append_cf468 l dC dI cB q0 v2_7 (0 + 1) m2_8 f2_9 32 H.size N hm_m2_8 hf_m2_8 (by omega) (by decide)) (cwV 1 hts gX1_text_J4_append_cf468 rfl rfl rfl (by decide +kernel) ⟨Nat.le_of_ble_eq_true rfl, Nat.le_of_ble_eq_true rfl⟩) (xT.preV hKc hPc hDc hAN (Nat.le_trans hN hS.1) (hG.kept hS hAN) (hT.kept hS hAN) (ci := 1) (q0 := 0) rfl rfl) rfl rfl hl.1 rfl (lv_room (Nat.le_of_ble_eq_true rfl)) dX1_text_31 ⟨(show _ ≤ 18 by omega), (show _ ≤ 540 by omega)⟩) hS (fun q _ h => hFc q h) hFc (fun u_16 r_15 t H locs ht hvm hw hB hz hk hS => ?_)
    obtain ⟨he_r_15, hP1, hD1⟩ := hB
    rw [ht] at hP1
    obtain ⟨v2_12, m2_13, f2_14⟩ := u_16
    obtain ⟨hP, hD⟩ := va_join (wr := [(h0, eW wd)]) (w1 := [(q0, eB v2_12 (nI ((0 + 1) + 1))), (v2_12, eY cB m2_13 f2_14)]) hP hD [1, 2] [0] rfl rfl (by decide) (by decide) hk hFc hP1 hD1
    have hP : va_P (dC, dI) xCl [(h0, eW wd), (q0, eB v2_12 (nI ((0 + 1) + 1))), (v2_12, eY cB m2_13 f2_14)] H := hP
    have hD : va_D A [(h0, eW wd), (q0, eB v2_12 (nI ((0 + 1) + 1))), (v2_12, eY cB m2_13 f2_14)] := hD
    obtain ⟨hm_m2_13, hq_m2_13, hf_m2_13⟩ : (m2_13 = 16 ∨ m2_13 = 34) ∧ (0 + 1) + 1 ≤ m2_13 ∧ sb_Fit f2_14 := hw
    rw [he_r_15]
    refine lv_pop hx hb dX1_text_34 rfl ?_
    refine lv_aload_n hx hb dX1_text_35 rfl (lv_at hl 0 rfl) ?_
    refine lv_aload_n hx hb dX1_text_36 rfl (lv_at hl 1 rfl) ?_
    refine lv_lload_n hx hb dX1_text_37 rfl (lv_at hl 2 rfl) ?_
    have hPc := hP.sub (ws' := [(h0, eW wd)]) [0] rfl
    have hDc := hD.sub (ws' := [(h0, eW wd)]) [0] (by decide) rfl
    have hKc := hK.sub (tys' := []) [] rfl
    have hFc := va_free (wc := [(h0, eW wd)]) hD hS hA [0] rfl
    refine va_calli (va_runV (As := [.long d]) (rest := [.ref q0]) ⟨hx, hb, hml, hown, hts⟩ (k_X1_exponent l dC dI h0 wd H.size d) (cwV 1 hts gX1_text_X1_exponent rfl rfl rfl (by decide +kernel) ⟨Nat.le_of_ble_eq_true rfl, Nat.le_of_ble_eq_true rfl⟩) (xB.preV hKc hPc (ci := 3) (q0 := 0) rfl rfl) rfl rfl hl.1 rfl (lv_room (Nat.le_of_ble_eq_true rfl)) dX1_text_38 ⟨(show _ ≤ 18 by omega), (show _ ≤ 540 by omega)⟩) hS xA_old (fun q h => hA q (Nat.le_trans hS.1 h)) (fun r_17 u_18 t H locs ht hvm hw hB hz hk hS => ?_)
    have hP := xP_keep hP hk
    have hw : r_17 = nI ex := hw.trans hE
    rw [hw]
    have hPc := hP.sub (ws' := [(q0, eB v2_12 (nI ((0 + 1) + 1))), (v2_12, eY cB m2_13 f2_14)]) [1, 2] rfl
    have hDc := hD.sub (ws' := [(q0, eB v2_12 (nI ((0 + 1) + 1))), (v2_12, eY cB m2_13 f2_14)]) [1, 2] (by decide) rfl
    have hKc := hK.sub (tys' := [(cB, .byte)]) [0] rfl
    have hFc := va_free (wc := [(q0, eB v2_12 (nI ((0 + 1) + 1))), (v2_12, eY cB m2_13 f2_14)]) hD hS hA [1, 2] rfl
    refine va_callr (va_runV (As := [.int (nI ex)]) (rest := []) ⟨hx, hb, hml, hown, hts⟩ (k_J4_append_bf812 l dC dI cB q0 v2_12 ((0 + 1) + 1) m2_13 f2_14 ex H.size N hm_m2_13 hf_m2_13 (by omega) (by omega)) (cwV 1 hts gX1_text_J4_append_bf812 rfl rfl rfl (by decide +kernel) ⟨Nat.le_of_ble_eq_true rfl, Nat.le_of_ble_eq_true rfl⟩) (xT.preV hKc hPc hDc hAN (Nat.le_trans hN hS.1) (hG.kept hS hAN) (hT.kept hS hAN) (ci := 1) (q0 := 0) rfl rfl) rfl rfl hl.1 rfl (lv_room (Nat.le_of_ble_eq_true rfl)) dX1_text_41 ⟨(show _ ≤ 18 by omega), (show _ ≤ 540 by omega)⟩) hS (fun q _ h => hFc q h) hFc (fun u_23 r_22 t H locs ht hvm hw hB hz hk hS => ?_)
    obtain ⟨he_r_22, hP1, hD1⟩ := hB
    rw [ht] at hP1
    obtain ⟨v2_19, m2_20, f2_21⟩ := u_23
    obtain ⟨hP, hD⟩ := va_join (wr := [(h0, eW wd)]) (w1 := [(q0, eB v2_19 (nI (((0 + 1) + 1) + sb_dg ex))), (v2_19, eY cB m2_20 f2_21)]) hP hD [1, 2] [0] rfl rfl (by decide) (by decide) hk hFc hP1 hD1
    have hP : va_P (dC, dI) xCl [(h0, eW wd), (q0, eB v2_19 (nI (((0 + 1) + 1) + sb_dg ex))), (v2_19, eY cB m2_20 f2_21)] H := hP
    have hD : va_D A [(h0, eW wd), (q0, eB v2_19 (nI (((0 + 1) + 1) + sb_dg ex))), (v2_19, eY cB m2_20 f2_21)] := hD
    obtain ⟨hm_m2_20, hq_m2_20, hf_m2_20⟩ : (m2_20 = 16 ∨ m2_20 = 34) ∧ ((0 + 1) + 1) + sb_dg ex ≤ m2_20 ∧ sb_Fit f2_21 := hw
    rw [he_r_22]
    refine lv_pop hx hb dX1_text_44 rfl ?_
    refine lv_aload_n hx hb dX1_text_45 rfl (lv_at hl 0 rfl) ?_
    refine lv_bipush (v := 32) hx hb dX1_text_46 (by decide) ?_
    have hPc := hP.sub (ws' := [(q0, eB v2_19 (nI (((0 + 1) + 1) + sb_dg ex))), (v2_19, eY cB m2_20 f2_21)]) [1, 2] rfl
    have hDc := hD.sub (ws' := [(q0, eB v2_19 (nI (((0 + 1) + 1) + sb_dg ex))), (v2_19, eY cB m2_20 f2_21)]) [1, 2] (by decide) rfl
    have hKc := hK.sub (tys' := [(cB, .byte)]) [0] rfl
    have hFc := va_free (wc := [(q0, eB v2_19 (nI (((0 + 1) + 1) + sb_dg ex))), (v2_19, eY cB m2_20 f2_21)]) hD hS hA [1, 2] rfl
    refine va_callr (va_runV (As := [.int 32]) (rest := []) ⟨hx, hb, hml, hown, hts⟩ (k_J4_append_cf468 l dC dI cB q0 v2_19 (((0 + 1) + 1) + sb_dg ex) m2_20 f2_21 32 H.size N hm_m2_20 hf_m2_20 (by omega) (by decide)) (cwV 1 hts gX1_text_J4_append_cf468 rfl rfl rfl (by decide +kernel) ⟨Nat.le_of_ble_eq_true rfl, Nat.le_of_ble_eq_true rfl⟩) (xT.preV hKc hPc hDc hAN (Nat.le_trans hN hS.1) (hG.kept hS hAN) (hT.kept hS hAN) (ci := 1) (q0 := 0) rfl rfl) rfl rfl hl.1 rfl (lv_room (Nat.le_of_ble_eq_true rfl)) dX1_text_48 ⟨(show _ ≤ 18 by omega), (show _ ≤ 540 by omega)⟩) hS (fun q _ h => hFc q h) hFc (fun u_28 r_27 t H locs ht hvm hw hB hz hk hS => ?_)
    obtain ⟨he_r_27, hP1, hD1⟩ := hB
    rw [ht] at hP1
    obtain ⟨v2_24, m2_25, f2_26⟩ := u_28
    obtain ⟨hP, hD⟩ := va_join (wr := [(h0, eW wd)]) (w1 := [(q0, eB v2_24 (nI ((((0 + 1) + 1) + sb_dg ex) + 1))), (v2_24, eY cB m2_25 f2_26)]) hP hD [1, 2] [0] rfl rfl (by decide) (by decide) hk hFc hP1 hD1
    have hP : va_P (dC, dI) xCl [(h0, eW wd), (q0, eB v2_24 (nI ((((0 + 1) + 1) + sb_dg ex) + 1))), (v2_24, eY cB m2_25 f2_26)] H := hP
    have hD : va_D A [(h0, eW wd), (q0, eB v2_24 (nI ((((0 + 1) + 1) + sb_dg ex) + 1))), (v2_24, eY cB m2_25 f2_26)] := hD
    obtain ⟨hm_m2_25, hq_m2_25, hf_m2_25⟩ : (m2_25 = 16 ∨ m2_25 = 34) ∧ (((0 + 1) + 1) + sb_dg ex) + 1 ≤ m2_25 ∧ sb_Fit f2_26 := hw
    rw [he_r_27]
    refine lv_pop hx hb dX1_text_51 rfl ?_
    refine lv_aload_n hx hb dX1_text_52 rfl (lv_at hl 1 rfl) ?_
    refine lv_aload_n hx hb dX1_text_53 rfl (lv_at hl 0 rfl) ?_
    refine lv_aload_n hx hb dX1_text_54 rfl (lv_at hl 1 rfl) ?_
    refine lv_lload_n hx hb dX1_text_55 rfl (lv_at hl 2 rfl) ?_
    have hPc := hP.sub (ws' := [(h0, eW wd)]) [0] rfl
    have hDc := hD.sub (ws' := [(h0, eW wd)]) [0] (by decide) rfl
    have hKc := hK.sub (tys' := []) [] rfl
    have hFc := va_free (wc := [(h0, eW wd)]) hD hS hA [0] rfl
    refine va_calll (va_runV (As := [.long d]) (rest := [.ref q0, .ref h0]) ⟨hx, hb, hml, hown, hts⟩ (k_X1_fraction l dC dI h0 wd H.size d) (cwV 1 hts gX1_text_X1_fraction rfl rfl rfl (by decide +kernel) ⟨Nat.le_of_ble_eq_true rfl, Nat.le_of_ble_eq_true rfl⟩) (xB.preV hKc hPc (ci := 3) (q0 := 0) rfl rfl) rfl rfl hl.1 rfl (lv_room (Nat.le_of_ble_eq_true rfl)) dX1_text_56 ⟨(show _ ≤ 18 by omega), (show _ ≤ 540 by omega)⟩) hS xA_old (fun q h => hA q (Nat.le_trans hS.1 h)) (fun r_29 u_30 t H locs ht hvm hw hB hz hk hS => ?_)
    have hP := xP_keep hP hk
    have hw : r_29 = lN Wn := hw.trans hF
    rw [hw]
    have hPc := hP.sub (ws' := [(h0, eW wd), (q0, eB v2_24 (nI ((((0 + 1) + 1) + sb_dg ex) + 1))), (v2_24, eY cB m2_25 f2_26)]) [0, 1, 2] rfl
    have hDc := hD.sub (ws' := [(h0, eW wd), (q0, eB v2_24 (nI ((((0 + 1) + 1) + sb_dg ex) + 1))), (v2_24, eY cB m2_25 f2_26)]) [0, 1, 2] (by decide) rfl
    have hKc := hK.sub (tys' := [(cB, .byte)]) [0] rfl
    have hFc := va_free (wc := [(h0, eW wd), (q0, eB v2_24 (nI ((((0 + 1) + 1) + sb_dg ex) + 1))), (v2_24, eY cB m2_25 f2_26)]) hD hS hA [0, 1, 2] rfl
    refine va_callv (va_runV (As := [.ref q0, .long (lN Wn)]) (rest := []) ⟨hx, hb, hml, hown, hts⟩ (k_X1_appendWhole l dC dI cB h0 wd q0 v2_24 ((((0 + 1) + 1) + sb_dg ex) + 1) m2_25 f2_26 Wn H.size N hm_m2_25 hf_m2_25 (by omega) (by omega)) (cwV 2 hts gX1_text_X1_appendWhole rfl rfl rfl (by decide +kernel) ⟨Nat.le_of_ble_eq_true rfl, Nat.le_of_ble_eq_true rfl⟩) (xT.preV hKc hPc hDc hAN (Nat.le_trans hN hS.1) (hG.kept hS hAN) (hT.kept hS hAN) (ci := 3) (q0 := 0) rfl rfl) rfl rfl hl.1 rfl (lv_room (Nat.le_of_ble_eq_true rfl)) dX1_text_59 ⟨(show _ ≤ 18 by omega), (show _ ≤ 540 by omega)⟩) hS (fun q _ h => hFc q h) hFc (fun u_36 t H locs ht hvm hw hB hz hk hS => ?_)
    obtain ⟨hP1, hD1⟩ := hB
    rw [ht] at hP1
    obtain ⟨n2_31, v2_32, m2_33, f2_34⟩ := u_36
    obtain ⟨hP, hD⟩ := va_join (wr := []) (w1 := [(h0, eW wd), (q0, eB v2_32 (nI n2_31)), (v2_32, eY cB m2_33 f2_34)]) hP hD [0, 1, 2] [] rfl rfl (by decide) (by decide) hk hFc hP1 hD1
    have hP : va_P (dC, dI) xCl [(h0, eW wd), (q0, eB v2_32 (nI n2_31)), (v2_32, eY cB m2_33 f2_34)] H := hP
    have hD : va_D A [(h0, eW wd), (q0, eB v2_32 (nI n2_31)), (v2_32, eY cB m2_33 f2_34)] := hD
    obtain ⟨hm_m2_33, hq_m2_33, hf_m2_33⟩ : (m2_33 = 16 ∨ m2_33 = 34) ∧ n2_31 ≤ m2_33 ∧ sb_Fit f2_34 := hw
    refine lv_aload_n hx hb dX1_text_62 rfl (lv_at hl 0 rfl) ?_
    have hPc := hP.sub (ws' := [(q0, eB v2_32 (nI n2_31)), (v2_32, eY cB m2_33 f2_34)]) [1, 2] rfl
    have hDc := hD.sub (ws' := [(q0, eB v2_32 (nI n2_31)), (v2_32, eY cB m2_33 f2_34)]) [1, 2] (by decide) rfl
    have hKc := hK.sub (tys' := [(cB, .byte)]) [0] rfl
    have hFc := va_free (wc := [(q0, eB v2_32 (nI n2_31)), (v2_32, eY cB m2_33 f2_34)]) hD hS hA [1, 2] rfl
    refine va_callr (va_runV (As := []) (rest := []) ⟨hx, hb, hml, hown, hts⟩ (k_J4_toString_0e30d l dC dI cB q0 v2_32 n2_31 m2_33 f2_34 H.size N (by omega) (by omega) hf_m2_33) (cwV 0 hts gX1_text_J4_toString_0e30d rfl rfl rfl (by decide +kernel) ⟨Nat.le_of_ble_eq_true rfl, Nat.le_of_ble_eq_true rfl⟩) (xT.preV hKc hPc hDc hAN (Nat.le_trans hN hS.1) (hG.kept hS hAN) (hT.kept hS hAN) (ci := 1) (q0 := 0) rfl rfl) rfl rfl hl.1 rfl (lv_room (Nat.le_of_ble_eq_true rfl)) dX1_text_63 ⟨(show _ ≤ 18 by omega), (show _ ≤ 540 by omega)⟩) hS (fun q _ h => hFc q h) hFc (fun u_38 r_37 t H locs ht hvm hw hB hz hk hS => ?_)
    obtain ⟨hP1, hD1⟩ := hB
    rw [ht] at hP1
    obtain ⟨hP, hD⟩ := va_join (wr := [(h0, eW wd)]) (w1 := []) hP hD [1, 2] [0] rfl rfl (by decide) (by decide) hk hFc hP1 hD1
    have hP : va_P (dC, dI) xCl [(h0, eW wd)] H := hP
    have hD : va_D A [(h0, eW wd)] := hD
    have hP := hP.sub (ws' := [(h0, eW wd)]) [0] rfl
    have hD := hD.sub (ws' := [(h0, eW wd)]) [0] (by decide) rfl
    refine W.widen (k := 18) (n := 540) (by omega) (by omega) ?_
    exact W.aret (v := .ref r_37) hx hb hr (Or.inl ⟨_, rfl⟩) (Or.inr ⟨_, rfl⟩) (fun t ht hW => ⟨⟨(), _, rfl, trivial, ⟨by rw [ht]; exact hP, hD⟩⟩, hS.F ht⟩) hS.2.2 dX1_text_66
  · skip
    refine lv_bipush (v := 49) hx hb dX1_text_17 (by decide) ?_
    refine lv_goto (tgt := 24) hx hb dX1_text_19 (by decide) ?_
    have hPc := hP.sub (ws' := [(q0, eB v_1 0), (v_1, eY cB 16 (fun _ => 0))]) [1, 2] rfl
    have hDc := hD.sub (ws' := [(q0, eB v_1 0), (v_1, eY cB 16 (fun _ => 0))]) [1, 2] (by decide) rfl
    have hKc := hK.sub (tys' := [(cB, .byte)]) [0] rfl
    have hFc := va_free (wc := [(q0, eB v_1 0), (v_1, eY cB 16 (fun _ => 0))]) hD hS hA [1, 2] rfl
    refine va_callr (va_runV (As := [.int 49]) (rest := []) ⟨hx, hb, hml, hown, hts⟩ (k_J4_append_cf468 l dC dI cB q0 v_1 0 16 (fun _ => 0) 49 H.size N (Or.inl rfl) sb_fit0 (by omega) (by decide)) (cwV 1 hts gX1_text_J4_append_cf468 rfl rfl rfl (by decide +kernel) ⟨Nat.le_of_ble_eq_true rfl, Nat.le_of_ble_eq_true rfl⟩) (xT.preV hKc hPc hDc hAN (Nat.le_trans hN hS.1) (hG.kept hS hAN) (hT.kept hS hAN) (ci := 1) (q0 := 0) rfl rfl) rfl rfl hl.1 rfl (lv_room (Nat.le_of_ble_eq_true rfl)) dX1_text_24 ⟨(show _ ≤ 18 by omega), (show _ ≤ 540 by omega)⟩) hS (fun q _ h => hFc q h) hFc (fun u_43 r_42 t H locs ht hvm hw hB hz hk hS => ?_)
    obtain ⟨he_r_42, hP1, hD1⟩ := hB
    rw [ht] at hP1
    obtain ⟨v2_39, m2_40, f2_41⟩ := u_43
    obtain ⟨hP, hD⟩ := va_join (wr := [(h0, eW wd)]) (w1 := [(q0, eB v2_39 (nI (0 + 1))), (v2_39, eY cB m2_40 f2_41)]) hP hD [1, 2] [0] rfl rfl (by decide) (by decide) hk hFc hP1 hD1
    have hP : va_P (dC, dI) xCl [(h0, eW wd), (q0, eB v2_39 (nI (0 + 1))), (v2_39, eY cB m2_40 f2_41)] H := hP
    have hD : va_D A [(h0, eW wd), (q0, eB v2_39 (nI (0 + 1))), (v2_39, eY cB m2_40 f2_41)] := hD
    obtain ⟨hm_m2_40, hq_m2_40, hf_m2_40⟩ : (m2_40 = 16 ∨ m2_40 = 34) ∧ 0 + 1 ≤ m2_40 ∧ sb_Fit f2_41 := hw
    rw [he_r_42]
    refine lv_pop hx hb dX1_text_27 rfl ?_
    refine lv_aload_n hx hb dX1_text_28 rfl (lv_at hl 0 rfl) ?_
    refine lv_bipush (v := 32) hx hb dX1_text_29 (by decide) ?_
    have hPc := hP.sub (ws' := [(q0, eB v2_39 (nI (0 + 1))), (v2_39, eY cB m2_40 f2_41)]) [1, 2] rfl
    have hDc := hD.sub (ws' := [(q0, eB v2_39 (nI (0 + 1))), (v2_39, eY cB m2_40 f2_41)]) [1, 2] (by decide) rfl
    have hKc := hK.sub (tys' := [(cB, .byte)]) [0] rfl
    have hFc := va_free (wc := [(q0, eB v2_39 (nI (0 + 1))), (v2_39, eY cB m2_40 f2_41)]) hD hS hA [1, 2] rfl
    refine va_callr (va_runV (As := [.int 32]) (rest := []) ⟨hx, hb, hml, hown, hts⟩ (k_J4_append_cf468 l dC dI cB q0 v2_39 (0 + 1) m2_40 f2_41 32 H.size N hm_m2_40 hf_m2_40 (by omega) (by decide)) (cwV 1 hts gX1_text_J4_append_cf468 rfl rfl rfl (by decide +kernel) ⟨Nat.le_of_ble_eq_true rfl, Nat.le_of_ble_eq_true rfl⟩) (xT.preV hKc hPc hDc hAN (Nat.le_trans hN hS.1) (hG.kept hS hAN) (hT.kept hS hAN) (ci := 1) (q0 := 0) rfl rfl) rfl rfl hl.1 rfl (lv_room (Nat.le_of_ble_eq_true rfl)) dX1_text_31 ⟨(show _ ≤ 18 by omega), (show _ ≤ 540 by omega)⟩) hS (fun q _ h => hFc q h) hFc (fun u_48 r_47 t H locs ht hvm hw hB hz hk hS => ?_)
    obtain ⟨he_r_47, hP1, hD1⟩ := hB
    rw [ht] at hP1
    obtain ⟨v2_44, m2_45, f2_46⟩ := u_48
    obtain ⟨hP, hD⟩ := va_join (wr := [(h0, eW wd)]) (w1 := [(q0, eB v2_44 (nI ((0 + 1) + 1))), (v2_44, eY cB m2_45 f2_46)]) hP hD [1, 2] [0] rfl rfl (by decide) (by decide) hk hFc hP1 hD1
    have hP : va_P (dC, dI) xCl [(h0, eW wd), (q0, eB v2_44 (nI ((0 + 1) + 1))), (v2_44, eY cB m2_45 f2_46)] H := hP
    have hD : va_D A [(h0, eW wd), (q0, eB v2_44 (nI ((0 + 1) + 1))), (v2_44, eY cB m2_45 f2_46)] := hD
    obtain ⟨hm_m2_45, hq_m2_45, hf_m2_45⟩ : (m2_45 = 16 ∨ m2_45 = 34) ∧ (0 + 1) + 1 ≤ m2_45 ∧ sb_Fit f2_46 := hw
    rw [he_r_47]
    refine lv_pop hx hb dX1_text_34 rfl ?_
    refine lv_aload_n hx hb dX1_text_35 rfl (lv_at hl 0 rfl) ?_
    refine lv_aload_n hx hb dX1_text_36 rfl (lv_at hl 1 rfl) ?_
    refine lv_lload_n hx hb dX1_text_37 rfl (lv_at hl 2 rfl) ?_
    have hPc := hP.sub (ws' := [(h0, eW wd)]) [0] rfl
    have hDc := hD.sub (ws' := [(h0, eW wd)]) [0] (by decide) rfl
    have hKc := hK.sub (tys' := []) [] rfl
    have hFc := va_free (wc := [(h0, eW wd)]) hD hS hA [0] rfl
    refine va_calli (va_runV (As := [.long d]) (rest := [.ref q0]) ⟨hx, hb, hml, hown, hts⟩ (k_X1_exponent l dC dI h0 wd H.size d) (cwV 1 hts gX1_text_X1_exponent rfl rfl rfl (by decide +kernel) ⟨Nat.le_of_ble_eq_true rfl, Nat.le_of_ble_eq_true rfl⟩) (xB.preV hKc hPc (ci := 3) (q0 := 0) rfl rfl) rfl rfl hl.1 rfl (lv_room (Nat.le_of_ble_eq_true rfl)) dX1_text_38 ⟨(show _ ≤ 18 by omega), (show _ ≤ 540 by omega)⟩) hS xA_old (fun q h => hA q (Nat.le_trans hS.1 h)) (fun r_49 u_50 t H locs ht hvm hw hB hz hk hS => ?_)
    have hP := xP_keep hP hk
    have hw : r_49 = nI ex := hw.trans hE
    rw [hw]
    have hPc := hP.sub (ws' := [(q0, eB v2_44 (nI ((0 + 1) + 1))), (v2_44, eY cB m2_45 f2_46)]) [1, 2] rfl
    have hDc := hD.sub (ws' := [(q0, eB v2_44 (nI ((0 + 1) + 1))), (v2_44, eY cB m2_45 f2_46)]) [1, 2] (by decide) rfl
    have hKc := hK.sub (tys' := [(cB, .byte)]) [0] rfl
    have hFc := va_free (wc := [(q0, eB v2_44 (nI ((0 + 1) + 1))), (v2_44, eY cB m2_45 f2_46)]) hD hS hA [1, 2] rfl
    refine va_callr (va_runV (As := [.int (nI ex)]) (rest := []) ⟨hx, hb, hml, hown, hts⟩ (k_J4_append_bf812 l dC dI cB q0 v2_44 ((0 + 1) + 1) m2_45 f2_46 ex H.size N hm_m2_45 hf_m2_45 (by omega) (by omega)) (cwV 1 hts gX1_text_J4_append_bf812 rfl rfl rfl (by decide +kernel) ⟨Nat.le_of_ble_eq_true rfl, Nat.le_of_ble_eq_true rfl⟩) (xT.preV hKc hPc hDc hAN (Nat.le_trans hN hS.1) (hG.kept hS hAN) (hT.kept hS hAN) (ci := 1) (q0 := 0) rfl rfl) rfl rfl hl.1 rfl (lv_room (Nat.le_of_ble_eq_true rfl)) dX1_text_41 ⟨(show _ ≤ 18 by omega), (show _ ≤ 540 by omega)⟩) hS (fun q _ h => hFc q h) hFc (fun u_55 r_54 t H locs ht hvm hw hB hz hk hS => ?_)
    obtain ⟨he_r_54, hP1, hD1⟩ := hB
    rw [ht] at hP1
    obtain ⟨v2_51, m2_52, f2_53⟩ := u_55
    obtain ⟨hP, hD⟩ := va_join (wr := [(h0, eW wd)]) (w1 := [(q0, eB v2_51 (nI (((0 + 1) + 1) + sb_dg ex))), (v2_51, eY cB m2_52 f2_53)]) hP hD [1, 2] [0] rfl rfl (by decide) (by decide) hk hFc hP1 hD1
    have hP : va_P (dC, dI) xCl [(h0, eW wd), (q0, eB v2_51 (nI (((0 + 1) + 1) + sb_dg ex))), (v2_51, eY cB m2_52 f2_53)] H := hP
    have hD : va_D A [(h0, eW wd), (q0, eB v2_51 (nI (((0 + 1) + 1) + sb_dg ex))), (v2_51, eY cB m2_52 f2_53)] := hD
    obtain ⟨hm_m2_52, hq_m2_52, hf_m2_52⟩ : (m2_52 = 16 ∨ m2_52 = 34) ∧ ((0 + 1) + 1) + sb_dg ex ≤ m2_52 ∧ sb_Fit f2_53 := hw
    rw [he_r_54]
    refine lv_pop hx hb dX1_text_44 rfl ?_
    refine lv_aload_n hx hb dX1_text_45 rfl (lv_at hl 0 rfl) ?_
    refine lv_bipush (v := 32) hx hb dX1_text_46 (by decide) ?_
    have hPc := hP.sub (ws' := [(q0, eB v2_51 (nI (((0 + 1) + 1) + sb_dg ex))), (v2_51, eY cB m2_52 f2_53)]) [1, 2] rfl
    have hDc := hD.sub (ws' := [(q0, eB v2_51 (nI (((0 + 1) + 1) + sb_dg ex))), (v2_51, eY cB m2_52 f2_53)]) [1, 2] (by decide) rfl
    have hKc := hK.sub (tys' := [(cB, .byte)]) [0] rfl
    have hFc := va_free (wc := [(q0, eB v2_51 (nI (((0 + 1) + 1) + sb_dg ex))), (v2_51, eY cB m2_52 f2_53)]) hD hS hA [1, 2] rfl
    refine va_callr (va_runV (As := [.int 32]) (rest := []) ⟨hx, hb, hml, hown, hts⟩ (k_J4_append_cf468 l dC dI cB q0 v2_51 (((0 + 1) + 1) + sb_dg ex) m2_52 f2_53 32 H.size N hm_m2_52 hf_m2_52 (by omega) (by decide)) (cwV 1 hts gX1_text_J4_append_cf468 rfl rfl rfl (by decide +kernel) ⟨Nat.le_of_ble_eq_true rfl, Nat.le_of_ble_eq_true rfl⟩) (xT.preV hKc hPc hDc hAN (Nat.le_trans hN hS.1) (hG.kept hS hAN) (hT.kept hS hAN) (ci := 1) (q0 := 0) rfl rfl) rfl rfl hl.1 rfl (lv_room (Nat.le_of_ble_eq_true rfl)) dX1_text_48 ⟨(show _ ≤ 18 by omega), (show _ ≤ 540 by omega)⟩) hS (fun q _ h => hFc q h) hFc (fun u_60 r_59 t H locs ht hvm hw hB hz hk hS => ?_)
    obtain ⟨he_r_59, hP1, hD1⟩ := hB
    rw [ht] at hP1
    obtain ⟨v2_56, m2_57, f2_58⟩ := u_60
    obtain ⟨hP, hD⟩ := va_join (wr := [(h0, eW wd)]) (w1 := [(q0, eB v2_56 (nI ((((0 + 1) + 1) + sb_dg ex) + 1))), (v2_56, eY cB m2_57 f2_58)]) hP hD [1, 2] [0] rfl rfl (by decide) (by decide) hk hFc hP1 hD1
    have hP : va_P (dC, dI) xCl [(h0, eW wd), (q0, eB v2_56 (nI ((((0 + 1) + 1) + sb_dg ex) + 1))), (v2_56, eY cB m2_57 f2_58)] H := hP
    have hD : va_D A [(h0, eW wd), (q0, eB v2_56 (nI ((((0 + 1) + 1) + sb_dg ex) + 1))), (v2_56, eY cB m2_57 f2_58)] := hD
    obtain ⟨hm_m2_57, hq_m2_57, hf_m2_57⟩ : (m2_57 = 16 ∨ m2_57 = 34) ∧ (((0 + 1) + 1) + sb_dg ex) + 1 ≤ m2_57 ∧ sb_Fit f2_58 := hw
    rw [he_r_59]
    refine lv_pop hx hb dX1_text_51 rfl ?_
    refine lv_aload_n hx hb dX1_text_52 rfl (lv_at hl 1 rfl) ?_
    refine lv_aload_n hx hb dX1_text_53 rfl (lv_at hl 0 rfl) ?_
    refine lv_aload_n hx hb dX1_text_54 rfl (lv_at hl 1 rfl) ?_
    refine lv_lload_n hx hb dX1_text_55 rfl (lv_at hl 2 rfl) ?_
    have hPc := hP.sub (ws' := [(h0, eW wd)]) [0] rfl
    have hDc := hD.sub (ws' := [(h0, eW wd)]) [0] (by decide) rfl
    have hKc := hK.sub (tys' := []) [] rfl
    have hFc := va_free (wc := [(h0, eW wd)]) hD hS hA [0] rfl
    refine va_calll (va_runV (As := [.long d]) (rest := [.ref q0, .ref h0]) ⟨hx, hb, hml, hown, hts⟩ (k_X1_fraction l dC dI h0 wd H.size d) (cwV 1 hts gX1_text_X1_fraction rfl rfl rfl (by decide +kernel) ⟨Nat.le_of_ble_eq_true rfl, Nat.le_of_ble_eq_true rfl⟩) (xB.preV hKc hPc (ci := 3) (q0 := 0) rfl rfl) rfl rfl hl.1 rfl (lv_room (Nat.le_of_ble_eq_true rfl)) dX1_text_56 ⟨(show _ ≤ 18 by omega), (show _ ≤ 540 by omega)⟩) hS xA_old (fun q h => hA q (Nat.le_trans hS.1 h)) (fun r_61 u_62 t H locs ht hvm hw hB hz hk hS => ?_)
    have hP := xP_keep hP hk
    have hw : r_61 = lN Wn := hw.trans hF
    rw [hw]
    have hPc := hP.sub (ws' := [(h0, eW wd), (q0, eB v2_56 (nI ((((0 + 1) + 1) + sb_dg ex) + 1))), (v2_56, eY cB m2_57 f2_58)]) [0, 1, 2] rfl
    have hDc := hD.sub (ws' := [(h0, eW wd), (q0, eB v2_56 (nI ((((0 + 1) + 1) + sb_dg ex) + 1))), (v2_56, eY cB m2_57 f2_58)]) [0, 1, 2] (by decide) rfl
    have hKc := hK.sub (tys' := [(cB, .byte)]) [0] rfl
    have hFc := va_free (wc := [(h0, eW wd), (q0, eB v2_56 (nI ((((0 + 1) + 1) + sb_dg ex) + 1))), (v2_56, eY cB m2_57 f2_58)]) hD hS hA [0, 1, 2] rfl
    refine va_callv (va_runV (As := [.ref q0, .long (lN Wn)]) (rest := []) ⟨hx, hb, hml, hown, hts⟩ (k_X1_appendWhole l dC dI cB h0 wd q0 v2_56 ((((0 + 1) + 1) + sb_dg ex) + 1) m2_57 f2_58 Wn H.size N hm_m2_57 hf_m2_57 (by omega) (by omega)) (cwV 2 hts gX1_text_X1_appendWhole rfl rfl rfl (by decide +kernel) ⟨Nat.le_of_ble_eq_true rfl, Nat.le_of_ble_eq_true rfl⟩) (xT.preV hKc hPc hDc hAN (Nat.le_trans hN hS.1) (hG.kept hS hAN) (hT.kept hS hAN) (ci := 3) (q0 := 0) rfl rfl) rfl rfl hl.1 rfl (lv_room (Nat.le_of_ble_eq_true rfl)) dX1_text_59 ⟨(show _ ≤ 18 by omega), (show _ ≤ 540 by omega)⟩) hS (fun q _ h => hFc q h) hFc (fun u_68 t H locs ht hvm hw hB hz hk hS => ?_)
    obtain ⟨hP1, hD1⟩ := hB
    rw [ht] at hP1
    obtain ⟨n2_63, v2_64, m2_65, f2_66⟩ := u_68
    obtain ⟨hP, hD⟩ := va_join (wr := []) (w1 := [(h0, eW wd), (q0, eB v2_64 (nI n2_63)), (v2_64, eY cB m2_65 f2_66)]) hP hD [0, 1, 2] [] rfl rfl (by decide) (by decide) hk hFc hP1 hD1
    have hP : va_P (dC, dI) xCl [(h0, eW wd), (q0, eB v2_64 (nI n2_63)), (v2_64, eY cB m2_65 f2_66)] H := hP
    have hD : va_D A [(h0, eW wd), (q0, eB v2_64 (nI n2_63)), (v2_64, eY cB m2_65 f2_66)] := hD
    obtain ⟨hm_m2_65, hq_m2_65, hf_m2_65⟩ : (m2_65 = 16 ∨ m2_65 = 34) ∧ n2_63 ≤ m2_65 ∧ sb_Fit f2_66 := hw
    refine lv_aload_n hx hb dX1_text_62 rfl (lv_at hl 0 rfl) ?_
    have hPc := hP.sub (ws' := [(q0, eB v2_64 (nI n2_63)), (v2_64, eY cB m2_65 f2_66)]) [1, 2] rfl
    have hDc := hD.sub (ws' := [(q0, eB v2_64 (nI n2_63)), (v2_64, eY cB m2_65 f2_66)]) [1, 2] (by decide) rfl
    have hKc := hK.sub (tys' := [(cB, .byte)]) [0] rfl
    have hFc := va_free (wc := [(q0, eB v2_64 (nI n2_63)), (v2_64, eY cB m2_65 f2_66)]) hD hS hA [1, 2] rfl
    refine va_callr (va_runV (As := []) (rest := []) ⟨hx, hb, hml, hown, hts⟩ (k_J4_toString_0e30d l dC dI cB q0 v2_64 n2_63 m2_65 f2_66 H.size N (by omega) (by omega) hf_m2_65) (cwV 0 hts gX1_text_J4_toString_0e30d rfl rfl rfl (by decide +kernel) ⟨Nat.le_of_ble_eq_true rfl, Nat.le_of_ble_eq_true rfl⟩) (xT.preV hKc hPc hDc hAN (Nat.le_trans hN hS.1) (hG.kept hS hAN) (hT.kept hS hAN) (ci := 1) (q0 := 0) rfl rfl) rfl rfl hl.1 rfl (lv_room (Nat.le_of_ble_eq_true rfl)) dX1_text_63 ⟨(show _ ≤ 18 by omega), (show _ ≤ 540 by omega)⟩) hS (fun q _ h => hFc q h) hFc (fun u_70 r_69 t H locs ht hvm hw hB hz hk hS => ?_)
    obtain ⟨hP1, hD1⟩ := hB
    rw [ht] at hP1
    obtain ⟨hP, hD⟩ := va_join (wr := [(h0, eW wd)]) (w1 := []) hP hD [1, 2] [0] rfl rfl (by decide) (by decide) hk hFc hP1 hD1
    have hP : va_P (dC, dI) xCl [(h0, eW wd)] H := hP
    have hD : va_D A [(h0, eW wd)] := hD
    have hP := hP.sub (ws' := [(h0, eW wd)]) [0] rfl
    have hD := hD.sub (ws' := [(h0, eW wd)]) [0] (by decide) rfl
    refine W.widen (k := 18) (n := 540) (by omega) (by omega) ?_
    exact W.aret (v := .ref r_69) hx hb hr (Or.inl ⟨_, rfl⟩) (Or.inr ⟨_, rfl⟩) (fun t ht hW => ⟨⟨(), _, rfl, trivial, ⟨by rw [ht]; exact hP, hD⟩⟩, hS.F ht⟩) hS.2.2 dX1_text_66
set_option maxRecDepth 20000 in
theorem ggX4_text_J4_init_da8c8 : GoodIn wsX4_text wsJ4_init_da8c8 := goodIn_r _ [7, 8, 9, 10, 11, 12, 13, 14, 15, 16, 17, 18, 19, 20, 21, 22, 23, 24, 25, 26, 267, 268, 269, 270] (by decide +kernel) (by decide +kernel)
set_option maxRecDepth 20000 in
theorem gX4_text_J4_init_da8c8 : GoodIn wsX4_text (wsJ4_init_da8c8) := ggX4_text_J4_init_da8c8
set_option maxRecDepth 20000 in
theorem ggX4_text_X4_isBelowZero : GoodIn wsX4_text wsX4_isBelowZero := goodIn_r _ [31, 32, 33, 34, 30, 35, 36, 37, 271, 272, 273, 274, 275] (by decide +kernel) (by decide +kernel)
set_option maxRecDepth 20000 in
theorem gX4_text_X4_isBelowZero : GoodIn wsX4_text (wsV RX4 39 RX4 yX4_isBelowZero wsX4_isBelowZero) := goodIn_app (goodIn_of _ (by decide +kernel)) ggX4_text_X4_isBelowZero
set_option maxRecDepth 20000 in
theorem ggX4_text_J4_append_15ec4 : GoodIn wsX4_text wsJ4_append_15ec4 := goodIn_r _ [41, 42, 43, 44, 45, 10, 46, 47, 48, 49, 50, 51, 52, 17, 53, 54, 55, 56, 57, 18, 58, 59, 60, 61, 62, 63, 64, 65, 66, 67, 68, 69, 70, 71, 72, 73, 74, 75, 76, 77, 78, 79, 80, 81, 82, 83, 84, 85, 16, 86, 87, 88, 89, 90, 91, 92, 93, 94, 95, 96, 97, 15, 98, 99, 21, 100, 101, 102, 103, 104, 105, 106, 107, 108, 109, 110, 111, 112, 113, 114, 115, 116, 117, 118, 119, 120, 121, 122, 123, 124, 125, 126, 127, 128, 129, 130, 131, 132, 133, 134, 135, 136, 137, 138, 139, 140, 141, 142, 143, 144, 145, 146, 147, 148, 19, 20, 22, 23, 24, 25, 26, 149, 150, 151, 152, 153, 154, 155, 156, 157, 158, 159, 160, 161, 162, 163, 164, 165, 166, 167, 168, 169, 170, 267, 268, 269, 270, 276, 277, 278, 279] (by decide +kernel) (by decide +kernel)
set_option maxRecDepth 20000 in
theorem gX4_text_J4_append_15ec4 : GoodIn wsX4_text (wsV RX4 88 RJ4 yJ4_append_15ec4 wsJ4_append_15ec4) := goodIn_app (goodIn_of _ (by decide +kernel)) ggX4_text_J4_append_15ec4
set_option maxRecDepth 20000 in
theorem ggX4_text_X4_exponent : GoodIn wsX4_text wsX4_exponent := goodIn_r _ [174, 37, 175, 176, 177, 30, 178, 179, 32, 33, 34, 35, 36, 271, 272, 273, 274, 275] (by decide +kernel) (by decide +kernel)
set_option maxRecDepth 20000 in
theorem gX4_text_X4_exponent : GoodIn wsX4_text (wsV RX4 50 RX4 yX4_exponent wsX4_exponent) := goodIn_app (goodIn_of _ (by decide +kernel)) ggX4_text_X4_exponent
set_option maxRecDepth 20000 in
theorem ggX4_text_J4_append_f7089 : GoodIn wsX4_text wsJ4_append_f7089 := goodIn_r _ [183, 184, 185, 44, 186, 10, 187, 47, 17, 188, 189, 190, 191, 192, 193, 53, 54, 55, 56, 57, 18, 58, 59, 60, 61, 62, 63, 64, 65, 66, 67, 68, 69, 70, 71, 72, 73, 74, 75, 76, 77, 78, 79, 80, 81, 82, 83, 84, 85, 16, 86, 87, 88, 89, 90, 91, 92, 93, 94, 95, 96, 97, 15, 194, 195, 196, 197, 198, 199, 200, 201, 202, 21, 203, 101, 102, 103, 104, 105, 106, 107, 108, 109, 110, 111, 112, 113, 114, 115, 116, 204, 205, 206, 207, 208, 209, 210, 117, 118, 119, 120, 121, 267, 268, 269, 270] (by decide +kernel) (by decide +kernel)
set_option maxRecDepth 20000 in
theorem gX4_text_J4_append_f7089 : GoodIn wsX4_text (wsV RX4 92 RJ4 yJ4_append_f7089 wsJ4_append_f7089) := goodIn_app (goodIn_of _ (by decide +kernel)) ggX4_text_J4_append_f7089
set_option maxRecDepth 20000 in
theorem ggX4_text_X4_fraction : GoodIn wsX4_text wsX4_fraction := goodIn_r _ [214, 37, 271, 272, 273, 274, 275] (by decide +kernel) (by decide +kernel)
set_option maxRecDepth 20000 in
theorem gX4_text_X4_fraction : GoodIn wsX4_text (wsV RX4 57 RX4 yX4_fraction wsX4_fraction) := goodIn_app (goodIn_of _ (by decide +kernel)) ggX4_text_X4_fraction
set_option maxRecDepth 20000 in
theorem ggX4_text_J4_toString_0e30d : GoodIn wsX4_text wsJ4_toString_0e30d := goodIn_r _ [218, 219, 220, 110, 221, 222, 223, 224, 225, 226, 227, 13, 14, 132, 126, 131, 228, 229, 230, 231, 232, 10, 233, 17, 234, 235, 236, 237, 238, 3, 239, 240, 44, 241, 242, 47, 243, 94, 95, 96, 97, 15, 18, 244, 245, 78, 246, 80, 81, 82, 83, 84, 85, 247, 248, 249, 16, 86, 87, 70, 88, 89, 90, 91, 92, 250, 251, 252, 253, 2, 254, 255, 21, 256, 257, 258, 259, 156, 157, 158, 105, 106, 107, 159, 160, 161, 112, 162, 163, 115, 164, 260, 261, 262, 101, 120, 121, 23, 24, 25, 26, 263, 264, 265, 266, 276, 277, 278, 279, 267, 268, 269, 270] (by decide +kernel) (by decide +kernel)
set_option maxRecDepth 20000 in
theorem gX4_text_J4_toString_0e30d : GoodIn wsX4_text (wsV RX4 97 RJ4 yJ4_toString_0e30d wsJ4_toString_0e30d) := goodIn_app (goodIn_of _ (by decide +kernel)) ggX4_text_J4_toString_0e30d
theorem dX4_text_0 : decode cX4_text 0 = .ok (.new 81, 3) := by decide +kernel
theorem dX4_text_3 : decode cX4_text 3 = .ok (.dup, 1) := by decide +kernel
theorem dX4_text_4 : decode cX4_text 4 = .ok (.invokespecial 83, 3) := by decide +kernel
theorem dX4_text_7 : decode cX4_text 7 = .ok (.aload_n 0, 1) := by decide +kernel
theorem dX4_text_8 : decode cX4_text 8 = .ok (.aload_n 0, 1) := by decide +kernel
theorem dX4_text_9 : decode cX4_text 9 = .ok (.getfield 9, 3) := by decide +kernel
theorem dX4_text_12 : decode cX4_text 12 = .ok (.iload_n 1, 1) := by decide +kernel
theorem dX4_text_13 : decode cX4_text 13 = .ok (.laload, 1) := by decide +kernel
theorem dX4_text_14 : decode cX4_text 14 = .ok (.invokevirtual 39, 3) := by decide +kernel
theorem dX4_text_17 : decode cX4_text 17 = .ok (.ifCond .eq 8, 3) := by decide +kernel
theorem dX4_text_20 : decode cX4_text 20 = .ok (.ldc 84, 2) := by decide +kernel
theorem dX4_text_22 : decode cX4_text 22 = .ok (.goto 5, 3) := by decide +kernel
theorem dX4_text_25 : decode cX4_text 25 = .ok (.ldc 86, 2) := by decide +kernel
theorem dX4_text_27 : decode cX4_text 27 = .ok (.invokevirtual 88, 3) := by decide +kernel
theorem dX4_text_30 : decode cX4_text 30 = .ok (.aload_n 0, 1) := by decide +kernel
theorem dX4_text_31 : decode cX4_text 31 = .ok (.aload_n 0, 1) := by decide +kernel
theorem dX4_text_32 : decode cX4_text 32 = .ok (.getfield 9, 3) := by decide +kernel
theorem dX4_text_35 : decode cX4_text 35 = .ok (.iload_n 1, 1) := by decide +kernel
theorem dX4_text_36 : decode cX4_text 36 = .ok (.laload, 1) := by decide +kernel
theorem dX4_text_37 : decode cX4_text 37 = .ok (.invokevirtual 50, 3) := by decide +kernel
theorem dX4_text_40 : decode cX4_text 40 = .ok (.invokevirtual 92, 3) := by decide +kernel
theorem dX4_text_43 : decode cX4_text 43 = .ok (.ldc 95, 2) := by decide +kernel
theorem dX4_text_45 : decode cX4_text 45 = .ok (.invokevirtual 88, 3) := by decide +kernel
theorem dX4_text_48 : decode cX4_text 48 = .ok (.aload_n 0, 1) := by decide +kernel
theorem dX4_text_49 : decode cX4_text 49 = .ok (.aload_n 0, 1) := by decide +kernel
theorem dX4_text_50 : decode cX4_text 50 = .ok (.getfield 9, 3) := by decide +kernel
theorem dX4_text_53 : decode cX4_text 53 = .ok (.iload_n 1, 1) := by decide +kernel
theorem dX4_text_54 : decode cX4_text 54 = .ok (.laload, 1) := by decide +kernel
theorem dX4_text_55 : decode cX4_text 55 = .ok (.invokevirtual 57, 3) := by decide +kernel
theorem dX4_text_58 : decode cX4_text 58 = .ok (.invokevirtual 92, 3) := by decide +kernel
theorem dX4_text_61 : decode cX4_text 61 = .ok (.invokevirtual 97, 3) := by decide +kernel
theorem dX4_text_64 : decode cX4_text 64 = .ok (.areturn, 1) := by decide +kernel
set_option maxHeartbeats 4000000 in
set_option maxRecDepth 100000 in
theorem k_X4_text (l : Launch) (dC : Nat → ClassId) (dI : Nat → Nat → Nat) (cy : ClassId) (cB : ClassId) (h0 : Nat) (hc : Nat) (wd : Bool) (a0 : Int32) (f : Nat → Int64) (p0 : Int32) (sz N : Nat) (hin : vp_in p0 8) (hok : okN wd (f p0.toNatClampNeg)) : Met l yX4_text wsX4_text ({ frames := 6, cells := 8, slots := 200, locals := 211 }) (va_Pc [.ref h0, .int p0] (xT (dC, dI) xCl [(h0, eMR wd hc a0), (hc, eA cy f)] [(cy, .long), (cB, .byte)] sz N)) (va_Qr (fun (u : Unit) => True) (fun (u : Unit) a t => xW (dC, dI) xCl [(h0, eMR wd hc a0), (hc, eA cy f)] (va_A [(h0, eMR wd hc a0), (hc, eA cy f)] sz) t) (va_A [(h0, eMR wd hc a0), (hc, eA cy f)] sz)) 8 200 (va_A [(h0, eMR wd hc a0), (hc, eA cy f)] sz) := by
  refine Met.ofW (cc := cX4_text) (maxL := 2) (ret := (some (.object "java/lang/String"))) (by decide +kernel) rfl ?_
  intro p e s m args below meth c s₁ B hml hv
  obtain ⟨rfl, ⟨hsz, hP, hK, hD0, hN, hG⟩, hT⟩ := hv
  have hx := B.exec
  have hb := B.bytes
  have hr := B.returns
  have hts := atoms_spec (ws := wsX4_text) B.pre
  have hown : s.vm.findClass RX4 = some m.cls := findClass_of_methodNamed B.named
  have hlocks := B.notSynchronized
  subst hsz
  have hAN : ∀ q, va_A [(h0, eMR wd hc a0), (hc, eA cy f)] s.heap.size q → N ≤ q := xA_N hD0 hN
  have hD := hD0.self (sz := s.heap.size)
  generalize hAe : va_A [(h0, eMR wd hc a0), (hc, eA cy f)] s.heap.size = A at hD hAN ⊢
  have hA : ∀ q : Nat, s.heap.size ≤ q → A q := fun q h => by rw [← hAe]; exact Or.inr h
  have hS : va_S A s.heap s.heap [] := va_S.rf
  have hP : va_P (dC, dI) xCl [(h0, eMR wd hc a0), (hc, eA cy f)] s.heap := hP
  obtain ⟨hTc, ⟨tO, tT, fO, fT, hTo, hTt, hTa, hTb, hTf, hTg⟩, ⟨adK, adV, hTs, hTr0, hTr1, hTr2⟩, ⟨aE, hTe⟩, hTn⟩ := id hT
  have hl := lv_entry ([.ref h0, .int p0]) (n := 2) (Nat.le_of_ble_eq_true rfl)
  rw [lg_entry_eq]
  generalize (lg_sl ([.ref h0, .int p0]) ++ List.replicate (2 - (lg_sl ([.ref h0, .int p0])).length) Slot.unset).toArray = ls at hl ⊢
  have hl : lv_has ls 2 [(0, .ref h0), (1, .int p0)] := hl
  obtain ⟨⟨ex, hex, -, hE⟩, ⟨Wn, hW0, -, hF⟩⟩ := jx_of hok
  have hd4 := dgL_le4 (w := ex) (by omega)
  have hd16 := dgL_16 (w := Wn) (by omega)
  obtain ⟨hSs0, hSs1, hSs2⟩ := tS_of hTs
  refine va_new (ci := 1) (fs := [.null, .int 0, .int 0, .int 0]) (C := RJ4) (T := TJ4) (N := 4) hx hb hts (by decide +kernel) tyJ4 tyJ4_ok hown (hts (.classLink RX4 81 RJ4) (by decide +kernel)) (hts (.instantiable RJ4 4) (by decide +kernel)) (hts (.initialized RJ4) (by decide +kernel)) hK hP hD hS hA rfl (fun j hj => by rcases (show j = 0 ∨ j = 1 ∨ j = 2 ∨ j = 3 by omega) with rfl | rfl | rfl | rfl <;> rfl) (show _ ≤ 8 by omega) (show _ ≤ 200 by omega) dX4_text_0 (fun q0 H hP hD hS => ?_)
  have hP : va_P (dC, dI) xCl [(h0, eMR wd hc a0), (hc, eA cy f), (q0, .inr (1, [.null, .int 0, .int 0, .int 0]))] H := hP
  have hD : va_D A [(h0, eMR wd hc a0), (hc, eA cy f), (q0, .inr (1, [.null, .int 0, .int 0, .int 0]))] := hD
  refine lv_dup hx hb dX4_text_3 rfl ?_
  have hPc := hP.sub (ws' := [(q0, .inr (1, [.null, .int 0, .int 0, .int 0]))]) [2] rfl
  have hDc := hD.sub (ws' := [(q0, .inr (1, [.null, .int 0, .int 0, .int 0]))]) [2] (by decide) rfl
  have hKc := hK.sub (tys' := [(cB, .byte)]) [1] rfl
  have hFc := va_free (wc := [(q0, .inr (1, [.null, .int 0, .int 0, .int 0]))]) hD hS hA [2] rfl
  refine va_callv (va_runI (As := []) (rest := [.ref q0]) ⟨hx, hb, hml, hown, hts⟩ (k_J4_init_da8c8 l dC dI cB q0 H.size N) (cwI 0 hts gX4_text_J4_init_da8c8 rfl rfl rfl (hts (.initialized RJ4) (by decide +kernel)) (hts (.methodLink RX4 83 yJ4_init_da8c8) (by decide +kernel)) (hts (.instanceMethod yJ4_init_da8c8) (by decide +kernel)) rfl (by decide +kernel) ⟨Nat.le_of_ble_eq_true rfl, Nat.le_of_ble_eq_true rfl⟩) (xT.preS  (As := .ref q0 :: []) hKc hPc hDc hAN (Nat.le_trans hN hS.1) (hG.kept hS hAN) (hT.kept hS hAN)) rfl rfl hl.1 rfl (lv_room (Nat.le_of_ble_eq_true rfl)) dX4_text_4 ⟨(show _ ≤ 8 by omega), (show _ ≤ 200 by omega)⟩) hS (fun q _ h => hFc q h) hFc (fun u_3 t H locs ht hvm hw hB hz hk hS => ?_)
  obtain ⟨hP1, hD1⟩ := hB
  rw [ht] at hP1
  obtain ⟨v_1, rfl⟩ : ∃ z, z = u_3 := ⟨_, rfl⟩
  obtain ⟨hP, hD⟩ := va_join (wr := [(h0, eMR wd hc a0), (hc, eA cy f)]) (w1 := [(q0, eB v_1 0), (v_1, eY cB 16 (fun _ => 0))]) hP hD [2] [0, 1] rfl rfl (by decide) (by decide) hk hFc hP1 hD1
  have hP : va_P (dC, dI) xCl [(h0, eMR wd hc a0), (hc, eA cy f), (q0, eB v_1 0), (v_1, eY cB 16 (fun _ => 0))] H := hP
  have hD : va_D A [(h0, eMR wd hc a0), (hc, eA cy f), (q0, eB v_1 0), (v_1, eY cB 16 (fun _ => 0))] := hD
  refine lv_aload_n hx hb dX4_text_7 rfl (lv_at hl 0 rfl) ?_
  refine lv_aload_n hx hb dX4_text_8 rfl (lv_at hl 0 rfl) ?_
  refine va_get (D := (dC, dI)) (ci := 6) (v := .ref hc) (C := RX4) (T := TX4) (N := 5) hx hb hts (by decide +kernel) hown hK hP 0 rfl rfl 3 (by decide) (hts (.fieldLink RX4 9 "EdgefloatsModel$Row" "cells" "[J") (by decide +kernel)) (fun _ h9 => h9) rfl dX4_text_9 ?_
  refine lv_iload_n hx hb dX4_text_12 rfl (lv_at hl 1 rfl) ?_
  refine xa_lald hx hb hK hP 1 0 (f := f) rfl rfl (k := p0.toNatClampNeg) hin rfl dX4_text_13 ?_
  have hPc := hP.sub (ws' := [(h0, eMR wd hc a0), (hc, eA cy f)]) [0, 1] rfl
  have hDc := hD.sub (ws' := [(h0, eMR wd hc a0), (hc, eA cy f)]) [0, 1] (by decide) rfl
  have hKc := hK.sub (tys' := [(cy, .long)]) [0] rfl
  have hFc := va_free (wc := [(h0, eMR wd hc a0), (hc, eA cy f)]) hD hS hA [0, 1] rfl
  refine va_calli (va_runV (As := [.long (f p0.toNatClampNeg)]) (rest := [.ref q0]) ⟨hx, hb, hml, hown, hts⟩ (k_X4_isBelowZero l dC dI cy h0 hc wd a0 f H.size (f p0.toNatClampNeg)) (cwV 1 hts gX4_text_X4_isBelowZero rfl rfl rfl (by decide +kernel) ⟨Nat.le_of_ble_eq_true rfl, Nat.le_of_ble_eq_true rfl⟩) (xB.preV hKc hPc (ci := 6) (q0 := 0) rfl rfl) rfl rfl hl.1 rfl (lv_room (Nat.le_of_ble_eq_true rfl)) dX4_text_14 ⟨(show _ ≤ 8 by omega), (show _ ≤ 200 by omega)⟩) hS xA_old (fun q h => hA q (Nat.le_trans hS.1 h)) (fun r_4 u_5 t H locs ht hvm hw hB hz hk hS => ?_)
  have hP := xP_keep hP hk
  have hw : r_4 = b2i (o_X4_isBelowZero wd (f p0.toNatClampNeg)) := hw
  rw [hw]
  refine xz_eq (tgt := 25) hx hb dX4_text_17 (by decide) (fun c_6 => ?_) (fun c_6 => ?_)
  · skip
    refine va_ldcS hx hb hown hTr1 dX4_text_25 ?_
    have hPc := hP.sub (ws' := [(q0, eB v_1 0), (v_1, eY cB 16 (fun _ => 0))]) [2, 3] rfl
    have hDc := hD.sub (ws' := [(q0, eB v_1 0), (v_1, eY cB 16 (fun _ => 0))]) [2, 3] (by decide) rfl
    have hKc := hK.sub (tys' := [(cB, .byte)]) [1] rfl
    have hFc := va_free (wc := [(q0, eB v_1 0), (v_1, eY cB 16 (fun _ => 0))]) hD hS hA [2, 3] rfl
    refine va_callr (va_runV (As := [.ref (adK 1)]) (rest := []) ⟨hx, hb, hml, hown, hts⟩ (k_J4_append_15ec4 l dC dI cB q0 v_1 0 16 (fun _ => 0) (adK 1) (adV 1) 2 [48, 32] H.size N (Or.inl rfl) sb_fit0 (by decide) tf_1 (by omega)) (cwV 1 hts gX4_text_J4_append_15ec4 rfl rfl rfl (by decide +kernel) ⟨Nat.le_of_ble_eq_true rfl, Nat.le_of_ble_eq_true rfl⟩) (xS.preV hKc hPc hDc hAN (Nat.le_trans hN hS.1) (hG.kept hS hAN) (hT.kept hS hAN) (hSs1.kept (fun q h1 h2 => hS.2.1 q h1 (fun z => h2 (hAN q z)))) (ci := 1) (q0 := 0) rfl rfl) rfl rfl hl.1 rfl (lv_room (Nat.le_of_ble_eq_true rfl)) dX4_text_27 ⟨(show _ ≤ 8 by omega), (show _ ≤ 200 by omega)⟩) hS (fun q _ h => hFc q h) hFc (fun u_11 r_10 t H locs ht hvm hw hB hz hk hS => ?_)
    obtain ⟨he_r_10, hP1, hD1⟩ := hB
    rw [ht] at hP1
    obtain ⟨v2_7, m2_8, f2_9⟩ := u_11
    obtain ⟨hP, hD⟩ := va_join (wr := [(h0, eMR wd hc a0), (hc, eA cy f)]) (w1 := [(q0, eB v2_7 (nI (0 + 2))), (v2_7, eY cB m2_8 f2_9)]) hP hD [2, 3] [0, 1] rfl rfl (by decide) (by decide) hk hFc hP1 hD1
    have hP : va_P (dC, dI) xCl [(h0, eMR wd hc a0), (hc, eA cy f), (q0, eB v2_7 (nI (0 + 2))), (v2_7, eY cB m2_8 f2_9)] H := hP
    have hD : va_D A [(h0, eMR wd hc a0), (hc, eA cy f), (q0, eB v2_7 (nI (0 + 2))), (v2_7, eY cB m2_8 f2_9)] := hD
    obtain ⟨hm_m2_8, hq_m2_8, hf_m2_8⟩ : (m2_8 = 16 ∨ m2_8 = 34) ∧ 0 + 2 ≤ m2_8 ∧ sb_Fit f2_9 := hw
    rw [he_r_10]
    refine lv_aload_n hx hb dX4_text_30 rfl (lv_at hl 0 rfl) ?_
    refine lv_aload_n hx hb dX4_text_31 rfl (lv_at hl 0 rfl) ?_
    refine va_get (D := (dC, dI)) (ci := 6) (v := .ref hc) (C := RX4) (T := TX4) (N := 5) hx hb hts (by decide +kernel) hown hK hP 0 rfl rfl 3 (by decide) (hts (.fieldLink RX4 9 "EdgefloatsModel$Row" "cells" "[J") (by decide +kernel)) (fun _ h9 => h9) rfl dX4_text_32 ?_
    refine lv_iload_n hx hb dX4_text_35 rfl (lv_at hl 1 rfl) ?_
    refine xa_lald hx hb hK hP 1 0 (f := f) rfl rfl (k := p0.toNatClampNeg) hin rfl dX4_text_36 ?_
    have hPc := hP.sub (ws' := [(h0, eMR wd hc a0), (hc, eA cy f)]) [0, 1] rfl
    have hDc := hD.sub (ws' := [(h0, eMR wd hc a0), (hc, eA cy f)]) [0, 1] (by decide) rfl
    have hKc := hK.sub (tys' := [(cy, .long)]) [0] rfl
    have hFc := va_free (wc := [(h0, eMR wd hc a0), (hc, eA cy f)]) hD hS hA [0, 1] rfl
    refine va_calll (va_runV (As := [.long (f p0.toNatClampNeg)]) (rest := [.ref q0]) ⟨hx, hb, hml, hown, hts⟩ (k_X4_exponent l dC dI cy h0 hc wd a0 f H.size (f p0.toNatClampNeg)) (cwV 1 hts gX4_text_X4_exponent rfl rfl rfl (by decide +kernel) ⟨Nat.le_of_ble_eq_true rfl, Nat.le_of_ble_eq_true rfl⟩) (xB.preV hKc hPc (ci := 6) (q0 := 0) rfl rfl) rfl rfl hl.1 rfl (lv_room (Nat.le_of_ble_eq_true rfl)) dX4_text_37 ⟨(show _ ≤ 8 by omega), (show _ ≤ 200 by omega)⟩) hS xA_old (fun q h => hA q (Nat.le_trans hS.1 h)) (fun r_12 u_13 t H locs ht hvm hw hB hz hk hS => ?_)
    have hP := xP_keep hP hk
    have hw : r_12 = lN ex := hw.trans hE
    rw [hw]
    have hPc := hP.sub (ws' := [(q0, eB v2_7 (nI (0 + 2))), (v2_7, eY cB m2_8 f2_9)]) [2, 3] rfl
    have hDc := hD.sub (ws' := [(q0, eB v2_7 (nI (0 + 2))), (v2_7, eY cB m2_8 f2_9)]) [2, 3] (by decide) rfl
    have hKc := hK.sub (tys' := [(cB, .byte)]) [1] rfl
    have hFc := va_free (wc := [(q0, eB v2_7 (nI (0 + 2))), (v2_7, eY cB m2_8 f2_9)]) hD hS hA [2, 3] rfl
    refine va_callr (va_runV (As := [.long (lN ex)]) (rest := []) ⟨hx, hb, hml, hown, hts⟩ (k_J4_append_f7089 l dC dI cB q0 v2_7 (0 + 2) m2_8 f2_9 ex H.size N hm_m2_8 hf_m2_8 (by omega) (by omega)) (cwV 1 hts gX4_text_J4_append_f7089 rfl rfl rfl (by decide +kernel) ⟨Nat.le_of_ble_eq_true rfl, Nat.le_of_ble_eq_true rfl⟩) (xT.preV hKc hPc hDc hAN (Nat.le_trans hN hS.1) (hG.kept hS hAN) (hT.kept hS hAN) (ci := 1) (q0 := 0) rfl rfl) rfl rfl hl.1 rfl (lv_room (Nat.le_of_ble_eq_true rfl)) dX4_text_40 ⟨(show _ ≤ 8 by omega), (show _ ≤ 200 by omega)⟩) hS (fun q _ h => hFc q h) hFc (fun u_18 r_17 t H locs ht hvm hw hB hz hk hS => ?_)
    obtain ⟨he_r_17, hP1, hD1⟩ := hB
    rw [ht] at hP1
    obtain ⟨v2_14, m2_15, f2_16⟩ := u_18
    obtain ⟨hP, hD⟩ := va_join (wr := [(h0, eMR wd hc a0), (hc, eA cy f)]) (w1 := [(q0, eB v2_14 (nI ((0 + 2) + dgL ex))), (v2_14, eY cB m2_15 f2_16)]) hP hD [2, 3] [0, 1] rfl rfl (by decide) (by decide) hk hFc hP1 hD1
    have hP : va_P (dC, dI) xCl [(h0, eMR wd hc a0), (hc, eA cy f), (q0, eB v2_14 (nI ((0 + 2) + dgL ex))), (v2_14, eY cB m2_15 f2_16)] H := hP
    have hD : va_D A [(h0, eMR wd hc a0), (hc, eA cy f), (q0, eB v2_14 (nI ((0 + 2) + dgL ex))), (v2_14, eY cB m2_15 f2_16)] := hD
    obtain ⟨hm_m2_15, hq_m2_15, hf_m2_15⟩ : (m2_15 = 16 ∨ m2_15 = 34) ∧ (0 + 2) + dgL ex ≤ m2_15 ∧ sb_Fit f2_16 := hw
    rw [he_r_17]
    refine va_ldcS hx hb hown hTr2 dX4_text_43 ?_
    have hPc := hP.sub (ws' := [(q0, eB v2_14 (nI ((0 + 2) + dgL ex))), (v2_14, eY cB m2_15 f2_16)]) [2, 3] rfl
    have hDc := hD.sub (ws' := [(q0, eB v2_14 (nI ((0 + 2) + dgL ex))), (v2_14, eY cB m2_15 f2_16)]) [2, 3] (by decide) rfl
    have hKc := hK.sub (tys' := [(cB, .byte)]) [1] rfl
    have hFc := va_free (wc := [(q0, eB v2_14 (nI ((0 + 2) + dgL ex))), (v2_14, eY cB m2_15 f2_16)]) hD hS hA [2, 3] rfl
    refine va_callr (va_runV (As := [.ref (adK 2)]) (rest := []) ⟨hx, hb, hml, hown, hts⟩ (k_J4_append_15ec4 l dC dI cB q0 v2_14 ((0 + 2) + dgL ex) m2_15 f2_16 (adK 2) (adV 2) 1 [32] H.size N hm_m2_15 hf_m2_15 (by decide) tf_2 (by omega)) (cwV 1 hts gX4_text_J4_append_15ec4 rfl rfl rfl (by decide +kernel) ⟨Nat.le_of_ble_eq_true rfl, Nat.le_of_ble_eq_true rfl⟩) (xS.preV hKc hPc hDc hAN (Nat.le_trans hN hS.1) (hG.kept hS hAN) (hT.kept hS hAN) (hSs2.kept (fun q h1 h2 => hS.2.1 q h1 (fun z => h2 (hAN q z)))) (ci := 1) (q0 := 0) rfl rfl) rfl rfl hl.1 rfl (lv_room (Nat.le_of_ble_eq_true rfl)) dX4_text_45 ⟨(show _ ≤ 8 by omega), (show _ ≤ 200 by omega)⟩) hS (fun q _ h => hFc q h) hFc (fun u_23 r_22 t H locs ht hvm hw hB hz hk hS => ?_)
    obtain ⟨he_r_22, hP1, hD1⟩ := hB
    rw [ht] at hP1
    obtain ⟨v2_19, m2_20, f2_21⟩ := u_23
    obtain ⟨hP, hD⟩ := va_join (wr := [(h0, eMR wd hc a0), (hc, eA cy f)]) (w1 := [(q0, eB v2_19 (nI (((0 + 2) + dgL ex) + 1))), (v2_19, eY cB m2_20 f2_21)]) hP hD [2, 3] [0, 1] rfl rfl (by decide) (by decide) hk hFc hP1 hD1
    have hP : va_P (dC, dI) xCl [(h0, eMR wd hc a0), (hc, eA cy f), (q0, eB v2_19 (nI (((0 + 2) + dgL ex) + 1))), (v2_19, eY cB m2_20 f2_21)] H := hP
    have hD : va_D A [(h0, eMR wd hc a0), (hc, eA cy f), (q0, eB v2_19 (nI (((0 + 2) + dgL ex) + 1))), (v2_19, eY cB m2_20 f2_21)] := hD
    obtain ⟨hm_m2_20, hq_m2_20, hf_m2_20⟩ : (m2_20 = 16 ∨ m2_20 = 34) ∧ ((0 + 2) + dgL ex) + 1 ≤ m2_20 ∧ sb_Fit f2_21 := hw
    rw [he_r_22]
    refine lv_aload_n hx hb dX4_text_48 rfl (lv_at hl 0 rfl) ?_
    refine lv_aload_n hx hb dX4_text_49 rfl (lv_at hl 0 rfl) ?_
    refine va_get (D := (dC, dI)) (ci := 6) (v := .ref hc) (C := RX4) (T := TX4) (N := 5) hx hb hts (by decide +kernel) hown hK hP 0 rfl rfl 3 (by decide) (hts (.fieldLink RX4 9 "EdgefloatsModel$Row" "cells" "[J") (by decide +kernel)) (fun _ h9 => h9) rfl dX4_text_50 ?_
    refine lv_iload_n hx hb dX4_text_53 rfl (lv_at hl 1 rfl) ?_
    refine xa_lald hx hb hK hP 1 0 (f := f) rfl rfl (k := p0.toNatClampNeg) hin rfl dX4_text_54 ?_
    have hPc := hP.sub (ws' := [(h0, eMR wd hc a0), (hc, eA cy f)]) [0, 1] rfl
    have hDc := hD.sub (ws' := [(h0, eMR wd hc a0), (hc, eA cy f)]) [0, 1] (by decide) rfl
    have hKc := hK.sub (tys' := [(cy, .long)]) [0] rfl
    have hFc := va_free (wc := [(h0, eMR wd hc a0), (hc, eA cy f)]) hD hS hA [0, 1] rfl
    refine va_calll (va_runV (As := [.long (f p0.toNatClampNeg)]) (rest := [.ref q0]) ⟨hx, hb, hml, hown, hts⟩ (k_X4_fraction l dC dI cy h0 hc wd a0 f H.size (f p0.toNatClampNeg)) (cwV 1 hts gX4_text_X4_fraction rfl rfl rfl (by decide +kernel) ⟨Nat.le_of_ble_eq_true rfl, Nat.le_of_ble_eq_true rfl⟩) (xB.preV hKc hPc (ci := 6) (q0 := 0) rfl rfl) rfl rfl hl.1 rfl (lv_room (Nat.le_of_ble_eq_true rfl)) dX4_text_55 ⟨(show _ ≤ 8 by omega), (show _ ≤ 200 by omega)⟩) hS xA_old (fun q h => hA q (Nat.le_trans hS.1 h)) (fun r_24 u_25 t H locs ht hvm hw hB hz hk hS => ?_)
    have hP := xP_keep hP hk
    have hw : r_24 = lN Wn := hw.trans hF
    rw [hw]
    have hPc := hP.sub (ws' := [(q0, eB v2_19 (nI (((0 + 2) + dgL ex) + 1))), (v2_19, eY cB m2_20 f2_21)]) [2, 3] rfl
    have hDc := hD.sub (ws' := [(q0, eB v2_19 (nI (((0 + 2) + dgL ex) + 1))), (v2_19, eY cB m2_20 f2_21)]) [2, 3] (by decide) rfl
    have hKc := hK.sub (tys' := [(cB, .byte)]) [1] rfl
    have hFc := va_free (wc := [(q0, eB v2_19 (nI (((0 + 2) + dgL ex) + 1))), (v2_19, eY cB m2_20 f2_21)]) hD hS hA [2, 3] rfl
    refine va_callr (va_runV (As := [.long (lN Wn)]) (rest := []) ⟨hx, hb, hml, hown, hts⟩ (k_J4_append_f7089 l dC dI cB q0 v2_19 (((0 + 2) + dgL ex) + 1) m2_20 f2_21 Wn H.size N hm_m2_20 hf_m2_20 (by omega) (by omega)) (cwV 1 hts gX4_text_J4_append_f7089 rfl rfl rfl (by decide +kernel) ⟨Nat.le_of_ble_eq_true rfl, Nat.le_of_ble_eq_true rfl⟩) (xT.preV hKc hPc hDc hAN (Nat.le_trans hN hS.1) (hG.kept hS hAN) (hT.kept hS hAN) (ci := 1) (q0 := 0) rfl rfl) rfl rfl hl.1 rfl (lv_room (Nat.le_of_ble_eq_true rfl)) dX4_text_58 ⟨(show _ ≤ 8 by omega), (show _ ≤ 200 by omega)⟩) hS (fun q _ h => hFc q h) hFc (fun u_30 r_29 t H locs ht hvm hw hB hz hk hS => ?_)
    obtain ⟨he_r_29, hP1, hD1⟩ := hB
    rw [ht] at hP1
    obtain ⟨v2_26, m2_27, f2_28⟩ := u_30
    obtain ⟨hP, hD⟩ := va_join (wr := [(h0, eMR wd hc a0), (hc, eA cy f)]) (w1 := [(q0, eB v2_26 (nI ((((0 + 2) + dgL ex) + 1) + dgL Wn))), (v2_26, eY cB m2_27 f2_28)]) hP hD [2, 3] [0, 1] rfl rfl (by decide) (by decide) hk hFc hP1 hD1
    have hP : va_P (dC, dI) xCl [(h0, eMR wd hc a0), (hc, eA cy f), (q0, eB v2_26 (nI ((((0 + 2) + dgL ex) + 1) + dgL Wn))), (v2_26, eY cB m2_27 f2_28)] H := hP
    have hD : va_D A [(h0, eMR wd hc a0), (hc, eA cy f), (q0, eB v2_26 (nI ((((0 + 2) + dgL ex) + 1) + dgL Wn))), (v2_26, eY cB m2_27 f2_28)] := hD
    obtain ⟨hm_m2_27, hq_m2_27, hf_m2_27⟩ : (m2_27 = 16 ∨ m2_27 = 34) ∧ (((0 + 2) + dgL ex) + 1) + dgL Wn ≤ m2_27 ∧ sb_Fit f2_28 := hw
    rw [he_r_29]
    have hPc := hP.sub (ws' := [(q0, eB v2_26 (nI ((((0 + 2) + dgL ex) + 1) + dgL Wn))), (v2_26, eY cB m2_27 f2_28)]) [2, 3] rfl
    have hDc := hD.sub (ws' := [(q0, eB v2_26 (nI ((((0 + 2) + dgL ex) + 1) + dgL Wn))), (v2_26, eY cB m2_27 f2_28)]) [2, 3] (by decide) rfl
    have hKc := hK.sub (tys' := [(cB, .byte)]) [1] rfl
    have hFc := va_free (wc := [(q0, eB v2_26 (nI ((((0 + 2) + dgL ex) + 1) + dgL Wn))), (v2_26, eY cB m2_27 f2_28)]) hD hS hA [2, 3] rfl
    refine va_callr (va_runV (As := []) (rest := []) ⟨hx, hb, hml, hown, hts⟩ (k_J4_toString_0e30d l dC dI cB q0 v2_26 ((((0 + 2) + dgL ex) + 1) + dgL Wn) m2_27 f2_28 H.size N (by omega) (by omega) hf_m2_27) (cwV 0 hts gX4_text_J4_toString_0e30d rfl rfl rfl (by decide +kernel) ⟨Nat.le_of_ble_eq_true rfl, Nat.le_of_ble_eq_true rfl⟩) (xT.preV hKc hPc hDc hAN (Nat.le_trans hN hS.1) (hG.kept hS hAN) (hT.kept hS hAN) (ci := 1) (q0 := 0) rfl rfl) rfl rfl hl.1 rfl (lv_room (Nat.le_of_ble_eq_true rfl)) dX4_text_61 ⟨(show _ ≤ 8 by omega), (show _ ≤ 200 by omega)⟩) hS (fun q _ h => hFc q h) hFc (fun u_32 r_31 t H locs ht hvm hw hB hz hk hS => ?_)
    obtain ⟨hP1, hD1⟩ := hB
    rw [ht] at hP1
    obtain ⟨hP, hD⟩ := va_join (wr := [(h0, eMR wd hc a0), (hc, eA cy f)]) (w1 := []) hP hD [2, 3] [0, 1] rfl rfl (by decide) (by decide) hk hFc hP1 hD1
    have hP : va_P (dC, dI) xCl [(h0, eMR wd hc a0), (hc, eA cy f)] H := hP
    have hD : va_D A [(h0, eMR wd hc a0), (hc, eA cy f)] := hD
    have hP := hP.sub (ws' := [(h0, eMR wd hc a0), (hc, eA cy f)]) [0, 1] rfl
    have hD := hD.sub (ws' := [(h0, eMR wd hc a0), (hc, eA cy f)]) [0, 1] (by decide) rfl
    refine W.widen (k := 8) (n := 200) (by omega) (by omega) ?_
    exact W.aret (v := .ref r_31) hx hb hr (Or.inl ⟨_, rfl⟩) (Or.inr ⟨_, rfl⟩) (fun t ht hW => ⟨⟨(), _, rfl, trivial, ⟨by rw [ht]; exact hP, hD⟩⟩, hS.F ht⟩) hS.2.2 dX4_text_64
  · skip
    refine va_ldcS hx hb hown hTr0 dX4_text_20 ?_
    refine lv_goto (tgt := 27) hx hb dX4_text_22 (by decide) ?_
    have hPc := hP.sub (ws' := [(q0, eB v_1 0), (v_1, eY cB 16 (fun _ => 0))]) [2, 3] rfl
    have hDc := hD.sub (ws' := [(q0, eB v_1 0), (v_1, eY cB 16 (fun _ => 0))]) [2, 3] (by decide) rfl
    have hKc := hK.sub (tys' := [(cB, .byte)]) [1] rfl
    have hFc := va_free (wc := [(q0, eB v_1 0), (v_1, eY cB 16 (fun _ => 0))]) hD hS hA [2, 3] rfl
    refine va_callr (va_runV (As := [.ref (adK 0)]) (rest := []) ⟨hx, hb, hml, hown, hts⟩ (k_J4_append_15ec4 l dC dI cB q0 v_1 0 16 (fun _ => 0) (adK 0) (adV 0) 2 [49, 32] H.size N (Or.inl rfl) sb_fit0 (by decide) tf_0 (by omega)) (cwV 1 hts gX4_text_J4_append_15ec4 rfl rfl rfl (by decide +kernel) ⟨Nat.le_of_ble_eq_true rfl, Nat.le_of_ble_eq_true rfl⟩) (xS.preV hKc hPc hDc hAN (Nat.le_trans hN hS.1) (hG.kept hS hAN) (hT.kept hS hAN) (hSs0.kept (fun q h1 h2 => hS.2.1 q h1 (fun z => h2 (hAN q z)))) (ci := 1) (q0 := 0) rfl rfl) rfl rfl hl.1 rfl (lv_room (Nat.le_of_ble_eq_true rfl)) dX4_text_27 ⟨(show _ ≤ 8 by omega), (show _ ≤ 200 by omega)⟩) hS (fun q _ h => hFc q h) hFc (fun u_37 r_36 t H locs ht hvm hw hB hz hk hS => ?_)
    obtain ⟨he_r_36, hP1, hD1⟩ := hB
    rw [ht] at hP1
    obtain ⟨v2_33, m2_34, f2_35⟩ := u_37
    obtain ⟨hP, hD⟩ := va_join (wr := [(h0, eMR wd hc a0), (hc, eA cy f)]) (w1 := [(q0, eB v2_33 (nI (0 + 2))), (v2_33, eY cB m2_34 f2_35)]) hP hD [2, 3] [0, 1] rfl rfl (by decide) (by decide) hk hFc hP1 hD1
    have hP : va_P (dC, dI) xCl [(h0, eMR wd hc a0), (hc, eA cy f), (q0, eB v2_33 (nI (0 + 2))), (v2_33, eY cB m2_34 f2_35)] H := hP
    have hD : va_D A [(h0, eMR wd hc a0), (hc, eA cy f), (q0, eB v2_33 (nI (0 + 2))), (v2_33, eY cB m2_34 f2_35)] := hD
    obtain ⟨hm_m2_34, hq_m2_34, hf_m2_34⟩ : (m2_34 = 16 ∨ m2_34 = 34) ∧ 0 + 2 ≤ m2_34 ∧ sb_Fit f2_35 := hw
    rw [he_r_36]
    refine lv_aload_n hx hb dX4_text_30 rfl (lv_at hl 0 rfl) ?_
    refine lv_aload_n hx hb dX4_text_31 rfl (lv_at hl 0 rfl) ?_
    refine va_get (D := (dC, dI)) (ci := 6) (v := .ref hc) (C := RX4) (T := TX4) (N := 5) hx hb hts (by decide +kernel) hown hK hP 0 rfl rfl 3 (by decide) (hts (.fieldLink RX4 9 "EdgefloatsModel$Row" "cells" "[J") (by decide +kernel)) (fun _ h9 => h9) rfl dX4_text_32 ?_
    refine lv_iload_n hx hb dX4_text_35 rfl (lv_at hl 1 rfl) ?_
    refine xa_lald hx hb hK hP 1 0 (f := f) rfl rfl (k := p0.toNatClampNeg) hin rfl dX4_text_36 ?_
    have hPc := hP.sub (ws' := [(h0, eMR wd hc a0), (hc, eA cy f)]) [0, 1] rfl
    have hDc := hD.sub (ws' := [(h0, eMR wd hc a0), (hc, eA cy f)]) [0, 1] (by decide) rfl
    have hKc := hK.sub (tys' := [(cy, .long)]) [0] rfl
    have hFc := va_free (wc := [(h0, eMR wd hc a0), (hc, eA cy f)]) hD hS hA [0, 1] rfl
    refine va_calll (va_runV (As := [.long (f p0.toNatClampNeg)]) (rest := [.ref q0]) ⟨hx, hb, hml, hown, hts⟩ (k_X4_exponent l dC dI cy h0 hc wd a0 f H.size (f p0.toNatClampNeg)) (cwV 1 hts gX4_text_X4_exponent rfl rfl rfl (by decide +kernel) ⟨Nat.le_of_ble_eq_true rfl, Nat.le_of_ble_eq_true rfl⟩) (xB.preV hKc hPc (ci := 6) (q0 := 0) rfl rfl) rfl rfl hl.1 rfl (lv_room (Nat.le_of_ble_eq_true rfl)) dX4_text_37 ⟨(show _ ≤ 8 by omega), (show _ ≤ 200 by omega)⟩) hS xA_old (fun q h => hA q (Nat.le_trans hS.1 h)) (fun r_38 u_39 t H locs ht hvm hw hB hz hk hS => ?_)
    have hP := xP_keep hP hk
    have hw : r_38 = lN ex := hw.trans hE
    rw [hw]
    have hPc := hP.sub (ws' := [(q0, eB v2_33 (nI (0 + 2))), (v2_33, eY cB m2_34 f2_35)]) [2, 3] rfl
    have hDc := hD.sub (ws' := [(q0, eB v2_33 (nI (0 + 2))), (v2_33, eY cB m2_34 f2_35)]) [2, 3] (by decide) rfl
    have hKc := hK.sub (tys' := [(cB, .byte)]) [1] rfl
    have hFc := va_free (wc := [(q0, eB v2_33 (nI (0 + 2))), (v2_33, eY cB m2_34 f2_35)]) hD hS hA [2, 3] rfl
    refine va_callr (va_runV (As := [.long (lN ex)]) (rest := []) ⟨hx, hb, hml, hown, hts⟩ (k_J4_append_f7089 l dC dI cB q0 v2_33 (0 + 2) m2_34 f2_35 ex H.size N hm_m2_34 hf_m2_34 (by omega) (by omega)) (cwV 1 hts gX4_text_J4_append_f7089 rfl rfl rfl (by decide +kernel) ⟨Nat.le_of_ble_eq_true rfl, Nat.le_of_ble_eq_true rfl⟩) (xT.preV hKc hPc hDc hAN (Nat.le_trans hN hS.1) (hG.kept hS hAN) (hT.kept hS hAN) (ci := 1) (q0 := 0) rfl rfl) rfl rfl hl.1 rfl (lv_room (Nat.le_of_ble_eq_true rfl)) dX4_text_40 ⟨(show _ ≤ 8 by omega), (show _ ≤ 200 by omega)⟩) hS (fun q _ h => hFc q h) hFc (fun u_44 r_43 t H locs ht hvm hw hB hz hk hS => ?_)
    obtain ⟨he_r_43, hP1, hD1⟩ := hB
    rw [ht] at hP1
    obtain ⟨v2_40, m2_41, f2_42⟩ := u_44
    obtain ⟨hP, hD⟩ := va_join (wr := [(h0, eMR wd hc a0), (hc, eA cy f)]) (w1 := [(q0, eB v2_40 (nI ((0 + 2) + dgL ex))), (v2_40, eY cB m2_41 f2_42)]) hP hD [2, 3] [0, 1] rfl rfl (by decide) (by decide) hk hFc hP1 hD1
    have hP : va_P (dC, dI) xCl [(h0, eMR wd hc a0), (hc, eA cy f), (q0, eB v2_40 (nI ((0 + 2) + dgL ex))), (v2_40, eY cB m2_41 f2_42)] H := hP
    have hD : va_D A [(h0, eMR wd hc a0), (hc, eA cy f), (q0, eB v2_40 (nI ((0 + 2) + dgL ex))), (v2_40, eY cB m2_41 f2_42)] := hD
    obtain ⟨hm_m2_41, hq_m2_41, hf_m2_41⟩ : (m2_41 = 16 ∨ m2_41 = 34) ∧ (0 + 2) + dgL ex ≤ m2_41 ∧ sb_Fit f2_42 := hw
    rw [he_r_43]
    refine va_ldcS hx hb hown hTr2 dX4_text_43 ?_
    have hPc := hP.sub (ws' := [(q0, eB v2_40 (nI ((0 + 2) + dgL ex))), (v2_40, eY cB m2_41 f2_42)]) [2, 3] rfl
    have hDc := hD.sub (ws' := [(q0, eB v2_40 (nI ((0 + 2) + dgL ex))), (v2_40, eY cB m2_41 f2_42)]) [2, 3] (by decide) rfl
    have hKc := hK.sub (tys' := [(cB, .byte)]) [1] rfl
    have hFc := va_free (wc := [(q0, eB v2_40 (nI ((0 + 2) + dgL ex))), (v2_40, eY cB m2_41 f2_42)]) hD hS hA [2, 3] rfl
    refine va_callr (va_runV (As := [.ref (adK 2)]) (rest := []) ⟨hx, hb, hml, hown, hts⟩ (k_J4_append_15ec4 l dC dI cB q0 v2_40 ((0 + 2) + dgL ex) m2_41 f2_42 (adK 2) (adV 2) 1 [32] H.size N hm_m2_41 hf_m2_41 (by decide) tf_2 (by omega)) (cwV 1 hts gX4_text_J4_append_15ec4 rfl rfl rfl (by decide +kernel) ⟨Nat.le_of_ble_eq_true rfl, Nat.le_of_ble_eq_true rfl⟩) (xS.preV hKc hPc hDc hAN (Nat.le_trans hN hS.1) (hG.kept hS hAN) (hT.kept hS hAN) (hSs2.kept (fun q h1 h2 => hS.2.1 q h1 (fun z => h2 (hAN q z)))) (ci := 1) (q0 := 0) rfl rfl) rfl rfl hl.1 rfl (lv_room (Nat.le_of_ble_eq_true rfl)) dX4_text_45 ⟨(show _ ≤ 8 by omega), (show _ ≤ 200 by omega)⟩) hS (fun q _ h => hFc q h) hFc (fun u_49 r_48 t H locs ht hvm hw hB hz hk hS => ?_)
    obtain ⟨he_r_48, hP1, hD1⟩ := hB
    rw [ht] at hP1
    obtain ⟨v2_45, m2_46, f2_47⟩ := u_49
    obtain ⟨hP, hD⟩ := va_join (wr := [(h0, eMR wd hc a0), (hc, eA cy f)]) (w1 := [(q0, eB v2_45 (nI (((0 + 2) + dgL ex) + 1))), (v2_45, eY cB m2_46 f2_47)]) hP hD [2, 3] [0, 1] rfl rfl (by decide) (by decide) hk hFc hP1 hD1
    have hP : va_P (dC, dI) xCl [(h0, eMR wd hc a0), (hc, eA cy f), (q0, eB v2_45 (nI (((0 + 2) + dgL ex) + 1))), (v2_45, eY cB m2_46 f2_47)] H := hP
    have hD : va_D A [(h0, eMR wd hc a0), (hc, eA cy f), (q0, eB v2_45 (nI (((0 + 2) + dgL ex) + 1))), (v2_45, eY cB m2_46 f2_47)] := hD
    obtain ⟨hm_m2_46, hq_m2_46, hf_m2_46⟩ : (m2_46 = 16 ∨ m2_46 = 34) ∧ ((0 + 2) + dgL ex) + 1 ≤ m2_46 ∧ sb_Fit f2_47 := hw
    rw [he_r_48]
    refine lv_aload_n hx hb dX4_text_48 rfl (lv_at hl 0 rfl) ?_
    refine lv_aload_n hx hb dX4_text_49 rfl (lv_at hl 0 rfl) ?_
    refine va_get (D := (dC, dI)) (ci := 6) (v := .ref hc) (C := RX4) (T := TX4) (N := 5) hx hb hts (by decide +kernel) hown hK hP 0 rfl rfl 3 (by decide) (hts (.fieldLink RX4 9 "EdgefloatsModel$Row" "cells" "[J") (by decide +kernel)) (fun _ h9 => h9) rfl dX4_text_50 ?_
    refine lv_iload_n hx hb dX4_text_53 rfl (lv_at hl 1 rfl) ?_
    refine xa_lald hx hb hK hP 1 0 (f := f) rfl rfl (k := p0.toNatClampNeg) hin rfl dX4_text_54 ?_
    have hPc := hP.sub (ws' := [(h0, eMR wd hc a0), (hc, eA cy f)]) [0, 1] rfl
    have hDc := hD.sub (ws' := [(h0, eMR wd hc a0), (hc, eA cy f)]) [0, 1] (by decide) rfl
    have hKc := hK.sub (tys' := [(cy, .long)]) [0] rfl
    have hFc := va_free (wc := [(h0, eMR wd hc a0), (hc, eA cy f)]) hD hS hA [0, 1] rfl
    refine va_calll (va_runV (As := [.long (f p0.toNatClampNeg)]) (rest := [.ref q0]) ⟨hx, hb, hml, hown, hts⟩ (k_X4_fraction l dC dI cy h0 hc wd a0 f H.size (f p0.toNatClampNeg)) (cwV 1 hts gX4_text_X4_fraction rfl rfl rfl (by decide +kernel) ⟨Nat.le_of_ble_eq_true rfl, Nat.le_of_ble_eq_true rfl⟩) (xB.preV hKc hPc (ci := 6) (q0 := 0) rfl rfl) rfl rfl hl.1 rfl (lv_room (Nat.le_of_ble_eq_true rfl)) dX4_text_55 ⟨(show _ ≤ 8 by omega), (show _ ≤ 200 by omega)⟩) hS xA_old (fun q h => hA q (Nat.le_trans hS.1 h)) (fun r_50 u_51 t H locs ht hvm hw hB hz hk hS => ?_)
    have hP := xP_keep hP hk
    have hw : r_50 = lN Wn := hw.trans hF
    rw [hw]
    have hPc := hP.sub (ws' := [(q0, eB v2_45 (nI (((0 + 2) + dgL ex) + 1))), (v2_45, eY cB m2_46 f2_47)]) [2, 3] rfl
    have hDc := hD.sub (ws' := [(q0, eB v2_45 (nI (((0 + 2) + dgL ex) + 1))), (v2_45, eY cB m2_46 f2_47)]) [2, 3] (by decide) rfl
    have hKc := hK.sub (tys' := [(cB, .byte)]) [1] rfl
    have hFc := va_free (wc := [(q0, eB v2_45 (nI (((0 + 2) + dgL ex) + 1))), (v2_45, eY cB m2_46 f2_47)]) hD hS hA [2, 3] rfl
    refine va_callr (va_runV (As := [.long (lN Wn)]) (rest := []) ⟨hx, hb, hml, hown, hts⟩ (k_J4_append_f7089 l dC dI cB q0 v2_45 (((0 + 2) + dgL ex) + 1) m2_46 f2_47 Wn H.size N hm_m2_46 hf_m2_46 (by omega) (by omega)) (cwV 1 hts gX4_text_J4_append_f7089 rfl rfl rfl (by decide +kernel) ⟨Nat.le_of_ble_eq_true rfl, Nat.le_of_ble_eq_true rfl⟩) (xT.preV hKc hPc hDc hAN (Nat.le_trans hN hS.1) (hG.kept hS hAN) (hT.kept hS hAN) (ci := 1) (q0 := 0) rfl rfl) rfl rfl hl.1 rfl (lv_room (Nat.le_of_ble_eq_true rfl)) dX4_text_58 ⟨(show _ ≤ 8 by omega), (show _ ≤ 200 by omega)⟩) hS (fun q _ h => hFc q h) hFc (fun u_56 r_55 t H locs ht hvm hw hB hz hk hS => ?_)
    obtain ⟨he_r_55, hP1, hD1⟩ := hB
    rw [ht] at hP1
    obtain ⟨v2_52, m2_53, f2_54⟩ := u_56
    obtain ⟨hP, hD⟩ := va_join (wr := [(h0, eMR wd hc a0), (hc, eA cy f)]) (w1 := [(q0, eB v2_52 (nI ((((0 + 2) + dgL ex) + 1) + dgL Wn))), (v2_52, eY cB m2_53 f2_54)]) hP hD [2, 3] [0, 1] rfl rfl (by decide) (by decide) hk hFc hP1 hD1
    have hP : va_P (dC, dI) xCl [(h0, eMR wd hc a0), (hc, eA cy f), (q0, eB v2_52 (nI ((((0 + 2) + dgL ex) + 1) + dgL Wn))), (v2_52, eY cB m2_53 f2_54)] H := hP
    have hD : va_D A [(h0, eMR wd hc a0), (hc, eA cy f), (q0, eB v2_52 (nI ((((0 + 2) + dgL ex) + 1) + dgL Wn))), (v2_52, eY cB m2_53 f2_54)] := hD
    obtain ⟨hm_m2_53, hq_m2_53, hf_m2_53⟩ : (m2_53 = 16 ∨ m2_53 = 34) ∧ (((0 + 2) + dgL ex) + 1) + dgL Wn ≤ m2_53 ∧ sb_Fit f2_54 := hw
    rw [he_r_55]
    have hPc := hP.sub (ws' := [(q0, eB v2_52 (nI ((((0 + 2) + dgL ex) + 1) + dgL Wn))), (v2_52, eY cB m2_53 f2_54)]) [2, 3] rfl
    have hDc := hD.sub (ws' := [(q0, eB v2_52 (nI ((((0 + 2) + dgL ex) + 1) + dgL Wn))), (v2_52, eY cB m2_53 f2_54)]) [2, 3] (by decide) rfl
    have hKc := hK.sub (tys' := [(cB, .byte)]) [1] rfl
    have hFc := va_free (wc := [(q0, eB v2_52 (nI ((((0 + 2) + dgL ex) + 1) + dgL Wn))), (v2_52, eY cB m2_53 f2_54)]) hD hS hA [2, 3] rfl
    refine va_callr (va_runV (As := []) (rest := []) ⟨hx, hb, hml, hown, hts⟩ (k_J4_toString_0e30d l dC dI cB q0 v2_52 ((((0 + 2) + dgL ex) + 1) + dgL Wn) m2_53 f2_54 H.size N (by omega) (by omega) hf_m2_53) (cwV 0 hts gX4_text_J4_toString_0e30d rfl rfl rfl (by decide +kernel) ⟨Nat.le_of_ble_eq_true rfl, Nat.le_of_ble_eq_true rfl⟩) (xT.preV hKc hPc hDc hAN (Nat.le_trans hN hS.1) (hG.kept hS hAN) (hT.kept hS hAN) (ci := 1) (q0 := 0) rfl rfl) rfl rfl hl.1 rfl (lv_room (Nat.le_of_ble_eq_true rfl)) dX4_text_61 ⟨(show _ ≤ 8 by omega), (show _ ≤ 200 by omega)⟩) hS (fun q _ h => hFc q h) hFc (fun u_58 r_57 t H locs ht hvm hw hB hz hk hS => ?_)
    obtain ⟨hP1, hD1⟩ := hB
    rw [ht] at hP1
    obtain ⟨hP, hD⟩ := va_join (wr := [(h0, eMR wd hc a0), (hc, eA cy f)]) (w1 := []) hP hD [2, 3] [0, 1] rfl rfl (by decide) (by decide) hk hFc hP1 hD1
    have hP : va_P (dC, dI) xCl [(h0, eMR wd hc a0), (hc, eA cy f)] H := hP
    have hD : va_D A [(h0, eMR wd hc a0), (hc, eA cy f)] := hD
    have hP := hP.sub (ws' := [(h0, eMR wd hc a0), (hc, eA cy f)]) [0, 1] rfl
    have hD := hD.sub (ws' := [(h0, eMR wd hc a0), (hc, eA cy f)]) [0, 1] (by decide) rfl
    refine W.widen (k := 8) (n := 200) (by omega) (by omega) ?_
    exact W.aret (v := .ref r_57) hx hb hr (Or.inl ⟨_, rfl⟩) (Or.inr ⟨_, rfl⟩) (fun t ht hW => ⟨⟨(), _, rfl, trivial, ⟨by rw [ht]; exact hP, hD⟩⟩, hS.F ht⟩) hS.2.2 dX4_text_64
set_option maxRecDepth 20000 in
theorem ggX5_text_X5_isNo : GoodIn wsX5_text wsX5_isNo := goodIn_r _ [4, 5, 6, 3, 7] (by decide +kernel) (by decide +kernel)
set_option maxRecDepth 20000 in
theorem gX5_text_X5_isNo : GoodIn wsX5_text (va_wsS RX5 35 yX5_isNo wsX5_isNo) := goodIn_app (goodIn_of _ (by decide +kernel)) ggX5_text_X5_isNo
set_option maxRecDepth 20000 in
theorem ggX5_text_X5_fails : GoodIn wsX5_text wsX5_fails := goodIn_r _ [11, 12, 283, 284, 285, 286, 287] (by decide +kernel) (by decide +kernel)
set_option maxRecDepth 20000 in
theorem gX5_text_X5_fails : GoodIn wsX5_text (wsV RX5 42 RX5 yX5_fails wsX5_fails) := goodIn_app (goodIn_of _ (by decide +kernel)) ggX5_text_X5_fails
set_option maxRecDepth 20000 in
theorem ggX5_text_X4_text : GoodIn wsX5_text wsX4_text := goodIn_r _ [17, 18, 19, 20, 21, 22, 23, 24, 25, 26, 27, 28, 29, 30, 31, 32, 33, 34, 35, 36, 37, 38, 39, 40, 41, 42, 43, 44, 45, 46, 16, 47, 48, 49, 50, 51, 52, 53, 54, 55, 56, 57, 58, 59, 60, 61, 62, 63, 64, 65, 66, 67, 68, 69, 70, 71, 72, 73, 74, 75, 76, 77, 78, 79, 80, 81, 82, 83, 84, 85, 86, 87, 88, 89, 90, 91, 92, 93, 94, 95, 96, 97, 98, 99, 100, 101, 102, 103, 104, 105, 106, 107, 108, 109, 110, 111, 112, 113, 114, 115, 116, 117, 118, 119, 120, 121, 122, 123, 124, 125, 126, 127, 128, 129, 130, 131, 132, 133, 134, 135, 136, 137, 138, 139, 140, 141, 142, 143, 144, 145, 146, 147, 148, 149, 150, 151, 152, 153, 154, 155, 156, 157, 158, 159, 160, 161, 162, 163, 164, 165, 166, 167, 168, 169, 170, 171, 172, 173, 174, 175, 176, 177, 178, 179, 180, 181, 182, 183, 184, 185, 186, 187, 188, 189, 190, 191, 192, 193, 194, 195, 196, 197, 198, 199, 200, 201, 202, 203, 204, 205, 206, 207, 208, 209, 210, 211, 212, 213, 214, 215, 216, 217, 218, 219, 220, 221, 222, 223, 224, 225, 226, 227, 228, 229, 230, 231, 232, 233, 234, 235, 236, 237, 238, 239, 240, 241, 242, 243, 244, 245, 246, 247, 248, 249, 250, 251, 252, 253, 254, 255, 256, 257, 258, 259, 260, 261, 262, 263, 264, 265, 266, 267, 268, 269, 270, 271, 272, 273, 274, 275, 276, 277, 278, 279, 280, 281, 282, 288, 289, 290, 291, 292, 293, 294, 295, 296, 297, 298, 299, 300] (by decide +kernel) (by decide +kernel)
set_option maxRecDepth 20000 in
theorem gX5_text_X4_text : GoodIn wsX5_text (wsV RX5 103 RX4 yX4_text wsX4_text) := goodIn_app (goodIn_of _ (by decide +kernel)) ggX5_text_X4_text
theorem dX5_text_0 : decode cX5_text 0 = .ok (.aload_n 0, 1) := by decide +kernel
theorem dX5_text_1 : decode cX5_text 1 = .ok (.iload_n 2, 1) := by decide +kernel
theorem dX5_text_2 : decode cX5_text 2 = .ok (.invokestatic 35, 3) := by decide +kernel
theorem dX5_text_5 : decode cX5_text 5 = .ok (.iconst 0, 1) := by decide +kernel
theorem dX5_text_6 : decode cX5_text 6 = .ok (.invokevirtual 42, 3) := by decide +kernel
theorem dX5_text_9 : decode cX5_text 9 = .ok (.ifCond .eq 8, 3) := by decide +kernel
theorem dX5_text_12 : decode cX5_text 12 = .ok (.ldc 101, 2) := by decide +kernel
theorem dX5_text_14 : decode cX5_text 14 = .ok (.goto 8, 3) := by decide +kernel
theorem dX5_text_17 : decode cX5_text 17 = .ok (.aload_n 1, 1) := by decide +kernel
theorem dX5_text_18 : decode cX5_text 18 = .ok (.iload_n 2, 1) := by decide +kernel
theorem dX5_text_19 : decode cX5_text 19 = .ok (.invokevirtual 103, 3) := by decide +kernel
theorem dX5_text_22 : decode cX5_text 22 = .ok (.areturn, 1) := by decide +kernel
set_option maxHeartbeats 4000000 in
set_option maxRecDepth 100000 in
theorem k_X5_text (l : Launch) (dC : Nat → ClassId) (dI : Nat → Nat → Nat) (cy : ClassId) (cB : ClassId) (h0 : Nat) (h1 : Nat) (h2 : Nat) (ro : Nat) (hc : Nat) (wd : Bool) (a0 : Int32) (f : Nat → Int64) (th : Int32) (rf : Int32) (kn : Int32) (p0 : Int32) (sz N : Nat) (hokf : okF wd f) : Met l yX5_text wsX5_text ({ frames := 7, cells := 8, slots := 200, locals := 232 }) (va_Pc [.ref h0, .ref ro, .int p0] (xT (dC, dI) xCl [(h0, eM h1 h2 th rf kn), (ro, eMR wd hc a0), (hc, eA cy f)] [(cy, .long), (cB, .byte)] sz N)) (va_Qr (fun (u : Int32) => True) (fun (u : Int32) a t => xW (dC, dI) xCl [(h0, eM h1 h2 u rf kn), (ro, eMR wd hc a0), (hc, eA cy f)] (va_A [(h0, eM h1 h2 th rf kn), (ro, eMR wd hc a0), (hc, eA cy f)] sz) t) (va_A [(h0, eM h1 h2 th rf kn), (ro, eMR wd hc a0), (hc, eA cy f)] sz)) 8 200 (va_A [(h0, eM h1 h2 th rf kn), (ro, eMR wd hc a0), (hc, eA cy f)] sz) := by
  refine Met.ofW (cc := cX5_text) (maxL := 3) (ret := (some (.object "java/lang/String"))) (by decide +kernel) rfl ?_
  intro p e s m args below meth c s₁ B hml hv
  obtain ⟨rfl, ⟨hsz, hP, hK, hD0, hN, hG⟩, hT⟩ := hv
  have hx := B.exec
  have hb := B.bytes
  have hr := B.returns
  have hts := atoms_spec (ws := wsX5_text) B.pre
  have hown : s.vm.findClass RX5 = some m.cls := findClass_of_methodNamed B.named
  have hlocks := B.notSynchronized
  subst hsz
  have hAN : ∀ q, va_A [(h0, eM h1 h2 th rf kn), (ro, eMR wd hc a0), (hc, eA cy f)] s.heap.size q → N ≤ q := xA_N hD0 hN
  have hD := hD0.self (sz := s.heap.size)
  generalize hAe : va_A [(h0, eM h1 h2 th rf kn), (ro, eMR wd hc a0), (hc, eA cy f)] s.heap.size = A at hD hAN ⊢
  have hA : ∀ q : Nat, s.heap.size ≤ q → A q := fun q h => by rw [← hAe]; exact Or.inr h
  have hS : va_S A s.heap s.heap [] := va_S.rf
  have hP : va_P (dC, dI) xCl [(h0, eM h1 h2 th rf kn), (ro, eMR wd hc a0), (hc, eA cy f)] s.heap := hP
  obtain ⟨hTc, ⟨tO, tT, fO, fT, hTo, hTt, hTa, hTb, hTf, hTg⟩, ⟨adK, adV, hTs, hTr0, hTr1, hTr2⟩, ⟨aE, hTe⟩, hTn⟩ := id hT
  have hl := lv_entry ([.ref h0, .ref ro, .int p0]) (n := 3) (Nat.le_of_ble_eq_true rfl)
  rw [lg_entry_eq]
  generalize (lg_sl ([.ref h0, .ref ro, .int p0]) ++ List.replicate (3 - (lg_sl ([.ref h0, .ref ro, .int p0])).length) Slot.unset).toArray = ls at hl ⊢
  have hl : lv_has ls 3 [(0, .ref h0), (1, .ref ro), (2, .int p0)] := hl
  refine lv_aload_n hx hb dX5_text_0 rfl (lv_at hl 0 rfl) ?_
  refine lv_iload_n hx hb dX5_text_1 rfl (lv_at hl 2 rfl) ?_
  have hPc := xP_nil (D := (dC, dI)) (cl := xCl) (H := s.heap)
  have hDc := xD_nil (A := A)
  have hKc := hK.sub (tys' := []) [] rfl
  have hFc := va_free (wc := []) hD hS hA [] rfl
  refine va_calli (va_runS (As := [.int p0]) (rest := [.ref h0]) ⟨hx, hb, hml, hown, hts⟩ (k_X5_isNo l dC dI s.heap.size p0) (va_cwS 1 hts gX5_text_X5_isNo rfl rfl rfl (by decide +kernel) ⟨Nat.le_of_ble_eq_true rfl, Nat.le_of_ble_eq_true rfl⟩) (xB.preS hKc hPc) rfl rfl hl.1 rfl (lv_room (Nat.le_of_ble_eq_true rfl)) dX5_text_2 ⟨(show _ ≤ 8 by omega), (show _ ≤ 200 by omega)⟩) hS xA_old (fun q h => hA q (Nat.le_trans hS.1 h)) (fun r_1 u_2 t H locs ht hvm hw hB hz hk hS => ?_)
  have hP := xP_keep hP hk
  have hw : r_1 = b2i (o_X5_isNo p0) := hw
  rw [hw]
  refine lv_iconst (v := 0) hx hb dX5_text_5 (by decide) ?_
  have hPc := hP.sub (ws' := [(h0, eM h1 h2 th rf kn)]) [0] rfl
  have hDc := hD.sub (ws' := [(h0, eM h1 h2 th rf kn)]) [0] (by decide) rfl
  have hKc := hK.sub (tys' := []) [] rfl
  have hFc := va_free (wc := [(h0, eM h1 h2 th rf kn)]) hD hS hA [0] rfl
  refine va_calli (va_runV (As := [.int (b2i (o_X5_isNo p0)), .int 0]) (rest := []) ⟨hx, hb, hml, hown, hts⟩ (k_X5_fails l dC dI h0 h1 h2 th rf kn H.size N (o_X5_isNo p0) false) (cwV 2 hts gX5_text_X5_fails rfl rfl rfl (by decide +kernel) ⟨Nat.le_of_ble_eq_true rfl, Nat.le_of_ble_eq_true rfl⟩) (xM.preV hKc hPc hDc hAN (Nat.le_trans hN hS.1) (hG.kept hS hAN) (ci := 7) (q0 := 0) rfl rfl) rfl rfl hl.1 rfl (lv_room (Nat.le_of_ble_eq_true rfl)) dX5_text_6 ⟨(show _ ≤ 8 by omega), (show _ ≤ 200 by omega)⟩) hS (fun q _ h => hFc q h) hFc (fun r_3 u_4 t H locs ht hvm hw hB hz hk hS => ?_)
  obtain ⟨hP1, hD1⟩ := hB
  rw [ht] at hP1
  obtain ⟨hP, hD⟩ := va_join (wr := [(ro, eMR wd hc a0), (hc, eA cy f)]) (w1 := [(h0, eM h1 h2 (o_X5_fails (o_X5_isNo p0) false).2 rf kn)]) hP hD [0] [1, 2] rfl rfl (by decide) (by decide) hk hFc hP1 hD1
  have hP : va_P (dC, dI) xCl [(ro, eMR wd hc a0), (hc, eA cy f), (h0, eM h1 h2 (o_X5_fails (o_X5_isNo p0) false).2 rf kn)] H := hP
  have hD : va_D A [(ro, eMR wd hc a0), (hc, eA cy f), (h0, eM h1 h2 (o_X5_fails (o_X5_isNo p0) false).2 rf kn)] := hD
  have hw : r_3 = b2i (o_X5_fails (o_X5_isNo p0) false).1 := hw
  rw [hw]
  refine xz_eq (tgt := 17) hx hb dX5_text_9 (by decide) (fun c_5 => ?_) (fun c_5 => ?_)
  · skip
    refine lv_aload_n hx hb dX5_text_17 rfl (lv_at hl 1 rfl) ?_
    refine lv_iload_n hx hb dX5_text_18 rfl (lv_at hl 2 rfl) ?_
    have hPc := hP.sub (ws' := [(ro, eMR wd hc a0), (hc, eA cy f)]) [0, 1] rfl
    have hDc := hD.sub (ws' := [(ro, eMR wd hc a0), (hc, eA cy f)]) [0, 1] (by decide) rfl
    have hKc := hK.sub (tys' := [(cy, .long), (cB, .byte)]) [0, 1] rfl
    have hFc := va_free (wc := [(ro, eMR wd hc a0), (hc, eA cy f)]) hD hS hA [0, 1] rfl
    refine va_callr (va_runV (As := [.int p0]) (rest := []) ⟨hx, hb, hml, hown, hts⟩ (k_X4_text l dC dI cy cB ro hc wd a0 f p0 H.size N (jt_in c_5) (hokf _ (xm_lt (jt_in c_5)))) (cwV 1 hts gX5_text_X4_text rfl rfl rfl (by decide +kernel) ⟨Nat.le_of_ble_eq_true rfl, Nat.le_of_ble_eq_true rfl⟩) (xT.preV hKc hPc hDc hAN (Nat.le_trans hN hS.1) (hG.kept hS hAN) (hT.kept hS hAN) (ci := 6) (q0 := 0) rfl rfl) rfl rfl hl.1 rfl (lv_room (Nat.le_of_ble_eq_true rfl)) dX5_text_19 ⟨(show _ ≤ 8 by omega), (show _ ≤ 200 by omega)⟩) hS (fun q _ h => hFc q h) hFc (fun u_7 r_6 t H locs ht hvm hw hB hz hk hS => ?_)
    obtain ⟨hP1, hD1⟩ := hB
    rw [ht] at hP1
    obtain ⟨hP, hD⟩ := va_join (wr := [(h0, eM h1 h2 (o_X5_fails (o_X5_isNo p0) false).2 rf kn)]) (w1 := [(ro, eMR wd hc a0), (hc, eA cy f)]) hP hD [0, 1] [2] rfl rfl (by decide) (by decide) hk hFc hP1 hD1
    have hP : va_P (dC, dI) xCl [(h0, eM h1 h2 (o_X5_fails (o_X5_isNo p0) false).2 rf kn), (ro, eMR wd hc a0), (hc, eA cy f)] H := hP
    have hD : va_D A [(h0, eM h1 h2 (o_X5_fails (o_X5_isNo p0) false).2 rf kn), (ro, eMR wd hc a0), (hc, eA cy f)] := hD
    have hP := hP.sub (ws' := [(h0, eM h1 h2 (o_X5_fails (o_X5_isNo p0) false).2 rf kn), (ro, eMR wd hc a0), (hc, eA cy f)]) [0, 1, 2] rfl
    have hD := hD.sub (ws' := [(h0, eM h1 h2 (o_X5_fails (o_X5_isNo p0) false).2 rf kn), (ro, eMR wd hc a0), (hc, eA cy f)]) [0, 1, 2] (by decide) rfl
    refine W.widen (k := 8) (n := 200) (by omega) (by omega) ?_
    exact W.aret (v := .ref r_6) hx hb hr (Or.inl ⟨_, rfl⟩) (Or.inr ⟨_, rfl⟩) (fun t ht hW => ⟨⟨(o_X5_fails (o_X5_isNo p0) false).2, _, rfl, trivial, ⟨by rw [ht]; exact hP, hD⟩⟩, hS.F ht⟩) hS.2.2 dX5_text_22
  · skip
    refine va_ldcS hx hb hown hTe dX5_text_12 ?_
    refine lv_goto (tgt := 22) hx hb dX5_text_14 (by decide) ?_
    have hP := hP.sub (ws' := [(h0, eM h1 h2 (o_X5_fails (o_X5_isNo p0) false).2 rf kn), (ro, eMR wd hc a0), (hc, eA cy f)]) [2, 0, 1] rfl
    have hD := hD.sub (ws' := [(h0, eM h1 h2 (o_X5_fails (o_X5_isNo p0) false).2 rf kn), (ro, eMR wd hc a0), (hc, eA cy f)]) [2, 0, 1] (by decide) rfl
    refine W.widen (k := 8) (n := 200) (by omega) (by omega) ?_
    exact W.aret (v := .ref aE) hx hb hr (Or.inl ⟨_, rfl⟩) (Or.inr ⟨_, rfl⟩) (fun t ht hW => ⟨⟨(o_X5_fails (o_X5_isNo p0) false).2, _, rfl, trivial, ⟨by rw [ht]; exact hP, hD⟩⟩, hS.F ht⟩) hS.2.2 dX5_text_22
set_option maxRecDepth 20000 in
theorem ggX5_wideText_X5_text : GoodIn wsX5_wideText wsX5_text := goodIn_r _ [6, 7, 8, 5, 9, 10, 11, 12, 13, 14, 15, 16, 17, 18, 19, 20, 21, 22, 23, 24, 25, 26, 27, 28, 29, 30, 31, 32, 33, 34, 35, 36, 37, 38, 39, 40, 41, 42, 43, 44, 45, 46, 47, 48, 49, 50, 51, 52, 53, 54, 55, 56, 57, 58, 59, 60, 61, 62, 63, 64, 65, 66, 67, 68, 69, 70, 71, 72, 73, 74, 75, 76, 77, 78, 79, 80, 81, 82, 83, 84, 85, 86, 87, 88, 89, 90, 91, 92, 93, 94, 95, 96, 97, 98, 99, 100, 101, 102, 103, 104, 105, 106, 107, 108, 109, 110, 111, 112, 113, 114, 115, 116, 117, 118, 119, 120, 121, 122, 123, 124, 125, 126, 127, 128, 129, 130, 131, 132, 133, 134, 135, 136, 137, 138, 139, 140, 141, 142, 143, 144, 145, 146, 147, 148, 149, 150, 151, 152, 153, 154, 155, 156, 157, 158, 159, 160, 161, 162, 163, 164, 165, 166, 167, 168, 169, 170, 171, 172, 173, 174, 175, 176, 177, 178, 179, 180, 181, 182, 183, 184, 185, 186, 187, 188, 189, 190, 191, 192, 193, 194, 195, 196, 197, 198, 199, 200, 201, 202, 203, 204, 205, 206, 207, 208, 209, 210, 211, 212, 213, 214, 215, 216, 217, 218, 219, 220, 221, 222, 223, 224, 225, 226, 227, 228, 229, 230, 231, 232, 233, 234, 235, 236, 237, 238, 239, 240, 241, 242, 243, 244, 245, 246, 247, 248, 249, 250, 251, 252, 253, 254, 255, 256, 257, 258, 259, 260, 261, 262, 263, 264, 265, 266, 267, 268, 269, 270, 271, 272, 273, 274, 275, 276, 277, 278, 279, 280, 281, 282, 283, 284, 285, 286, 287, 288, 289, 290, 291, 292, 293, 294, 295, 296, 297, 298, 299, 300, 301, 302, 303, 304, 305] (by decide +kernel) (by decide +kernel)
set_option maxRecDepth 20000 in
theorem gX5_wideText_X5_text : GoodIn wsX5_wideText (wsV RX5 155 RX5 yX5_text wsX5_text) := goodIn_app (goodIn_of _ (by decide +kernel)) ggX5_wideText_X5_text
theorem dX5_wideText_0 : decode cX5_wideText 0 = .ok (.aload_n 0, 1) := by decide +kernel
theorem dX5_wideText_1 : decode cX5_wideText 1 = .ok (.aload_n 0, 1) := by decide +kernel
theorem dX5_wideText_2 : decode cX5_wideText 2 = .ok (.getfield 16, 3) := by decide +kernel
theorem dX5_wideText_5 : decode cX5_wideText 5 = .ok (.iload_n 1, 1) := by decide +kernel
theorem dX5_wideText_6 : decode cX5_wideText 6 = .ok (.invokevirtual 155, 3) := by decide +kernel
theorem dX5_wideText_9 : decode cX5_wideText 9 = .ok (.areturn, 1) := by decide +kernel
set_option maxHeartbeats 4000000 in
set_option maxRecDepth 100000 in
theorem k_X5_wideText (l : Launch) (dC : Nat → ClassId) (dI : Nat → Nat → Nat) (cy : ClassId) (cB : ClassId) (h0 : Nat) (h1 : Nat) (hc1 : Nat) (h2 : Nat) (hc2 : Nat) (a1 : Int32) (f1 : Nat → Int64) (a2 : Int32) (f2 : Nat → Int64) (th : Int32) (rf : Int32) (kn : Int32) (p0 : Int32) (sz N : Nat) (hok2 : okF false f2) : Met l yX5_wideText wsX5_wideText ({ frames := 8, cells := 40, slots := 2000, locals := 254 }) (va_Pc [.ref h0, .int p0] (xT (dC, dI) xCl [(h0, eM h1 h2 th rf kn), (h1, eMR true hc1 a1), (hc1, eA cy f1), (h2, eMR false hc2 a2), (hc2, eA cy f2)] [(cy, .long), (cB, .byte)] sz N)) (va_Qr (fun (u : Int32) => True) (fun (u : Int32) a t => xW (dC, dI) xCl [(h0, eM h1 h2 u rf kn), (h1, eMR true hc1 a1), (hc1, eA cy f1), (h2, eMR false hc2 a2), (hc2, eA cy f2)] (va_A [(h0, eM h1 h2 th rf kn), (h1, eMR true hc1 a1), (hc1, eA cy f1), (h2, eMR false hc2 a2), (hc2, eA cy f2)] sz) t) (va_A [(h0, eM h1 h2 th rf kn), (h1, eMR true hc1 a1), (hc1, eA cy f1), (h2, eMR false hc2 a2), (hc2, eA cy f2)] sz)) 40 2000 (va_A [(h0, eM h1 h2 th rf kn), (h1, eMR true hc1 a1), (hc1, eA cy f1), (h2, eMR false hc2 a2), (hc2, eA cy f2)] sz) := by
  refine Met.ofW (cc := cX5_wideText) (maxL := 2) (ret := (some (.object "java/lang/String"))) (by decide +kernel) rfl ?_
  intro p e s m args below meth c s₁ B hml hv
  obtain ⟨rfl, ⟨hsz, hP, hK, hD0, hN, hG⟩, hT⟩ := hv
  have hx := B.exec
  have hb := B.bytes
  have hr := B.returns
  have hts := atoms_spec (ws := wsX5_wideText) B.pre
  have hown : s.vm.findClass RX5 = some m.cls := findClass_of_methodNamed B.named
  have hlocks := B.notSynchronized
  subst hsz
  have hAN : ∀ q, va_A [(h0, eM h1 h2 th rf kn), (h1, eMR true hc1 a1), (hc1, eA cy f1), (h2, eMR false hc2 a2), (hc2, eA cy f2)] s.heap.size q → N ≤ q := xA_N hD0 hN
  have hD := hD0.self (sz := s.heap.size)
  generalize hAe : va_A [(h0, eM h1 h2 th rf kn), (h1, eMR true hc1 a1), (hc1, eA cy f1), (h2, eMR false hc2 a2), (hc2, eA cy f2)] s.heap.size = A at hD hAN ⊢
  have hA : ∀ q : Nat, s.heap.size ≤ q → A q := fun q h => by rw [← hAe]; exact Or.inr h
  have hS : va_S A s.heap s.heap [] := va_S.rf
  have hP : va_P (dC, dI) xCl [(h0, eM h1 h2 th rf kn), (h1, eMR true hc1 a1), (hc1, eA cy f1), (h2, eMR false hc2 a2), (hc2, eA cy f2)] s.heap := hP
  obtain ⟨hTc, ⟨tO, tT, fO, fT, hTo, hTt, hTa, hTb, hTf, hTg⟩, ⟨adK, adV, hTs, hTr0, hTr1, hTr2⟩, ⟨aE, hTe⟩, hTn⟩ := id hT
  have hl := lv_entry ([.ref h0, .int p0]) (n := 2) (Nat.le_of_ble_eq_true rfl)
  rw [lg_entry_eq]
  generalize (lg_sl ([.ref h0, .int p0]) ++ List.replicate (2 - (lg_sl ([.ref h0, .int p0])).length) Slot.unset).toArray = ls at hl ⊢
  have hl : lv_has ls 2 [(0, .ref h0), (1, .int p0)] := hl
  refine lv_aload_n hx hb dX5_wideText_0 rfl (lv_at hl 0 rfl) ?_
  refine lv_aload_n hx hb dX5_wideText_1 rfl (lv_at hl 0 rfl) ?_
  refine va_get (D := (dC, dI)) (ci := 7) (v := .ref h1) (C := RX5) (T := TX5) (N := 5) hx hb hts (by decide +kernel) hown hK hP 0 rfl rfl 0 (by decide) (hts (.fieldLink RX5 16 "EdgefloatsModel" "wide" "LEdgefloatsModel$Row;") (by decide +kernel)) (fun _ h9 => h9) rfl dX5_wideText_2 ?_
  refine lv_iload_n hx hb dX5_wideText_5 rfl (lv_at hl 1 rfl) ?_
  have hPc := hP.sub (ws' := [(h0, eM h1 h2 th rf kn), (h1, eMR true hc1 a1), (hc1, eA cy f1)]) [0, 1, 2] rfl
  have hDc := hD.sub (ws' := [(h0, eM h1 h2 th rf kn), (h1, eMR true hc1 a1), (hc1, eA cy f1)]) [0, 1, 2] (by decide) rfl
  have hKc := hK.sub (tys' := [(cy, .long), (cB, .byte)]) [0, 1] rfl
  have hFc := va_free (wc := [(h0, eM h1 h2 th rf kn), (h1, eMR true hc1 a1), (hc1, eA cy f1)]) hD hS hA [0, 1, 2] rfl
  refine va_callr (va_runV (As := [.ref h1, .int p0]) (rest := []) ⟨hx, hb, hml, hown, hts⟩ (k_X5_text l dC dI cy cB h0 h1 h2 h1 hc1 true a1 f1 th rf kn p0 s.heap.size N (okF_true _)) (cwV 2 hts gX5_wideText_X5_text rfl rfl rfl (by decide +kernel) ⟨Nat.le_of_ble_eq_true rfl, Nat.le_of_ble_eq_true rfl⟩) (xT.preV hKc hPc hDc hAN (Nat.le_trans hN hS.1) (hG.kept hS hAN) (hT.kept hS hAN) (ci := 7) (q0 := 0) rfl rfl) rfl rfl hl.1 rfl (lv_room (Nat.le_of_ble_eq_true rfl)) dX5_wideText_6 ⟨(show _ ≤ 40 by omega), (show _ ≤ 2000 by omega)⟩) hS (fun q _ h => hFc q h) hFc (fun u_3 r_2 t H locs ht hvm hw hB hz hk hS => ?_)
  obtain ⟨hP1, hD1⟩ := hB
  rw [ht] at hP1
  obtain ⟨th2_1, rfl⟩ : ∃ z, z = u_3 := ⟨_, rfl⟩
  obtain ⟨hP, hD⟩ := va_join (wr := [(h2, eMR false hc2 a2), (hc2, eA cy f2)]) (w1 := [(h0, eM h1 h2 th2_1 rf kn), (h1, eMR true hc1 a1), (hc1, eA cy f1)]) hP hD [0, 1, 2] [3, 4] rfl rfl (by decide) (by decide) hk hFc hP1 hD1
  have hP : va_P (dC, dI) xCl [(h2, eMR false hc2 a2), (hc2, eA cy f2), (h0, eM h1 h2 th2_1 rf kn), (h1, eMR true hc1 a1), (hc1, eA cy f1)] H := hP
  have hD : va_D A [(h2, eMR false hc2 a2), (hc2, eA cy f2), (h0, eM h1 h2 th2_1 rf kn), (h1, eMR true hc1 a1), (hc1, eA cy f1)] := hD
  have hP := hP.sub (ws' := [(h0, eM h1 h2 th2_1 rf kn), (h1, eMR true hc1 a1), (hc1, eA cy f1), (h2, eMR false hc2 a2), (hc2, eA cy f2)]) [2, 3, 4, 0, 1] rfl
  have hD := hD.sub (ws' := [(h0, eM h1 h2 th2_1 rf kn), (h1, eMR true hc1 a1), (hc1, eA cy f1), (h2, eMR false hc2 a2), (hc2, eA cy f2)]) [2, 3, 4, 0, 1] (by decide) rfl
  refine W.widen (k := 40) (n := 2000) (by omega) (by omega) ?_
  exact W.aret (v := .ref r_2) hx hb hr (Or.inl ⟨_, rfl⟩) (Or.inr ⟨_, rfl⟩) (fun t ht hW => ⟨⟨th2_1, _, rfl, trivial, ⟨by rw [ht]; exact hP, hD⟩⟩, hS.F ht⟩) hS.2.2 dX5_wideText_9
set_option maxRecDepth 20000 in
theorem ggX5_narrowText_X5_text : GoodIn wsX5_narrowText wsX5_text := goodIn_r _ [6, 7, 8, 5, 9, 10, 11, 12, 13, 14, 15, 16, 17, 18, 19, 20, 21, 22, 23, 24, 25, 26, 27, 28, 29, 30, 31, 32, 33, 34, 35, 36, 37, 38, 39, 40, 41, 42, 43, 44, 45, 46, 47, 48, 49, 50, 51, 52, 53, 54, 55, 56, 57, 58, 59, 60, 61, 62, 63, 64, 65, 66, 67, 68, 69, 70, 71, 72, 73, 74, 75, 76, 77, 78, 79, 80, 81, 82, 83, 84, 85, 86, 87, 88, 89, 90, 91, 92, 93, 94, 95, 96, 97, 98, 99, 100, 101, 102, 103, 104, 105, 106, 107, 108, 109, 110, 111, 112, 113, 114, 115, 116, 117, 118, 119, 120, 121, 122, 123, 124, 125, 126, 127, 128, 129, 130, 131, 132, 133, 134, 135, 136, 137, 138, 139, 140, 141, 142, 143, 144, 145, 146, 147, 148, 149, 150, 151, 152, 153, 154, 155, 156, 157, 158, 159, 160, 161, 162, 163, 164, 165, 166, 167, 168, 169, 170, 171, 172, 173, 174, 175, 176, 177, 178, 179, 180, 181, 182, 183, 184, 185, 186, 187, 188, 189, 190, 191, 192, 193, 194, 195, 196, 197, 198, 199, 200, 201, 202, 203, 204, 205, 206, 207, 208, 209, 210, 211, 212, 213, 214, 215, 216, 217, 218, 219, 220, 221, 222, 223, 224, 225, 226, 227, 228, 229, 230, 231, 232, 233, 234, 235, 236, 237, 238, 239, 240, 241, 242, 243, 244, 245, 246, 247, 248, 249, 250, 251, 252, 253, 254, 255, 256, 257, 258, 259, 260, 261, 262, 263, 264, 265, 266, 267, 268, 269, 270, 271, 272, 273, 274, 275, 276, 277, 278, 279, 280, 281, 282, 283, 284, 285, 286, 287, 288, 289, 290, 291, 292, 293, 294, 295, 296, 297, 298, 299, 300, 301, 302, 303, 304, 305] (by decide +kernel) (by decide +kernel)
set_option maxRecDepth 20000 in
theorem gX5_narrowText_X5_text : GoodIn wsX5_narrowText (wsV RX5 155 RX5 yX5_text wsX5_text) := goodIn_app (goodIn_of _ (by decide +kernel)) ggX5_narrowText_X5_text
theorem dX5_narrowText_0 : decode cX5_narrowText 0 = .ok (.aload_n 0, 1) := by decide +kernel
theorem dX5_narrowText_1 : decode cX5_narrowText 1 = .ok (.aload_n 0, 1) := by decide +kernel
theorem dX5_narrowText_2 : decode cX5_narrowText 2 = .ok (.getfield 24, 3) := by decide +kernel
theorem dX5_narrowText_5 : decode cX5_narrowText 5 = .ok (.iload_n 1, 1) := by decide +kernel
theorem dX5_narrowText_6 : decode cX5_narrowText 6 = .ok (.invokevirtual 155, 3) := by decide +kernel
theorem dX5_narrowText_9 : decode cX5_narrowText 9 = .ok (.areturn, 1) := by decide +kernel
set_option maxHeartbeats 4000000 in
set_option maxRecDepth 100000 in
theorem k_X5_narrowText (l : Launch) (dC : Nat → ClassId) (dI : Nat → Nat → Nat) (cy : ClassId) (cB : ClassId) (h0 : Nat) (h1 : Nat) (hc1 : Nat) (h2 : Nat) (hc2 : Nat) (a1 : Int32) (f1 : Nat → Int64) (a2 : Int32) (f2 : Nat → Int64) (th : Int32) (rf : Int32) (kn : Int32) (p0 : Int32) (sz N : Nat) (hok2 : okF false f2) : Met l yX5_narrowText wsX5_narrowText ({ frames := 8, cells := 40, slots := 2000, locals := 254 }) (va_Pc [.ref h0, .int p0] (xT (dC, dI) xCl [(h0, eM h1 h2 th rf kn), (h1, eMR true hc1 a1), (hc1, eA cy f1), (h2, eMR false hc2 a2), (hc2, eA cy f2)] [(cy, .long), (cB, .byte)] sz N)) (va_Qr (fun (u : Int32) => True) (fun (u : Int32) a t => xW (dC, dI) xCl [(h0, eM h1 h2 u rf kn), (h1, eMR true hc1 a1), (hc1, eA cy f1), (h2, eMR false hc2 a2), (hc2, eA cy f2)] (va_A [(h0, eM h1 h2 th rf kn), (h1, eMR true hc1 a1), (hc1, eA cy f1), (h2, eMR false hc2 a2), (hc2, eA cy f2)] sz) t) (va_A [(h0, eM h1 h2 th rf kn), (h1, eMR true hc1 a1), (hc1, eA cy f1), (h2, eMR false hc2 a2), (hc2, eA cy f2)] sz)) 40 2000 (va_A [(h0, eM h1 h2 th rf kn), (h1, eMR true hc1 a1), (hc1, eA cy f1), (h2, eMR false hc2 a2), (hc2, eA cy f2)] sz) := by
  refine Met.ofW (cc := cX5_narrowText) (maxL := 2) (ret := (some (.object "java/lang/String"))) (by decide +kernel) rfl ?_
  intro p e s m args below meth c s₁ B hml hv
  obtain ⟨rfl, ⟨hsz, hP, hK, hD0, hN, hG⟩, hT⟩ := hv
  have hx := B.exec
  have hb := B.bytes
  have hr := B.returns
  have hts := atoms_spec (ws := wsX5_narrowText) B.pre
  have hown : s.vm.findClass RX5 = some m.cls := findClass_of_methodNamed B.named
  have hlocks := B.notSynchronized
  subst hsz
  have hAN : ∀ q, va_A [(h0, eM h1 h2 th rf kn), (h1, eMR true hc1 a1), (hc1, eA cy f1), (h2, eMR false hc2 a2), (hc2, eA cy f2)] s.heap.size q → N ≤ q := xA_N hD0 hN
  have hD := hD0.self (sz := s.heap.size)
  generalize hAe : va_A [(h0, eM h1 h2 th rf kn), (h1, eMR true hc1 a1), (hc1, eA cy f1), (h2, eMR false hc2 a2), (hc2, eA cy f2)] s.heap.size = A at hD hAN ⊢
  have hA : ∀ q : Nat, s.heap.size ≤ q → A q := fun q h => by rw [← hAe]; exact Or.inr h
  have hS : va_S A s.heap s.heap [] := va_S.rf
  have hP : va_P (dC, dI) xCl [(h0, eM h1 h2 th rf kn), (h1, eMR true hc1 a1), (hc1, eA cy f1), (h2, eMR false hc2 a2), (hc2, eA cy f2)] s.heap := hP
  obtain ⟨hTc, ⟨tO, tT, fO, fT, hTo, hTt, hTa, hTb, hTf, hTg⟩, ⟨adK, adV, hTs, hTr0, hTr1, hTr2⟩, ⟨aE, hTe⟩, hTn⟩ := id hT
  have hl := lv_entry ([.ref h0, .int p0]) (n := 2) (Nat.le_of_ble_eq_true rfl)
  rw [lg_entry_eq]
  generalize (lg_sl ([.ref h0, .int p0]) ++ List.replicate (2 - (lg_sl ([.ref h0, .int p0])).length) Slot.unset).toArray = ls at hl ⊢
  have hl : lv_has ls 2 [(0, .ref h0), (1, .int p0)] := hl
  refine lv_aload_n hx hb dX5_narrowText_0 rfl (lv_at hl 0 rfl) ?_
  refine lv_aload_n hx hb dX5_narrowText_1 rfl (lv_at hl 0 rfl) ?_
  refine va_get (D := (dC, dI)) (ci := 7) (v := .ref h2) (C := RX5) (T := TX5) (N := 5) hx hb hts (by decide +kernel) hown hK hP 0 rfl rfl 1 (by decide) (hts (.fieldLink RX5 24 "EdgefloatsModel" "narrow" "LEdgefloatsModel$Row;") (by decide +kernel)) (fun _ h9 => h9) rfl dX5_narrowText_2 ?_
  refine lv_iload_n hx hb dX5_narrowText_5 rfl (lv_at hl 1 rfl) ?_
  have hPc := hP.sub (ws' := [(h0, eM h1 h2 th rf kn), (h2, eMR false hc2 a2), (hc2, eA cy f2)]) [0, 3, 4] rfl
  have hDc := hD.sub (ws' := [(h0, eM h1 h2 th rf kn), (h2, eMR false hc2 a2), (hc2, eA cy f2)]) [0, 3, 4] (by decide) rfl
  have hKc := hK.sub (tys' := [(cy, .long), (cB, .byte)]) [0, 1] rfl
  have hFc := va_free (wc := [(h0, eM h1 h2 th rf kn), (h2, eMR false hc2 a2), (hc2, eA cy f2)]) hD hS hA [0, 3, 4] rfl
  refine va_callr (va_runV (As := [.ref h2, .int p0]) (rest := []) ⟨hx, hb, hml, hown, hts⟩ (k_X5_text l dC dI cy cB h0 h1 h2 h2 hc2 false a2 f2 th rf kn p0 s.heap.size N hok2) (cwV 2 hts gX5_narrowText_X5_text rfl rfl rfl (by decide +kernel) ⟨Nat.le_of_ble_eq_true rfl, Nat.le_of_ble_eq_true rfl⟩) (xT.preV hKc hPc hDc hAN (Nat.le_trans hN hS.1) (hG.kept hS hAN) (hT.kept hS hAN) (ci := 7) (q0 := 0) rfl rfl) rfl rfl hl.1 rfl (lv_room (Nat.le_of_ble_eq_true rfl)) dX5_narrowText_6 ⟨(show _ ≤ 40 by omega), (show _ ≤ 2000 by omega)⟩) hS (fun q _ h => hFc q h) hFc (fun u_3 r_2 t H locs ht hvm hw hB hz hk hS => ?_)
  obtain ⟨hP1, hD1⟩ := hB
  rw [ht] at hP1
  obtain ⟨th2_1, rfl⟩ : ∃ z, z = u_3 := ⟨_, rfl⟩
  obtain ⟨hP, hD⟩ := va_join (wr := [(h1, eMR true hc1 a1), (hc1, eA cy f1)]) (w1 := [(h0, eM h1 h2 th2_1 rf kn), (h2, eMR false hc2 a2), (hc2, eA cy f2)]) hP hD [0, 3, 4] [1, 2] rfl rfl (by decide) (by decide) hk hFc hP1 hD1
  have hP : va_P (dC, dI) xCl [(h1, eMR true hc1 a1), (hc1, eA cy f1), (h0, eM h1 h2 th2_1 rf kn), (h2, eMR false hc2 a2), (hc2, eA cy f2)] H := hP
  have hD : va_D A [(h1, eMR true hc1 a1), (hc1, eA cy f1), (h0, eM h1 h2 th2_1 rf kn), (h2, eMR false hc2 a2), (hc2, eA cy f2)] := hD
  have hP := hP.sub (ws' := [(h0, eM h1 h2 th2_1 rf kn), (h1, eMR true hc1 a1), (hc1, eA cy f1), (h2, eMR false hc2 a2), (hc2, eA cy f2)]) [2, 0, 1, 3, 4] rfl
  have hD := hD.sub (ws' := [(h0, eM h1 h2 th2_1 rf kn), (h1, eMR true hc1 a1), (hc1, eA cy f1), (h2, eMR false hc2 a2), (hc2, eA cy f2)]) [2, 0, 1, 3, 4] (by decide) rfl
  refine W.widen (k := 40) (n := 2000) (by omega) (by omega) ?_
  exact W.aret (v := .ref r_2) hx hb hr (Or.inl ⟨_, rfl⟩) (Or.inr ⟨_, rfl⟩) (fun t ht hW => ⟨⟨th2_1, _, rfl, trivial, ⟨by rw [ht]; exact hP, hD⟩⟩, hS.F ht⟩) hS.2.2 dX5_narrowText_9
