set_option maxHeartbeats 4000000 in
set_option maxRecDepth 100000 in
theorem kk_J0_getBytes_840e7 (l : Launch) (dC : Nat → ClassId) (dI : Nat → Nat → Nat) (cB : ClassId) (a : Nat) (y : Nat) (w : Nat) (b : List Int32) (P : List Nat) (d : Nat) (n : Nat) (mm : Nat) (f : Nat → Int32) (sz N : Nat) (hwl : w ≤ 2) (hbf : sb_Fit (fun j => b.getD j 0)) (hPb : ∀ (i c : Nat), P[i]? = some c → i < w ∧ b.getD i 0 = sb_b c) (hPl : P.length = w) (hn : n + w ≤ mm) (hmb : mm ≤ 34) (hf : sb_Fit f) : Met l yJ0_getBytes_840e7 wsJ0_getBytes_840e7 ({ frames := 1, cells := 0, slots := 0, locals := 100 }) (va_Pc [.ref a, .ref d, .int (nI n), .int 0] (xS (dC, dI) xCl [(d, eY cB mm f)] [(cB, .byte)] a y w b sz N)) (va_Qv (fun (u : (Nat → Int32)) => sb_Fit u ∧ tX f u n P) (fun (u : (Nat → Int32)) t => xW (dC, dI) xCl [(d, eY cB mm u)] (va_A [(d, eY cB mm f)] sz) t) (va_A [(d, eY cB mm f)] sz)) 0 0 (va_A [(d, eY cB mm f)] sz) := by
  refine Met.ofW (cc := cJ0_getBytes_840e7) (maxL := 4) (ret := none) (by decide +kernel) rfl ?_
  intro p e s m args below meth c s₁ B hml hv
  obtain ⟨rfl, ⟨⟨hsz, hP, hK, hD0, hN, hG⟩, hT⟩, hSs⟩ := hv
  have hx := B.exec
  have hb := B.bytes
  have hr := B.returns
  have hts := atoms_spec (ws := wsJ0_getBytes_840e7) B.pre
  have hown : s.vm.findClass RJ0 = some m.cls := findClass_of_methodNamed B.named
  have hlocks := B.notSynchronized
  subst hsz
  have hAN : ∀ q, va_A [(d, eY cB mm f)] s.heap.size q → N ≤ q := xA_N hD0 hN
  have hD := hD0.self (sz := s.heap.size)
  generalize hAe : va_A [(d, eY cB mm f)] s.heap.size = A at hD hAN ⊢
  have hA : ∀ q : Nat, s.heap.size ≤ q → A q := fun q h => by rw [← hAe]; exact Or.inr h
  have hS : va_S A s.heap s.heap [] := va_S.rf
  have hP : va_P (dC, dI) xCl [(d, eY cB mm f)] s.heap := hP
  obtain ⟨hTc, ⟨tO, tT, fO, fT, hTo, hTt, hTa, hTb, hTf, hTg⟩, ⟨adK, adV, hTs, hTr0, hTr1, hTr2⟩, ⟨aE, hTe⟩, hTn⟩ := id hT
  have hl := lv_entry ([.ref a, .ref d, .int (nI n), .int 0]) (n := 4) (Nat.le_of_ble_eq_true rfl)
  rw [lg_entry_eq]
  generalize (lg_sl ([.ref a, .ref d, .int (nI n), .int 0]) ++ List.replicate (4 - (lg_sl ([.ref a, .ref d, .int (nI n), .int 0])).length) Slot.unset).toArray = ls at hl ⊢
  have hl : lv_has ls 4 [(0, .ref a), (1, .ref d), (2, .int (nI n)), (3, .int 0)] := hl
  refine lv_aload_n hx hb dJ0_getBytes_840e7_0 rfl (lv_at hl 0 rfl) ?_
  have hPc := xP_nil (D := (dC, dI)) (cl := xCl) (H := s.heap)
  have hDc := xD_nil (A := A)
  have hKc := hK.sub (tys' := [(cB, .byte)]) [0] rfl
  have hFc := va_free (wc := []) hD hS hA [] rfl
  refine va_calli (va_runV (As := []) (rest := []) ⟨hx, hb, hml, hown, hts⟩ (k_J0_coder_7d493 l dC dI cB a y w b s.heap.size N hwl) (cwV 0 hts gJ0_getBytes_840e7_J0_coder_7d493 rfl rfl rfl (by decide +kernel) ⟨Nat.le_of_ble_eq_true rfl, Nat.le_of_ble_eq_true rfl⟩) (xS.preVS hKc hPc hDc hAN (Nat.le_trans hN hS.1) (hG.kept hS hAN) (hT.kept hS hAN) (hSs.kept (fun q h1 h2 => hS.2.1 q h1 (fun z => h2 (hAN q z)))) (vk_recv (hSs.narrow hAN) (i := 0) (by decide) hS)) rfl rfl hl.1 rfl (lv_room (Nat.le_of_ble_eq_true rfl)) dJ0_getBytes_840e7_1 ⟨(show _ ≤ 0 by omega), (show _ ≤ 0 by omega)⟩) hS (fun q _ h => hFc q h) hFc (fun r_1 u_2 t H locs ht hvm hw hB hz hk hS => ?_)
  obtain ⟨hP1, hD1⟩ := hB
  rw [ht] at hP1
  obtain ⟨hP, hD⟩ := va_join (wr := [(d, eY cB mm f)]) (w1 := []) hP hD [] [0] rfl rfl (by decide) (by decide) hk hFc hP1 hD1
  have hP : va_P (dC, dI) xCl [(d, eY cB mm f)] H := hP
  have hD : va_D A [(d, eY cB mm f)] := hD
  have hw : r_1 = 0 := hw
  rw [hw]
  refine lv_iload_n hx hb dJ0_getBytes_840e7_4 rfl (lv_at hl 3 rfl) ?_
  refine lv_icmp_ne (tgt := 28) hx hb dJ0_getBytes_840e7_5 (by decide) (fun c9 => absurd c9 (by decide)) (fun _ => ?_)
  refine lv_aload_n hx hb dJ0_getBytes_840e7_8 rfl (lv_at hl 0 rfl) ?_
  refine vk_getf hx hb (va_OF.narrow (hSs.1 0 (by decide)).2.2.1 hAN) hS hown (hts (.fieldLink RJ0 9 "java/lang/String" "value" "[B") (by decide +kernel)) (fun _ h9 => h9) dJ0_getBytes_840e7_9 ?_
  refine lv_iconst (v := 0) hx hb dJ0_getBytes_840e7_12 (by decide) ?_
  refine lv_aload_n hx hb dJ0_getBytes_840e7_13 rfl (lv_at hl 1 rfl) ?_
  refine lv_iload_n hx hb dJ0_getBytes_840e7_14 rfl (lv_at hl 2 rfl) ?_
  refine lv_iload_n hx hb dJ0_getBytes_840e7_15 rfl (lv_at hl 3 rfl) ?_
  refine lv_ishl hx hb dJ0_getBytes_840e7_16 ?_
  rw [show ((((nI n) : Int32) <<< ((0 : Int32) &&& 31)) : Int32) = (nI n) from sb_shl0 _]
  refine lv_aload_n hx hb dJ0_getBytes_840e7_17 rfl (lv_at hl 0 rfl) ?_
  refine vk_getf hx hb (va_OF.narrow (hSs.1 0 (by decide)).2.2.1 hAN) hS hown (hts (.fieldLink RJ0 9 "java/lang/String" "value" "[B") (by decide +kernel)) (fun _ h9 => h9) dJ0_getBytes_840e7_18 ?_
  refine va_tlen hx hb (va_T.narrow (hSs.1 0 (by decide)).2.2.2 hAN) hS (v := (nI w)) rfl dJ0_getBytes_840e7_21 ?_
  refine vk_copyt hx hb (hml.trans hl.1.symm) hown (hts (.methodLink RJ0 212 arraycopyName) (by decide +kernel)) (hts (.native arraycopyName) (by decide +kernel)) (hts (.static arraycopyName) (by decide +kernel)) (hts (.initialized "java/lang/System") (by decide +kernel)) hK hP hD hS (va_T.narrow (hSs.1 0 (by decide)).2.2.2 hAN) 0 0 rfl rfl (by decide) (nI_pos (by omega)) (nI_pos (by omega)) (by rw [nI_clamp (by omega), sb_cl0]; show 0 + w ≤ w; omega) (by rw [nI_clamp (by omega), nI_clamp (by omega)]; omega) (fun i _ => hbf _) (Nat.le_of_ble_eq_true rfl) (by decide +kernel) dJ0_getBytes_840e7_22 (fun H locs hP hD hS => ?_)
  obtain ⟨f_3, hf_3⟩ : ∃ z : Nat → Int32, z = va_cpy (fun j => b.getD j 0) f (0 : Int32).toNatClampNeg ((nI n) : Int32).toNatClampNeg ((nI w) : Int32).toNatClampNeg := ⟨_, rfl⟩
  have hf_4 : sb_Fit f_3 := by rw [hf_3]; exact sb_fitC hbf hf
  have hP : va_P (dC, dI) xCl [(d, eY cB mm (va_cpy (fun j => b.getD j 0) f (0 : Int32).toNatClampNeg ((nI n) : Int32).toNatClampNeg ((nI w) : Int32).toNatClampNeg))] H := hP
  have hD : va_D A [(d, eY cB mm (va_cpy (fun j => b.getD j 0) f (0 : Int32).toNatClampNeg ((nI n) : Int32).toNatClampNeg ((nI w) : Int32).toNatClampNeg))] := hD
  rw [← hf_3] at hP hD
  have hP : va_P (dC, dI) xCl [(d, eY cB mm f_3)] H := hP
  have hD : va_D A [(d, eY cB mm f_3)] := hD
  refine lv_goto (tgt := 43) hx hb dJ0_getBytes_840e7_25 (by decide) ?_
  have hP := hP.sub (ws' := [(d, eY cB mm f_3)]) [0] rfl
  have hD := hD.sub (ws' := [(d, eY cB mm f_3)]) [0] (by decide) rfl
  refine W.widen (k := 0) (n := 0) (by omega) (by omega) ?_
  exact W.vret hx hb hr (fun t ht hW => ⟨⟨f_3, rfl, ⟨hf_4, tX_cpy hPb (by rw [hf_3, sb_cl0, nI_clamp (by omega), nI_clamp (by omega)])⟩, by rw [ht]; exact hP, hD⟩, hS.F ht⟩) hS.2.2 dJ0_getBytes_840e7_43
set_option maxHeartbeats 4000000 in
set_option maxRecDepth 100000 in
theorem kk_J5_putStringAt_47b60 (l : Launch) (dC : Nat → ClassId) (dI : Nat → Nat → Nat) (cB : ClassId) (h : Nat) (v : Nat) (k : Int32) (n : Nat) (mm : Nat) (f : Nat → Int32) (a : Nat) (y : Nat) (w : Nat) (b : List Int32) (P : List Nat) (sz N : Nat) (hwl : w ≤ 2) (hbf : sb_Fit (fun j => b.getD j 0)) (hPb : ∀ (i c : Nat), P[i]? = some c → i < w ∧ b.getD i 0 = sb_b c) (hPl : P.length = w) (hn : n + w ≤ mm) (hmb : mm ≤ 34) (hf : sb_Fit f) : Met l yJ5_putStringAt_47b60 wsJ5_putStringAt_47b60 ({ frames := 2, cells := 0, slots := 0, locals := 123 }) (va_Pc [.ref h, .int (nI n), .ref a] (xS (dC, dI) xCl [(h, eB v k), (v, eY cB mm f)] [(cB, .byte)] a y w b sz N)) (va_Qv (fun (u : (Nat → Int32)) => sb_Fit u ∧ tX f u n P) (fun (u : (Nat → Int32)) t => xW (dC, dI) xCl [(h, eB v k), (v, eY cB mm u)] (va_A [(h, eB v k), (v, eY cB mm f)] sz) t) (va_A [(h, eB v k), (v, eY cB mm f)] sz)) 0 0 (va_A [(h, eB v k), (v, eY cB mm f)] sz) := by
  refine Met.ofW (cc := cJ5_putStringAt_47b60) (maxL := 3) (ret := none) (by decide +kernel) rfl ?_
  intro p e s m args below meth c s₁ B hml hv
  obtain ⟨rfl, ⟨⟨hsz, hP, hK, hD0, hN, hG⟩, hT⟩, hSs⟩ := hv
  have hx := B.exec
  have hb := B.bytes
  have hr := B.returns
  have hts := atoms_spec (ws := wsJ5_putStringAt_47b60) B.pre
  have hown : s.vm.findClass RJ5 = some m.cls := findClass_of_methodNamed B.named
  have hlocks := B.notSynchronized
  subst hsz
  have hAN : ∀ q, va_A [(h, eB v k), (v, eY cB mm f)] s.heap.size q → N ≤ q := xA_N hD0 hN
  have hD := hD0.self (sz := s.heap.size)
  generalize hAe : va_A [(h, eB v k), (v, eY cB mm f)] s.heap.size = A at hD hAN ⊢
  have hA : ∀ q : Nat, s.heap.size ≤ q → A q := fun q h => by rw [← hAe]; exact Or.inr h
  have hS : va_S A s.heap s.heap [] := va_S.rf
  have hP : va_P (dC, dI) xCl [(h, eB v k), (v, eY cB mm f)] s.heap := hP
  obtain ⟨hTc, ⟨tO, tT, fO, fT, hTo, hTt, hTa, hTb, hTf, hTg⟩, ⟨adK, adV, hTs, hTr0, hTr1, hTr2⟩, ⟨aE, hTe⟩, hTn⟩ := id hT
  have hl := lv_entry ([.ref h, .int (nI n), .ref a]) (n := 3) (Nat.le_of_ble_eq_true rfl)
  rw [lg_entry_eq]
  generalize (lg_sl ([.ref h, .int (nI n), .ref a]) ++ List.replicate (3 - (lg_sl ([.ref h, .int (nI n), .ref a])).length) Slot.unset).toArray = ls at hl ⊢
  have hl : lv_has ls 3 [(0, .ref h), (1, .int (nI n)), (2, .ref a)] := hl
  refine lv_aload_n hx hb dJ5_putStringAt_47b60_0 rfl (lv_at hl 0 rfl) ?_
  refine lv_aload_n hx hb dJ5_putStringAt_47b60_1 rfl (lv_at hl 2 rfl) ?_
  have hPc := hP.sub (ws' := [(h, eB v k)]) [0] rfl
  have hDc := hD.sub (ws' := [(h, eB v k)]) [0] (by decide) rfl
  have hKc := hK.sub (tys' := [(cB, .byte)]) [0] rfl
  have hFc := va_free (wc := [(h, eB v k)]) hD hS hA [0] rfl
  refine va_callv (va_runU (As := [.ref a]) (rest := []) ⟨hx, hb, hml, hown, hts⟩ (k_J5_inflateIfNeededFor_a7421 l dC dI cB h v k a y w b s.heap.size N hwl) (va_cwU 1 hts gJ5_putStringAt_47b60_J5_inflateIfNeededFor_a7421_u397J4 rfl rfl rfl rfl (by decide +kernel) ⟨Nat.le_of_ble_eq_true rfl, Nat.le_of_ble_eq_true rfl⟩) (xS.preV hKc hPc hDc hAN (Nat.le_trans hN hS.1) (hG.kept hS hAN) (hT.kept hS hAN) (hSs.kept (fun q h1 h2 => hS.2.1 q h1 (fun z => h2 (hAN q z)))) (ci := 1) (q0 := 0) rfl rfl) rfl rfl hl.1 rfl (lv_room (Nat.le_of_ble_eq_true rfl)) dJ5_putStringAt_47b60_2 ⟨(show _ ≤ 0 by omega), (show _ ≤ 0 by omega)⟩) hS (fun q _ h => hFc q h) hFc (fun u_2 t H locs ht hvm hw hB hz hk hS => ?_)
  obtain ⟨hP1, hD1⟩ := hB
  rw [ht] at hP1
  obtain ⟨hP, hD⟩ := va_join (wr := [(v, eY cB mm f)]) (w1 := [(h, eB v k)]) hP hD [0] [1] rfl rfl (by decide) (by decide) hk hFc hP1 hD1
  have hP : va_P (dC, dI) xCl [(v, eY cB mm f), (h, eB v k)] H := hP
  have hD : va_D A [(v, eY cB mm f), (h, eB v k)] := hD
  refine lv_aload_n hx hb dJ5_putStringAt_47b60_5 rfl (lv_at hl 2 rfl) ?_
  refine lv_aload_n hx hb dJ5_putStringAt_47b60_6 rfl (lv_at hl 0 rfl) ?_
  refine va_get (D := (dC, dI)) (ci := 1) (v := .ref v) (C := RJ4) (T := TJ4) (N := 4) hx hb hts (by decide +kernel) hown hK hP 1 rfl rfl 0 (by decide) (hts (.fieldLink RJ5 15 "java/lang/AbstractStringBuilder" "value" "[B") (by decide +kernel)) (fun _ h9 => h9) rfl dJ5_putStringAt_47b60_7 ?_
  refine lv_iload_n hx hb dJ5_putStringAt_47b60_10 rfl (lv_at hl 1 rfl) ?_
  refine lv_aload_n hx hb dJ5_putStringAt_47b60_11 rfl (lv_at hl 0 rfl) ?_
  refine va_get (D := (dC, dI)) (ci := 1) (v := .int 0) (C := RJ4) (T := TJ4) (N := 4) hx hb hts (by decide +kernel) hown hK hP 1 rfl rfl 1 (by decide) (hts (.fieldLink RJ5 22 "java/lang/AbstractStringBuilder" "coder" "B") (by decide +kernel)) (fun _ h9 => h9) rfl dJ5_putStringAt_47b60_12 ?_
  have hPc := hP.sub (ws' := [(v, eY cB mm f)]) [0] rfl
  have hDc := hD.sub (ws' := [(v, eY cB mm f)]) [0] (by decide) rfl
  have hKc := hK.sub (tys' := [(cB, .byte)]) [0] rfl
  have hFc := va_free (wc := [(v, eY cB mm f)]) hD hS hA [0] rfl
  refine va_callv (va_runV (As := [.ref v, .int (nI n), .int 0]) (rest := []) ⟨hx, hb, hml, hown, hts⟩ (kk_J0_getBytes_840e7 l dC dI cB a y w b P v n mm f H.size N hwl hbf hPb hPl (by omega) (by omega) hf) (cwV 3 hts gJ5_putStringAt_47b60_J0_getBytes_840e7 rfl rfl rfl (by decide +kernel) ⟨Nat.le_of_ble_eq_true rfl, Nat.le_of_ble_eq_true rfl⟩) (xS.preVS hKc hPc hDc hAN (Nat.le_trans hN hS.1) (hG.kept hS hAN) (hT.kept hS hAN) (hSs.kept (fun q h1 h2 => hS.2.1 q h1 (fun z => h2 (hAN q z)))) (vk_recv (hSs.narrow hAN) (i := 0) (by decide) hS)) rfl rfl hl.1 rfl (lv_room (Nat.le_of_ble_eq_true rfl)) dJ5_putStringAt_47b60_15 ⟨(show _ ≤ 0 by omega), (show _ ≤ 0 by omega)⟩) hS (fun q _ h => hFc q h) hFc (fun u_5 t H locs ht hvm hw hB hz hk hS => ?_)
  obtain ⟨hP1, hD1⟩ := hB
  rw [ht] at hP1
  obtain ⟨f2_3, rfl⟩ : ∃ z, z = u_5 := ⟨_, rfl⟩
  obtain ⟨hP, hD⟩ := va_join (wr := [(h, eB v k)]) (w1 := [(v, eY cB mm f2_3)]) hP hD [0] [1] rfl rfl (by decide) (by decide) hk hFc hP1 hD1
  have hP : va_P (dC, dI) xCl [(h, eB v k), (v, eY cB mm f2_3)] H := hP
  have hD : va_D A [(h, eB v k), (v, eY cB mm f2_3)] := hD
  obtain ⟨hf_f2_3, hx_f2_3⟩ : sb_Fit f2_3 ∧ tX f f2_3 n P := hw
  have hP := hP.sub (ws' := [(h, eB v k), (v, eY cB mm f2_3)]) [0, 1] rfl
  have hD := hD.sub (ws' := [(h, eB v k), (v, eY cB mm f2_3)]) [0, 1] (by decide) rfl
  refine W.widen (k := 0) (n := 0) (by omega) (by omega) ?_
  exact W.vret hx hb hr (fun t ht hW => ⟨⟨f2_3, rfl, ⟨hf_f2_3, hx_f2_3⟩, by rw [ht]; exact hP, hD⟩, hS.F ht⟩) hS.2.2 dJ5_putStringAt_47b60_18
set_option maxHeartbeats 4000000 in
set_option maxRecDepth 100000 in
theorem kk_J5_append_cf1ce (l : Launch) (dC : Nat → ClassId) (dI : Nat → Nat → Nat) (cB : ClassId) (h : Nat) (v : Nat) (n : Nat) (mm : Nat) (f : Nat → Int32) (a : Nat) (y : Nat) (w : Nat) (b : List Int32) (P : List Nat) (sz N : Nat) (hm : mm = 16 ∨ mm = 34) (hf : sb_Fit f) (hnm : n ≤ mm) (hwl : w ≤ 2) (hbf : sb_Fit (fun j => b.getD j 0)) (hPb : ∀ (i c : Nat), P[i]? = some c → i < w ∧ b.getD i 0 = sb_b c) (hPl : P.length = w) (hn : n + w ≤ 34) : Met l yJ5_append_cf1ce wsJ5_append_cf1ce ({ frames := 4, cells := 1, slots := 34, locals := 145 }) (va_Pc [.ref h, .ref a] (xS (dC, dI) xCl [(h, eB v (nI n)), (v, eY cB mm f)] [(cB, .byte)] a y w b sz N)) (va_Qr (fun (u : Nat × Nat × (Nat → Int32)) => (u.2.1 = 16 ∨ u.2.1 = 34) ∧ n + w ≤ u.2.1 ∧ sb_Fit u.2.2 ∧ tX f u.2.2 n P) (fun (u : Nat × Nat × (Nat → Int32)) a t => a = h ∧ xW (dC, dI) xCl [(h, eB u.1 (nI (n + w))), (u.1, eY cB u.2.1 u.2.2)] (va_A [(h, eB v (nI n)), (v, eY cB mm f)] sz) t) (va_A [(h, eB v (nI n)), (v, eY cB mm f)] sz)) 1 34 (va_A [(h, eB v (nI n)), (v, eY cB mm f)] sz) := by
  refine Met.ofW (cc := cJ5_append_cf1ce) (maxL := 3) (ret := (some (.object "java/lang/AbstractStringBuilder"))) (by decide +kernel) rfl ?_
  intro p e s m args below meth c s₁ B hml hv
  obtain ⟨rfl, ⟨⟨hsz, hP, hK, hD0, hN, hG⟩, hT⟩, hSs⟩ := hv
  have hx := B.exec
  have hb := B.bytes
  have hr := B.returns
  have hts := atoms_spec (ws := wsJ5_append_cf1ce) B.pre
  have hown : s.vm.findClass RJ5 = some m.cls := findClass_of_methodNamed B.named
  have hlocks := B.notSynchronized
  subst hsz
  have hAN : ∀ q, va_A [(h, eB v (nI n)), (v, eY cB mm f)] s.heap.size q → N ≤ q := xA_N hD0 hN
  have hD := hD0.self (sz := s.heap.size)
  generalize hAe : va_A [(h, eB v (nI n)), (v, eY cB mm f)] s.heap.size = A at hD hAN ⊢
  have hA : ∀ q : Nat, s.heap.size ≤ q → A q := fun q h => by rw [← hAe]; exact Or.inr h
  have hS : va_S A s.heap s.heap [] := va_S.rf
  have hP : va_P (dC, dI) xCl [(h, eB v (nI n)), (v, eY cB mm f)] s.heap := hP
  obtain ⟨hTc, ⟨tO, tT, fO, fT, hTo, hTt, hTa, hTb, hTf, hTg⟩, ⟨adK, adV, hTs, hTr0, hTr1, hTr2⟩, ⟨aE, hTe⟩, hTn⟩ := id hT
  have hl := lv_entry ([.ref h, .ref a]) (n := 3) (Nat.le_of_ble_eq_true rfl)
  rw [lg_entry_eq]
  generalize (lg_sl ([.ref h, .ref a]) ++ List.replicate (3 - (lg_sl ([.ref h, .ref a])).length) Slot.unset).toArray = ls at hl ⊢
  have hl : lv_has ls 3 [(0, .ref h), (1, .ref a)] := hl
  refine lv_aload_n hx hb dJ5_append_cf1ce_0 rfl (lv_at hl 1 rfl) ?_
  refine lv_ifnonnull (tgt := 9) hx hb dJ5_append_cf1ce_1 (by decide) ?_
  refine lv_aload_n hx hb dJ5_append_cf1ce_9 rfl (lv_at hl 1 rfl) ?_
  have hPc := xP_nil (D := (dC, dI)) (cl := xCl) (H := s.heap)
  have hDc := xD_nil (A := A)
  have hKc := hK.sub (tys' := [(cB, .byte)]) [0] rfl
  have hFc := va_free (wc := []) hD hS hA [] rfl
  refine va_calli (va_runV (As := []) (rest := []) ⟨hx, hb, hml, hown, hts⟩ (k_J0_length_8abf5 l dC dI cB a y w b s.heap.size N hwl) (cwV 0 hts gJ5_append_cf1ce_J0_length_8abf5 rfl rfl rfl (by decide +kernel) ⟨Nat.le_of_ble_eq_true rfl, Nat.le_of_ble_eq_true rfl⟩) (xS.preVS hKc hPc hDc hAN (Nat.le_trans hN hS.1) (hG.kept hS hAN) (hT.kept hS hAN) (hSs.kept (fun q h1 h2 => hS.2.1 q h1 (fun z => h2 (hAN q z)))) (vk_recv (hSs.narrow hAN) (i := 0) (by decide) hS)) rfl rfl hl.1 rfl (lv_room (Nat.le_of_ble_eq_true rfl)) dJ5_append_cf1ce_10 ⟨(show _ ≤ 1 by omega), (show _ ≤ 34 by omega)⟩) hS (fun q _ h => hFc q h) hFc (fun r_1 u_2 t H locs ht hvm hw hB hz hk hS => ?_)
  obtain ⟨hP1, hD1⟩ := hB
  rw [ht] at hP1
  obtain ⟨hP, hD⟩ := va_join (wr := [(h, eB v (nI n)), (v, eY cB mm f)]) (w1 := []) hP hD [] [0, 1] rfl rfl (by decide) (by decide) hk hFc hP1 hD1
  have hP : va_P (dC, dI) xCl [(h, eB v (nI n)), (v, eY cB mm f)] H := hP
  have hD : va_D A [(h, eB v (nI n)), (v, eY cB mm f)] := hD
  have hw : r_1 = (nI w) := hw
  rw [hw]
  refine lv_istore_n (lv' := [(2, .int (nI w)), (0, .ref h), (1, .ref a)]) hx hb dJ5_append_cf1ce_13 rfl hl (by decide) rfl (fun ls hl => ?_)
  refine lv_aload_n hx hb dJ5_append_cf1ce_14 rfl (lv_at hl 1 rfl) ?_
  refine lv_aload_n hx hb dJ5_append_cf1ce_15 rfl (lv_at hl 1 rfl) ?_
  refine va_get (D := (dC, dI)) (ci := 1) (v := .int (nI n)) (C := RJ4) (T := TJ4) (N := 4) hx hb hts (by decide +kernel) hown hK hP 0 rfl rfl 3 (by decide) (hts (.fieldLink RJ5 79 "java/lang/AbstractStringBuilder" "count" "I") (by decide +kernel)) (fun _ h9 => h9) rfl dJ5_append_cf1ce_16 ?_
  refine lv_iload_n hx hb dJ5_append_cf1ce_19 rfl (lv_at hl 0 rfl) ?_
  refine lv_iadd hx hb dJ5_append_cf1ce_20 ?_
  rw [show (((nI n) + (nI w)) : Int32) = (nI (n + w)) from nI_add _ _]
  have hPc := hP.sub (ws' := [(h, eB v (nI n)), (v, eY cB mm f)]) [0, 1] rfl
  have hDc := hD.sub (ws' := [(h, eB v (nI n)), (v, eY cB mm f)]) [0, 1] (by decide) rfl
  have hKc := hK.sub (tys' := [(cB, .byte)]) [0] rfl
  have hFc := va_free (wc := [(h, eB v (nI n)), (v, eY cB mm f)]) hD hS hA [0, 1] rfl
  refine va_callv (va_runU (As := [.int (nI (n + w))]) (rest := []) ⟨hx, hb, hml, hown, hts⟩ (kk_J5_ensureCapacityInternal_d00df l dC dI cB h v (nI n) mm f (n + w) H.size N hm hf (by omega)) (va_cwU 1 hts gJ5_append_cf1ce_J5_ensureCapacityInternal_d00df_u100J4 rfl rfl rfl rfl (by decide +kernel) ⟨Nat.le_of_ble_eq_true rfl, Nat.le_of_ble_eq_true rfl⟩) (xT.preV hKc hPc hDc hAN (Nat.le_trans hN hS.1) (hG.kept hS hAN) (hT.kept hS hAN) (ci := 1) (q0 := 0) rfl rfl) rfl rfl hl.1 rfl (lv_room (Nat.le_of_ble_eq_true rfl)) dJ5_append_cf1ce_21 ⟨(show _ ≤ 1 by omega), (show _ ≤ 34 by omega)⟩) hS (fun q _ h => hFc q h) hFc (fun u_7 t H locs ht hvm hw hB hz hk hS => ?_)
  obtain ⟨hP1, hD1⟩ := hB
  rw [ht] at hP1
  obtain ⟨v2_3, m2_4, f2_5⟩ := u_7
  obtain ⟨hP, hD⟩ := va_join (wr := []) (w1 := [(h, eB v2_3 (nI n)), (v2_3, eY cB m2_4 f2_5)]) hP hD [0, 1] [] rfl rfl (by decide) (by decide) hk hFc hP1 hD1
  have hP : va_P (dC, dI) xCl [(h, eB v2_3 (nI n)), (v2_3, eY cB m2_4 f2_5)] H := hP
  have hD : va_D A [(h, eB v2_3 (nI n)), (v2_3, eY cB m2_4 f2_5)] := hD
  obtain ⟨hm_m2_4, hq_m2_4, hf_m2_4, hk_m2_4⟩ : (m2_4 = 16 ∨ m2_4 = 34) ∧ (n + w) ≤ m2_4 ∧ sb_Fit f2_5 ∧ ∀ j, j < mm → f2_5 j = f j := hw
  refine lv_aload_n hx hb dJ5_append_cf1ce_24 rfl (lv_at hl 1 rfl) ?_
  refine lv_aload_n hx hb dJ5_append_cf1ce_25 rfl (lv_at hl 1 rfl) ?_
  refine va_get (D := (dC, dI)) (ci := 1) (v := .int (nI n)) (C := RJ4) (T := TJ4) (N := 4) hx hb hts (by decide +kernel) hown hK hP 0 rfl rfl 3 (by decide) (hts (.fieldLink RJ5 79 "java/lang/AbstractStringBuilder" "count" "I") (by decide +kernel)) (fun _ h9 => h9) rfl dJ5_append_cf1ce_26 ?_
  refine lv_aload_n hx hb dJ5_append_cf1ce_29 rfl (lv_at hl 2 rfl) ?_
  have hPc := hP.sub (ws' := [(h, eB v2_3 (nI n)), (v2_3, eY cB m2_4 f2_5)]) [0, 1] rfl
  have hDc := hD.sub (ws' := [(h, eB v2_3 (nI n)), (v2_3, eY cB m2_4 f2_5)]) [0, 1] (by decide) rfl
  have hKc := hK.sub (tys' := [(cB, .byte)]) [0] rfl
  have hFc := va_free (wc := [(h, eB v2_3 (nI n)), (v2_3, eY cB m2_4 f2_5)]) hD hS hA [0, 1] rfl
  refine va_callv (va_runU (As := [.int (nI n), .ref a]) (rest := []) ⟨hx, hb, hml, hown, hts⟩ (kk_J5_putStringAt_47b60 l dC dI cB h v2_3 (nI n) n m2_4 f2_5 a y w b P H.size N hwl hbf hPb hPl (by omega) (by omega) hf_m2_4) (va_cwU 2 hts gJ5_append_cf1ce_J5_putStringAt_47b60_u208J4 rfl rfl rfl rfl (by decide +kernel) ⟨Nat.le_of_ble_eq_true rfl, Nat.le_of_ble_eq_true rfl⟩) (xS.preV hKc hPc hDc hAN (Nat.le_trans hN hS.1) (hG.kept hS hAN) (hT.kept hS hAN) (hSs.kept (fun q h1 h2 => hS.2.1 q h1 (fun z => h2 (hAN q z)))) (ci := 1) (q0 := 0) rfl rfl) rfl rfl hl.1 rfl (lv_room (Nat.le_of_ble_eq_true rfl)) dJ5_append_cf1ce_30 ⟨(show _ ≤ 1 by omega), (show _ ≤ 34 by omega)⟩) hS (fun q _ h => hFc q h) hFc (fun u_10 t H locs ht hvm hw hB hz hk hS => ?_)
  obtain ⟨hP1, hD1⟩ := hB
  rw [ht] at hP1
  obtain ⟨f2_8, rfl⟩ : ∃ z, z = u_10 := ⟨_, rfl⟩
  obtain ⟨hP, hD⟩ := va_join (wr := []) (w1 := [(h, eB v2_3 (nI n)), (v2_3, eY cB m2_4 f2_8)]) hP hD [0, 1] [] rfl rfl (by decide) (by decide) hk hFc hP1 hD1
  have hP : va_P (dC, dI) xCl [(h, eB v2_3 (nI n)), (v2_3, eY cB m2_4 f2_8)] H := hP
  have hD : va_D A [(h, eB v2_3 (nI n)), (v2_3, eY cB m2_4 f2_8)] := hD
  obtain ⟨hf_f2_8, hx_f2_8⟩ : sb_Fit f2_8 ∧ tX f2_5 f2_8 n P := hw
  refine lv_aload_n hx hb dJ5_append_cf1ce_33 rfl (lv_at hl 1 rfl) ?_
  refine lv_dup hx hb dJ5_append_cf1ce_34 rfl ?_
  refine va_get (D := (dC, dI)) (ci := 1) (v := .int (nI n)) (C := RJ4) (T := TJ4) (N := 4) hx hb hts (by decide +kernel) hown hK hP 0 rfl rfl 3 (by decide) (hts (.fieldLink RJ5 79 "java/lang/AbstractStringBuilder" "count" "I") (by decide +kernel)) (fun _ h9 => h9) rfl dJ5_append_cf1ce_35 ?_
  refine lv_iload_n hx hb dJ5_append_cf1ce_38 rfl (lv_at hl 0 rfl) ?_
  refine lv_iadd hx hb dJ5_append_cf1ce_39 ?_
  rw [show (((nI n) + (nI w)) : Int32) = (nI (n + w)) from nI_add _ _]
  refine va_put (D := (dC, dI)) (ci := 1) (v := .int (nI (n + w))) (ty := .int) (C := RJ4) (T := TJ4) (N := 4) hx hb hts (by decide +kernel) tyJ4 tyJ4_ok nmJ4 hown hK hP hD hS 0 rfl rfl 3 (by decide) (hts (.fieldLink RJ5 79 "java/lang/AbstractStringBuilder" "count" "I") (by decide +kernel)) (fun _ h9 => h9) rfl (by decide +kernel) rfl rfl (Nat.le_of_ble_eq_true rfl) dJ5_append_cf1ce_40 (fun H locs hP hD hS => ?_)
  have hP : va_P (dC, dI) xCl [(h, eB v2_3 (nI (n + w))), (v2_3, eY cB m2_4 f2_8)] H := hP
  have hD : va_D A [(h, eB v2_3 (nI (n + w))), (v2_3, eY cB m2_4 f2_8)] := hD
  refine lv_aload_n hx hb dJ5_append_cf1ce_43 rfl (lv_at hl 1 rfl) ?_
  have hP := hP.sub (ws' := [(h, eB v2_3 (nI (n + w))), (v2_3, eY cB m2_4 f2_8)]) [0, 1] rfl
  have hD := hD.sub (ws' := [(h, eB v2_3 (nI (n + w))), (v2_3, eY cB m2_4 f2_8)]) [0, 1] (by decide) rfl
  refine W.widen (k := 1) (n := 34) (by omega) (by omega) ?_
  exact W.aret (v := .ref h) hx hb hr (Or.inl ⟨_, rfl⟩) (Or.inr ⟨_, rfl⟩) (fun t ht hW => ⟨⟨(v2_3, m2_4, f2_8), _, rfl, ⟨hm_m2_4, hq_m2_4, hf_f2_8, (tX_pre hk_m2_4 hnm hx_f2_8)⟩, ⟨rfl, by rw [ht]; exact hP, hD⟩⟩, hS.F ht⟩) hS.2.2 dJ5_append_cf1ce_44
set_option maxHeartbeats 4000000 in
set_option maxRecDepth 100000 in
theorem kk_J4_append_15ec4 (l : Launch) (dC : Nat → ClassId) (dI : Nat → Nat → Nat) (cB : ClassId) (h : Nat) (v : Nat) (n : Nat) (mm : Nat) (f : Nat → Int32) (a : Nat) (y : Nat) (w : Nat) (b : List Int32) (P : List Nat) (sz N : Nat) (hm : mm = 16 ∨ mm = 34) (hf : sb_Fit f) (hnm : n ≤ mm) (hwl : w ≤ 2) (hbf : sb_Fit (fun j => b.getD j 0)) (hPb : ∀ (i c : Nat), P[i]? = some c → i < w ∧ b.getD i 0 = sb_b c) (hPl : P.length = w) (hn : n + w ≤ 34) : Met l yJ4_append_15ec4 wsJ4_append_15ec4 ({ frames := 5, cells := 1, slots := 34, locals := 167 }) (va_Pc [.ref h, .ref a] (xS (dC, dI) xCl [(h, eB v (nI n)), (v, eY cB mm f)] [(cB, .byte)] a y w b sz N)) (va_Qr (fun (u : Nat × Nat × (Nat → Int32)) => (u.2.1 = 16 ∨ u.2.1 = 34) ∧ n + w ≤ u.2.1 ∧ sb_Fit u.2.2 ∧ tX f u.2.2 n P) (fun (u : Nat × Nat × (Nat → Int32)) a t => a = h ∧ xW (dC, dI) xCl [(h, eB u.1 (nI (n + w))), (u.1, eY cB u.2.1 u.2.2)] (va_A [(h, eB v (nI n)), (v, eY cB mm f)] sz) t) (va_A [(h, eB v (nI n)), (v, eY cB mm f)] sz)) 1 34 (va_A [(h, eB v (nI n)), (v, eY cB mm f)] sz) := by
  refine Met.ofW (cc := cJ4_append_15ec4) (maxL := 2) (ret := (some (.object "java/lang/StringBuilder"))) (by decide +kernel) rfl ?_
  intro p e s m args below meth c s₁ B hml hv
  obtain ⟨rfl, ⟨⟨hsz, hP, hK, hD0, hN, hG⟩, hT⟩, hSs⟩ := hv
  have hx := B.exec
  have hb := B.bytes
  have hr := B.returns
  have hts := atoms_spec (ws := wsJ4_append_15ec4) B.pre
  have hown : s.vm.findClass RJ4 = some m.cls := findClass_of_methodNamed B.named
  have hlocks := B.notSynchronized
  subst hsz
  have hAN : ∀ q, va_A [(h, eB v (nI n)), (v, eY cB mm f)] s.heap.size q → N ≤ q := xA_N hD0 hN
  have hD := hD0.self (sz := s.heap.size)
  generalize hAe : va_A [(h, eB v (nI n)), (v, eY cB mm f)] s.heap.size = A at hD hAN ⊢
  have hA : ∀ q : Nat, s.heap.size ≤ q → A q := fun q h => by rw [← hAe]; exact Or.inr h
  have hS : va_S A s.heap s.heap [] := va_S.rf
  have hP : va_P (dC, dI) xCl [(h, eB v (nI n)), (v, eY cB mm f)] s.heap := hP
  obtain ⟨hTc, ⟨tO, tT, fO, fT, hTo, hTt, hTa, hTb, hTf, hTg⟩, ⟨adK, adV, hTs, hTr0, hTr1, hTr2⟩, ⟨aE, hTe⟩, hTn⟩ := id hT
  have hl := lv_entry ([.ref h, .ref a]) (n := 2) (Nat.le_of_ble_eq_true rfl)
  rw [lg_entry_eq]
  generalize (lg_sl ([.ref h, .ref a]) ++ List.replicate (2 - (lg_sl ([.ref h, .ref a])).length) Slot.unset).toArray = ls at hl ⊢
  have hl : lv_has ls 2 [(0, .ref h), (1, .ref a)] := hl
  refine lv_aload_n hx hb dJ4_append_15ec4_0 rfl (lv_at hl 0 rfl) ?_
  refine lv_aload_n hx hb dJ4_append_15ec4_1 rfl (lv_at hl 1 rfl) ?_
  have hPc := hP.sub (ws' := [(h, eB v (nI n)), (v, eY cB mm f)]) [0, 1] rfl
  have hDc := hD.sub (ws' := [(h, eB v (nI n)), (v, eY cB mm f)]) [0, 1] (by decide) rfl
  have hKc := hK.sub (tys' := [(cB, .byte)]) [0] rfl
  have hFc := va_free (wc := [(h, eB v (nI n)), (v, eY cB mm f)]) hD hS hA [0, 1] rfl
  refine va_callr (va_runSU (hK.1 1 _ rfl).2 (As := [.ref a]) (rest := []) ⟨hx, hb, hml, hown, hts⟩ (kk_J5_append_cf1ce l dC dI cB h v n mm f a y w b P s.heap.size N hm hf (by omega) hwl hbf hPb hPl (by omega)) (va_cwSU 1 hts gJ4_append_15ec4_J5_append_cf1ce_s29 rfl rfl rfl (by decide +kernel) ⟨Nat.le_of_ble_eq_true rfl, Nat.le_of_ble_eq_true rfl⟩) (xS.preV hKc hPc hDc hAN (Nat.le_trans hN hS.1) (hG.kept hS hAN) (hT.kept hS hAN) (hSs.kept (fun q h1 h2 => hS.2.1 q h1 (fun z => h2 (hAN q z)))) (ci := 1) (q0 := 0) rfl rfl) rfl rfl hl.1 rfl (lv_room (Nat.le_of_ble_eq_true rfl)) dJ4_append_15ec4_2 ⟨(show _ ≤ 1 by omega), (show _ ≤ 34 by omega)⟩) hS (fun q _ h => hFc q h) hFc (fun u_5 r_4 t H locs ht hvm hw hB hz hk hS => ?_)
  obtain ⟨he_r_4, hP1, hD1⟩ := hB
  rw [ht] at hP1
  obtain ⟨v2_1, m2_2, f2_3⟩ := u_5
  obtain ⟨hP, hD⟩ := va_join (wr := []) (w1 := [(h, eB v2_1 (nI (n + w))), (v2_1, eY cB m2_2 f2_3)]) hP hD [0, 1] [] rfl rfl (by decide) (by decide) hk hFc hP1 hD1
  have hP : va_P (dC, dI) xCl [(h, eB v2_1 (nI (n + w))), (v2_1, eY cB m2_2 f2_3)] H := hP
  have hD : va_D A [(h, eB v2_1 (nI (n + w))), (v2_1, eY cB m2_2 f2_3)] := hD
  obtain ⟨hm_m2_2, hq_m2_2, hf_m2_2, hx_m2_2⟩ : (m2_2 = 16 ∨ m2_2 = 34) ∧ n + w ≤ m2_2 ∧ sb_Fit f2_3 ∧ tX f f2_3 n P := hw
  rw [he_r_4]
  refine lv_pop hx hb dJ4_append_15ec4_5 rfl ?_
  refine lv_aload_n hx hb dJ4_append_15ec4_6 rfl (lv_at hl 0 rfl) ?_
  have hP := hP.sub (ws' := [(h, eB v2_1 (nI (n + w))), (v2_1, eY cB m2_2 f2_3)]) [0, 1] rfl
  have hD := hD.sub (ws' := [(h, eB v2_1 (nI (n + w))), (v2_1, eY cB m2_2 f2_3)]) [0, 1] (by decide) rfl
  refine W.widen (k := 1) (n := 34) (by omega) (by omega) ?_
  exact W.aret (v := .ref h) hx hb hr (Or.inl ⟨_, rfl⟩) (Or.inr ⟨_, rfl⟩) (fun t ht hW => ⟨⟨(v2_1, m2_2, f2_3), _, rfl, ⟨hm_m2_2, hq_m2_2, hf_m2_2, hx_m2_2⟩, ⟨rfl, by rw [ht]; exact hP, hD⟩⟩, hS.F ht⟩) hS.2.2 dJ4_append_15ec4_7
set_option maxHeartbeats 4000000 in
set_option maxRecDepth 100000 in
theorem kk_J7_copyOfRangeByte_39247 (l : Launch) (dC : Nat → ClassId) (dI : Nat → Nat → Nat) (cB : ClassId) (v : Nat) (n : Nat) (mm : Nat) (f : Nat → Int32) (sz N : Nat) (hn : n ≤ mm) (hmb : mm ≤ 34) (hf : sb_Fit f) : Met l yJ7_copyOfRangeByte_39247 wsJ7_copyOfRangeByte_39247 ({ frames := 1, cells := 1, slots := 34, locals := 100 }) (va_Pc [.ref v, .int 0, .int (nI n)] (xT (dC, dI) xCl [(v, eY cB mm f)] [(cB, .byte)] sz N)) (va_Qr (fun (u : (Nat → Int32)) => sb_Fit u ∧ ∀ j, j < n → u j = f j) (fun (u : (Nat → Int32)) a t => xW (dC, dI) xCl [(a, eY cB n u)] (va_A [(v, eY cB mm f)] sz) t) (va_A [(v, eY cB mm f)] sz)) 1 34 (va_A [(v, eY cB mm f)] sz) := by
  refine Met.ofW (cc := cJ7_copyOfRangeByte_39247) (maxL := 5) (ret := (some (.array .byte))) (by decide +kernel) rfl ?_
  intro p e s m args below meth c s₁ B hml hv
  obtain ⟨rfl, ⟨hsz, hP, hK, hD0, hN, hG⟩, hT⟩ := hv
  have hx := B.exec
  have hb := B.bytes
  have hr := B.returns
  have hts := atoms_spec (ws := wsJ7_copyOfRangeByte_39247) B.pre
  have hown : s.vm.findClass RJ7 = some m.cls := findClass_of_methodNamed B.named
  have hlocks := B.notSynchronized
  subst hsz
  have hAN : ∀ q, va_A [(v, eY cB mm f)] s.heap.size q → N ≤ q := xA_N hD0 hN
  have hD := hD0.self (sz := s.heap.size)
  generalize hAe : va_A [(v, eY cB mm f)] s.heap.size = A at hD hAN ⊢
  have hA : ∀ q : Nat, s.heap.size ≤ q → A q := fun q h => by rw [← hAe]; exact Or.inr h
  have hS : va_S A s.heap s.heap [] := va_S.rf
  have hP : va_P (dC, dI) xCl [(v, eY cB mm f)] s.heap := hP
  obtain ⟨hTc, ⟨tO, tT, fO, fT, hTo, hTt, hTa, hTb, hTf, hTg⟩, ⟨adK, adV, hTs, hTr0, hTr1, hTr2⟩, ⟨aE, hTe⟩, hTn⟩ := id hT
  have hl := lv_entry ([.ref v, .int 0, .int (nI n)]) (n := 5) (Nat.le_of_ble_eq_true rfl)
  rw [lg_entry_eq]
  generalize (lg_sl ([.ref v, .int 0, .int (nI n)]) ++ List.replicate (5 - (lg_sl ([.ref v, .int 0, .int (nI n)])).length) Slot.unset).toArray = ls at hl ⊢
  have hl : lv_has ls 5 [(0, .ref v), (1, .int 0), (2, .int (nI n))] := hl
  refine lv_iload_n hx hb dJ7_copyOfRangeByte_39247_0 rfl (lv_at hl 1 rfl) ?_
  refine lv_iload_n hx hb dJ7_copyOfRangeByte_39247_1 rfl (lv_at hl 2 rfl) ?_
  have hPc := xP_nil (D := (dC, dI)) (cl := xCl) (H := s.heap)
  have hDc := xD_nil (A := A)
  have hKc := hK.sub (tys' := [(cB, .byte)]) [0] rfl
  have hFc := va_free (wc := []) hD hS hA [] rfl
  refine va_callv (va_runS (As := [.int 0, .int (nI n)]) (rest := []) ⟨hx, hb, hml, hown, hts⟩ (k_J7_checkLength_df160 l dC dI cB n s.heap.size N (by omega)) (va_cwS 2 hts gJ7_copyOfRangeByte_39247_J7_checkLength_df160 rfl rfl rfl (by decide +kernel) ⟨Nat.le_of_ble_eq_true rfl, Nat.le_of_ble_eq_true rfl⟩) (xT.preS hKc hPc hDc hAN (Nat.le_trans hN hS.1) (hG.kept hS hAN) (hT.kept hS hAN)) rfl rfl hl.1 rfl (lv_room (Nat.le_of_ble_eq_true rfl)) dJ7_copyOfRangeByte_39247_2 ⟨(show _ ≤ 1 by omega), (show _ ≤ 34 by omega)⟩) hS (fun q _ h => hFc q h) hFc (fun u_2 t H locs ht hvm hw hB hz hk hS => ?_)
  obtain ⟨hP1, hD1⟩ := hB
  rw [ht] at hP1
  obtain ⟨hP, hD⟩ := va_join (wr := [(v, eY cB mm f)]) (w1 := []) hP hD [] [0] rfl rfl (by decide) (by decide) hk hFc hP1 hD1
  have hP : va_P (dC, dI) xCl [(v, eY cB mm f)] H := hP
  have hD : va_D A [(v, eY cB mm f)] := hD
  refine lv_iload_n hx hb dJ7_copyOfRangeByte_39247_5 rfl (lv_at hl 2 rfl) ?_
  refine lv_iload_n hx hb dJ7_copyOfRangeByte_39247_6 rfl (lv_at hl 1 rfl) ?_
  refine lv_isub hx hb dJ7_copyOfRangeByte_39247_7 ?_
  rw [show (((nI n) - 0) : Int32) = (nI n) from jl_sub0 _]
  refine lv_istore_n (lv' := [(3, .int (nI n)), (0, .ref v), (1, .int 0), (2, .int (nI n))]) hx hb dJ7_copyOfRangeByte_39247_8 rfl hl (by decide) rfl (fun ls hl => ?_)
  refine lv_iload_n hx hb dJ7_copyOfRangeByte_39247_9 rfl (lv_at hl 0 rfl) ?_
  refine va_newa (atype := .byte) (a0 := (n, .inl (fun _ => 0))) (N' := n) hx hb (hts (.arrayClass .byte) (by decide +kernel)) rfl hK hP hD hS hA (fun cA => rfl) (nI_pos (by omega)) (nI_clamp (by omega)) (by show n * 1 ≤ _; omega) (show _ ≤ 1 by omega) (show _ ≤ 34 by omega) dJ7_copyOfRangeByte_39247_10 (fun q10 cA H hK9 hP hD hS => ?_)
  have hcA : cA = cB := Option.some.inj ((((hK9.2 1 _ rfl).2).symm).trans (hK.2 0 _ rfl).2)
  rw [hcA] at hP hD
  have hP : va_P (dC, dI) xCl [(v, eY cB mm f), (q10, eY cB n (fun _ => 0))] H := hP
  have hD : va_D A [(v, eY cB mm f), (q10, eY cB n (fun _ => 0))] := hD
  refine lv_astore (lv' := [(4, .ref q10), (3, .int (nI n)), (0, .ref v), (1, .int 0), (2, .int (nI n))]) hx hb dJ7_copyOfRangeByte_39247_12 hl (by decide) rfl (fun ls hl => ?_)
  refine lv_aload_n hx hb dJ7_copyOfRangeByte_39247_14 rfl (lv_at hl 2 rfl) ?_
  refine lv_iload_n hx hb dJ7_copyOfRangeByte_39247_15 rfl (lv_at hl 3 rfl) ?_
  refine lv_aload hx hb dJ7_copyOfRangeByte_39247_16 (lv_at hl 0 rfl) ?_
  refine lv_iconst (v := 0) hx hb dJ7_copyOfRangeByte_39247_18 (by decide) ?_
  refine lv_aload_n hx hb dJ7_copyOfRangeByte_39247_19 rfl (lv_at hl 2 rfl) ?_
  refine va_alen hx hb hK hP 0 0 rfl rfl (v := (nI mm)) rfl dJ7_copyOfRangeByte_39247_20 ?_
  refine lv_iload_n hx hb dJ7_copyOfRangeByte_39247_21 rfl (lv_at hl 3 rfl) ?_
  refine lv_isub hx hb dJ7_copyOfRangeByte_39247_22 ?_
  rw [show (((nI mm) - 0) : Int32) = (nI mm) from jl_sub0 _]
  refine lv_iload_n hx hb dJ7_copyOfRangeByte_39247_23 rfl (lv_at hl 1 rfl) ?_
  refine va_mmin hx hb (hml.trans hl.1.symm) hown (hts (.methodLink RJ7 304 Lib.Math.min.name) (by decide +kernel)) (hts (.static Lib.Math.min.name) (by decide +kernel)) (hts (.initialized "java/lang/Math") (by decide +kernel)) (hts (.code Lib.Math.min.name Lib.Math.min.code 2 (some .int)) (by decide +kernel)) (Nat.le_of_ble_eq_true rfl) (Nat.le_of_ble_eq_true rfl) (show _ ≤ 1 by omega) (show _ ≤ 34 by omega) dJ7_copyOfRangeByte_39247_24 ?_
  rw [show ((if ((nI n) : Int32) < (nI mm) then (nI n) else (nI mm)) : Int32) = (nI n) from jl_min hn (by omega)]
  refine va_copyi hx hb (hml.trans hl.1.symm) hown (hts (.methodLink RJ7 150 arraycopyName) (by decide +kernel)) (hts (.native arraycopyName) (by decide +kernel)) (hts (.static arraycopyName) (by decide +kernel)) (hts (.initialized "java/lang/System") (by decide +kernel)) hK hP hD hS 0 1 0 0 (f := f) (g := (fun _ => 0)) rfl rfl rfl rfl rfl (by decide) (by decide) (nI_pos (by omega)) (by rw [nI_clamp (by omega), sb_cl0]; omega) (by rw [nI_clamp (by omega), sb_cl0]; omega) (fun i _ => hf _) (Nat.le_of_ble_eq_true rfl) (by decide +kernel) dJ7_copyOfRangeByte_39247_27 (fun H locs hP hD hS => ?_)
  obtain ⟨f_3, hf_3⟩ : ∃ z : Nat → Int32, z = va_cpy f (fun _ => 0) (0 : Int32).toNatClampNeg (0 : Int32).toNatClampNeg ((nI n) : Int32).toNatClampNeg := ⟨_, rfl⟩
  have hf_4 : sb_Fit f_3 := by rw [hf_3]; exact sb_fitC hf sb_fit0
  have hP : va_P (dC, dI) xCl [(v, eY cB mm f), (q10, eY cB n (va_cpy f (fun _ => 0) (0 : Int32).toNatClampNeg (0 : Int32).toNatClampNeg ((nI n) : Int32).toNatClampNeg))] H := hP
  have hD : va_D A [(v, eY cB mm f), (q10, eY cB n (va_cpy f (fun _ => 0) (0 : Int32).toNatClampNeg (0 : Int32).toNatClampNeg ((nI n) : Int32).toNatClampNeg))] := hD
  rw [← hf_3] at hP hD
  have hP : va_P (dC, dI) xCl [(v, eY cB mm f), (q10, eY cB n f_3)] H := hP
  have hD : va_D A [(v, eY cB mm f), (q10, eY cB n f_3)] := hD
  refine lv_aload hx hb dJ7_copyOfRangeByte_39247_30 (lv_at hl 0 rfl) ?_
  have hP := hP.sub (ws' := [(q10, eY cB n f_3)]) [1] rfl
  have hD := hD.sub (ws' := [(q10, eY cB n f_3)]) [1] (by decide) rfl
  refine W.widen (k := 1) (n := 34) (by omega) (by omega) ?_
  exact W.aret (v := .ref q10) hx hb hr (Or.inr ⟨_, rfl⟩) (Or.inr ⟨_, rfl⟩) (fun t ht hW => ⟨⟨f_3, _, rfl, ⟨hf_4, (fun j hj => by rw [hf_3, sb_cl0, nI_clamp (by omega)]; exact sb_cpy0 hj)⟩, ⟨by rw [ht]; exact hP, hD⟩⟩, hS.F ht⟩) hS.2.2 dJ7_copyOfRangeByte_39247_32
set_option maxHeartbeats 4000000 in
set_option maxRecDepth 100000 in
theorem kk_J7_copyOfRange_39247 (l : Launch) (dC : Nat → ClassId) (dI : Nat → Nat → Nat) (cB : ClassId) (v : Nat) (n : Nat) (mm : Nat) (f : Nat → Int32) (sz N : Nat) (hn : n ≤ mm) (hmb : mm ≤ 34) (hf : sb_Fit f) : Met l yJ7_copyOfRange_39247 wsJ7_copyOfRange_39247 ({ frames := 2, cells := 1, slots := 34, locals := 124 }) (va_Pc [.ref v, .int 0, .int (nI n)] (xT (dC, dI) xCl [(v, eY cB mm f)] [(cB, .byte)] sz N)) (va_Qr (fun (u : (Nat → Int32)) => sb_Fit u ∧ ∀ j, j < n → u j = f j) (fun (u : (Nat → Int32)) a t => xW (dC, dI) xCl [(a, eY cB n u)] (va_A [(v, eY cB mm f)] sz) t) (va_A [(v, eY cB mm f)] sz)) 1 34 (va_A [(v, eY cB mm f)] sz) := by
  refine Met.ofW (cc := cJ7_copyOfRange_39247) (maxL := 3) (ret := (some (.array .byte))) (by decide +kernel) rfl ?_
  intro p e s m args below meth c s₁ B hml hv
  obtain ⟨rfl, ⟨hsz, hP, hK, hD0, hN, hG⟩, hT⟩ := hv
  have hx := B.exec
  have hb := B.bytes
  have hr := B.returns
  have hts := atoms_spec (ws := wsJ7_copyOfRange_39247) B.pre
  have hown : s.vm.findClass RJ7 = some m.cls := findClass_of_methodNamed B.named
  have hlocks := B.notSynchronized
  subst hsz
  have hAN : ∀ q, va_A [(v, eY cB mm f)] s.heap.size q → N ≤ q := xA_N hD0 hN
  have hD := hD0.self (sz := s.heap.size)
  generalize hAe : va_A [(v, eY cB mm f)] s.heap.size = A at hD hAN ⊢
  have hA : ∀ q : Nat, s.heap.size ≤ q → A q := fun q h => by rw [← hAe]; exact Or.inr h
  have hS : va_S A s.heap s.heap [] := va_S.rf
  have hP : va_P (dC, dI) xCl [(v, eY cB mm f)] s.heap := hP
  obtain ⟨hTc, ⟨tO, tT, fO, fT, hTo, hTt, hTa, hTb, hTf, hTg⟩, ⟨adK, adV, hTs, hTr0, hTr1, hTr2⟩, ⟨aE, hTe⟩, hTn⟩ := id hT
  have hl := lv_entry ([.ref v, .int 0, .int (nI n)]) (n := 3) (Nat.le_of_ble_eq_true rfl)
  rw [lg_entry_eq]
  generalize (lg_sl ([.ref v, .int 0, .int (nI n)]) ++ List.replicate (3 - (lg_sl ([.ref v, .int 0, .int (nI n)])).length) Slot.unset).toArray = ls at hl ⊢
  have hl : lv_has ls 3 [(0, .ref v), (1, .int 0), (2, .int (nI n))] := hl
  refine lv_iload_n hx hb dJ7_copyOfRange_39247_0 rfl (lv_at hl 1 rfl) ?_
  refine lv_if_ne (tgt := 10) hx hb dJ7_copyOfRange_39247_1 (by decide) (fun c9 => absurd c9 (by decide)) (fun _ => ?_)
  refine lv_iload_n hx hb dJ7_copyOfRange_39247_4 rfl (lv_at hl 2 rfl) ?_
  refine lv_aload_n hx hb dJ7_copyOfRange_39247_5 rfl (lv_at hl 0 rfl) ?_
  refine va_alen hx hb hK hP 0 0 rfl rfl (v := (nI mm)) rfl dJ7_copyOfRange_39247_6 ?_
  refine lv_icmp_eq (tgt := 17) hx hb dJ7_copyOfRange_39247_7 (by decide) (fun c_1 => ?_) (fun c_1 => ?_)
  · skip
    obtain rfl : mm = n := ((nI_eq (by omega) (by omega)).mp c_1).symm
    refine lv_aload_n hx hb dJ7_copyOfRange_39247_17 rfl (lv_at hl 0 rfl) ?_
    refine va_clone hx hb (hml.trans hl.1.symm) (own := RJ7) (ad := "[B") (index := 310) hown (hts (.methodLink RJ7 310 ⟨"[B", "clone", "()Ljava/lang/Object;"⟩) (by decide +kernel)) (hts (.sameMethod "[B" "java/lang/Object" "clone" "()Ljava/lang/Object;") (by decide +kernel)) (hts (.native ⟨"java/lang/Object", "clone", "()Ljava/lang/Object;"⟩) (by decide +kernel)) (hts (.instanceMethod ⟨"java/lang/Object", "clone", "()Ljava/lang/Object;"⟩) (by decide +kernel)) (hts (.selects "[B" ⟨"[B", "clone", "()Ljava/lang/Object;"⟩ ⟨"java/lang/Object", "clone", "()Ljava/lang/Object;"⟩) (by decide +kernel)) hTn hK hP hD hS hA 0 0 rfl rfl (va_nm_byte (hK.2 0 _ rfl).2) (sb_fitCell hf) (Nat.le_of_ble_eq_true rfl) (Nat.le_of_ble_eq_true rfl) (show _ ≤ 1 by omega) (show _ + mm ≤ 34 by omega) dJ7_copyOfRange_39247_18 (fun q18 H hK9 hP hD hS => ?_)
    have hP : va_P (dC, dI) xCl [(v, eY cB mm f), (q18, eY cB mm f)] H := hP
    have hD : va_D A [(v, eY cB mm f), (q18, eY cB mm f)] := hD
    refine va_castA hx hb hown (hts (.classLink RJ7 311 "[B") (by decide +kernel)) hP 1 rfl (va_nm_byte (hK.2 0 _ rfl).2) dJ7_copyOfRange_39247_21 ?_
    have hP := hP.sub (ws' := [(q18, eY cB mm f)]) [1] rfl
    have hD := hD.sub (ws' := [(q18, eY cB mm f)]) [1] (by decide) rfl
    refine W.widen (k := 1) (n := 34) (by omega) (by omega) ?_
    exact W.aret (v := .ref q18) hx hb hr (Or.inr ⟨_, rfl⟩) (Or.inr ⟨_, rfl⟩) (fun t ht hW => ⟨⟨f, _, rfl, ⟨hf, (fun _ _ => rfl)⟩, ⟨by rw [ht]; exact hP, hD⟩⟩, hS.F ht⟩) hS.2.2 dJ7_copyOfRange_39247_24
  · skip
    refine lv_aload_n hx hb dJ7_copyOfRange_39247_10 rfl (lv_at hl 0 rfl) ?_
    refine lv_iload_n hx hb dJ7_copyOfRange_39247_11 rfl (lv_at hl 1 rfl) ?_
    refine lv_iload_n hx hb dJ7_copyOfRange_39247_12 rfl (lv_at hl 2 rfl) ?_
    have hPc := hP.sub (ws' := [(v, eY cB mm f)]) [0] rfl
    have hDc := hD.sub (ws' := [(v, eY cB mm f)]) [0] (by decide) rfl
    have hKc := hK.sub (tys' := [(cB, .byte)]) [0] rfl
    have hFc := va_free (wc := [(v, eY cB mm f)]) hD hS hA [0] rfl
    refine va_callr (va_runS (As := [.ref v, .int 0, .int (nI n)]) (rest := []) ⟨hx, hb, hml, hown, hts⟩ (kk_J7_copyOfRangeByte_39247 l dC dI cB v n mm f s.heap.size N (by omega) (by omega) hf) (va_cwS 3 hts gJ7_copyOfRange_39247_J7_copyOfRangeByte_39247 rfl rfl rfl (by decide +kernel) ⟨Nat.le_of_ble_eq_true rfl, Nat.le_of_ble_eq_true rfl⟩) (xT.preS hKc hPc hDc hAN (Nat.le_trans hN hS.1) (hG.kept hS hAN) (hT.kept hS hAN)) rfl rfl hl.1 rfl (lv_room (Nat.le_of_ble_eq_true rfl)) dJ7_copyOfRange_39247_13 ⟨(show _ ≤ 1 by omega), (show _ ≤ 34 by omega)⟩) hS (fun q _ h => hFc q h) hFc (fun u_4 r_3 t H locs ht hvm hw hB hz hk hS => ?_)
    obtain ⟨hP1, hD1⟩ := hB
    rw [ht] at hP1
    obtain ⟨f2_2, rfl⟩ : ∃ z, z = u_4 := ⟨_, rfl⟩
    obtain ⟨hP, hD⟩ := va_join (wr := []) (w1 := [(r_3, eY cB n f2_2)]) hP hD [0] [] rfl rfl (by decide) (by decide) hk hFc hP1 hD1
    have hP : va_P (dC, dI) xCl [(r_3, eY cB n f2_2)] H := hP
    have hD : va_D A [(r_3, eY cB n f2_2)] := hD
    obtain ⟨hf_f2_2, hk_f2_2⟩ : sb_Fit f2_2 ∧ ∀ j, j < n → f2_2 j = f j := hw
    have hP := hP.sub (ws' := [(r_3, eY cB n f2_2)]) [0] rfl
    have hD := hD.sub (ws' := [(r_3, eY cB n f2_2)]) [0] (by decide) rfl
    refine W.widen (k := 1) (n := 34) (by omega) (by omega) ?_
    exact W.aret (v := .ref r_3) hx hb hr (Or.inr ⟨_, rfl⟩) (Or.inr ⟨_, rfl⟩) (fun t ht hW => ⟨⟨f2_2, _, rfl, ⟨hf_f2_2, hk_f2_2⟩, ⟨by rw [ht]; exact hP, hD⟩⟩, hS.F ht⟩) hS.2.2 dJ7_copyOfRange_39247_16
set_option maxHeartbeats 4000000 in
set_option maxRecDepth 100000 in
theorem kk_J0_init_db425 (l : Launch) (dC : Nat → ClassId) (dI : Nat → Nat → Nat) (cB : ClassId) (hs : Nat) (h : Nat) (v : Nat) (n : Nat) (mm : Nat) (f : Nat → Int32) (sz N : Nat) (hn : n ≤ mm) (hmb : mm ≤ 34) (hf : sb_Fit f) : Met l yJ0_init_db425 wsJ0_init_db425 ({ frames := 3, cells := 1, slots := 34, locals := 146 }) (va_Pc [.ref hs, .ref h, .null] (xT (dC, dI) xCl [(hs, .inr (0, [.null, .int 0, .int 0, .int 0])), (h, eB v (nI n)), (v, eY cB mm f)] [(cB, .byte)] sz N)) (va_Qv (fun (u : Nat × (Nat → Int32)) => sb_Fit u.2 ∧ ∀ j, j < n → u.2 j = f j) (fun (u : Nat × (Nat → Int32)) t => xW (dC, dI) xCl [(hs, .inr (0, [.ref u.1, .int 0, .int 0, .int 0])), (u.1, eY cB n u.2)] (va_A [(hs, .inr (0, [.null, .int 0, .int 0, .int 0])), (h, eB v (nI n)), (v, eY cB mm f)] sz) t) (va_A [(hs, .inr (0, [.null, .int 0, .int 0, .int 0])), (h, eB v (nI n)), (v, eY cB mm f)] sz)) 1 34 (va_A [(hs, .inr (0, [.null, .int 0, .int 0, .int 0])), (h, eB v (nI n)), (v, eY cB mm f)] sz) := by
  refine Met.ofW (cc := cJ0_init_db425) (maxL := 5) (ret := none) (by decide +kernel) rfl ?_
  intro p e s m args below meth c s₁ B hml hv
  obtain ⟨rfl, ⟨hsz, hP, hK, hD0, hN, hG⟩, hT⟩ := hv
  have hx := B.exec
  have hb := B.bytes
  have hr := B.returns
  have hts := atoms_spec (ws := wsJ0_init_db425) B.pre
  have hown : s.vm.findClass RJ0 = some m.cls := findClass_of_methodNamed B.named
  have hlocks := B.notSynchronized
  have hin : meth.name = "<init>" := (name_of_methodNamed B.named B.method).1
  subst hsz
  have hAN : ∀ q, va_A [(hs, .inr (0, [.null, .int 0, .int 0, .int 0])), (h, eB v (nI n)), (v, eY cB mm f)] s.heap.size q → N ≤ q := xA_N hD0 hN
  have hD := hD0.self (sz := s.heap.size)
  generalize hAe : va_A [(hs, .inr (0, [.null, .int 0, .int 0, .int 0])), (h, eB v (nI n)), (v, eY cB mm f)] s.heap.size = A at hD hAN ⊢
  have hA : ∀ q : Nat, s.heap.size ≤ q → A q := fun q h => by rw [← hAe]; exact Or.inr h
  have hS : va_S A s.heap s.heap [] := va_S.rf
  have hP : va_P (dC, dI) xCl [(hs, .inr (0, [.null, .int 0, .int 0, .int 0])), (h, eB v (nI n)), (v, eY cB mm f)] s.heap := hP
  obtain ⟨hTc, ⟨tO, tT, fO, fT, hTo, hTt, hTa, hTb, hTf, hTg⟩, ⟨adK, adV, hTs, hTr0, hTr1, hTr2⟩, ⟨aE, hTe⟩, hTn⟩ := id hT
  have hl := lv_entry ([.ref hs, .ref h, .null]) (n := 5) (Nat.le_of_ble_eq_true rfl)
  rw [lg_entry_eq]
  generalize (lg_sl ([.ref hs, .ref h, .null]) ++ List.replicate (5 - (lg_sl ([.ref hs, .ref h, .null])).length) Slot.unset).toArray = ls at hl ⊢
  have hl : lv_has ls 5 [(0, .ref hs), (1, .ref h), (2, .null)] := hl
  refine lv_aload_n hx hb dJ0_init_db425_0 rfl (lv_at hl 0 rfl) ?_
  refine W.objInit hx hb hown (hts (.methodLink RJ0 1 objectInit) (by decide +kernel)) (hts (.instanceMethod objectInit) (by decide +kernel)) (hts (.code objectInit ⟨#[0xb1]⟩ 1 none) (by decide +kernel)) rfl (by rw [hml]; exact hl.1) rfl dJ0_init_db425_1 (Nat.le_of_ble_eq_true rfl) (Nat.le_of_ble_eq_true rfl) ?_
  refine W.eq (g2 := F0 m 4 ls []) rfl ?_
  refine lv_aload_n hx hb dJ0_init_db425_4 rfl (lv_at hl 1 rfl) ?_
  have hPc := hP.sub (ws' := [(h, eB v (nI n))]) [1] rfl
  have hDc := hD.sub (ws' := [(h, eB v (nI n))]) [1] (by decide) rfl
  have hKc := hK.sub (tys' := [(cB, .byte)]) [0] rfl
  have hFc := va_free (wc := [(h, eB v (nI n))]) hD hS hA [1] rfl
  refine va_callr (va_runU (As := []) (rest := []) ⟨hx, hb, hml, hown, hts⟩ (k_J5_getValue_6d5f1 l dC dI cB h v (nI n) s.heap.size N) (va_cwU 0 hts gJ0_init_db425_J5_getValue_6d5f1_u552J4 rfl rfl rfl rfl (by decide +kernel) ⟨Nat.le_of_ble_eq_true rfl, Nat.le_of_ble_eq_true rfl⟩) (xT.preV hKc hPc hDc hAN (Nat.le_trans hN hS.1) (hG.kept hS hAN) (hT.kept hS hAN) (ci := 1) (q0 := 0) rfl rfl) rfl rfl hl.1 rfl (lv_room (Nat.le_of_ble_eq_true rfl)) dJ0_init_db425_5 ⟨(show _ ≤ 1 by omega), (show _ ≤ 34 by omega)⟩) hS (fun q _ h => hFc q h) hFc (fun u_2 r_1 t H locs ht hvm hw hB hz hk hS => ?_)
  obtain ⟨he_r_1, hP1, hD1⟩ := hB
  rw [ht] at hP1
  obtain ⟨hP, hD⟩ := va_join (wr := [(hs, .inr (0, [.null, .int 0, .int 0, .int 0])), (v, eY cB mm f)]) (w1 := [(h, eB v (nI n))]) hP hD [1] [0, 2] rfl rfl (by decide) (by decide) hk hFc hP1 hD1
  have hP : va_P (dC, dI) xCl [(hs, .inr (0, [.null, .int 0, .int 0, .int 0])), (v, eY cB mm f), (h, eB v (nI n))] H := hP
  have hD : va_D A [(hs, .inr (0, [.null, .int 0, .int 0, .int 0])), (v, eY cB mm f), (h, eB v (nI n))] := hD
  rw [he_r_1]
  refine lv_astore_n (lv' := [(3, .ref v), (0, .ref hs), (1, .ref h), (2, .null)]) hx hb dJ0_init_db425_8 rfl hl (by decide) rfl (fun ls hl => ?_)
  refine lv_aload_n hx hb dJ0_init_db425_9 rfl (lv_at hl 2 rfl) ?_
  have hPc := hP.sub (ws' := [(h, eB v (nI n))]) [2] rfl
  have hDc := hD.sub (ws' := [(h, eB v (nI n))]) [2] (by decide) rfl
  have hKc := hK.sub (tys' := [(cB, .byte)]) [0] rfl
  have hFc := va_free (wc := [(h, eB v (nI n))]) hD hS hA [2] rfl
  refine va_calli (va_runU (As := []) (rest := []) ⟨hx, hb, hml, hown, hts⟩ (k_J4_length_8abf5 l dC dI cB h v (nI n) H.size N) (va_cwO 0 hts gJ0_init_db425_J4_length_8abf5_u549J4 rfl rfl rfl (b0 := cJ5_length_8abf5) (m0 := 1) (r0 := some .int) (by decide +kernel) (by decide +kernel) ⟨Nat.le_of_ble_eq_true rfl, Nat.le_of_ble_eq_true rfl⟩) (xT.preV hKc hPc hDc hAN (Nat.le_trans hN hS.1) (hG.kept hS hAN) (hT.kept hS hAN) (ci := 1) (q0 := 0) rfl rfl) rfl rfl hl.1 rfl (lv_room (Nat.le_of_ble_eq_true rfl)) dJ0_init_db425_10 ⟨(show _ ≤ 1 by omega), (show _ ≤ 34 by omega)⟩) hS (fun q _ h => hFc q h) hFc (fun r_3 u_4 t H locs ht hvm hw hB hz hk hS => ?_)
  obtain ⟨hP1, hD1⟩ := hB
  rw [ht] at hP1
  obtain ⟨hP, hD⟩ := va_join (wr := [(hs, .inr (0, [.null, .int 0, .int 0, .int 0])), (v, eY cB mm f)]) (w1 := [(h, eB v (nI n))]) hP hD [2] [0, 1] rfl rfl (by decide) (by decide) hk hFc hP1 hD1
  have hP : va_P (dC, dI) xCl [(hs, .inr (0, [.null, .int 0, .int 0, .int 0])), (v, eY cB mm f), (h, eB v (nI n))] H := hP
  have hD : va_D A [(hs, .inr (0, [.null, .int 0, .int 0, .int 0])), (v, eY cB mm f), (h, eB v (nI n))] := hD
  have hw : r_3 = (nI n) := hw
  rw [hw]
  refine lv_istore (lv' := [(4, .int (nI n)), (3, .ref v), (0, .ref hs), (1, .ref h), (2, .null)]) hx hb dJ0_init_db425_13 hl (by decide) rfl (fun ls hl => ?_)
  refine lv_aload_n hx hb dJ0_init_db425_15 rfl (lv_at hl 3 rfl) ?_
  have hPc := hP.sub (ws' := [(h, eB v (nI n))]) [2] rfl
  have hDc := hD.sub (ws' := [(h, eB v (nI n))]) [2] (by decide) rfl
  have hKc := hK.sub (tys' := [(cB, .byte)]) [0] rfl
  have hFc := va_free (wc := [(h, eB v (nI n))]) hD hS hA [2] rfl
  refine va_calli (va_runU (As := []) (rest := []) ⟨hx, hb, hml, hown, hts⟩ (k_J5_isLatin1_aae02 l dC dI cB h v (nI n) H.size N) (va_cwU 0 hts gJ0_init_db425_J5_isLatin1_aae02_u1047J4 rfl rfl rfl rfl (by decide +kernel) ⟨Nat.le_of_ble_eq_true rfl, Nat.le_of_ble_eq_true rfl⟩) (xT.preV hKc hPc hDc hAN (Nat.le_trans hN hS.1) (hG.kept hS hAN) (hT.kept hS hAN) (ci := 1) (q0 := 0) rfl rfl) rfl rfl hl.1 rfl (lv_room (Nat.le_of_ble_eq_true rfl)) dJ0_init_db425_16 ⟨(show _ ≤ 1 by omega), (show _ ≤ 34 by omega)⟩) hS (fun q _ h => hFc q h) hFc (fun r_5 u_6 t H locs ht hvm hw hB hz hk hS => ?_)
  obtain ⟨hP1, hD1⟩ := hB
  rw [ht] at hP1
  obtain ⟨hP, hD⟩ := va_join (wr := [(hs, .inr (0, [.null, .int 0, .int 0, .int 0])), (v, eY cB mm f)]) (w1 := [(h, eB v (nI n))]) hP hD [2] [0, 1] rfl rfl (by decide) (by decide) hk hFc hP1 hD1
  have hP : va_P (dC, dI) xCl [(hs, .inr (0, [.null, .int 0, .int 0, .int 0])), (v, eY cB mm f), (h, eB v (nI n))] H := hP
  have hD : va_D A [(hs, .inr (0, [.null, .int 0, .int 0, .int 0])), (v, eY cB mm f), (h, eB v (nI n))] := hD
  have hw : r_5 = 1 := hw
  rw [hw]
  refine lv_if_eq (tgt := 41) hx hb dJ0_init_db425_19 (by decide) (fun c9 => absurd c9 (by decide)) (fun _ => ?_)
  refine lv_aload_n hx hb dJ0_init_db425_22 rfl (lv_at hl 2 rfl) ?_
  refine lv_iconst (v := 0) hx hb dJ0_init_db425_23 (by decide) ?_
  refine va_putF (D := (dC, dI)) (ci := 0) (v := .int 0) (ty := .byte) (C := RJ0) (T := TJ0) (N := 4) hx hb hts (by decide +kernel) tyJ0 tyJ0_ok nmJ0 hown hK hP hD hS 0 rfl rfl 1 (by decide) (hts (.fieldLink RJ0 15 "java/lang/String" "coder" "B") (by decide +kernel)) (fun _ h9 => h9) rfl hin rfl (by decide +kernel) rfl rfl (Nat.le_of_ble_eq_true rfl) dJ0_init_db425_24 (fun H locs hP hD hS => ?_)
  have hP : va_P (dC, dI) xCl [(hs, .inr (0, [.null, .int 0, .int 0, .int 0])), (v, eY cB mm f), (h, eB v (nI n))] H := hP
  have hD : va_D A [(hs, .inr (0, [.null, .int 0, .int 0, .int 0])), (v, eY cB mm f), (h, eB v (nI n))] := hD
  refine lv_aload_n hx hb dJ0_init_db425_27 rfl (lv_at hl 2 rfl) ?_
  refine lv_aload_n hx hb dJ0_init_db425_28 rfl (lv_at hl 1 rfl) ?_
  refine lv_iconst (v := 0) hx hb dJ0_init_db425_29 (by decide) ?_
  refine lv_iload hx hb dJ0_init_db425_30 (lv_at hl 0 rfl) ?_
  have hPc := hP.sub (ws' := [(v, eY cB mm f)]) [1] rfl
  have hDc := hD.sub (ws' := [(v, eY cB mm f)]) [1] (by decide) rfl
  have hKc := hK.sub (tys' := [(cB, .byte)]) [0] rfl
  have hFc := va_free (wc := [(v, eY cB mm f)]) hD hS hA [1] rfl
  refine va_callr (va_runS (As := [.ref v, .int 0, .int (nI n)]) (rest := [.ref hs]) ⟨hx, hb, hml, hown, hts⟩ (kk_J7_copyOfRange_39247 l dC dI cB v n mm f H.size N (by omega) (by omega) hf) (va_cwS 3 hts gJ0_init_db425_J7_copyOfRange_39247 rfl rfl rfl (by decide +kernel) ⟨Nat.le_of_ble_eq_true rfl, Nat.le_of_ble_eq_true rfl⟩) (xT.preS hKc hPc hDc hAN (Nat.le_trans hN hS.1) (hG.kept hS hAN) (hT.kept hS hAN)) rfl rfl hl.1 rfl (lv_room (Nat.le_of_ble_eq_true rfl)) dJ0_init_db425_32 ⟨(show _ ≤ 1 by omega), (show _ ≤ 34 by omega)⟩) hS (fun q _ h => hFc q h) hFc (fun u_9 r_8 t H locs ht hvm hw hB hz hk hS => ?_)
  obtain ⟨hP1, hD1⟩ := hB
  rw [ht] at hP1
  obtain ⟨f2_7, rfl⟩ : ∃ z, z = u_9 := ⟨_, rfl⟩
  obtain ⟨hP, hD⟩ := va_join (wr := [(hs, .inr (0, [.null, .int 0, .int 0, .int 0])), (h, eB v (nI n))]) (w1 := [(r_8, eY cB n f2_7)]) hP hD [1] [0, 2] rfl rfl (by decide) (by decide) hk hFc hP1 hD1
  have hP : va_P (dC, dI) xCl [(hs, .inr (0, [.null, .int 0, .int 0, .int 0])), (h, eB v (nI n)), (r_8, eY cB n f2_7)] H := hP
  have hD : va_D A [(hs, .inr (0, [.null, .int 0, .int 0, .int 0])), (h, eB v (nI n)), (r_8, eY cB n f2_7)] := hD
  obtain ⟨hf_f2_7, hk_f2_7⟩ : sb_Fit f2_7 ∧ ∀ j, j < n → f2_7 j = f j := hw
  refine va_putF (D := (dC, dI)) (ci := 0) (v := .ref r_8) (ty := (.array .byte)) (C := RJ0) (T := TJ0) (N := 4) hx hb hts (by decide +kernel) tyJ0 tyJ0_ok nmJ0 hown hK hP hD hS 0 rfl rfl 0 (by decide) (hts (.fieldLink RJ0 9 "java/lang/String" "value" "[B") (by decide +kernel)) (fun _ h9 => h9) rfl hin rfl (by decide +kernel) rfl rfl (Nat.le_of_ble_eq_true rfl) dJ0_init_db425_35 (fun H locs hP hD hS => ?_)
  have hP : va_P (dC, dI) xCl [(hs, .inr (0, [.ref r_8, .int 0, .int 0, .int 0])), (h, eB v (nI n)), (r_8, eY cB n f2_7)] H := hP
  have hD : va_D A [(hs, .inr (0, [.ref r_8, .int 0, .int 0, .int 0])), (h, eB v (nI n)), (r_8, eY cB n f2_7)] := hD
  refine lv_goto (tgt := 97) hx hb dJ0_init_db425_38 (by decide) ?_
  have hP := hP.sub (ws' := [(hs, .inr (0, [.ref r_8, .int 0, .int 0, .int 0])), (r_8, eY cB n f2_7)]) [0, 2] rfl
  have hD := hD.sub (ws' := [(hs, .inr (0, [.ref r_8, .int 0, .int 0, .int 0])), (r_8, eY cB n f2_7)]) [0, 2] (by decide) rfl
  refine W.widen (k := 1) (n := 34) (by omega) (by omega) ?_
  exact W.vret hx hb hr (fun t ht hW => ⟨⟨(r_8, f2_7), rfl, ⟨hf_f2_7, hk_f2_7⟩, by rw [ht]; exact hP, hD⟩, hS.F ht⟩) hS.2.2 dJ0_init_db425_97
set_option maxHeartbeats 4000000 in
set_option maxRecDepth 100000 in
theorem kk_J0_init_81219 (l : Launch) (dC : Nat → ClassId) (dI : Nat → Nat → Nat) (cB : ClassId) (hs : Nat) (h : Nat) (v : Nat) (n : Nat) (mm : Nat) (f : Nat → Int32) (sz N : Nat) (hn : n ≤ mm) (hmb : mm ≤ 34) (hf : sb_Fit f) : Met l yJ0_init_81219 wsJ0_init_81219 ({ frames := 4, cells := 1, slots := 34, locals := 170 }) (va_Pc [.ref hs, .ref h] (xT (dC, dI) xCl [(hs, .inr (0, [.null, .int 0, .int 0, .int 0])), (h, eB v (nI n)), (v, eY cB mm f)] [(cB, .byte)] sz N)) (va_Qv (fun (u : Nat × (Nat → Int32)) => sb_Fit u.2 ∧ ∀ j, j < n → u.2 j = f j) (fun (u : Nat × (Nat → Int32)) t => xW (dC, dI) xCl [(hs, .inr (0, [.ref u.1, .int 0, .int 0, .int 0])), (u.1, eY cB n u.2)] (va_A [(hs, .inr (0, [.null, .int 0, .int 0, .int 0])), (h, eB v (nI n)), (v, eY cB mm f)] sz) t) (va_A [(hs, .inr (0, [.null, .int 0, .int 0, .int 0])), (h, eB v (nI n)), (v, eY cB mm f)] sz)) 1 34 (va_A [(hs, .inr (0, [.null, .int 0, .int 0, .int 0])), (h, eB v (nI n)), (v, eY cB mm f)] sz) := by
  refine Met.ofW (cc := cJ0_init_81219) (maxL := 2) (ret := none) (by decide +kernel) rfl ?_
  intro p e s m args below meth c s₁ B hml hv
  obtain ⟨rfl, ⟨hsz, hP, hK, hD0, hN, hG⟩, hT⟩ := hv
  have hx := B.exec
  have hb := B.bytes
  have hr := B.returns
  have hts := atoms_spec (ws := wsJ0_init_81219) B.pre
  have hown : s.vm.findClass RJ0 = some m.cls := findClass_of_methodNamed B.named
  have hlocks := B.notSynchronized
  have hin : meth.name = "<init>" := (name_of_methodNamed B.named B.method).1
  subst hsz
  have hAN : ∀ q, va_A [(hs, .inr (0, [.null, .int 0, .int 0, .int 0])), (h, eB v (nI n)), (v, eY cB mm f)] s.heap.size q → N ≤ q := xA_N hD0 hN
  have hD := hD0.self (sz := s.heap.size)
  generalize hAe : va_A [(hs, .inr (0, [.null, .int 0, .int 0, .int 0])), (h, eB v (nI n)), (v, eY cB mm f)] s.heap.size = A at hD hAN ⊢
  have hA : ∀ q : Nat, s.heap.size ≤ q → A q := fun q h => by rw [← hAe]; exact Or.inr h
  have hS : va_S A s.heap s.heap [] := va_S.rf
  have hP : va_P (dC, dI) xCl [(hs, .inr (0, [.null, .int 0, .int 0, .int 0])), (h, eB v (nI n)), (v, eY cB mm f)] s.heap := hP
  obtain ⟨hTc, ⟨tO, tT, fO, fT, hTo, hTt, hTa, hTb, hTf, hTg⟩, ⟨adK, adV, hTs, hTr0, hTr1, hTr2⟩, ⟨aE, hTe⟩, hTn⟩ := id hT
  have hl := lv_entry ([.ref hs, .ref h]) (n := 2) (Nat.le_of_ble_eq_true rfl)
  rw [lg_entry_eq]
  generalize (lg_sl ([.ref hs, .ref h]) ++ List.replicate (2 - (lg_sl ([.ref hs, .ref h])).length) Slot.unset).toArray = ls at hl ⊢
  have hl : lv_has ls 2 [(0, .ref hs), (1, .ref h)] := hl
  refine lv_aload_n hx hb dJ0_init_81219_0 rfl (lv_at hl 0 rfl) ?_
  refine lv_aload_n hx hb dJ0_init_81219_1 rfl (lv_at hl 1 rfl) ?_
  refine lv_null hx hb dJ0_init_81219_2 ?_
  have hPc := hP.sub (ws' := [(hs, .inr (0, [.null, .int 0, .int 0, .int 0])), (h, eB v (nI n)), (v, eY cB mm f)]) [0, 1, 2] rfl
  have hDc := hD.sub (ws' := [(hs, .inr (0, [.null, .int 0, .int 0, .int 0])), (h, eB v (nI n)), (v, eY cB mm f)]) [0, 1, 2] (by decide) rfl
  have hKc := hK.sub (tys' := [(cB, .byte)]) [0] rfl
  have hFc := va_free (wc := [(hs, .inr (0, [.null, .int 0, .int 0, .int 0])), (h, eB v (nI n)), (v, eY cB mm f)]) hD hS hA [0, 1, 2] rfl
  refine va_callv (va_runI (As := [.ref h, .null]) (rest := []) ⟨hx, hb, hml, hown, hts⟩ (kk_J0_init_db425 l dC dI cB hs h v n mm f s.heap.size N (by omega) (by omega) hf) (cwI 2 hts gJ0_init_81219_J0_init_db425 rfl rfl rfl (hts (.initialized RJ0) (by decide +kernel)) (hts (.methodLink RJ0 489 yJ0_init_db425) (by decide +kernel)) (hts (.instanceMethod yJ0_init_db425) (by decide +kernel)) rfl (by decide +kernel) ⟨Nat.le_of_ble_eq_true rfl, Nat.le_of_ble_eq_true rfl⟩) (xT.preS  (As := .ref hs :: [.ref h, .null]) hKc hPc hDc hAN (Nat.le_trans hN hS.1) (hG.kept hS hAN) (hT.kept hS hAN)) rfl rfl hl.1 rfl (lv_room (Nat.le_of_ble_eq_true rfl)) dJ0_init_81219_3 ⟨(show _ ≤ 1 by omega), (show _ ≤ 34 by omega)⟩) hS (fun q _ h => hFc q h) hFc (fun u_4 t H locs ht hvm hw hB hz hk hS => ?_)
  obtain ⟨hP1, hD1⟩ := hB
  rw [ht] at hP1
  obtain ⟨v2_1, f2_2⟩ := u_4
  obtain ⟨hP, hD⟩ := va_join (wr := []) (w1 := [(hs, .inr (0, [.ref v2_1, .int 0, .int 0, .int 0])), (v2_1, eY cB n f2_2)]) hP hD [0, 1, 2] [] rfl rfl (by decide) (by decide) hk hFc hP1 hD1
  have hP : va_P (dC, dI) xCl [(hs, .inr (0, [.ref v2_1, .int 0, .int 0, .int 0])), (v2_1, eY cB n f2_2)] H := hP
  have hD : va_D A [(hs, .inr (0, [.ref v2_1, .int 0, .int 0, .int 0])), (v2_1, eY cB n f2_2)] := hD
  obtain ⟨hf_f2_2, hk_f2_2⟩ : sb_Fit f2_2 ∧ ∀ j, j < n → f2_2 j = f j := hw
  have hP := hP.sub (ws' := [(hs, .inr (0, [.ref v2_1, .int 0, .int 0, .int 0])), (v2_1, eY cB n f2_2)]) [0, 1] rfl
  have hD := hD.sub (ws' := [(hs, .inr (0, [.ref v2_1, .int 0, .int 0, .int 0])), (v2_1, eY cB n f2_2)]) [0, 1] (by decide) rfl
  refine W.widen (k := 1) (n := 34) (by omega) (by omega) ?_
  exact W.vret hx hb hr (fun t ht hW => ⟨⟨(v2_1, f2_2), rfl, ⟨hf_f2_2, hk_f2_2⟩, by rw [ht]; exact hP, hD⟩, hS.F ht⟩) hS.2.2 dJ0_init_81219_6
set_option maxHeartbeats 4000000 in
set_option maxRecDepth 100000 in
theorem kk_J4_toString_0e30d (l : Launch) (dC : Nat → ClassId) (dI : Nat → Nat → Nat) (cB : ClassId) (h : Nat) (v : Nat) (n : Nat) (mm : Nat) (f : Nat → Int32) (sz N : Nat) (hn : n ≤ mm) (hmb : mm ≤ 34) (hf : sb_Fit f) : Met l yJ4_toString_0e30d wsJ4_toString_0e30d ({ frames := 5, cells := 2, slots := 38, locals := 191 }) (va_Pc [.ref h] (xT (dC, dI) xCl [(h, eB v (nI n)), (v, eY cB mm f)] [(cB, .byte)] sz N)) (va_Qr (fun (u : Nat × (Nat → Int32)) => sb_Fit u.2 ∧ ∀ j, j < n → u.2 j = f j) (fun (u : Nat × (Nat → Int32)) a t => xW (dC, dI) xCl [(a, .inr (0, [.ref u.1, .int 0, .int 0, .int 0])), (u.1, eY cB n u.2)] (va_A [(h, eB v (nI n)), (v, eY cB mm f)] sz) t) (va_A [(h, eB v (nI n)), (v, eY cB mm f)] sz)) 2 38 (va_A [(h, eB v (nI n)), (v, eY cB mm f)] sz) := by
  refine Met.ofW (cc := cJ4_toString_0e30d) (maxL := 1) (ret := (some (.object "java/lang/String"))) (by decide +kernel) rfl ?_
  intro p e s m args below meth c s₁ B hml hv
  obtain ⟨rfl, ⟨hsz, hP, hK, hD0, hN, hG⟩, hT⟩ := hv
  have hx := B.exec
  have hb := B.bytes
  have hr := B.returns
  have hts := atoms_spec (ws := wsJ4_toString_0e30d) B.pre
  have hown : s.vm.findClass RJ4 = some m.cls := findClass_of_methodNamed B.named
  have hlocks := B.notSynchronized
  subst hsz
  have hAN : ∀ q, va_A [(h, eB v (nI n)), (v, eY cB mm f)] s.heap.size q → N ≤ q := xA_N hD0 hN
  have hD := hD0.self (sz := s.heap.size)
  generalize hAe : va_A [(h, eB v (nI n)), (v, eY cB mm f)] s.heap.size = A at hD hAN ⊢
  have hA : ∀ q : Nat, s.heap.size ≤ q → A q := fun q h => by rw [← hAe]; exact Or.inr h
  have hS : va_S A s.heap s.heap [] := va_S.rf
  have hP : va_P (dC, dI) xCl [(h, eB v (nI n)), (v, eY cB mm f)] s.heap := hP
  obtain ⟨hTc, ⟨tO, tT, fO, fT, hTo, hTt, hTa, hTb, hTf, hTg⟩, ⟨adK, adV, hTs, hTr0, hTr1, hTr2⟩, ⟨aE, hTe⟩, hTn⟩ := id hT
  have hl := lv_entry ([.ref h]) (n := 1) (Nat.le_of_ble_eq_true rfl)
  rw [lg_entry_eq]
  generalize (lg_sl ([.ref h]) ++ List.replicate (1 - (lg_sl ([.ref h])).length) Slot.unset).toArray = ls at hl ⊢
  have hl : lv_has ls 1 [(0, .ref h)] := hl
  refine va_new (ci := 0) (fs := [.null, .int 0, .int 0, .int 0]) (C := RJ0) (T := TJ0) (N := 4) hx hb hts (by decide +kernel) tyJ0 tyJ0_ok hown (hts (.classLink RJ4 18 RJ0) (by decide +kernel)) (hts (.instantiable RJ0 4) (by decide +kernel)) (hts (.initialized RJ0) (by decide +kernel)) hK hP hD hS hA rfl (fun j hj => by rcases (show j = 0 ∨ j = 1 ∨ j = 2 ∨ j = 3 by omega) with rfl | rfl | rfl | rfl <;> rfl) (show _ ≤ 2 by omega) (show _ ≤ 38 by omega) dJ4_toString_0e30d_0 (fun q0 H hP hD hS => ?_)
  have hP : va_P (dC, dI) xCl [(h, eB v (nI n)), (v, eY cB mm f), (q0, .inr (0, [.null, .int 0, .int 0, .int 0]))] H := hP
  have hD : va_D A [(h, eB v (nI n)), (v, eY cB mm f), (q0, .inr (0, [.null, .int 0, .int 0, .int 0]))] := hD
  refine lv_dup hx hb dJ4_toString_0e30d_3 rfl ?_
  refine lv_aload_n hx hb dJ4_toString_0e30d_4 rfl (lv_at hl 0 rfl) ?_
  have hPc := hP.sub (ws' := [(q0, .inr (0, [.null, .int 0, .int 0, .int 0])), (h, eB v (nI n)), (v, eY cB mm f)]) [2, 0, 1] rfl
  have hDc := hD.sub (ws' := [(q0, .inr (0, [.null, .int 0, .int 0, .int 0])), (h, eB v (nI n)), (v, eY cB mm f)]) [2, 0, 1] (by decide) rfl
  have hKc := hK.sub (tys' := [(cB, .byte)]) [0] rfl
  have hFc := va_free (wc := [(q0, .inr (0, [.null, .int 0, .int 0, .int 0])), (h, eB v (nI n)), (v, eY cB mm f)]) hD hS hA [2, 0, 1] rfl
  refine va_callv (va_runI (As := [.ref h]) (rest := [.ref q0]) ⟨hx, hb, hml, hown, hts⟩ (kk_J0_init_81219 l dC dI cB q0 h v n mm f H.size N (by omega) (by omega) hf) (cwI 1 hts gJ4_toString_0e30d_J0_init_81219 rfl rfl rfl (hts (.initialized RJ0) (by decide +kernel)) (hts (.methodLink RJ4 137 yJ0_init_81219) (by decide +kernel)) (hts (.instanceMethod yJ0_init_81219) (by decide +kernel)) rfl (by decide +kernel) ⟨Nat.le_of_ble_eq_true rfl, Nat.le_of_ble_eq_true rfl⟩) (xT.preS  (As := .ref q0 :: [.ref h]) hKc hPc hDc hAN (Nat.le_trans hN hS.1) (hG.kept hS hAN) (hT.kept hS hAN)) rfl rfl hl.1 rfl (lv_room (Nat.le_of_ble_eq_true rfl)) dJ4_toString_0e30d_5 ⟨(show _ ≤ 2 by omega), (show _ ≤ 38 by omega)⟩) hS (fun q _ h => hFc q h) hFc (fun u_4 t H locs ht hvm hw hB hz hk hS => ?_)
  obtain ⟨hP1, hD1⟩ := hB
  rw [ht] at hP1
  obtain ⟨v2_1, f2_2⟩ := u_4
  obtain ⟨hP, hD⟩ := va_join (wr := []) (w1 := [(q0, .inr (0, [.ref v2_1, .int 0, .int 0, .int 0])), (v2_1, eY cB n f2_2)]) hP hD [2, 0, 1] [] rfl rfl (by decide) (by decide) hk hFc hP1 hD1
  have hP : va_P (dC, dI) xCl [(q0, .inr (0, [.ref v2_1, .int 0, .int 0, .int 0])), (v2_1, eY cB n f2_2)] H := hP
  have hD : va_D A [(q0, .inr (0, [.ref v2_1, .int 0, .int 0, .int 0])), (v2_1, eY cB n f2_2)] := hD
  obtain ⟨hf_f2_2, hk_f2_2⟩ : sb_Fit f2_2 ∧ ∀ j, j < n → f2_2 j = f j := hw
  have hP := hP.sub (ws' := [(q0, .inr (0, [.ref v2_1, .int 0, .int 0, .int 0])), (v2_1, eY cB n f2_2)]) [0, 1] rfl
  have hD := hD.sub (ws' := [(q0, .inr (0, [.ref v2_1, .int 0, .int 0, .int 0])), (v2_1, eY cB n f2_2)]) [0, 1] (by decide) rfl
  refine W.widen (k := 2) (n := 38) (by omega) (by omega) ?_
  exact W.aret (v := .ref q0) hx hb hr (Or.inl ⟨_, rfl⟩) (Or.inr ⟨_, rfl⟩) (fun t ht hW => ⟨⟨(v2_1, f2_2), _, rfl, ⟨hf_f2_2, hk_f2_2⟩, ⟨by rw [ht]; exact hP, hD⟩⟩, hS.F ht⟩) hS.2.2 dJ4_toString_0e30d_8
noncomputable def dz_p26e_1 : List (Nat × Instr × Nat) := [(0, (.aload_n 0, 1)), (1, (.arraylength, 1)), (2, (.aload_n 1, 1)), (3, (.arraylength, 1)), (4, (.if_icmp .ne 30, 3)), (7, (.iconst 0, 1)), (8, (.istore_n 2, 1)), (9, (.iload_n 2, 1)), (10, (.aload_n 0, 1)), (11, (.arraylength, 1)), (12, (.if_icmp .ge 20, 3)), (15, (.aload_n 0, 1)), (16, (.iload_n 2, 1)), (17, (.baload, 1)), (18, (.aload_n 1, 1)), (19, (.iload_n 2, 1)), (20, (.baload, 1)), (21, (.if_icmp .eq 5, 3)), (24, (.iconst 0, 1)), (25, (.ireturn, 1)), (26, (.iinc 2 1, 3)), (29, (.goto (-20), 3)), (32, (.iconst 1, 1)), (33, (.ireturn, 1)), (34, (.iconst 0, 1)), (35, (.ireturn, 1))]
theorem dy_p26e_1 : dz_ok cJ1_equals_b5fdf dz_p26e_1 = true := by decide +kernel
theorem dJ1_equals_b5fdf_0 : decode cJ1_equals_b5fdf 0 = .ok (.aload_n 0, 1) := dz_at (i := 0) dy_p26e_1 rfl
theorem dJ1_equals_b5fdf_1 : decode cJ1_equals_b5fdf 1 = .ok (.arraylength, 1) := dz_at (i := 1) dy_p26e_1 rfl
theorem dJ1_equals_b5fdf_2 : decode cJ1_equals_b5fdf 2 = .ok (.aload_n 1, 1) := dz_at (i := 2) dy_p26e_1 rfl
theorem dJ1_equals_b5fdf_3 : decode cJ1_equals_b5fdf 3 = .ok (.arraylength, 1) := dz_at (i := 3) dy_p26e_1 rfl
theorem dJ1_equals_b5fdf_4 : decode cJ1_equals_b5fdf 4 = .ok (.if_icmp .ne 30, 3) := dz_at (i := 4) dy_p26e_1 rfl
theorem dJ1_equals_b5fdf_7 : decode cJ1_equals_b5fdf 7 = .ok (.iconst 0, 1) := dz_at (i := 5) dy_p26e_1 rfl
theorem dJ1_equals_b5fdf_8 : decode cJ1_equals_b5fdf 8 = .ok (.istore_n 2, 1) := dz_at (i := 6) dy_p26e_1 rfl
theorem dJ1_equals_b5fdf_9 : decode cJ1_equals_b5fdf 9 = .ok (.iload_n 2, 1) := dz_at (i := 7) dy_p26e_1 rfl
theorem dJ1_equals_b5fdf_10 : decode cJ1_equals_b5fdf 10 = .ok (.aload_n 0, 1) := dz_at (i := 8) dy_p26e_1 rfl
theorem dJ1_equals_b5fdf_11 : decode cJ1_equals_b5fdf 11 = .ok (.arraylength, 1) := dz_at (i := 9) dy_p26e_1 rfl
theorem dJ1_equals_b5fdf_12 : decode cJ1_equals_b5fdf 12 = .ok (.if_icmp .ge 20, 3) := dz_at (i := 10) dy_p26e_1 rfl
theorem dJ1_equals_b5fdf_15 : decode cJ1_equals_b5fdf 15 = .ok (.aload_n 0, 1) := dz_at (i := 11) dy_p26e_1 rfl
theorem dJ1_equals_b5fdf_16 : decode cJ1_equals_b5fdf 16 = .ok (.iload_n 2, 1) := dz_at (i := 12) dy_p26e_1 rfl
theorem dJ1_equals_b5fdf_17 : decode cJ1_equals_b5fdf 17 = .ok (.baload, 1) := dz_at (i := 13) dy_p26e_1 rfl
theorem dJ1_equals_b5fdf_18 : decode cJ1_equals_b5fdf 18 = .ok (.aload_n 1, 1) := dz_at (i := 14) dy_p26e_1 rfl
theorem dJ1_equals_b5fdf_19 : decode cJ1_equals_b5fdf 19 = .ok (.iload_n 2, 1) := dz_at (i := 15) dy_p26e_1 rfl
theorem dJ1_equals_b5fdf_20 : decode cJ1_equals_b5fdf 20 = .ok (.baload, 1) := dz_at (i := 16) dy_p26e_1 rfl
theorem dJ1_equals_b5fdf_21 : decode cJ1_equals_b5fdf 21 = .ok (.if_icmp .eq 5, 3) := dz_at (i := 17) dy_p26e_1 rfl
theorem dJ1_equals_b5fdf_24 : decode cJ1_equals_b5fdf 24 = .ok (.iconst 0, 1) := dz_at (i := 18) dy_p26e_1 rfl
theorem dJ1_equals_b5fdf_25 : decode cJ1_equals_b5fdf 25 = .ok (.ireturn, 1) := dz_at (i := 19) dy_p26e_1 rfl
theorem dJ1_equals_b5fdf_26 : decode cJ1_equals_b5fdf 26 = .ok (.iinc 2 1, 3) := dz_at (i := 20) dy_p26e_1 rfl
theorem dJ1_equals_b5fdf_29 : decode cJ1_equals_b5fdf 29 = .ok (.goto (-20), 3) := dz_at (i := 21) dy_p26e_1 rfl
theorem dJ1_equals_b5fdf_32 : decode cJ1_equals_b5fdf 32 = .ok (.iconst 1, 1) := dz_at (i := 22) dy_p26e_1 rfl
theorem dJ1_equals_b5fdf_33 : decode cJ1_equals_b5fdf 33 = .ok (.ireturn, 1) := dz_at (i := 23) dy_p26e_1 rfl
theorem dJ1_equals_b5fdf_34 : decode cJ1_equals_b5fdf 34 = .ok (.iconst 0, 1) := dz_at (i := 24) dy_p26e_1 rfl
theorem dJ1_equals_b5fdf_35 : decode cJ1_equals_b5fdf 35 = .ok (.ireturn, 1) := dz_at (i := 25) dy_p26e_1 rfl
set_option maxHeartbeats 4000000 in
set_option maxRecDepth 100000 in
theorem kk_J1_equals_b5fdf (l : Launch) (dC : Nat → ClassId) (dI : Nat → Nat → Nat) (cB : ClassId) (v : Nat) (x : Nat) (n : Nat) (f : Nat → Int32) (g : Nat → Int32) (sz N : Nat) (hn : n ≤ 34) (he : ∀ i, i < n → f i = g i) : Met l yJ1_equals_b5fdf wsJ1_equals_b5fdf ({ frames := 0, cells := 0, slots := 0, locals := 0 }) (va_Pc [.ref v, .ref x] (xT (dC, dI) xCl [(v, eY cB n f), (x, eY cB n g)] [(cB, .byte)] sz N)) (va_Qi (fun (r : Int32) (u : Unit) => r = 1) (fun (u : Unit) t => xW (dC, dI) xCl [(v, eY cB n f), (x, eY cB n g)] (va_A [(v, eY cB n f), (x, eY cB n g)] sz) t) (va_A [(v, eY cB n f), (x, eY cB n g)] sz)) 0 0 (va_A [(v, eY cB n f), (x, eY cB n g)] sz) := by
  refine Met.ofW (cc := cJ1_equals_b5fdf) (maxL := 3) (ret := (some .boolean)) (by decide +kernel) rfl ?_
  intro p e s m args below meth c s₁ B hml hv
  obtain ⟨rfl, ⟨hsz, hP, hK, hD0, hN, hG⟩, hT⟩ := hv
  have hx := B.exec
  have hb := B.bytes
  have hr := B.returns
  have hts := atoms_spec (ws := wsJ1_equals_b5fdf) B.pre
  have hown : s.vm.findClass RJ1 = some m.cls := findClass_of_methodNamed B.named
  have hlocks := B.notSynchronized
  subst hsz
  have hAN : ∀ q, va_A [(v, eY cB n f), (x, eY cB n g)] s.heap.size q → N ≤ q := xA_N hD0 hN
  have hD := hD0.self (sz := s.heap.size)
  generalize hAe : va_A [(v, eY cB n f), (x, eY cB n g)] s.heap.size = A at hD hAN ⊢
  have hA : ∀ q : Nat, s.heap.size ≤ q → A q := fun q h => by rw [← hAe]; exact Or.inr h
  have hS : va_S A s.heap s.heap [] := va_S.rf
  have hP : va_P (dC, dI) xCl [(v, eY cB n f), (x, eY cB n g)] s.heap := hP
  obtain ⟨hTc, ⟨tO, tT, fO, fT, hTo, hTt, hTa, hTb, hTf, hTg⟩, ⟨adK, adV, hTs, hTr0, hTr1, hTr2⟩, ⟨aE, hTe⟩, hTn⟩ := id hT
  have hl := lv_entry ([.ref v, .ref x]) (n := 3) (Nat.le_of_ble_eq_true rfl)
  rw [lg_entry_eq]
  generalize (lg_sl ([.ref v, .ref x]) ++ List.replicate (3 - (lg_sl ([.ref v, .ref x])).length) Slot.unset).toArray = ls at hl ⊢
  have hl : lv_has ls 3 [(0, .ref v), (1, .ref x)] := hl
  refine lv_aload_n hx hb dJ1_equals_b5fdf_0 rfl (lv_at hl 0 rfl) ?_
  refine va_alen hx hb hK hP 0 0 rfl rfl (v := (nI n)) rfl dJ1_equals_b5fdf_1 ?_
  refine lv_aload_n hx hb dJ1_equals_b5fdf_2 rfl (lv_at hl 1 rfl) ?_
  refine va_alen hx hb hK hP 1 0 rfl rfl (v := (nI n)) rfl dJ1_equals_b5fdf_3 ?_
  refine lv_icmp_ne (tgt := 34) hx hb dJ1_equals_b5fdf_4 (by decide) (fun c9 => absurd rfl c9) (fun c9 => ?_)
  refine lv_iconst (v := 0) hx hb dJ1_equals_b5fdf_7 (by decide) ?_
  refine lv_istore_n (lv' := [(2, .int 0), (0, .ref v), (1, .ref x)]) hx hb dJ1_equals_b5fdf_8 rfl hl (by decide) rfl (fun ls hl => ?_)
  have loop : ∀ (d k : Nat) (ls : Array Slot), k + d = n → lv_has ls 3 [(0, .ref v), (1, .ref x), (2, .int (nI k))] → W p l e (headSpec wsJ1_equals_b5fdf ({ frames := 0, cells := 0, slots := 0, locals := 0 } : Room)).room s m ([.ref v, .ref x]).toArray below meth c s.heap [] 0 0 (MQ below (va_Qi (fun (r : Int32) (u : Unit) => r = 1) (fun (u : Unit) t => xW (dC, dI) xCl [(v, eY cB n f), (x, eY cB n g)] A t) A) ([.ref v, .ref x]).toArray s 0 0 A) (F0 m 9 ls []) := by
    intro d
    induction d with
    | zero =>
      intro k ls hk hl
      refine lv_iload_n hx hb dJ1_equals_b5fdf_9 rfl (lv_at hl 2 rfl) ?_
      refine lv_aload_n hx hb dJ1_equals_b5fdf_10 rfl (lv_at hl 0 rfl) ?_
      refine va_alen hx hb hK hP 0 0 rfl rfl (v := (nI n)) rfl dJ1_equals_b5fdf_11 ?_
      refine lv_icmp_ge (tgt := 32) hx hb dJ1_equals_b5fdf_12 (by decide) (fun c9 => ?_) (fun c9 => absurd ((nI_leI (by omega) (by omega)).mpr (by omega)) c9)
      refine lv_iconst (v := 1) hx hb dJ1_equals_b5fdf_32 (by decide) ?_
      have hP := hP.sub (ws' := [(v, eY cB n f), (x, eY cB n g)]) [0, 1] rfl
      have hD := hD.sub (ws' := [(v, eY cB n f), (x, eY cB n g)]) [0, 1] (by decide) rfl
      refine W.widen (k := 0) (n := 0) (by omega) (by omega) ?_
      exact W.zret (v := 1) (ty := .boolean) hx hb hr rfl (fun t ht hW => ⟨⟨_, (), rfl, rfl, by rw [ht]; exact hP, hD⟩, hS.F ht⟩) hS.2.2 dJ1_equals_b5fdf_33
    | succ d ih =>
      intro k ls hk hl
      refine lv_iload_n hx hb dJ1_equals_b5fdf_9 rfl (lv_at hl 2 rfl) ?_
      refine lv_aload_n hx hb dJ1_equals_b5fdf_10 rfl (lv_at hl 0 rfl) ?_
      refine va_alen hx hb hK hP 0 0 rfl rfl (v := (nI n)) rfl dJ1_equals_b5fdf_11 ?_
      refine lv_icmp_ge (tgt := 32) hx hb dJ1_equals_b5fdf_12 (by decide) (fun c9 => absurd c9 (nI_ge (by omega) (by omega))) (fun c9 => ?_)
      refine lv_aload_n hx hb dJ1_equals_b5fdf_15 rfl (lv_at hl 0 rfl) ?_
      refine lv_iload_n hx hb dJ1_equals_b5fdf_16 rfl (lv_at hl 2 rfl) ?_
      refine va_bald hx hb hK hP 0 0 (f := f) rfl rfl (vp_in_nI (n := k) (N := n) (by omega) (by omega)) dJ1_equals_b5fdf_17 ?_
      refine lv_aload_n hx hb dJ1_equals_b5fdf_18 rfl (lv_at hl 1 rfl) ?_
      refine lv_iload_n hx hb dJ1_equals_b5fdf_19 rfl (lv_at hl 2 rfl) ?_
      refine va_bald hx hb hK hP 1 0 (f := g) rfl rfl (vp_in_nI (n := k) (N := n) (by omega) (by omega)) dJ1_equals_b5fdf_20 ?_
      refine lv_icmp_eq (tgt := 26) hx hb dJ1_equals_b5fdf_21 (by decide) (fun c9 => ?_) (fun c9 => absurd (by rw [nI_clamp (by omega)]; exact he k (by omega)) c9)
      refine lv_iinc (v := (nI (k + 1))) (lv' := [(2, .int (nI (k + 1))), (0, .ref v), (1, .ref x)]) hx hb dJ1_equals_b5fdf_26 hl (k := 2) rfl (nI_1 k) (by decide) rfl (fun ls hl => ?_)
      refine lv_goto (tgt := 9) hx hb dJ1_equals_b5fdf_29 (by decide) ?_
      exact ih (k + 1) _ (by omega) (lv_sub hl [1, 2, 0] rfl)
  exact loop n 0 _ (by omega) (lv_sub hl [1, 2, 0] rfl)
set_option maxRecDepth 20000 in
theorem ggJ0_equals_9ea2d_J1_equals_b5fdf : GoodIn wsJ0_equals_9ea2d wsJ1_equals_b5fdf := goodIn_r _ [8] (by decide +kernel) (by decide +kernel)
theorem cl_J0_equals_9ea2d_1 : ∀ w ∈ [.classLink RJ0 10 "java/lang/String", .fieldLink RJ0 38 "java/lang/String" "COMPACT_STRINGS" "Z", .fieldLink RJ0 15 "java/lang/String" "coder" "B", .fieldLink RJ0 9 "java/lang/String" "value" "[B", .methodLink RJ0 541 yJ1_equals_b5fdf, .static yJ1_equals_b5fdf, .initialized RJ1, .code yJ1_equals_b5fdf cJ1_equals_b5fdf 3 (some .boolean)], w ∈ wsJ0_equals_9ea2d := fun _ h => (List.mem_cons_of_mem _ (List.mem_append_left _ h))
theorem cl_J0_equals_9ea2d_2 : ∀ w ∈ wsJ00, w ∈ wsJ0_equals_9ea2d := fun _ h => (List.mem_cons_of_mem _ (List.mem_append_right _ h))
set_option maxRecDepth 20000 in
theorem gJ0_equals_9ea2d_J1_equals_b5fdf : GoodIn wsJ0_equals_9ea2d (va_wsS RJ0 541 yJ1_equals_b5fdf wsJ1_equals_b5fdf) := goodIn_app (goodIn_sub (List.forall_mem_cons.mpr ⟨(cl_J0_equals_9ea2d_1 _ (List.mem_of_getElem? (i := 4) rfl)), List.forall_mem_cons.mpr ⟨(cl_J0_equals_9ea2d_1 _ (List.mem_of_getElem? (i := 5) rfl)), List.forall_mem_cons.mpr ⟨(cl_J0_equals_9ea2d_1 _ (List.mem_of_getElem? (i := 6) rfl)), fun _ h => absurd h List.not_mem_nil⟩⟩⟩) (by decide +kernel)) ggJ0_equals_9ea2d_J1_equals_b5fdf
noncomputable def dz_p26e_2 : List (Nat × Instr × Nat) := [(0, (.aload_n 0, 1)), (1, (.aload_n 1, 1)), (2, (.if_acmp .ne 5, 3)), (5, (.iconst 1, 1)), (6, (.ireturn, 1)), (7, (.aload_n 1, 1)), (8, (.instanceof 10, 3)), (11, (.ifCond .eq 43, 3)), (14, (.aload_n 1, 1)), (15, (.checkcast 10, 3)), (18, (.astore_n 2, 1)), (19, (.getstatic 38, 3)), (22, (.ifCond .eq 14, 3)), (25, (.aload_n 0, 1)), (26, (.getfield 15, 3)), (29, (.aload_n 2, 1)), (30, (.getfield 15, 3)), (33, (.if_icmp .ne 21, 3)), (36, (.aload_n 0, 1)), (37, (.getfield 9, 3)), (40, (.aload_n 2, 1)), (41, (.getfield 9, 3)), (44, (.invokestatic 541, 3)), (47, (.ifCond .eq 7, 3)), (50, (.iconst 1, 1)), (51, (.goto 4, 3)), (54, (.iconst 0, 1)), (55, (.ireturn, 1))]
theorem dy_p26e_2 : dz_ok cJ0_equals_9ea2d dz_p26e_2 = true := by decide +kernel
theorem dJ0_equals_9ea2d_0 : decode cJ0_equals_9ea2d 0 = .ok (.aload_n 0, 1) := dz_at (i := 0) dy_p26e_2 rfl
theorem dJ0_equals_9ea2d_1 : decode cJ0_equals_9ea2d 1 = .ok (.aload_n 1, 1) := dz_at (i := 1) dy_p26e_2 rfl
theorem dJ0_equals_9ea2d_2 : decode cJ0_equals_9ea2d 2 = .ok (.if_acmp .ne 5, 3) := dz_at (i := 2) dy_p26e_2 rfl
theorem dJ0_equals_9ea2d_5 : decode cJ0_equals_9ea2d 5 = .ok (.iconst 1, 1) := dz_at (i := 3) dy_p26e_2 rfl
theorem dJ0_equals_9ea2d_6 : decode cJ0_equals_9ea2d 6 = .ok (.ireturn, 1) := dz_at (i := 4) dy_p26e_2 rfl
theorem dJ0_equals_9ea2d_7 : decode cJ0_equals_9ea2d 7 = .ok (.aload_n 1, 1) := dz_at (i := 5) dy_p26e_2 rfl
theorem dJ0_equals_9ea2d_8 : decode cJ0_equals_9ea2d 8 = .ok (.instanceof 10, 3) := dz_at (i := 6) dy_p26e_2 rfl
theorem dJ0_equals_9ea2d_11 : decode cJ0_equals_9ea2d 11 = .ok (.ifCond .eq 43, 3) := dz_at (i := 7) dy_p26e_2 rfl
theorem dJ0_equals_9ea2d_14 : decode cJ0_equals_9ea2d 14 = .ok (.aload_n 1, 1) := dz_at (i := 8) dy_p26e_2 rfl
theorem dJ0_equals_9ea2d_15 : decode cJ0_equals_9ea2d 15 = .ok (.checkcast 10, 3) := dz_at (i := 9) dy_p26e_2 rfl
theorem dJ0_equals_9ea2d_18 : decode cJ0_equals_9ea2d 18 = .ok (.astore_n 2, 1) := dz_at (i := 10) dy_p26e_2 rfl
theorem dJ0_equals_9ea2d_19 : decode cJ0_equals_9ea2d 19 = .ok (.getstatic 38, 3) := dz_at (i := 11) dy_p26e_2 rfl
theorem dJ0_equals_9ea2d_22 : decode cJ0_equals_9ea2d 22 = .ok (.ifCond .eq 14, 3) := dz_at (i := 12) dy_p26e_2 rfl
theorem dJ0_equals_9ea2d_25 : decode cJ0_equals_9ea2d 25 = .ok (.aload_n 0, 1) := dz_at (i := 13) dy_p26e_2 rfl
theorem dJ0_equals_9ea2d_26 : decode cJ0_equals_9ea2d 26 = .ok (.getfield 15, 3) := dz_at (i := 14) dy_p26e_2 rfl
theorem dJ0_equals_9ea2d_29 : decode cJ0_equals_9ea2d 29 = .ok (.aload_n 2, 1) := dz_at (i := 15) dy_p26e_2 rfl
theorem dJ0_equals_9ea2d_30 : decode cJ0_equals_9ea2d 30 = .ok (.getfield 15, 3) := dz_at (i := 16) dy_p26e_2 rfl
theorem dJ0_equals_9ea2d_33 : decode cJ0_equals_9ea2d 33 = .ok (.if_icmp .ne 21, 3) := dz_at (i := 17) dy_p26e_2 rfl
theorem dJ0_equals_9ea2d_36 : decode cJ0_equals_9ea2d 36 = .ok (.aload_n 0, 1) := dz_at (i := 18) dy_p26e_2 rfl
theorem dJ0_equals_9ea2d_37 : decode cJ0_equals_9ea2d 37 = .ok (.getfield 9, 3) := dz_at (i := 19) dy_p26e_2 rfl
theorem dJ0_equals_9ea2d_40 : decode cJ0_equals_9ea2d 40 = .ok (.aload_n 2, 1) := dz_at (i := 20) dy_p26e_2 rfl
theorem dJ0_equals_9ea2d_41 : decode cJ0_equals_9ea2d 41 = .ok (.getfield 9, 3) := dz_at (i := 21) dy_p26e_2 rfl
theorem dJ0_equals_9ea2d_44 : decode cJ0_equals_9ea2d 44 = .ok (.invokestatic 541, 3) := dz_at (i := 22) dy_p26e_2 rfl
theorem dJ0_equals_9ea2d_47 : decode cJ0_equals_9ea2d 47 = .ok (.ifCond .eq 7, 3) := dz_at (i := 23) dy_p26e_2 rfl
theorem dJ0_equals_9ea2d_50 : decode cJ0_equals_9ea2d 50 = .ok (.iconst 1, 1) := dz_at (i := 24) dy_p26e_2 rfl
theorem dJ0_equals_9ea2d_51 : decode cJ0_equals_9ea2d 51 = .ok (.goto 4, 3) := dz_at (i := 25) dy_p26e_2 rfl
theorem dJ0_equals_9ea2d_54 : decode cJ0_equals_9ea2d 54 = .ok (.iconst 0, 1) := dz_at (i := 26) dy_p26e_2 rfl
theorem dJ0_equals_9ea2d_55 : decode cJ0_equals_9ea2d 55 = .ok (.ireturn, 1) := dz_at (i := 27) dy_p26e_2 rfl
set_option maxHeartbeats 4000000 in
set_option maxRecDepth 100000 in
theorem kk_J0_equals_9ea2d (l : Launch) (dC : Nat → ClassId) (dI : Nat → Nat → Nat) (cB : ClassId) (a : Nat) (a2 : Nat) (v : Nat) (x : Nat) (n : Nat) (f : Nat → Int32) (g : Nat → Int32) (sz N : Nat) (hn : n ≤ 34) (he : ∀ i, i < n → f i = g i) : Met l yJ0_equals_9ea2d wsJ0_equals_9ea2d ({ frames := 1, cells := 0, slots := 0, locals := 22 }) (va_Pc [.ref a, .ref a2] (xT (dC, dI) xCl [(a, .inr (0, [.ref v, .int 0, .int 0, .int 0])), (v, eY cB n f), (a2, .inr (0, [.ref x, .int 0, .int 0, .int 0])), (x, eY cB n g)] [(cB, .byte)] sz N)) (va_Qi (fun (r : Int32) (u : Unit) => r = 1) (fun (u : Unit) t => xW (dC, dI) xCl [(a, .inr (0, [.ref v, .int 0, .int 0, .int 0])), (v, eY cB n f), (a2, .inr (0, [.ref x, .int 0, .int 0, .int 0])), (x, eY cB n g)] (va_A [(a, .inr (0, [.ref v, .int 0, .int 0, .int 0])), (v, eY cB n f), (a2, .inr (0, [.ref x, .int 0, .int 0, .int 0])), (x, eY cB n g)] sz) t) (va_A [(a, .inr (0, [.ref v, .int 0, .int 0, .int 0])), (v, eY cB n f), (a2, .inr (0, [.ref x, .int 0, .int 0, .int 0])), (x, eY cB n g)] sz)) 0 0 (va_A [(a, .inr (0, [.ref v, .int 0, .int 0, .int 0])), (v, eY cB n f), (a2, .inr (0, [.ref x, .int 0, .int 0, .int 0])), (x, eY cB n g)] sz) := by
  refine Met.ofW (cc := cJ0_equals_9ea2d) (maxL := 3) (ret := (some .boolean)) (by decide +kernel) rfl ?_
  intro p e s m args below meth c s₁ B hml hv
  obtain ⟨rfl, ⟨hsz, hP, hK, hD0, hN, hG⟩, hT⟩ := hv
  have hx := B.exec
  have hb := B.bytes
  have hr := B.returns
  have hts := atoms_spec (ws := wsJ0_equals_9ea2d) B.pre
  have hown : s.vm.findClass RJ0 = some m.cls := findClass_of_methodNamed B.named
  have hlocks := B.notSynchronized
  subst hsz
  have hAN : ∀ q, va_A [(a, .inr (0, [.ref v, .int 0, .int 0, .int 0])), (v, eY cB n f), (a2, .inr (0, [.ref x, .int 0, .int 0, .int 0])), (x, eY cB n g)] s.heap.size q → N ≤ q := xA_N hD0 hN
  have hD := hD0.self (sz := s.heap.size)
  generalize hAe : va_A [(a, .inr (0, [.ref v, .int 0, .int 0, .int 0])), (v, eY cB n f), (a2, .inr (0, [.ref x, .int 0, .int 0, .int 0])), (x, eY cB n g)] s.heap.size = A at hD hAN ⊢
  have hA : ∀ q : Nat, s.heap.size ≤ q → A q := fun q h => by rw [← hAe]; exact Or.inr h
  have hS : va_S A s.heap s.heap [] := va_S.rf
  have hP : va_P (dC, dI) xCl [(a, .inr (0, [.ref v, .int 0, .int 0, .int 0])), (v, eY cB n f), (a2, .inr (0, [.ref x, .int 0, .int 0, .int 0])), (x, eY cB n g)] s.heap := hP
  obtain ⟨hTc, ⟨tO, tT, fO, fT, hTo, hTt, hTa, hTb, hTf, hTg⟩, ⟨adK, adV, hTs, hTr0, hTr1, hTr2⟩, ⟨aE, hTe⟩, hTn⟩ := id hT
  have hl := lv_entry ([.ref a, .ref a2]) (n := 3) (Nat.le_of_ble_eq_true rfl)
  rw [lg_entry_eq]
  generalize (lg_sl ([.ref a, .ref a2]) ++ List.replicate (3 - (lg_sl ([.ref a, .ref a2])).length) Slot.unset).toArray = ls at hl ⊢
  have hl : lv_has ls 3 [(0, .ref a), (1, .ref a2)] := hl
  refine lv_aload_n hx hb dJ0_equals_9ea2d_0 rfl (lv_at hl 0 rfl) ?_
  refine lv_aload_n hx hb dJ0_equals_9ea2d_1 rfl (lv_at hl 1 rfl) ?_
  refine lv_acmp_ne (rx := some a) (ry := some a2) (tgt := 7) hx hb dJ0_equals_9ea2d_2 (by decide) (fun _ => ?_) (fun _ => ?_)
  · skip
    refine lv_aload_n hx hb dJ0_equals_9ea2d_7 rfl (lv_at hl 1 rfl) ?_
    refine va_instS hx hb hown (hts (.classLink RJ0 10 "java/lang/String") (by decide +kernel)) (hK.1 0 _ rfl).2 (va_recv (q0 := 2) (ci := 0) hK hP rfl rfl) dJ0_equals_9ea2d_8 ?_
    refine lv_if_eq (tgt := 54) hx hb dJ0_equals_9ea2d_11 (by decide) (fun c9 => absurd c9 (by decide)) (fun _ => ?_)
    refine lv_aload_n hx hb dJ0_equals_9ea2d_14 rfl (lv_at hl 1 rfl) ?_
    refine va_castS hx hb hown (hts (.classLink RJ0 10 "java/lang/String") (by decide +kernel)) (hK.1 0 _ rfl).2 (va_recv (q0 := 2) (ci := 0) hK hP rfl rfl) dJ0_equals_9ea2d_15 ?_
    refine lv_astore_n (lv' := [(2, .ref a2), (0, .ref a), (1, .ref a2)]) hx hb dJ0_equals_9ea2d_18 rfl hl (by decide) rfl (fun ls hl => ?_)
    refine va_gets hx hb (va_Z.narrow hTc hAN) hS hown (hts (.fieldLink RJ0 38 "java/lang/String" "COMPACT_STRINGS" "Z") (by decide +kernel)) (fun _ h9 => h9) dJ0_equals_9ea2d_19 ?_
    refine lv_if_eq (tgt := 36) hx hb dJ0_equals_9ea2d_22 (by decide) (fun c9 => absurd c9 (by decide)) (fun _ => ?_)
    refine lv_aload_n hx hb dJ0_equals_9ea2d_25 rfl (lv_at hl 1 rfl) ?_
    refine va_get (D := (dC, dI)) (ci := 0) (v := .int 0) (C := RJ0) (T := TJ0) (N := 4) hx hb hts (by decide +kernel) hown hK hP 0 rfl rfl 1 (by decide) (hts (.fieldLink RJ0 15 "java/lang/String" "coder" "B") (by decide +kernel)) (fun _ h9 => h9) rfl dJ0_equals_9ea2d_26 ?_
    refine lv_aload_n hx hb dJ0_equals_9ea2d_29 rfl (lv_at hl 0 rfl) ?_
    refine va_get (D := (dC, dI)) (ci := 0) (v := .int 0) (C := RJ0) (T := TJ0) (N := 4) hx hb hts (by decide +kernel) hown hK hP 2 rfl rfl 1 (by decide) (hts (.fieldLink RJ0 15 "java/lang/String" "coder" "B") (by decide +kernel)) (fun _ h9 => h9) rfl dJ0_equals_9ea2d_30 ?_
    refine lv_icmp_ne (tgt := 54) hx hb dJ0_equals_9ea2d_33 (by decide) (fun c9 => absurd c9 (by decide)) (fun _ => ?_)
    refine lv_aload_n hx hb dJ0_equals_9ea2d_36 rfl (lv_at hl 1 rfl) ?_
    refine va_get (D := (dC, dI)) (ci := 0) (v := .ref v) (C := RJ0) (T := TJ0) (N := 4) hx hb hts (by decide +kernel) hown hK hP 0 rfl rfl 0 (by decide) (hts (.fieldLink RJ0 9 "java/lang/String" "value" "[B") (by decide +kernel)) (fun _ h9 => h9) rfl dJ0_equals_9ea2d_37 ?_
    refine lv_aload_n hx hb dJ0_equals_9ea2d_40 rfl (lv_at hl 0 rfl) ?_
    refine va_get (D := (dC, dI)) (ci := 0) (v := .ref x) (C := RJ0) (T := TJ0) (N := 4) hx hb hts (by decide +kernel) hown hK hP 2 rfl rfl 0 (by decide) (hts (.fieldLink RJ0 9 "java/lang/String" "value" "[B") (by decide +kernel)) (fun _ h9 => h9) rfl dJ0_equals_9ea2d_41 ?_
    have hPc := hP.sub (ws' := [(v, eY cB n f), (x, eY cB n g)]) [1, 3] rfl
    have hDc := hD.sub (ws' := [(v, eY cB n f), (x, eY cB n g)]) [1, 3] (by decide) rfl
    have hKc := hK.sub (tys' := [(cB, .byte)]) [0] rfl
    have hFc := va_free (wc := [(v, eY cB n f), (x, eY cB n g)]) hD hS hA [1, 3] rfl
    refine va_calli (va_runS (As := [.ref v, .ref x]) (rest := []) ⟨hx, hb, hml, hown, hts⟩ (kk_J1_equals_b5fdf l dC dI cB v x n f g s.heap.size N hn he) (va_cwS 2 hts gJ0_equals_9ea2d_J1_equals_b5fdf rfl rfl rfl (by decide +kernel) ⟨Nat.le_of_ble_eq_true rfl, Nat.le_of_ble_eq_true rfl⟩) (xT.preS hKc hPc hDc hAN (Nat.le_trans hN hS.1) (hG.kept hS hAN) (hT.kept hS hAN)) rfl rfl hl.1 rfl (lv_room (Nat.le_of_ble_eq_true rfl)) dJ0_equals_9ea2d_44 ⟨(show _ ≤ 0 by omega), (show _ ≤ 0 by omega)⟩) hS (fun q _ h => hFc q h) hFc (fun r_1 u_2 t H locs ht hvm hw hB hz hk hS => ?_)
    obtain ⟨hP1, hD1⟩ := hB
    rw [ht] at hP1
    obtain ⟨hP, hD⟩ := va_join (wr := [(a, .inr (0, [.ref v, .int 0, .int 0, .int 0])), (a2, .inr (0, [.ref x, .int 0, .int 0, .int 0]))]) (w1 := [(v, eY cB n f), (x, eY cB n g)]) hP hD [1, 3] [0, 2] rfl rfl (by decide) (by decide) hk hFc hP1 hD1
    have hP : va_P (dC, dI) xCl [(a, .inr (0, [.ref v, .int 0, .int 0, .int 0])), (a2, .inr (0, [.ref x, .int 0, .int 0, .int 0])), (v, eY cB n f), (x, eY cB n g)] H := hP
    have hD : va_D A [(a, .inr (0, [.ref v, .int 0, .int 0, .int 0])), (a2, .inr (0, [.ref x, .int 0, .int 0, .int 0])), (v, eY cB n f), (x, eY cB n g)] := hD
    have hw : r_1 = 1 := hw
    rw [hw]
    refine lv_if_eq (tgt := 54) hx hb dJ0_equals_9ea2d_47 (by decide) (fun c9 => absurd c9 (by decide)) (fun _ => ?_)
    refine lv_iconst (v := 1) hx hb dJ0_equals_9ea2d_50 (by decide) ?_
    refine lv_goto (tgt := 55) hx hb dJ0_equals_9ea2d_51 (by decide) ?_
    have hP := hP.sub (ws' := [(a, .inr (0, [.ref v, .int 0, .int 0, .int 0])), (v, eY cB n f), (a2, .inr (0, [.ref x, .int 0, .int 0, .int 0])), (x, eY cB n g)]) [0, 2, 1, 3] rfl
    have hD := hD.sub (ws' := [(a, .inr (0, [.ref v, .int 0, .int 0, .int 0])), (v, eY cB n f), (a2, .inr (0, [.ref x, .int 0, .int 0, .int 0])), (x, eY cB n g)]) [0, 2, 1, 3] (by decide) rfl
    refine W.widen (k := 0) (n := 0) (by omega) (by omega) ?_
    exact W.zret (v := 1) (ty := .boolean) hx hb hr rfl (fun t ht hW => ⟨⟨_, (), rfl, rfl, by rw [ht]; exact hP, hD⟩, hS.F ht⟩) hS.2.2 dJ0_equals_9ea2d_55
  · skip
    refine lv_iconst (v := 1) hx hb dJ0_equals_9ea2d_5 (by decide) ?_
    have hP := hP.sub (ws' := [(a, .inr (0, [.ref v, .int 0, .int 0, .int 0])), (v, eY cB n f), (a2, .inr (0, [.ref x, .int 0, .int 0, .int 0])), (x, eY cB n g)]) [0, 1, 2, 3] rfl
    have hD := hD.sub (ws' := [(a, .inr (0, [.ref v, .int 0, .int 0, .int 0])), (v, eY cB n f), (a2, .inr (0, [.ref x, .int 0, .int 0, .int 0])), (x, eY cB n g)]) [0, 1, 2, 3] (by decide) rfl
    refine W.widen (k := 0) (n := 0) (by omega) (by omega) ?_
    exact W.zret (v := 1) (ty := .boolean) hx hb hr rfl (fun t ht hW => ⟨⟨_, (), rfl, rfl, by rw [ht]; exact hP, hD⟩, hS.F ht⟩) hS.2.2 dJ0_equals_9ea2d_6
