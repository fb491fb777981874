set_option maxRecDepth 20000 in
theorem ggX0_text_X2_checkCell : GoodIn wsX0_text wsX2_checkCell := goodIn_ca (goodIn_r _ [5, 6, 7] (by decide +kernel) (by decide +kernel)) (goodIn_sub (fun _ h => List.mem_cons_of_mem _ (List.mem_append_right _ h)) (by decide +kernel))
set_option maxRecDepth 20000 in
theorem gX0_text_X2_checkCell_n22 : GoodIn wsX0_text (wsX2_checkCell) := ggX0_text_X2_checkCell
set_option maxRecDepth 20000 in
theorem ggX0_text_X1_text : GoodIn wsX0_text wsX1_text := goodIn_r _ [12, 13, 14, 15, 16, 17, 18, 19, 20, 21, 22, 23, 24, 25, 26, 27, 28, 29, 30, 31, 32, 33, 34, 35, 36, 37, 38, 39, 40, 11, 41, 42, 43, 44, 45, 46, 47, 48, 49, 50, 51, 52, 53, 54, 55, 56, 57, 58, 59, 60, 61, 62, 63, 64, 65, 66, 67, 68, 69, 70, 71, 72, 73, 74, 75, 76, 77, 78, 79, 80, 81, 82, 83, 84, 85, 86, 87, 88, 89, 90, 91, 92, 93, 94, 95, 96, 97, 98, 99, 100, 101, 102, 103, 104, 105, 106, 107, 108, 109, 110, 111, 112, 113, 114, 115, 116, 117, 118, 119, 120, 121, 122, 123, 124, 125, 126, 127, 128, 129, 130, 131, 132, 133, 134, 135, 136, 137, 138, 139, 140, 141, 142, 143, 144, 145, 146, 147, 148, 149, 150, 151, 152, 153, 154, 155, 156, 157, 158, 159, 160, 161, 162, 163, 164, 165, 166, 167, 168, 169, 170, 171, 172, 173, 174, 175, 176, 177, 178, 179, 180, 181, 182, 183, 184, 185, 186, 187, 188, 189, 190, 191, 192, 193, 194, 195, 196, 197, 198, 199, 200, 201, 202, 203, 204, 205, 206, 207, 208, 209, 210, 211, 212, 213, 214, 215, 216, 217, 218, 219, 220, 221, 222, 223, 224, 225, 226, 227, 228, 229, 230, 231, 232, 233, 234, 235, 236, 237, 238, 239, 240, 241, 242, 243, 244, 245, 246, 247, 248, 249, 250, 251, 257, 258, 259, 260, 261, 262, 263, 264, 265, 266, 267, 268, 269, 270, 271] (by decide +kernel) (by decide +kernel)
set_option maxRecDepth 20000 in
theorem gX0_text_X1_text : GoodIn wsX0_text (wsV RX0 96 RX1 yX1_text wsX1_text) := goodIn_app (goodIn_of _ (by decide +kernel)) ggX0_text_X1_text
theorem dX0_text_0 : decode cX0_text 0 = .ok (.iload_n 1, 1) := by decide +kernel
theorem dX0_text_1 : decode cX0_text 1 = .ok (.invokestatic 22, 3) := by decide +kernel
theorem dX0_text_4 : decode cX0_text 4 = .ok (.aload_n 0, 1) := by decide +kernel
theorem dX0_text_5 : decode cX0_text 5 = .ok (.getfield 9, 3) := by decide +kernel
theorem dX0_text_8 : decode cX0_text 8 = .ok (.aload_n 0, 1) := by decide +kernel
theorem dX0_text_9 : decode cX0_text 9 = .ok (.getfield 15, 3) := by decide +kernel
theorem dX0_text_12 : decode cX0_text 12 = .ok (.iload_n 1, 1) := by decide +kernel
theorem dX0_text_13 : decode cX0_text 13 = .ok (.laload, 1) := by decide +kernel
theorem dX0_text_14 : decode cX0_text 14 = .ok (.invokevirtual 96, 3) := by decide +kernel
theorem dX0_text_17 : decode cX0_text 17 = .ok (.areturn, 1) := by decide +kernel
set_option maxHeartbeats 4000000 in
set_option maxRecDepth 100000 in
theorem k_X0_text (l : Launch) (hfl : l.flags = flags0) (dC : Nat → ClassId) (dI : Nat → Nat → Nat) (cy cB : ClassId) (h0 aw ac ab : Nat) (w : Bool) (a rv : Int32) (f g : Nat → Int64) (sz N : Nat) (p0 : Int32) (hokf : okF w f) : vx_Met l yX0_text wsX0_text ({ frames := 8, cells := 20, slots := 600, locals := 237 }) (va_Pc [.ref h0, .int p0] (xT (dC, dI) xCl [(h0, eR aw ac ab a rv), (aw, eW w), (ac, eA cy f), (ab, eA cy g)] [(cy, .long), (cB, .byte)] sz N)) (va_Qr (fun (_ : Unit) => (o_X2_checkCell p0) = 0) (fun _ _ t => xW (dC, dI) xCl [(h0, eR aw ac ab a rv), (aw, eW w), (ac, eA cy f), (ab, eA cy g)] (va_A [(h0, eR aw ac ab a rv), (aw, eW w), (ac, eA cy f), (ab, eA cy g)] sz) t) (va_A [(h0, eR aw ac ab a rv), (aw, eW w), (ac, eA cy f), (ab, eA cy g)] sz)) (vx_X (fun _ : Unit => ¬ (o_X2_checkCell p0) = 0) (fun E _ t => E = xE (o_X2_checkCell p0) ∧ xW (dC, dI) xCl [(h0, eR aw ac ab a rv), (aw, eW w), (ac, eA cy f), (ab, eA cy g)] (va_A [(h0, eR aw ac ab a rv), (aw, eW w), (ac, eA cy f), (ab, eA cy g)] sz) t) (va_A [(h0, eR aw ac ab a rv), (aw, eW w), (ac, eA cy f), (ab, eA cy g)] sz)) 20 600 (va_A [(h0, eR aw ac ab a rv), (aw, eW w), (ac, eA cy f), (ab, eA cy g)] sz) := by
  refine vx_ofW (cc := cX0_text) (maxL := 2) (ret := (some (.object "java/lang/String"))) (by decide +kernel) rfl ?_
  intro p e s m args below meth c s₁ B hml hno hv
  obtain ⟨rfl, ⟨hsz, hP, hK, hD0, hN, hG⟩, hT⟩ := hv
  have hx := B.exec
  have hb := B.bytes
  have hr := B.returns
  have hts := atoms_spec (ws := wsX0_text) B.pre
  have hown : s.vm.findClass RX0 = some m.cls := findClass_of_methodNamed B.named
  have hlocks := B.notSynchronized
  subst hsz
  have hAN : ∀ q, va_A [(h0, eR aw ac ab a rv), (aw, eW w), (ac, eA cy f), (ab, eA cy g)] s.heap.size q → N ≤ q := xA_N hD0 hN
  have hD := hD0.self (sz := s.heap.size)
  generalize hAe : va_A [(h0, eR aw ac ab a rv), (aw, eW w), (ac, eA cy f), (ab, eA cy g)] s.heap.size = A at hD hAN ⊢
  have hA : ∀ q : Nat, s.heap.size ≤ q → A q := fun q h => by rw [← hAe]; exact Or.inr h
  have hS : va_S A s.heap s.heap [] := va_S.rf
  have hP : va_P (dC, dI) xCl [(h0, eR aw ac ab a rv), (aw, eW w), (ac, eA cy f), (ab, eA cy g)] s.heap := hP
  have hl := lv_entry ([.ref h0, .int p0]) (n := 2) (Nat.le_of_ble_eq_true rfl)
  rw [lg_entry_eq]
  generalize (lg_sl ([.ref h0, .int p0]) ++ List.replicate (2 - (lg_sl ([.ref h0, .int p0])).length) Slot.unset).toArray = ls at hl ⊢
  have hl : lv_has ls 2 [(0, .ref h0), (1, .int p0)] := hl
  refine lv_iload_n hx hb dX0_text_0 rfl (lv_at hl 1 rfl) ?_
  have hPc := hP.sub (ws' := []) [] rfl
  have hDc := hD.sub (ws' := []) [] (by decide) rfl
  have hKc := hK.sub (tys' := []) [] rfl
  refine vx_callv (vx_runSN (As := [.int p0]) (rest := []) ⟨hx, hb, hml, hown, hts⟩ (k_X2_checkCell l hfl dC dI s.heap.size N p0) ⟨va_cnB 1 hts gX0_text_X2_checkCell_n22 rfl rfl rfl (hG.1 (.methodLinkNest RX0 22 yX2_checkCell RX2) (by decide +kernel)) (hts (.initialized RX2) (by decide +kernel)) (by decide +kernel) ⟨Nat.le_of_ble_eq_true rfl, Nat.le_of_ble_eq_true rfl⟩, hts (.static yX2_checkCell) (by decide +kernel), trivial⟩ (xM.preS hKc hPc hDc hAN (Nat.le_trans hN hS.1) (hG.kept hS hAN)) rfl rfl hl.1 rfl (lv_room (Nat.le_of_ble_eq_true rfl)) dX0_text_1 ⟨Nat.le_of_ble_eq_true rfl, Nat.le_of_ble_eq_true rfl⟩) hS xA_old (fun q h => hA q (Nat.le_trans hS.1 h)) xA_old (fun E ce q9 u9 t H locs ht hvm hpx hbx hz hk hS hce hcv hcl => ?_) (fun u t H locs ht hvm hw hB hz hk hS => ?_)
  · have c_2 : ¬ (o_X2_checkCell p0) = 0 := hpx
    have hbe := hbx
    have hP := xP_keep hP hk
    exact vx_out (fun x hx => (hno x hx).elim) hlocks hce hcv hcl (fun t ht hvm => ⟨(), c_2, ⟨hbe, by rw [ht]; exact hP, hD⟩, hS.F ht⟩) hS.2.2 (by omega) (by omega)
  · have c_3 : (o_X2_checkCell p0) = 0 := hw
    have hP := xP_keep hP hk
    refine lv_aload_n hx hb dX0_text_4 rfl (lv_at hl 0 rfl) ?_
    refine va_get (D := (dC, dI)) (ci := 2) (v := .ref aw) (C := RX0) (T := TX0) (N := 5) hx hb hts (by decide +kernel) hown hK hP 0 rfl rfl 0 (by decide) (hts (.fieldLink RX0 9 "Edgefloats$Row" "width" "LEdgefloats$Width;") (by decide +kernel)) (fun _ h9 => h9) rfl dX0_text_5 ?_
    refine lv_aload_n hx hb dX0_text_8 rfl (lv_at hl 0 rfl) ?_
    refine va_get (D := (dC, dI)) (ci := 2) (v := .ref ac) (C := RX0) (T := TX0) (N := 5) hx hb hts (by decide +kernel) hown hK hP 0 rfl rfl 1 (by decide) (hts (.fieldLink RX0 15 "Edgefloats$Row" "cells" "[J") (by decide +kernel)) (fun _ h9 => h9) rfl dX0_text_9 ?_
    refine lv_iload_n hx hb dX0_text_12 rfl (lv_at hl 1 rfl) ?_
    refine xa_lald hx hb hK hP 2 0 (f := f) rfl rfl (k := p0.toNatClampNeg) (xm_cc c_3) rfl dX0_text_13 ?_
    have hPc := hP.sub (ws' := [(aw, eW w)]) [1] rfl
    have hDc := hD.sub (ws' := [(aw, eW w)]) [1] (by decide) rfl
    have hKc := hK.sub (tys' := [(cB, .byte)]) [1] rfl
    have hFc := va_free (wc := [(aw, eW w)]) hD hS hA [1] rfl
    refine va_callr (va_runV (As := [.long (f p0.toNatClampNeg)]) (rest := []) ⟨hx, hb, hml, hown, hts⟩ (k_X1_text l dC dI cB aw w (f p0.toNatClampNeg) H.size N (hokf _ (xm_lt (xm_cc c_3)))) (cwV 1 hts gX0_text_X1_text rfl rfl rfl (by decide +kernel) ⟨Nat.le_of_ble_eq_true rfl, Nat.le_of_ble_eq_true rfl⟩) (xT.preV hKc hPc hDc hAN (Nat.le_trans hN hS.1) (hG.kept hS hAN) (hT.kept hS hAN) (ci := 3) (q0 := 0) rfl rfl) rfl rfl hl.1 rfl (lv_room (Nat.le_of_ble_eq_true rfl)) dX0_text_14 ⟨Nat.le_of_ble_eq_true rfl, Nat.le_of_ble_eq_true rfl⟩) hS (fun q _ h => hFc q h) hFc (fun u r_5 t H locs ht hvm hw hB hz hk hS => ?_)
    obtain ⟨hP1, hD1⟩ := hB
    rw [ht] at hP1
    obtain ⟨hP, hD⟩ := va_join (wr := [(h0, eR aw ac ab a rv), (ac, eA cy f), (ab, eA cy g)]) (w1 := [(aw, eW w)]) hP hD [1] [0, 2, 3] rfl rfl (by decide) (by decide) hk hFc hP1 hD1
    have hP := hP.sub (ws' := [(h0, eR aw ac ab a rv), (aw, eW w), (ac, eA cy f), (ab, eA cy g)]) [0, 3, 1, 2] rfl
    have hD := hD.sub (ws' := [(h0, eR aw ac ab a rv), (aw, eW w), (ac, eA cy f), (ab, eA cy g)]) [0, 3, 1, 2] (by decide) rfl
    refine W.widen (k := 20) (n := 600) (by omega) (by omega) ?_
    refine vx_ret ?_
    exact W.aret (v := .ref r_5) hx hb hr (Or.inl ⟨_, rfl⟩) (Or.inr ⟨_, rfl⟩) (fun t ht hW => ⟨⟨(), _, rfl, c_3, by rw [ht]; exact hP, hD⟩, hS.F ht⟩) hS.2.2 dX0_text_17
set_option maxRecDepth 20000 in
theorem ggX2_wideText_X0_text : GoodIn wsX2_wideText wsX0_text := goodIn_ca (goodIn_r _ [6, 7, 8, 9, 10, 11, 12, 13, 14, 15, 16, 17, 18, 19, 20, 21, 22, 23, 24, 25, 26, 27, 28, 29, 30, 31, 32, 33, 34, 35, 36, 37, 38, 39, 40, 41, 42, 43, 44, 45, 46, 47, 48, 49, 50, 51, 52, 53, 54, 55, 56, 57, 58, 59, 60, 61, 62, 63, 64, 65, 66, 67, 68, 69, 70, 71, 72, 73, 74, 75, 76, 77, 78, 79, 80, 81, 82, 83, 84, 85, 86, 87, 88, 89, 90, 91, 92, 93, 94, 95, 96, 97, 98, 99, 100, 101, 102, 103, 104, 105, 106, 107, 108, 109, 110, 111, 112, 113, 114, 115, 116, 117, 118, 119, 120, 121, 122, 123, 124, 125, 126, 127, 128, 129, 130, 131, 132, 133, 134, 135, 136, 137, 138, 139, 140, 141, 142, 143, 144, 145, 146, 147, 148, 149, 150, 151, 152, 153, 154, 155, 156, 157, 158, 159, 160, 161, 162, 163, 164, 165, 166, 167, 168, 169, 170, 171, 172, 173, 174, 175, 176, 177, 178, 179, 180, 181, 182, 183, 184, 185, 186, 187, 188, 189, 190, 191, 192, 193, 194, 195, 196, 197, 198, 199, 200, 201, 202, 203, 204, 205, 206, 207, 208, 209, 210, 211, 212, 213, 214, 215, 216, 217, 218, 219, 220, 221, 222, 223, 224, 225, 226, 227, 228, 229, 230, 231, 232, 233, 234, 235, 236, 237, 238, 239, 240, 241, 242, 243, 244, 245, 246, 247, 248, 249, 250, 251, 252, 253, 254, 255, 256, 257, 261, 262, 263, 264, 265, 266, 267, 268, 269, 270, 271, 272, 273, 274, 275, 276, 277, 278, 279, 280] (by decide +kernel) (by decide +kernel)) (goodIn_sub (fun _ h => List.mem_cons_of_mem _ (List.mem_append_right _ h)) (by decide +kernel))
set_option maxRecDepth 20000 in
theorem gX2_wideText_X0_text : GoodIn wsX2_wideText (wsV RX2 71 RX0 yX0_text wsX0_text) := goodIn_app (goodIn_of _ (by decide +kernel)) ggX2_wideText_X0_text
theorem dX2_wideText_0 : decode cX2_wideText 0 = .ok (.aload_n 0, 1) := by decide +kernel
theorem dX2_wideText_1 : decode cX2_wideText 1 = .ok (.getfield 20, 3) := by decide +kernel
theorem dX2_wideText_4 : decode cX2_wideText 4 = .ok (.iload_n 1, 1) := by decide +kernel
theorem dX2_wideText_5 : decode cX2_wideText 5 = .ok (.invokevirtual 71, 3) := by decide +kernel
theorem dX2_wideText_8 : decode cX2_wideText 8 = .ok (.areturn, 1) := by decide +kernel
set_option maxHeartbeats 4000000 in
set_option maxRecDepth 100000 in
theorem k_X2_wideText (l : Launch) (hfl : l.flags = flags0) (dC : Nat → ClassId) (dI : Nat → Nat → Nat) (cy cB : ClassId) (h0 : Nat) (h1 : Nat) (hw1 : Nat) (hc1 : Nat) (hb1 : Nat) (h2 : Nat) (hw2 : Nat) (hc2 : Nat) (hb2 : Nat) (a1 : Int32) (r1 : Int32) (f1 : Nat → Int64) (g1 : Nat → Int64) (a2 : Int32) (r2 : Int32) (f2 : Nat → Int64) (g2 : Nat → Int64) (kn : Int32) (sz N : Nat) (p0 : Int32) (hok2 : okF false f2) : vx_Met l yX2_wideText wsX2_wideText ({ frames := 9, cells := 20, slots := 600, locals := 258 }) (va_Pc [.ref h0, .int p0] (xT (dC, dI) xCl [(h0, eE h1 h2 kn), (h1, eR hw1 hc1 hb1 a1 r1), (hw1, eW true), (hc1, eA cy f1), (hb1, eA cy g1), (h2, eR hw2 hc2 hb2 a2 r2), (hw2, eW false), (hc2, eA cy f2), (hb2, eA cy g2)] [(cy, .long), (cB, .byte)] sz N)) (va_Qr (fun (_ : Unit) => (o_X2_checkCell p0) = 0) (fun _ _ t => xW (dC, dI) xCl [(h0, eE h1 h2 kn), (h1, eR hw1 hc1 hb1 a1 r1), (hw1, eW true), (hc1, eA cy f1), (hb1, eA cy g1), (h2, eR hw2 hc2 hb2 a2 r2), (hw2, eW false), (hc2, eA cy f2), (hb2, eA cy g2)] (va_A [(h0, eE h1 h2 kn), (h1, eR hw1 hc1 hb1 a1 r1), (hw1, eW true), (hc1, eA cy f1), (hb1, eA cy g1), (h2, eR hw2 hc2 hb2 a2 r2), (hw2, eW false), (hc2, eA cy f2), (hb2, eA cy g2)] sz) t) (va_A [(h0, eE h1 h2 kn), (h1, eR hw1 hc1 hb1 a1 r1), (hw1, eW true), (hc1, eA cy f1), (hb1, eA cy g1), (h2, eR hw2 hc2 hb2 a2 r2), (hw2, eW false), (hc2, eA cy f2), (hb2, eA cy g2)] sz)) (vx_X (fun _ : Unit => ¬ (o_X2_checkCell p0) = 0) (fun E _ t => E = xE (o_X2_checkCell p0) ∧ xW (dC, dI) xCl [(h0, eE h1 h2 kn), (h1, eR hw1 hc1 hb1 a1 r1), (hw1, eW true), (hc1, eA cy f1), (hb1, eA cy g1), (h2, eR hw2 hc2 hb2 a2 r2), (hw2, eW false), (hc2, eA cy f2), (hb2, eA cy g2)] (va_A [(h0, eE h1 h2 kn), (h1, eR hw1 hc1 hb1 a1 r1), (hw1, eW true), (hc1, eA cy f1), (hb1, eA cy g1), (h2, eR hw2 hc2 hb2 a2 r2), (hw2, eW false), (hc2, eA cy f2), (hb2, eA cy g2)] sz) t) (va_A [(h0, eE h1 h2 kn), (h1, eR hw1 hc1 hb1 a1 r1), (hw1, eW true), (hc1, eA cy f1), (hb1, eA cy g1), (h2, eR hw2 hc2 hb2 a2 r2), (hw2, eW false), (hc2, eA cy f2), (hb2, eA cy g2)] sz)) 20 600 (va_A [(h0, eE h1 h2 kn), (h1, eR hw1 hc1 hb1 a1 r1), (hw1, eW true), (hc1, eA cy f1), (hb1, eA cy g1), (h2, eR hw2 hc2 hb2 a2 r2), (hw2, eW false), (hc2, eA cy f2), (hb2, eA cy g2)] sz) := by
  refine vx_ofW (cc := cX2_wideText) (maxL := 2) (ret := (some (.object "java/lang/String"))) (by decide +kernel) rfl ?_
  intro p e s m args below meth c s₁ B hml hno hv
  obtain ⟨rfl, ⟨hsz, hP, hK, hD0, hN, hG⟩, hT⟩ := hv
  have hx := B.exec
  have hb := B.bytes
  have hr := B.returns
  have hts := atoms_spec (ws := wsX2_wideText) B.pre
  have hown : s.vm.findClass RX2 = some m.cls := findClass_of_methodNamed B.named
  have hlocks := B.notSynchronized
  subst hsz
  have hAN : ∀ q, va_A [(h0, eE h1 h2 kn), (h1, eR hw1 hc1 hb1 a1 r1), (hw1, eW true), (hc1, eA cy f1), (hb1, eA cy g1), (h2, eR hw2 hc2 hb2 a2 r2), (hw2, eW false), (hc2, eA cy f2), (hb2, eA cy g2)] s.heap.size q → N ≤ q := xA_N hD0 hN
  have hD := hD0.self (sz := s.heap.size)
  generalize hAe : va_A [(h0, eE h1 h2 kn), (h1, eR hw1 hc1 hb1 a1 r1), (hw1, eW true), (hc1, eA cy f1), (hb1, eA cy g1), (h2, eR hw2 hc2 hb2 a2 r2), (hw2, eW false), (hc2, eA cy f2), (hb2, eA cy g2)] s.heap.size = A at hD hAN ⊢
  have hA : ∀ q : Nat, s.heap.size ≤ q → A q := fun q h => by rw [← hAe]; exact Or.inr h
  have hS : va_S A s.heap s.heap [] := va_S.rf
  have hP : va_P (dC, dI) xCl [(h0, eE h1 h2 kn), (h1, eR hw1 hc1 hb1 a1 r1), (hw1, eW true), (hc1, eA cy f1), (hb1, eA cy g1), (h2, eR hw2 hc2 hb2 a2 r2), (hw2, eW false), (hc2, eA cy f2), (hb2, eA cy g2)] s.heap := hP
  have hl := lv_entry ([.ref h0, .int p0]) (n := 2) (Nat.le_of_ble_eq_true rfl)
  rw [lg_entry_eq]
  generalize (lg_sl ([.ref h0, .int p0]) ++ List.replicate (2 - (lg_sl ([.ref h0, .int p0])).length) Slot.unset).toArray = ls at hl ⊢
  have hl : lv_has ls 2 [(0, .ref h0), (1, .int p0)] := hl
  refine lv_aload_n hx hb dX2_wideText_0 rfl (lv_at hl 0 rfl) ?_
  refine va_get (D := (dC, dI)) (ci := 4) (v := .ref h1) (C := RX2) (T := TX2) (N := 3) hx hb hts (by decide +kernel) hown hK hP 0 rfl rfl 0 (by decide) (hts (.fieldLink RX2 20 "Edgefloats" "wide" "LEdgefloats$Row;") (by decide +kernel)) (fun _ h9 => h9) rfl dX2_wideText_1 ?_
  refine lv_iload_n hx hb dX2_wideText_4 rfl (lv_at hl 1 rfl) ?_
  have hPc := hP.sub (ws' := [(h1, eR hw1 hc1 hb1 a1 r1), (hw1, eW true), (hc1, eA cy f1), (hb1, eA cy g1)]) [1, 2, 3, 4] rfl
  have hDc := hD.sub (ws' := [(h1, eR hw1 hc1 hb1 a1 r1), (hw1, eW true), (hc1, eA cy f1), (hb1, eA cy g1)]) [1, 2, 3, 4] (by decide) rfl
  have hKc := hK.sub (tys' := [(cy, .long), (cB, .byte)]) [0, 1] rfl
  have hFc := va_free (wc := [(h1, eR hw1 hc1 hb1 a1 r1), (hw1, eW true), (hc1, eA cy f1), (hb1, eA cy g1)]) hD hS hA [1, 2, 3, 4] rfl
  refine vx_callr (vx_runV (As := [.int p0]) (rest := []) ⟨hx, hb, hml, hown, hts⟩ (k_X0_text l hfl dC dI cy cB h1 hw1 hc1 hb1 true a1 r1 f1 g1 s.heap.size N p0 (okF_true _)) (cwV 1 hts gX2_wideText_X0_text rfl rfl rfl (by decide +kernel) ⟨Nat.le_of_ble_eq_true rfl, Nat.le_of_ble_eq_true rfl⟩) (xT.preV hKc hPc hDc hAN (Nat.le_trans hN hS.1) (hG.kept hS hAN) (hT.kept hS hAN) (ci := 2) (q0 := 0) rfl rfl) rfl rfl hl.1 rfl (lv_room (Nat.le_of_ble_eq_true rfl)) dX2_wideText_5 ⟨Nat.le_of_ble_eq_true rfl, Nat.le_of_ble_eq_true rfl⟩) hS (fun q _ h => hFc q h) hFc (fun q _ h => hFc q h) (fun E ce q9 u9 t H locs ht hvm hpx hbx hz hk hS hce hcv hcl => ?_) (fun u r_1 t H locs ht hvm hw hB hz hk hS => ?_)
  · obtain ⟨hbe, hP1, hD1⟩ := hbx
    rw [ht] at hP1
    obtain ⟨hP, hD⟩ := va_join (wr := [(h0, eE h1 h2 kn), (h2, eR hw2 hc2 hb2 a2 r2), (hw2, eW false), (hc2, eA cy f2), (hb2, eA cy g2)]) (w1 := [(h1, eR hw1 hc1 hb1 a1 r1), (hw1, eW true), (hc1, eA cy f1), (hb1, eA cy g1)]) hP hD [1, 2, 3, 4] [0, 5, 6, 7, 8] rfl rfl (by decide) (by decide) hk hFc hP1 hD1
    have hP := hP.sub (ws' := [(h0, eE h1 h2 kn), (h1, eR hw1 hc1 hb1 a1 r1), (hw1, eW true), (hc1, eA cy f1), (hb1, eA cy g1), (h2, eR hw2 hc2 hb2 a2 r2), (hw2, eW false), (hc2, eA cy f2), (hb2, eA cy g2)]) [0, 5, 6, 7, 8, 1, 2, 3, 4] rfl
    have hD := hD.sub (ws' := [(h0, eE h1 h2 kn), (h1, eR hw1 hc1 hb1 a1 r1), (hw1, eW true), (hc1, eA cy f1), (hb1, eA cy g1), (h2, eR hw2 hc2 hb2 a2 r2), (hw2, eW false), (hc2, eA cy f2), (hb2, eA cy g2)]) [0, 5, 6, 7, 8, 1, 2, 3, 4] (by decide) rfl
    exact vx_out (fun x hx => (hno x hx).elim) hlocks hce hcv hcl (fun t ht hvm => ⟨(), hpx, ⟨hbe, by rw [ht]; exact hP, hD⟩, hS.F ht⟩) hS.2.2 (by omega) (by omega)
  · obtain ⟨hP1, hD1⟩ := hB
    rw [ht] at hP1
    obtain ⟨hP, hD⟩ := va_join (wr := [(h0, eE h1 h2 kn), (h2, eR hw2 hc2 hb2 a2 r2), (hw2, eW false), (hc2, eA cy f2), (hb2, eA cy g2)]) (w1 := [(h1, eR hw1 hc1 hb1 a1 r1), (hw1, eW true), (hc1, eA cy f1), (hb1, eA cy g1)]) hP hD [1, 2, 3, 4] [0, 5, 6, 7, 8] rfl rfl (by decide) (by decide) hk hFc hP1 hD1
    have hP := hP.sub (ws' := [(h0, eE h1 h2 kn), (h1, eR hw1 hc1 hb1 a1 r1), (hw1, eW true), (hc1, eA cy f1), (hb1, eA cy g1), (h2, eR hw2 hc2 hb2 a2 r2), (hw2, eW false), (hc2, eA cy f2), (hb2, eA cy g2)]) [0, 5, 6, 7, 8, 1, 2, 3, 4] rfl
    have hD := hD.sub (ws' := [(h0, eE h1 h2 kn), (h1, eR hw1 hc1 hb1 a1 r1), (hw1, eW true), (hc1, eA cy f1), (hb1, eA cy g1), (h2, eR hw2 hc2 hb2 a2 r2), (hw2, eW false), (hc2, eA cy f2), (hb2, eA cy g2)]) [0, 5, 6, 7, 8, 1, 2, 3, 4] (by decide) rfl
    refine W.widen (k := 20) (n := 600) (by omega) (by omega) ?_
    refine vx_ret ?_
    exact W.aret (v := .ref r_1) hx hb hr (Or.inl ⟨_, rfl⟩) (Or.inr ⟨_, rfl⟩) (fun t ht hW => ⟨⟨(), _, rfl, hw, by rw [ht]; exact hP, hD⟩, hS.F ht⟩) hS.2.2 dX2_wideText_8
set_option maxRecDepth 20000 in
theorem ggX2_narrowText_X0_text : GoodIn wsX2_narrowText wsX0_text := goodIn_ca (goodIn_r _ [6, 7, 8, 9, 10, 11, 12, 13, 14, 15, 16, 17, 18, 19, 20, 21, 22, 23, 24, 25, 26, 27, 28, 29, 30, 31, 32, 33, 34, 35, 36, 37, 38, 39, 40, 41, 42, 43, 44, 45, 46, 47, 48, 49, 50, 51, 52, 53, 54, 55, 56, 57, 58, 59, 60, 61, 62, 63, 64, 65, 66, 67, 68, 69, 70, 71, 72, 73, 74, 75, 76, 77, 78, 79, 80, 81, 82, 83, 84, 85, 86, 87, 88, 89, 90, 91, 92, 93, 94, 95, 96, 97, 98, 99, 100, 101, 102, 103, 104, 105, 106, 107, 108, 109, 110, 111, 112, 113, 114, 115, 116, 117, 118, 119, 120, 121, 122, 123, 124, 125, 126, 127, 128, 129, 130, 131, 132, 133, 134, 135, 136, 137, 138, 139, 140, 141, 142, 143, 144, 145, 146, 147, 148, 149, 150, 151, 152, 153, 154, 155, 156, 157, 158, 159, 160, 161, 162, 163, 164, 165, 166, 167, 168, 169, 170, 171, 172, 173, 174, 175, 176, 177, 178, 179, 180, 181, 182, 183, 184, 185, 186, 187, 188, 189, 190, 191, 192, 193, 194, 195, 196, 197, 198, 199, 200, 201, 202, 203, 204, 205, 206, 207, 208, 209, 210, 211, 212, 213, 214, 215, 216, 217, 218, 219, 220, 221, 222, 223, 224, 225, 226, 227, 228, 229, 230, 231, 232, 233, 234, 235, 236, 237, 238, 239, 240, 241, 242, 243, 244, 245, 246, 247, 248, 249, 250, 251, 252, 253, 254, 255, 256, 257, 261, 262, 263, 264, 265, 266, 267, 268, 269, 270, 271, 272, 273, 274, 275, 276, 277, 278, 279, 280] (by decide +kernel) (by decide +kernel)) (goodIn_sub (fun _ h => List.mem_cons_of_mem _ (List.mem_append_right _ h)) (by decide +kernel))
set_option maxRecDepth 20000 in
theorem gX2_narrowText_X0_text : GoodIn wsX2_narrowText (wsV RX2 71 RX0 yX0_text wsX0_text) := goodIn_app (goodIn_of _ (by decide +kernel)) ggX2_narrowText_X0_text
theorem dX2_narrowText_0 : decode cX2_narrowText 0 = .ok (.aload_n 0, 1) := by decide +kernel
theorem dX2_narrowText_1 : decode cX2_narrowText 1 = .ok (.getfield 25, 3) := by decide +kernel
theorem dX2_narrowText_4 : decode cX2_narrowText 4 = .ok (.iload_n 1, 1) := by decide +kernel
theorem dX2_narrowText_5 : decode cX2_narrowText 5 = .ok (.invokevirtual 71, 3) := by decide +kernel
theorem dX2_narrowText_8 : decode cX2_narrowText 8 = .ok (.areturn, 1) := by decide +kernel
set_option maxHeartbeats 4000000 in
set_option maxRecDepth 100000 in
theorem k_X2_narrowText (l : Launch) (hfl : l.flags = flags0) (dC : Nat → ClassId) (dI : Nat → Nat → Nat) (cy cB : ClassId) (h0 : Nat) (h1 : Nat) (hw1 : Nat) (hc1 : Nat) (hb1 : Nat) (h2 : Nat) (hw2 : Nat) (hc2 : Nat) (hb2 : Nat) (a1 : Int32) (r1 : Int32) (f1 : Nat → Int64) (g1 : Nat → Int64) (a2 : Int32) (r2 : Int32) (f2 : Nat → Int64) (g2 : Nat → Int64) (kn : Int32) (sz N : Nat) (p0 : Int32) (hok2 : okF false f2) : vx_Met l yX2_narrowText wsX2_narrowText ({ frames := 9, cells := 20, slots := 600, locals := 258 }) (va_Pc [.ref h0, .int p0] (xT (dC, dI) xCl [(h0, eE h1 h2 kn), (h1, eR hw1 hc1 hb1 a1 r1), (hw1, eW true), (hc1, eA cy f1), (hb1, eA cy g1), (h2, eR hw2 hc2 hb2 a2 r2), (hw2, eW false), (hc2, eA cy f2), (hb2, eA cy g2)] [(cy, .long), (cB, .byte)] sz N)) (va_Qr (fun (_ : Unit) => (o_X2_checkCell p0) = 0) (fun _ _ t => xW (dC, dI) xCl [(h0, eE h1 h2 kn), (h1, eR hw1 hc1 hb1 a1 r1), (hw1, eW true), (hc1, eA cy f1), (hb1, eA cy g1), (h2, eR hw2 hc2 hb2 a2 r2), (hw2, eW false), (hc2, eA cy f2), (hb2, eA cy g2)] (va_A [(h0, eE h1 h2 kn), (h1, eR hw1 hc1 hb1 a1 r1), (hw1, eW true), (hc1, eA cy f1), (hb1, eA cy g1), (h2, eR hw2 hc2 hb2 a2 r2), (hw2, eW false), (hc2, eA cy f2), (hb2, eA cy g2)] sz) t) (va_A [(h0, eE h1 h2 kn), (h1, eR hw1 hc1 hb1 a1 r1), (hw1, eW true), (hc1, eA cy f1), (hb1, eA cy g1), (h2, eR hw2 hc2 hb2 a2 r2), (hw2, eW false), (hc2, eA cy f2), (hb2, eA cy g2)] sz)) (vx_X (fun _ : Unit => ¬ (o_X2_checkCell p0) = 0) (fun E _ t => E = xE (o_X2_checkCell p0) ∧ xW (dC, dI) xCl [(h0, eE h1 h2 kn), (h1, eR hw1 hc1 hb1 a1 r1), (hw1, eW true), (hc1, eA cy f1), (hb1, eA cy g1), (h2, eR hw2 hc2 hb2 a2 r2), (hw2, eW false), (hc2, eA cy f2), (hb2, eA cy g2)] (va_A [(h0, eE h1 h2 kn), (h1, eR hw1 hc1 hb1 a1 r1), (hw1, eW true), (hc1, eA cy f1), (hb1, eA cy g1), (h2, eR hw2 hc2 hb2 a2 r2), (hw2, eW false), (hc2, eA cy f2), (hb2, eA cy g2)] sz) t) (va_A [(h0, eE h1 h2 kn), (h1, eR hw1 hc1 hb1 a1 r1), (hw1, eW true), (hc1, eA cy f1), (hb1, eA cy g1), (h2, eR hw2 hc2 hb2 a2 r2), (hw2, eW false), (hc2, eA cy f2), (hb2, eA cy g2)] sz)) 20 600 (va_A [(h0, eE h1 h2 kn), (h1, eR hw1 hc1 hb1 a1 r1), (hw1, eW true), (hc1, eA cy f1), (hb1, eA cy g1), (h2, eR hw2 hc2 hb2 a2 r2), (hw2, eW false), (hc2, eA cy f2), (hb2, eA cy g2)] sz) := by
  refine vx_ofW (cc := cX2_narrowText) (maxL := 2) (ret := (some (.object "java/lang/String"))) (by decide +kernel) rfl ?_
  intro p e s m args below meth c s₁ B hml hno hv
  obtain ⟨rfl, ⟨hsz, hP, hK, hD0, hN, hG⟩, hT⟩ := hv
  have hx := B.exec
  have hb := B.bytes
  have hr := B.returns
  have hts := atoms_spec (ws := wsX2_narrowText) B.pre
  have hown : s.vm.findClass RX2 = some m.cls := findClass_of_methodNamed B.named
  have hlocks := B.notSynchronized
  subst hsz
  have hAN : ∀ q, va_A [(h0, eE h1 h2 kn), (h1, eR hw1 hc1 hb1 a1 r1), (hw1, eW true), (hc1, eA cy f1), (hb1, eA cy g1), (h2, eR hw2 hc2 hb2 a2 r2), (hw2, eW false), (hc2, eA cy f2), (hb2, eA cy g2)] s.heap.size q → N ≤ q := xA_N hD0 hN
  have hD := hD0.self (sz := s.heap.size)
  generalize hAe : va_A [(h0, eE h1 h2 kn), (h1, eR hw1 hc1 hb1 a1 r1), (hw1, eW true), (hc1, eA cy f1), (hb1, eA cy g1), (h2, eR hw2 hc2 hb2 a2 r2), (hw2, eW false), (hc2, eA cy f2), (hb2, eA cy g2)] s.heap.size = A at hD hAN ⊢
  have hA : ∀ q : Nat, s.heap.size ≤ q → A q := fun q h => by rw [← hAe]; exact Or.inr h
  have hS : va_S A s.heap s.heap [] := va_S.rf
  have hP : va_P (dC, dI) xCl [(h0, eE h1 h2 kn), (h1, eR hw1 hc1 hb1 a1 r1), (hw1, eW true), (hc1, eA cy f1), (hb1, eA cy g1), (h2, eR hw2 hc2 hb2 a2 r2), (hw2, eW false), (hc2, eA cy f2), (hb2, eA cy g2)] s.heap := hP
  have hl := lv_entry ([.ref h0, .int p0]) (n := 2) (Nat.le_of_ble_eq_true rfl)
  rw [lg_entry_eq]
  generalize (lg_sl ([.ref h0, .int p0]) ++ List.replicate (2 - (lg_sl ([.ref h0, .int p0])).length) Slot.unset).toArray = ls at hl ⊢
  have hl : lv_has ls 2 [(0, .ref h0), (1, .int p0)] := hl
  refine lv_aload_n hx hb dX2_narrowText_0 rfl (lv_at hl 0 rfl) ?_
  refine va_get (D := (dC, dI)) (ci := 4) (v := .ref h2) (C := RX2) (T := TX2) (N := 3) hx hb hts (by decide +kernel) hown hK hP 0 rfl rfl 1 (by decide) (hts (.fieldLink RX2 25 "Edgefloats" "narrow" "LEdgefloats$Row;") (by decide +kernel)) (fun _ h9 => h9) rfl dX2_narrowText_1 ?_
  refine lv_iload_n hx hb dX2_narrowText_4 rfl (lv_at hl 1 rfl) ?_
  have hPc := hP.sub (ws' := [(h2, eR hw2 hc2 hb2 a2 r2), (hw2, eW false), (hc2, eA cy f2), (hb2, eA cy g2)]) [5, 6, 7, 8] rfl
  have hDc := hD.sub (ws' := [(h2, eR hw2 hc2 hb2 a2 r2), (hw2, eW false), (hc2, eA cy f2), (hb2, eA cy g2)]) [5, 6, 7, 8] (by decide) rfl
  have hKc := hK.sub (tys' := [(cy, .long), (cB, .byte)]) [0, 1] rfl
  have hFc := va_free (wc := [(h2, eR hw2 hc2 hb2 a2 r2), (hw2, eW false), (hc2, eA cy f2), (hb2, eA cy g2)]) hD hS hA [5, 6, 7, 8] rfl
  refine vx_callr (vx_runV (As := [.int p0]) (rest := []) ⟨hx, hb, hml, hown, hts⟩ (k_X0_text l hfl dC dI cy cB h2 hw2 hc2 hb2 false a2 r2 f2 g2 s.heap.size N p0 hok2) (cwV 1 hts gX2_narrowText_X0_text rfl rfl rfl (by decide +kernel) ⟨Nat.le_of_ble_eq_true rfl, Nat.le_of_ble_eq_true rfl⟩) (xT.preV hKc hPc hDc hAN (Nat.le_trans hN hS.1) (hG.kept hS hAN) (hT.kept hS hAN) (ci := 2) (q0 := 0) rfl rfl) rfl rfl hl.1 rfl (lv_room (Nat.le_of_ble_eq_true rfl)) dX2_narrowText_5 ⟨Nat.le_of_ble_eq_true rfl, Nat.le_of_ble_eq_true rfl⟩) hS (fun q _ h => hFc q h) hFc (fun q _ h => hFc q h) (fun E ce q9 u9 t H locs ht hvm hpx hbx hz hk hS hce hcv hcl => ?_) (fun u r_1 t H locs ht hvm hw hB hz hk hS => ?_)
  · obtain ⟨hbe, hP1, hD1⟩ := hbx
    rw [ht] at hP1
    obtain ⟨hP, hD⟩ := va_join (wr := [(h0, eE h1 h2 kn), (h1, eR hw1 hc1 hb1 a1 r1), (hw1, eW true), (hc1, eA cy f1), (hb1, eA cy g1)]) (w1 := [(h2, eR hw2 hc2 hb2 a2 r2), (hw2, eW false), (hc2, eA cy f2), (hb2, eA cy g2)]) hP hD [5, 6, 7, 8] [0, 1, 2, 3, 4] rfl rfl (by decide) (by decide) hk hFc hP1 hD1
    have hP := hP.sub (ws' := [(h0, eE h1 h2 kn), (h1, eR hw1 hc1 hb1 a1 r1), (hw1, eW true), (hc1, eA cy f1), (hb1, eA cy g1), (h2, eR hw2 hc2 hb2 a2 r2), (hw2, eW false), (hc2, eA cy f2), (hb2, eA cy g2)]) [0, 1, 2, 3, 4, 5, 6, 7, 8] rfl
    have hD := hD.sub (ws' := [(h0, eE h1 h2 kn), (h1, eR hw1 hc1 hb1 a1 r1), (hw1, eW true), (hc1, eA cy f1), (hb1, eA cy g1), (h2, eR hw2 hc2 hb2 a2 r2), (hw2, eW false), (hc2, eA cy f2), (hb2, eA cy g2)]) [0, 1, 2, 3, 4, 5, 6, 7, 8] (by decide) rfl
    exact vx_out (fun x hx => (hno x hx).elim) hlocks hce hcv hcl (fun t ht hvm => ⟨(), hpx, ⟨hbe, by rw [ht]; exact hP, hD⟩, hS.F ht⟩) hS.2.2 (by omega) (by omega)
  · obtain ⟨hP1, hD1⟩ := hB
    rw [ht] at hP1
    obtain ⟨hP, hD⟩ := va_join (wr := [(h0, eE h1 h2 kn), (h1, eR hw1 hc1 hb1 a1 r1), (hw1, eW true), (hc1, eA cy f1), (hb1, eA cy g1)]) (w1 := [(h2, eR hw2 hc2 hb2 a2 r2), (hw2, eW false), (hc2, eA cy f2), (hb2, eA cy g2)]) hP hD [5, 6, 7, 8] [0, 1, 2, 3, 4] rfl rfl (by decide) (by decide) hk hFc hP1 hD1
    have hP := hP.sub (ws' := [(h0, eE h1 h2 kn), (h1, eR hw1 hc1 hb1 a1 r1), (hw1, eW true), (hc1, eA cy f1), (hb1, eA cy g1), (h2, eR hw2 hc2 hb2 a2 r2), (hw2, eW false), (hc2, eA cy f2), (hb2, eA cy g2)]) [0, 1, 2, 3, 4, 5, 6, 7, 8] rfl
    have hD := hD.sub (ws' := [(h0, eE h1 h2 kn), (h1, eR hw1 hc1 hb1 a1 r1), (hw1, eW true), (hc1, eA cy f1), (hb1, eA cy g1), (h2, eR hw2 hc2 hb2 a2 r2), (hw2, eW false), (hc2, eA cy f2), (hb2, eA cy g2)]) [0, 1, 2, 3, 4, 5, 6, 7, 8] (by decide) rfl
    refine W.widen (k := 20) (n := 600) (by omega) (by omega) ?_
    refine vx_ret ?_
    exact W.aret (v := .ref r_1) hx hb hr (Or.inl ⟨_, rfl⟩) (Or.inr ⟨_, rfl⟩) (fun t ht hW => ⟨⟨(), _, rfl, hw, by rw [ht]; exact hP, hD⟩, hS.F ht⟩) hS.2.2 dX2_narrowText_8
set_option maxRecDepth 20000 in
theorem ggL_wideText_X2_wideText : GoodIn wsL_wideText wsX2_wideText := goodIn_ca (goodIn_r _ [6, 7, 8, 9, 10, 11, 12, 13, 14, 15, 5, 16, 17, 18, 19, 20, 21, 22, 23, 24, 25, 26, 27, 28, 29, 30, 31, 32, 33, 34, 35, 36, 37, 38, 39, 40, 41, 42, 43, 44, 45, 46, 47, 48, 49, 50, 51, 52, 53, 54, 55, 56, 57, 58, 59, 60, 61, 62, 63, 64, 65, 66, 67, 68, 69, 70, 71, 72, 73, 74, 75, 76, 77, 78, 79, 80, 81, 82, 83, 84, 85, 86, 87, 88, 89, 90, 91, 92, 93, 94, 95, 96, 97, 98, 99, 100, 101, 102, 103, 104, 105, 106, 107, 108, 109, 110, 111, 112, 113, 114, 115, 116, 117, 118, 119, 120, 121, 122, 123, 124, 125, 126, 127, 128, 129, 130, 131, 132, 133, 134, 135, 136, 137, 138, 139, 140, 141, 142, 143, 144, 145, 146, 147, 148, 149, 150, 151, 152, 153, 154, 155, 156, 157, 158, 159, 160, 161, 162, 163, 164, 165, 166, 167, 168, 169, 170, 171, 172, 173, 174, 175, 176, 177, 178, 179, 180, 181, 182, 183, 184, 185, 186, 187, 188, 189, 190, 191, 192, 193, 194, 195, 196, 197, 198, 199, 200, 201, 202, 203, 204, 205, 206, 207, 208, 209, 210, 211, 212, 213, 214, 215, 216, 217, 218, 219, 220, 221, 222, 223, 224, 225, 226, 227, 228, 229, 230, 231, 232, 233, 234, 235, 236, 237, 238, 239, 240, 241, 242, 243, 244, 245, 246, 247, 248, 249, 250, 251, 252, 253, 254, 255, 256, 257, 258, 259, 260, 261, 262, 265, 266, 267, 268, 269, 270, 271, 272, 273, 274, 275, 276, 277, 278, 279, 280, 281, 282, 283, 284, 285, 286, 287] (by decide +kernel) (by decide +kernel)) (goodIn_sub (fun _ h => List.mem_cons_of_mem _ (List.mem_append_right _ h)) (by decide +kernel))
set_option maxRecDepth 20000 in
theorem gL_wideText_X2_wideText : GoodIn wsL_wideText (wsV RL 59 RX2 yX2_wideText wsX2_wideText) := goodIn_app (goodIn_of _ (by decide +kernel)) ggL_wideText_X2_wideText
theorem dL_wideText_0 : decode cL_wideText 0 = .ok (.aload_n 2, 1) := by decide +kernel
theorem dL_wideText_1 : decode cL_wideText 1 = .ok (.aload_n 0, 1) := by decide +kernel
theorem dL_wideText_2 : decode cL_wideText 2 = .ok (.iload_n 1, 1) := by decide +kernel
theorem dL_wideText_3 : decode cL_wideText 3 = .ok (.invokevirtual 59, 3) := by decide +kernel
theorem dL_wideText_6 : decode cL_wideText 6 = .ok (.putfield 63, 3) := by decide +kernel
theorem dL_wideText_9 : decode cL_wideText 9 = .ok (.goto 6, 3) := by decide +kernel
theorem dL_wideText_12 : decode cL_wideText 12 = .ok (.astore_n 3, 1) := by decide +kernel
theorem dL_wideText_13 : decode cL_wideText 13 = .ok (.iconst 1, 1) := by decide +kernel
theorem dL_wideText_14 : decode cL_wideText 14 = .ok (.ireturn, 1) := by decide +kernel
theorem dL_wideText_15 : decode cL_wideText 15 = .ok (.iconst 0, 1) := by decide +kernel
theorem dL_wideText_16 : decode cL_wideText 16 = .ok (.ireturn, 1) := by decide +kernel
set_option maxHeartbeats 4000000 in
set_option maxRecDepth 100000 in
theorem k_L_wideText (l : Launch) (hfl : l.flags = flags0) (dC : Nat → ClassId) (dI : Nat → Nat → Nat) (cy cB : ClassId) (h0 : Nat) (h1 : Nat) (hw1 : Nat) (hc1 : Nat) (hb1 : Nat) (h2 : Nat) (hw2 : Nat) (hc2 : Nat) (hb2 : Nat) (a1 : Int32) (r1 : Int32) (f1 : Nat → Int64) (g1 : Nat → Int64) (a2 : Int32) (r2 : Int32) (f2 : Nat → Int64) (g2 : Nat → Int64) (kn : Int32) (ho : Nat) (nv : Int64) (sv : Value) (sz N : Nat) (p0 : Int32) (hok2 : okF false f2) : Met l yL_wideText wsL_wideText ({ frames := 10, cells := 40, slots := 2000, locals := 279 }) (va_Pc [.ref h0, .int p0, .ref ho] (xU (dC, dI) xCl [(h0, eE h1 h2 kn), (h1, eR hw1 hc1 hb1 a1 r1), (hw1, eW true), (hc1, eA cy f1), (hb1, eA cy g1), (h2, eR hw2 hc2 hb2 a2 r2), (hw2, eW false), (hc2, eA cy f2), (hb2, eA cy g2), (ho, eO nv sv)] [(cy, .long), (cB, .byte)] sz N)) (va_Qi (fun (_ : Int32) (_ : Value) => True) (fun (u : Value) t => xW (dC, dI) xCl [(h0, eE h1 h2 kn), (h1, eR hw1 hc1 hb1 a1 r1), (hw1, eW true), (hc1, eA cy f1), (hb1, eA cy g1), (h2, eR hw2 hc2 hb2 a2 r2), (hw2, eW false), (hc2, eA cy f2), (hb2, eA cy g2), (ho, eO nv u)] (va_A [(h0, eE h1 h2 kn), (h1, eR hw1 hc1 hb1 a1 r1), (hw1, eW true), (hc1, eA cy f1), (hb1, eA cy g1), (h2, eR hw2 hc2 hb2 a2 r2), (hw2, eW false), (hc2, eA cy f2), (hb2, eA cy g2), (ho, eO nv sv)] sz) t) (va_A [(h0, eE h1 h2 kn), (h1, eR hw1 hc1 hb1 a1 r1), (hw1, eW true), (hc1, eA cy f1), (hb1, eA cy g1), (h2, eR hw2 hc2 hb2 a2 r2), (hw2, eW false), (hc2, eA cy f2), (hb2, eA cy g2), (ho, eO nv sv)] sz)) 40 2000 (va_A [(h0, eE h1 h2 kn), (h1, eR hw1 hc1 hb1 a1 r1), (hw1, eW true), (hc1, eA cy f1), (hb1, eA cy g1), (h2, eR hw2 hc2 hb2 a2 r2), (hw2, eW false), (hc2, eA cy f2), (hb2, eA cy g2), (ho, eO nv sv)] sz) := by
  refine va_MetW (cc := cL_wideText) (maxL := 4) (ret := (some .int)) (by decide +kernel) rfl ?_
  intro p e s m args below meth c s₁ B hml hv
  obtain ⟨rfl, ⟨⟨hsz, hP, hK, hD0, hN, hG⟩, hT⟩, hnc⟩ := hv
  have hx := B.exec
  have hb := B.bytes
  have hr := B.returns
  have hts := atoms_spec (ws := wsL_wideText) B.pre
  have hown : s.vm.findClass RL = some m.cls := findClass_of_methodNamed B.named
  have hlocks := B.notSynchronized
  have htab := vx_table (x := yL_wideText) B (hts _ List.mem_cons_self)
  subst hsz
  have hAN : ∀ q, va_A [(h0, eE h1 h2 kn), (h1, eR hw1 hc1 hb1 a1 r1), (hw1, eW true), (hc1, eA cy f1), (hb1, eA cy g1), (h2, eR hw2 hc2 hb2 a2 r2), (hw2, eW false), (hc2, eA cy f2), (hb2, eA cy g2), (ho, eO nv sv)] s.heap.size q → N ≤ q := xA_N hD0 hN
  have hD := hD0.self (sz := s.heap.size)
  generalize hAe : va_A [(h0, eE h1 h2 kn), (h1, eR hw1 hc1 hb1 a1 r1), (hw1, eW true), (hc1, eA cy f1), (hb1, eA cy g1), (h2, eR hw2 hc2 hb2 a2 r2), (hw2, eW false), (hc2, eA cy f2), (hb2, eA cy g2), (ho, eO nv sv)] s.heap.size = A at hD hAN ⊢
  have hA : ∀ q : Nat, s.heap.size ≤ q → A q := fun q h => by rw [← hAe]; exact Or.inr h
  have hS : va_S A s.heap s.heap [] := va_S.rf
  have hP : va_P (dC, dI) xCl [(h0, eE h1 h2 kn), (h1, eR hw1 hc1 hb1 a1 r1), (hw1, eW true), (hc1, eA cy f1), (hb1, eA cy g1), (h2, eR hw2 hc2 hb2 a2 r2), (hw2, eW false), (hc2, eA cy f2), (hb2, eA cy g2), (ho, eO nv sv)] s.heap := hP
  have hl := lv_entry ([.ref h0, .int p0, .ref ho]) (n := 4) (Nat.le_of_ble_eq_true rfl)
  rw [lg_entry_eq]
  generalize (lg_sl ([.ref h0, .int p0, .ref ho]) ++ List.replicate (4 - (lg_sl ([.ref h0, .int p0, .ref ho])).length) Slot.unset).toArray = ls at hl ⊢
  have hl : lv_has ls 4 [(0, .ref h0), (1, .int p0), (2, .ref ho)] := hl
  refine lv_aload_n hx hb dL_wideText_0 rfl (lv_at hl 2 rfl) ?_
  refine lv_aload_n hx hb dL_wideText_1 rfl (lv_at hl 0 rfl) ?_
  refine lv_iload_n hx hb dL_wideText_2 rfl (lv_at hl 1 rfl) ?_
  have hPc := hP.sub (ws' := [(h0, eE h1 h2 kn), (h1, eR hw1 hc1 hb1 a1 r1), (hw1, eW true), (hc1, eA cy f1), (hb1, eA cy g1), (h2, eR hw2 hc2 hb2 a2 r2), (hw2, eW false), (hc2, eA cy f2), (hb2, eA cy g2)]) [0, 1, 2, 3, 4, 5, 6, 7, 8] rfl
  have hDc := hD.sub (ws' := [(h0, eE h1 h2 kn), (h1, eR hw1 hc1 hb1 a1 r1), (hw1, eW true), (hc1, eA cy f1), (hb1, eA cy g1), (h2, eR hw2 hc2 hb2 a2 r2), (hw2, eW false), (hc2, eA cy f2), (hb2, eA cy g2)]) [0, 1, 2, 3, 4, 5, 6, 7, 8] (by decide) rfl
  have hKc := hK.sub (tys' := [(cy, .long), (cB, .byte)]) [0, 1] rfl
  have hFc := va_free (wc := [(h0, eE h1 h2 kn), (h1, eR hw1 hc1 hb1 a1 r1), (hw1, eW true), (hc1, eA cy f1), (hb1, eA cy g1), (h2, eR hw2 hc2 hb2 a2 r2), (hw2, eW false), (hc2, eA cy f2), (hb2, eA cy g2)]) hD hS hA [0, 1, 2, 3, 4, 5, 6, 7, 8] rfl
  refine vx_callr (vx_runV (As := [.int p0]) (rest := [.ref ho]) ⟨hx, hb, hml, hown, hts⟩ (k_X2_wideText l hfl dC dI cy cB h0 h1 hw1 hc1 hb1 h2 hw2 hc2 hb2 a1 r1 f1 g1 a2 r2 f2 g2 kn s.heap.size N p0 hok2) (cwV 1 hts gL_wideText_X2_wideText rfl rfl rfl (by decide +kernel) ⟨Nat.le_of_ble_eq_true rfl, Nat.le_of_ble_eq_true rfl⟩) (xT.preV hKc hPc hDc hAN (Nat.le_trans hN hS.1) (hG.kept hS hAN) (hT.kept hS hAN) (ci := 4) (q0 := 0) rfl rfl) rfl rfl hl.1 rfl (lv_room (Nat.le_of_ble_eq_true rfl)) dL_wideText_3 ⟨Nat.le_of_ble_eq_true rfl, Nat.le_of_ble_eq_true rfl⟩) hS (fun q _ h => hFc q h) hFc (fun q _ h => hFc q h) (fun E ce q9 u9 t H locs ht hvm hpx hbx hz hk hS hce hcv hcl => ?_) (fun u r_1 t H locs ht hvm hw hB hz hk hS => ?_)
  · obtain ⟨hbe, hP1, hD1⟩ := hbx
    rw [ht] at hP1
    obtain ⟨hP, hD⟩ := va_join (wr := [(ho, eO nv sv)]) (w1 := [(h0, eE h1 h2 kn), (h1, eR hw1 hc1 hb1 a1 r1), (hw1, eW true), (hc1, eA cy f1), (hb1, eA cy g1), (h2, eR hw2 hc2 hb2 a2 r2), (hw2, eW false), (hc2, eA cy f2), (hb2, eA cy g2)]) hP hD [0, 1, 2, 3, 4, 5, 6, 7, 8] [9] rfl rfl (by decide) (by decide) hk hFc hP1 hD1
    have hP := hP.sub (ws' := [(h0, eE h1 h2 kn), (h1, eR hw1 hc1 hb1 a1 r1), (hw1, eW true), (hc1, eA cy f1), (hb1, eA cy g1), (h2, eR hw2 hc2 hb2 a2 r2), (hw2, eW false), (hc2, eA cy f2), (hb2, eA cy g2), (ho, eO nv sv)]) [1, 2, 3, 4, 5, 6, 7, 8, 9, 0] rfl
    have hD := hD.sub (ws' := [(h0, eE h1 h2 kn), (h1, eR hw1 hc1 hb1 a1 r1), (hw1, eW true), (hc1, eA cy f1), (hb1, eA cy g1), (h2, eR hw2 hc2 hb2 a2 r2), (hw2, eW false), (hc2, eA cy f2), (hb2, eA cy g2), (ho, eO nv sv)]) [1, 2, 3, 4, 5, 6, 7, 8, 9, 0] (by decide) rfl
    have hE : E = "java/lang/IndexOutOfBoundsException" := hbe.trans (by rw [show (o_X2_checkCell p0) = 1 from (cc_01 p0).resolve_left hpx]; rfl)
    subst hE
    refine vx_catch (own := RL) (name := "java/lang/IndexOutOfBoundsException") hown [] ⟨0, 9, 12, 19⟩ [] htab (fun z hz => absurd hz List.not_mem_nil) (by decide) (by decide) (hts (.classLink RL 19 "java/lang/IndexOutOfBoundsException") (by decide +kernel)) (va_Nw.use rfl (hG.1 (.castable "java/lang/IndexOutOfBoundsException" "java/lang/IndexOutOfBoundsException") (by decide +kernel))) hce hcv hcl ?_
    refine lv_astore_n (lv' := [(3, .ref q9), (0, .ref h0), (1, .int p0), (2, .ref ho)]) hx hb dL_wideText_12 rfl hl (by decide) rfl (fun ls hl => ?_)
    refine lv_iconst (v := 1) hx hb dL_wideText_13 (by decide) ?_
    refine W.widen (k := 40) (n := 2000) (by omega) (by omega) ?_
    exact W.iret (v := 1) hx hb hr (fun t ht hW => ⟨⟨_, sv, rfl, trivial, by rw [ht]; exact hP, hD⟩, hS.F ht⟩) hS.2.2 dL_wideText_14
  · obtain ⟨hP1, hD1⟩ := hB
    rw [ht] at hP1
    obtain ⟨hP, hD⟩ := va_join (wr := [(ho, eO nv sv)]) (w1 := [(h0, eE h1 h2 kn), (h1, eR hw1 hc1 hb1 a1 r1), (hw1, eW true), (hc1, eA cy f1), (hb1, eA cy g1), (h2, eR hw2 hc2 hb2 a2 r2), (hw2, eW false), (hc2, eA cy f2), (hb2, eA cy g2)]) hP hD [0, 1, 2, 3, 4, 5, 6, 7, 8] [9] rfl rfl (by decide) (by decide) hk hFc hP1 hD1
    have hP := hP.sub (ws' := [(h0, eE h1 h2 kn), (h1, eR hw1 hc1 hb1 a1 r1), (hw1, eW true), (hc1, eA cy f1), (hb1, eA cy g1), (h2, eR hw2 hc2 hb2 a2 r2), (hw2, eW false), (hc2, eA cy f2), (hb2, eA cy g2), (ho, eO nv sv)]) [1, 2, 3, 4, 5, 6, 7, 8, 9, 0] rfl
    have hD := hD.sub (ws' := [(h0, eE h1 h2 kn), (h1, eR hw1 hc1 hb1 a1 r1), (hw1, eW true), (hc1, eA cy f1), (hb1, eA cy g1), (h2, eR hw2 hc2 hb2 a2 r2), (hw2, eW false), (hc2, eA cy f2), (hb2, eA cy g2), (ho, eO nv sv)]) [1, 2, 3, 4, 5, 6, 7, 8, 9, 0] (by decide) rfl
    refine va_putN (D := (dC, dI)) (ci := 5) (v := .ref r_1) (ty := (.object "java/lang/String")) (C := RX3) (T := TX3) (N := 2) hx hb hts (by decide +kernel) tyX3 tyX3_ok nmX3 hown hK hP hD hS 9 rfl rfl 1 (by decide) (va_Nw.use rfl (hG.1 (.fieldLinkNest RL 63 "EdgefloatsLaw$Out" "s" "Ljava/lang/String;" RL) (by decide +kernel))) (fun _ h9 => h9) rfl (by decide +kernel) rfl rfl (Nat.le_of_ble_eq_true rfl) dL_wideText_6 (fun H locs hP hD hS => ?_)
    have hP : va_P (dC, dI) xCl [(h0, eE h1 h2 kn), (h1, eR hw1 hc1 hb1 a1 r1), (hw1, eW true), (hc1, eA cy f1), (hb1, eA cy g1), (h2, eR hw2 hc2 hb2 a2 r2), (hw2, eW false), (hc2, eA cy f2), (hb2, eA cy g2), (ho, eO nv (.ref r_1))] H := hP
    have hD : va_D A [(h0, eE h1 h2 kn), (h1, eR hw1 hc1 hb1 a1 r1), (hw1, eW true), (hc1, eA cy f1), (hb1, eA cy g1), (h2, eR hw2 hc2 hb2 a2 r2), (hw2, eW false), (hc2, eA cy f2), (hb2, eA cy g2), (ho, eO nv (.ref r_1))] := hD
    refine lv_goto (tgt := 15) hx hb dL_wideText_9 (by decide) ?_
    refine lv_iconst (v := 0) hx hb dL_wideText_15 (by decide) ?_
    refine W.widen (k := 40) (n := 2000) (by omega) (by omega) ?_
    exact W.iret (v := 0) hx hb hr (fun t ht hW => ⟨⟨_, .ref r_1, rfl, trivial, by rw [ht]; exact hP, hD⟩, hS.F ht⟩) hS.2.2 dL_wideText_16
set_option maxRecDepth 20000 in
theorem ggL_narrowText_X2_narrowText : GoodIn wsL_narrowText wsX2_narrowText := goodIn_ca (goodIn_r _ [6, 7, 8, 9, 10, 11, 12, 13, 14, 15, 5, 16, 17, 18, 19, 20, 21, 22, 23, 24, 25, 26, 27, 28, 29, 30, 31, 32, 33, 34, 35, 36, 37, 38, 39, 40, 41, 42, 43, 44, 45, 46, 47, 48, 49, 50, 51, 52, 53, 54, 55, 56, 57, 58, 59, 60, 61, 62, 63, 64, 65, 66, 67, 68, 69, 70, 71, 72, 73, 74, 75, 76, 77, 78, 79, 80, 81, 82, 83, 84, 85, 86, 87, 88, 89, 90, 91, 92, 93, 94, 95, 96, 97, 98, 99, 100, 101, 102, 103, 104, 105, 106, 107, 108, 109, 110, 111, 112, 113, 114, 115, 116, 117, 118, 119, 120, 121, 122, 123, 124, 125, 126, 127, 128, 129, 130, 131, 132, 133, 134, 135, 136, 137, 138, 139, 140, 141, 142, 143, 144, 145, 146, 147, 148, 149, 150, 151, 152, 153, 154, 155, 156, 157, 158, 159, 160, 161, 162, 163, 164, 165, 166, 167, 168, 169, 170, 171, 172, 173, 174, 175, 176, 177, 178, 179, 180, 181, 182, 183, 184, 185, 186, 187, 188, 189, 190, 191, 192, 193, 194, 195, 196, 197, 198, 199, 200, 201, 202, 203, 204, 205, 206, 207, 208, 209, 210, 211, 212, 213, 214, 215, 216, 217, 218, 219, 220, 221, 222, 223, 224, 225, 226, 227, 228, 229, 230, 231, 232, 233, 234, 235, 236, 237, 238, 239, 240, 241, 242, 243, 244, 245, 246, 247, 248, 249, 250, 251, 252, 253, 254, 255, 256, 257, 258, 259, 260, 261, 262, 265, 266, 267, 268, 269, 270, 271, 272, 273, 274, 275, 276, 277, 278, 279, 280, 281, 282, 283, 284, 285, 286, 287] (by decide +kernel) (by decide +kernel)) (goodIn_sub (fun _ h => List.mem_cons_of_mem _ (List.mem_append_right _ h)) (by decide +kernel))
set_option maxRecDepth 20000 in
theorem gL_narrowText_X2_narrowText : GoodIn wsL_narrowText (wsV RL 135 RX2 yX2_narrowText wsX2_narrowText) := goodIn_app (goodIn_of _ (by decide +kernel)) ggL_narrowText_X2_narrowText
theorem dL_narrowText_0 : decode cL_narrowText 0 = .ok (.aload_n 2, 1) := by decide +kernel
theorem dL_narrowText_1 : decode cL_narrowText 1 = .ok (.aload_n 0, 1) := by decide +kernel
theorem dL_narrowText_2 : decode cL_narrowText 2 = .ok (.iload_n 1, 1) := by decide +kernel
theorem dL_narrowText_3 : decode cL_narrowText 3 = .ok (.invokevirtual 135, 3) := by decide +kernel
theorem dL_narrowText_6 : decode cL_narrowText 6 = .ok (.putfield 63, 3) := by decide +kernel
theorem dL_narrowText_9 : decode cL_narrowText 9 = .ok (.goto 6, 3) := by decide +kernel
theorem dL_narrowText_12 : decode cL_narrowText 12 = .ok (.astore_n 3, 1) := by decide +kernel
theorem dL_narrowText_13 : decode cL_narrowText 13 = .ok (.iconst 1, 1) := by decide +kernel
theorem dL_narrowText_14 : decode cL_narrowText 14 = .ok (.ireturn, 1) := by decide +kernel
theorem dL_narrowText_15 : decode cL_narrowText 15 = .ok (.iconst 0, 1) := by decide +kernel
theorem dL_narrowText_16 : decode cL_narrowText 16 = .ok (.ireturn, 1) := by decide +kernel
set_option maxHeartbeats 4000000 in
set_option maxRecDepth 100000 in
theorem k_L_narrowText (l : Launch) (hfl : l.flags = flags0) (dC : Nat → ClassId) (dI : Nat → Nat → Nat) (cy cB : ClassId) (h0 : Nat) (h1 : Nat) (hw1 : Nat) (hc1 : Nat) (hb1 : Nat) (h2 : Nat) (hw2 : Nat) (hc2 : Nat) (hb2 : Nat) (a1 : Int32) (r1 : Int32) (f1 : Nat → Int64) (g1 : Nat → Int64) (a2 : Int32) (r2 : Int32) (f2 : Nat → Int64) (g2 : Nat → Int64) (kn : Int32) (ho : Nat) (nv : Int64) (sv : Value) (sz N : Nat) (p0 : Int32) (hok2 : okF false f2) : Met l yL_narrowText wsL_narrowText ({ frames := 10, cells := 40, slots := 2000, locals := 279 }) (va_Pc [.ref h0, .int p0, .ref ho] (xU (dC, dI) xCl [(h0, eE h1 h2 kn), (h1, eR hw1 hc1 hb1 a1 r1), (hw1, eW true), (hc1, eA cy f1), (hb1, eA cy g1), (h2, eR hw2 hc2 hb2 a2 r2), (hw2, eW false), (hc2, eA cy f2), (hb2, eA cy g2), (ho, eO nv sv)] [(cy, .long), (cB, .byte)] sz N)) (va_Qi (fun (_ : Int32) (_ : Value) => True) (fun (u : Value) t => xW (dC, dI) xCl [(h0, eE h1 h2 kn), (h1, eR hw1 hc1 hb1 a1 r1), (hw1, eW true), (hc1, eA cy f1), (hb1, eA cy g1), (h2, eR hw2 hc2 hb2 a2 r2), (hw2, eW false), (hc2, eA cy f2), (hb2, eA cy g2), (ho, eO nv u)] (va_A [(h0, eE h1 h2 kn), (h1, eR hw1 hc1 hb1 a1 r1), (hw1, eW true), (hc1, eA cy f1), (hb1, eA cy g1), (h2, eR hw2 hc2 hb2 a2 r2), (hw2, eW false), (hc2, eA cy f2), (hb2, eA cy g2), (ho, eO nv sv)] sz) t) (va_A [(h0, eE h1 h2 kn), (h1, eR hw1 hc1 hb1 a1 r1), (hw1, eW true), (hc1, eA cy f1), (hb1, eA cy g1), (h2, eR hw2 hc2 hb2 a2 r2), (hw2, eW false), (hc2, eA cy f2), (hb2, eA cy g2), (ho, eO nv sv)] sz)) 40 2000 (va_A [(h0, eE h1 h2 kn), (h1, eR hw1 hc1 hb1 a1 r1), (hw1, eW true), (hc1, eA cy f1), (hb1, eA cy g1), (h2, eR hw2 hc2 hb2 a2 r2), (hw2, eW false), (hc2, eA cy f2), (hb2, eA cy g2), (ho, eO nv sv)] sz) := by
  refine va_MetW (cc := cL_narrowText) (maxL := 4) (ret := (some .int)) (by decide +kernel) rfl ?_
  intro p e s m args below meth c s₁ B hml hv
  obtain ⟨rfl, ⟨⟨hsz, hP, hK, hD0, hN, hG⟩, hT⟩, hnc⟩ := hv
  have hx := B.exec
  have hb := B.bytes
  have hr := B.returns
  have hts := atoms_spec (ws := wsL_narrowText) B.pre
  have hown : s.vm.findClass RL = some m.cls := findClass_of_methodNamed B.named
  have hlocks := B.notSynchronized
  have htab := vx_table (x := yL_narrowText) B (hts _ List.mem_cons_self)
  subst hsz
  have hAN : ∀ q, va_A [(h0, eE h1 h2 kn), (h1, eR hw1 hc1 hb1 a1 r1), (hw1, eW true), (hc1, eA cy f1), (hb1, eA cy g1), (h2, eR hw2 hc2 hb2 a2 r2), (hw2, eW false), (hc2, eA cy f2), (hb2, eA cy g2), (ho, eO nv sv)] s.heap.size q → N ≤ q := xA_N hD0 hN
  have hD := hD0.self (sz := s.heap.size)
  generalize hAe : va_A [(h0, eE h1 h2 kn), (h1, eR hw1 hc1 hb1 a1 r1), (hw1, eW true), (hc1, eA cy f1), (hb1, eA cy g1), (h2, eR hw2 hc2 hb2 a2 r2), (hw2, eW false), (hc2, eA cy f2), (hb2, eA cy g2), (ho, eO nv sv)] s.heap.size = A at hD hAN ⊢
  have hA : ∀ q : Nat, s.heap.size ≤ q → A q := fun q h => by rw [← hAe]; exact Or.inr h
  have hS : va_S A s.heap s.heap [] := va_S.rf
  have hP : va_P (dC, dI) xCl [(h0, eE h1 h2 kn), (h1, eR hw1 hc1 hb1 a1 r1), (hw1, eW true), (hc1, eA cy f1), (hb1, eA cy g1), (h2, eR hw2 hc2 hb2 a2 r2), (hw2, eW false), (hc2, eA cy f2), (hb2, eA cy g2), (ho, eO nv sv)] s.heap := hP
  have hl := lv_entry ([.ref h0, .int p0, .ref ho]) (n := 4) (Nat.le_of_ble_eq_true rfl)
  rw [lg_entry_eq]
  generalize (lg_sl ([.ref h0, .int p0, .ref ho]) ++ List.replicate (4 - (lg_sl ([.ref h0, .int p0, .ref ho])).length) Slot.unset).toArray = ls at hl ⊢
  have hl : lv_has ls 4 [(0, .ref h0), (1, .int p0), (2, .ref ho)] := hl
  refine lv_aload_n hx hb dL_narrowText_0 rfl (lv_at hl 2 rfl) ?_
  refine lv_aload_n hx hb dL_narrowText_1 rfl (lv_at hl 0 rfl) ?_
  refine lv_iload_n hx hb dL_narrowText_2 rfl (lv_at hl 1 rfl) ?_
  have hPc := hP.sub (ws' := [(h0, eE h1 h2 kn), (h1, eR hw1 hc1 hb1 a1 r1), (hw1, eW true), (hc1, eA cy f1), (hb1, eA cy g1), (h2, eR hw2 hc2 hb2 a2 r2), (hw2, eW false), (hc2, eA cy f2), (hb2, eA cy g2)]) [0, 1, 2, 3, 4, 5, 6, 7, 8] rfl
  have hDc := hD.sub (ws' := [(h0, eE h1 h2 kn), (h1, eR hw1 hc1 hb1 a1 r1), (hw1, eW true), (hc1, eA cy f1), (hb1, eA cy g1), (h2, eR hw2 hc2 hb2 a2 r2), (hw2, eW false), (hc2, eA cy f2), (hb2, eA cy g2)]) [0, 1, 2, 3, 4, 5, 6, 7, 8] (by decide) rfl
  have hKc := hK.sub (tys' := [(cy, .long), (cB, .byte)]) [0, 1] rfl
  have hFc := va_free (wc := [(h0, eE h1 h2 kn), (h1, eR hw1 hc1 hb1 a1 r1), (hw1, eW true), (hc1, eA cy f1), (hb1, eA cy g1), (h2, eR hw2 hc2 hb2 a2 r2), (hw2, eW false), (hc2, eA cy f2), (hb2, eA cy g2)]) hD hS hA [0, 1, 2, 3, 4, 5, 6, 7, 8] rfl
  refine vx_callr (vx_runV (As := [.int p0]) (rest := [.ref ho]) ⟨hx, hb, hml, hown, hts⟩ (k_X2_narrowText l hfl dC dI cy cB h0 h1 hw1 hc1 hb1 h2 hw2 hc2 hb2 a1 r1 f1 g1 a2 r2 f2 g2 kn s.heap.size N p0 hok2) (cwV 1 hts gL_narrowText_X2_narrowText rfl rfl rfl (by decide +kernel) ⟨Nat.le_of_ble_eq_true rfl, Nat.le_of_ble_eq_true rfl⟩) (xT.preV hKc hPc hDc hAN (Nat.le_trans hN hS.1) (hG.kept hS hAN) (hT.kept hS hAN) (ci := 4) (q0 := 0) rfl rfl) rfl rfl hl.1 rfl (lv_room (Nat.le_of_ble_eq_true rfl)) dL_narrowText_3 ⟨Nat.le_of_ble_eq_true rfl, Nat.le_of_ble_eq_true rfl⟩) hS (fun q _ h => hFc q h) hFc (fun q _ h => hFc q h) (fun E ce q9 u9 t H locs ht hvm hpx hbx hz hk hS hce hcv hcl => ?_) (fun u r_1 t H locs ht hvm hw hB hz hk hS => ?_)
  · obtain ⟨hbe, hP1, hD1⟩ := hbx
    rw [ht] at hP1
    obtain ⟨hP, hD⟩ := va_join (wr := [(ho, eO nv sv)]) (w1 := [(h0, eE h1 h2 kn), (h1, eR hw1 hc1 hb1 a1 r1), (hw1, eW true), (hc1, eA cy f1), (hb1, eA cy g1), (h2, eR hw2 hc2 hb2 a2 r2), (hw2, eW false), (hc2, eA cy f2), (hb2, eA cy g2)]) hP hD [0, 1, 2, 3, 4, 5, 6, 7, 8] [9] rfl rfl (by decide) (by decide) hk hFc hP1 hD1
    have hP := hP.sub (ws' := [(h0, eE h1 h2 kn), (h1, eR hw1 hc1 hb1 a1 r1), (hw1, eW true), (hc1, eA cy f1), (hb1, eA cy g1), (h2, eR hw2 hc2 hb2 a2 r2), (hw2, eW false), (hc2, eA cy f2), (hb2, eA cy g2), (ho, eO nv sv)]) [1, 2, 3, 4, 5, 6, 7, 8, 9, 0] rfl
    have hD := hD.sub (ws' := [(h0, eE h1 h2 kn), (h1, eR hw1 hc1 hb1 a1 r1), (hw1, eW true), (hc1, eA cy f1), (hb1, eA cy g1), (h2, eR hw2 hc2 hb2 a2 r2), (hw2, eW false), (hc2, eA cy f2), (hb2, eA cy g2), (ho, eO nv sv)]) [1, 2, 3, 4, 5, 6, 7, 8, 9, 0] (by decide) rfl
    have hE : E = "java/lang/IndexOutOfBoundsException" := hbe.trans (by rw [show (o_X2_checkCell p0) = 1 from (cc_01 p0).resolve_left hpx]; rfl)
    subst hE
    refine vx_catch (own := RL) (name := "java/lang/IndexOutOfBoundsException") hown [] ⟨0, 9, 12, 19⟩ [] htab (fun z hz => absurd hz List.not_mem_nil) (by decide) (by decide) (hts (.classLink RL 19 "java/lang/IndexOutOfBoundsException") (by decide +kernel)) (va_Nw.use rfl (hG.1 (.castable "java/lang/IndexOutOfBoundsException" "java/lang/IndexOutOfBoundsException") (by decide +kernel))) hce hcv hcl ?_
    refine lv_astore_n (lv' := [(3, .ref q9), (0, .ref h0), (1, .int p0), (2, .ref ho)]) hx hb dL_narrowText_12 rfl hl (by decide) rfl (fun ls hl => ?_)
    refine lv_iconst (v := 1) hx hb dL_narrowText_13 (by decide) ?_
    refine W.widen (k := 40) (n := 2000) (by omega) (by omega) ?_
    exact W.iret (v := 1) hx hb hr (fun t ht hW => ⟨⟨_, sv, rfl, trivial, by rw [ht]; exact hP, hD⟩, hS.F ht⟩) hS.2.2 dL_narrowText_14
  · obtain ⟨hP1, hD1⟩ := hB
    rw [ht] at hP1
    obtain ⟨hP, hD⟩ := va_join (wr := [(ho, eO nv sv)]) (w1 := [(h0, eE h1 h2 kn), (h1, eR hw1 hc1 hb1 a1 r1), (hw1, eW true), (hc1, eA cy f1), (hb1, eA cy g1), (h2, eR hw2 hc2 hb2 a2 r2), (hw2, eW false), (hc2, eA cy f2), (hb2, eA cy g2)]) hP hD [0, 1, 2, 3, 4, 5, 6, 7, 8] [9] rfl rfl (by decide) (by decide) hk hFc hP1 hD1
    have hP := hP.sub (ws' := [(h0, eE h1 h2 kn), (h1, eR hw1 hc1 hb1 a1 r1), (hw1, eW true), (hc1, eA cy f1), (hb1, eA cy g1), (h2, eR hw2 hc2 hb2 a2 r2), (hw2, eW false), (hc2, eA cy f2), (hb2, eA cy g2), (ho, eO nv sv)]) [1, 2, 3, 4, 5, 6, 7, 8, 9, 0] rfl
    have hD := hD.sub (ws' := [(h0, eE h1 h2 kn), (h1, eR hw1 hc1 hb1 a1 r1), (hw1, eW true), (hc1, eA cy f1), (hb1, eA cy g1), (h2, eR hw2 hc2 hb2 a2 r2), (hw2, eW false), (hc2, eA cy f2), (hb2, eA cy g2), (ho, eO nv sv)]) [1, 2, 3, 4, 5, 6, 7, 8, 9, 0] (by decide) rfl
    refine va_putN (D := (dC, dI)) (ci := 5) (v := .ref r_1) (ty := (.object "java/lang/String")) (C := RX3) (T := TX3) (N := 2) hx hb hts (by decide +kernel) tyX3 tyX3_ok nmX3 hown hK hP hD hS 9 rfl rfl 1 (by decide) (va_Nw.use rfl (hG.1 (.fieldLinkNest RL 63 "EdgefloatsLaw$Out" "s" "Ljava/lang/String;" RL) (by decide +kernel))) (fun _ h9 => h9) rfl (by decide +kernel) rfl rfl (Nat.le_of_ble_eq_true rfl) dL_narrowText_6 (fun H locs hP hD hS => ?_)
    have hP : va_P (dC, dI) xCl [(h0, eE h1 h2 kn), (h1, eR hw1 hc1 hb1 a1 r1), (hw1, eW true), (hc1, eA cy f1), (hb1, eA cy g1), (h2, eR hw2 hc2 hb2 a2 r2), (hw2, eW false), (hc2, eA cy f2), (hb2, eA cy g2), (ho, eO nv (.ref r_1))] H := hP
    have hD : va_D A [(h0, eE h1 h2 kn), (h1, eR hw1 hc1 hb1 a1 r1), (hw1, eW true), (hc1, eA cy f1), (hb1, eA cy g1), (h2, eR hw2 hc2 hb2 a2 r2), (hw2, eW false), (hc2, eA cy f2), (hb2, eA cy g2), (ho, eO nv (.ref r_1))] := hD
    refine lv_goto (tgt := 15) hx hb dL_narrowText_9 (by decide) ?_
    refine lv_iconst (v := 0) hx hb dL_narrowText_15 (by decide) ?_
    refine W.widen (k := 40) (n := 2000) (by omega) (by omega) ?_
    exact W.iret (v := 0) hx hb hr (fun t ht hW => ⟨⟨_, .ref r_1, rfl, trivial, by rw [ht]; exact hP, hD⟩, hS.F ht⟩) hS.2.2 dL_narrowText_16
