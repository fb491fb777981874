set_option maxHeartbeats 4000000 in
set_option maxRecDepth 100000 in
theorem kka_X5_text (l : Launch) (dC : Nat → ClassId) (dI : Nat → Nat → Nat) (cy : ClassId) (cB : ClassId) (h0 : Nat) (h1 : Nat) (h2 : Nat) (ro : Nat) (hc : Nat) (wd : Bool) (a0 : Int32) (f : Nat → Int64) (th : Int32) (rf : Int32) (kn : Int32) (p0 : Int32) (sz N : Nat) (hokf : okF wd f) (hno : o_X5_isNo p0 = false) : Met l yX5_text wsX5_text ({ frames := 7, cells := 8, slots := 200, locals := 232 }) (va_Pc [.ref h0, .ref ro, .int p0] (xT (dC, dI) xCl [(h0, eM h1 h2 th rf kn), (ro, eMR wd hc a0), (hc, eA cy f)] [(cy, .long), (cB, .byte)] sz N)) (va_Qr (fun (u : Int32 × Nat × Nat × (Nat → Int32)) => u.1 = (o_X5_fails (o_X5_isNo p0) false).2 ∧ u.2.2.1 ≤ 34 ∧ tL (tTx wd (f p0.toNatClampNeg)) u.2.2.1 u.2.2.2) (fun (u : Int32 × Nat × Nat × (Nat → Int32)) a t => xW (dC, dI) xCl [(h0, eM h1 h2 u.1 rf kn), (ro, eMR wd hc a0), (hc, eA cy f), (a, .inr (0, [.ref u.2.1, .int 0, .int 0, .int 0])), (u.2.1, eY cB u.2.2.1 u.2.2.2)] (va_A [(h0, eM h1 h2 th rf kn), (ro, eMR wd hc a0), (hc, eA cy f)] sz) t) (va_A [(h0, eM h1 h2 th rf kn), (ro, eMR wd hc a0), (hc, eA cy f)] sz)) 8 200 (va_A [(h0, eM h1 h2 th rf kn), (ro, eMR wd hc a0), (hc, eA cy f)] sz) := by
  refine Met.ofW (cc := cX5_text) (maxL := 3) (ret := (some (.object "java/lang/String"))) (by decide +kernel) rfl ?_
  intro p e s m args below meth c s₁ B hml hv
  obtain ⟨rfl, ⟨hsz, hP, hK, hD0, hN, hG⟩, hT⟩ := hv
  have hx := B.exec
  have hb := B.bytes
  have hr := B.returns
  have hts := atoms_spec (ws := wsX5_text) B.pre
  have hown : s.vm.findClass RX5 = some m.cls := findClass_of_methodNamed B.named
  have hlocks := B.notSynchronized
  subst hsz
  have hAN : ∀ q, va_A [(h0, eM h1 h2 th rf kn), (ro, eMR wd hc a0), (hc, eA cy f)] s.heap.size q → N ≤ q := xA_N hD0 hN
  have hD := hD0.self (sz := s.heap.size)
  generalize hAe : va_A [(h0, eM h1 h2 th rf kn), (ro, eMR wd hc a0), (hc, eA cy f)] s.heap.size = A at hD hAN ⊢
  have hA : ∀ q : Nat, s.heap.size ≤ q → A q := fun q h => by rw [← hAe]; exact Or.inr h
  have hS : va_S A s.heap s.heap [] := va_S.rf
  have hP : va_P (dC, dI) xCl [(h0, eM h1 h2 th rf kn), (ro, eMR wd hc a0), (hc, eA cy f)] s.heap := hP
  obtain ⟨hTc, ⟨tO, tT, fO, fT, hTo, hTt, hTa, hTb, hTf, hTg⟩, ⟨adK, adV, hTs, hTr0, hTr1, hTr2⟩, ⟨aE, hTe⟩, hTn⟩ := id hT
  have hl := lv_entry ([.ref h0, .ref ro, .int p0]) (n := 3) (Nat.le_of_ble_eq_true rfl)
  rw [lg_entry_eq]
  generalize (lg_sl ([.ref h0, .ref ro, .int p0]) ++ List.replicate (3 - (lg_sl ([.ref h0, .ref ro, .int p0])).length) Slot.unset).toArray = ls at hl ⊢
  have hl : lv_has ls 3 [(0, .ref h0), (1, .ref ro), (2, .int p0)] := hl
  refine lv_aload_n hx hb dX5_text_0 rfl (lv_at hl 0 rfl) ?_
  refine lv_iload_n hx hb dX5_text_1 rfl (lv_at hl 2 rfl) ?_
  have hPc := xP_nil (D := (dC, dI)) (cl := xCl) (H := s.heap)
  have hDc := xD_nil (A := A)
  have hKc := hK.sub (tys' := []) [] rfl
  have hFc := va_free (wc := []) hD hS hA [] rfl
  refine va_calli (va_runS (As := [.int p0]) (rest := [.ref h0]) ⟨hx, hb, hml, hown, hts⟩ (k_X5_isNo l dC dI s.heap.size p0) (va_cwS 1 hts gX5_text_X5_isNo rfl rfl rfl (by decide +kernel) ⟨Nat.le_of_ble_eq_true rfl, Nat.le_of_ble_eq_true rfl⟩) (xB.preS hKc hPc) rfl rfl hl.1 rfl (lv_room (Nat.le_of_ble_eq_true rfl)) dX5_text_2 ⟨(show _ ≤ 8 by omega), (show _ ≤ 200 by omega)⟩) hS xA_old (fun q h => hA q (Nat.le_trans hS.1 h)) (fun r_1 u_2 t H locs ht hvm hw hB hz hk hS => ?_)
  have hP := xP_keep hP hk
  have hw : r_1 = b2i (o_X5_isNo p0) := hw
  rw [hw]
  refine lv_iconst (v := 0) hx hb dX5_text_5 (by decide) ?_
  have hPc := hP.sub (ws' := [(h0, eM h1 h2 th rf kn)]) [0] rfl
  have hDc := hD.sub (ws' := [(h0, eM h1 h2 th rf kn)]) [0] (by decide) rfl
  have hKc := hK.sub (tys' := []) [] rfl
  have hFc := va_free (wc := [(h0, eM h1 h2 th rf kn)]) hD hS hA [0] rfl
  refine va_calli (va_runV (As := [.int (b2i (o_X5_isNo p0)), .int 0]) (rest := []) ⟨hx, hb, hml, hown, hts⟩ (k_X5_fails l dC dI h0 h1 h2 th rf kn H.size N (o_X5_isNo p0) false) (cwV 2 hts gX5_text_X5_fails rfl rfl rfl (by decide +kernel) ⟨Nat.le_of_ble_eq_true rfl, Nat.le_of_ble_eq_true rfl⟩) (xM.preV hKc hPc hDc hAN (Nat.le_trans hN hS.1) (hG.kept hS hAN) (ci := 7) (q0 := 0) rfl rfl) rfl rfl hl.1 rfl (lv_room (Nat.le_of_ble_eq_true rfl)) dX5_text_6 ⟨(show _ ≤ 8 by omega), (show _ ≤ 200 by omega)⟩) hS (fun q _ h => hFc q h) hFc (fun r_3 u_4 t H locs ht hvm hw hB hz hk hS => ?_)
  obtain ⟨hP1, hD1⟩ := hB
  rw [ht] at hP1
  obtain ⟨hP, hD⟩ := va_join (wr := [(ro, eMR wd hc a0), (hc, eA cy f)]) (w1 := [(h0, eM h1 h2 (o_X5_fails (o_X5_isNo p0) false).2 rf kn)]) hP hD [0] [1, 2] rfl rfl (by decide) (by decide) hk hFc hP1 hD1
  have hP : va_P (dC, dI) xCl [(ro, eMR wd hc a0), (hc, eA cy f), (h0, eM h1 h2 (o_X5_fails (o_X5_isNo p0) false).2 rf kn)] H := hP
  have hD : va_D A [(ro, eMR wd hc a0), (hc, eA cy f), (h0, eM h1 h2 (o_X5_fails (o_X5_isNo p0) false).2 rf kn)] := hD
  have hw : r_3 = b2i (o_X5_fails (o_X5_isNo p0) false).1 := hw
  rw [hw]
  refine xz_eq (tgt := 17) hx hb dX5_text_9 (by decide) (fun c9 => ?_) (fun c9 => absurd c9 (jt_nof hno))
  refine lv_aload_n hx hb dX5_text_17 rfl (lv_at hl 1 rfl) ?_
  refine lv_iload_n hx hb dX5_text_18 rfl (lv_at hl 2 rfl) ?_
  have hPc := hP.sub (ws' := [(ro, eMR wd hc a0), (hc, eA cy f)]) [0, 1] rfl
  have hDc := hD.sub (ws' := [(ro, eMR wd hc a0), (hc, eA cy f)]) [0, 1] (by decide) rfl
  have hKc := hK.sub (tys' := [(cy, .long), (cB, .byte)]) [0, 1] rfl
  have hFc := va_free (wc := [(ro, eMR wd hc a0), (hc, eA cy f)]) hD hS hA [0, 1] rfl
  refine va_callr (va_runV (As := [.int p0]) (rest := []) ⟨hx, hb, hml, hown, hts⟩ (kk_X4_text l dC dI cy cB ro hc wd a0 f p0 H.size N (jt_in2 hno) (hokf _ (xm_lt (jt_in2 hno)))) (cwV 1 hts gX5_text_X4_text rfl rfl rfl (by decide +kernel) ⟨Nat.le_of_ble_eq_true rfl, Nat.le_of_ble_eq_true rfl⟩) (xT.preV hKc hPc hDc hAN (Nat.le_trans hN hS.1) (hG.kept hS hAN) (hT.kept hS hAN) (ci := 6) (q0 := 0) rfl rfl) rfl rfl hl.1 rfl (lv_room (Nat.le_of_ble_eq_true rfl)) dX5_text_19 ⟨(show _ ≤ 8 by omega), (show _ ≤ 200 by omega)⟩) hS (fun q _ h => hFc q h) hFc (fun u_9 r_8 t H locs ht hvm hw hB hz hk hS => ?_)
  obtain ⟨hP1, hD1⟩ := hB
  rw [ht] at hP1
  obtain ⟨va2_5, na2_6, fa2_7⟩ := u_9
  obtain ⟨hP, hD⟩ := va_join (wr := [(h0, eM h1 h2 (o_X5_fails (o_X5_isNo p0) false).2 rf kn)]) (w1 := [(ro, eMR wd hc a0), (hc, eA cy f), (r_8, .inr (0, [.ref va2_5, .int 0, .int 0, .int 0])), (va2_5, eY cB na2_6 fa2_7)]) hP hD [0, 1] [2] rfl rfl (by decide) (by decide) hk hFc hP1 hD1
  have hP : va_P (dC, dI) xCl [(h0, eM h1 h2 (o_X5_fails (o_X5_isNo p0) false).2 rf kn), (ro, eMR wd hc a0), (hc, eA cy f), (r_8, .inr (0, [.ref va2_5, .int 0, .int 0, .int 0])), (va2_5, eY cB na2_6 fa2_7)] H := hP
  have hD : va_D A [(h0, eM h1 h2 (o_X5_fails (o_X5_isNo p0) false).2 rf kn), (ro, eMR wd hc a0), (hc, eA cy f), (r_8, .inr (0, [.ref va2_5, .int 0, .int 0, .int 0])), (va2_5, eY cB na2_6 fa2_7)] := hD
  obtain ⟨hn_na2_6, hL_na2_6⟩ : na2_6 ≤ 34 ∧ tL (tTx wd (f p0.toNatClampNeg)) na2_6 fa2_7 := hw
  have hP := hP.sub (ws' := [(h0, eM h1 h2 (o_X5_fails (o_X5_isNo p0) false).2 rf kn), (ro, eMR wd hc a0), (hc, eA cy f), (r_8, .inr (0, [.ref va2_5, .int 0, .int 0, .int 0])), (va2_5, eY cB na2_6 fa2_7)]) [0, 1, 2, 3, 4] rfl
  have hD := hD.sub (ws' := [(h0, eM h1 h2 (o_X5_fails (o_X5_isNo p0) false).2 rf kn), (ro, eMR wd hc a0), (hc, eA cy f), (r_8, .inr (0, [.ref va2_5, .int 0, .int 0, .int 0])), (va2_5, eY cB na2_6 fa2_7)]) [0, 1, 2, 3, 4] (by decide) rfl
  refine W.widen (k := 8) (n := 200) (by omega) (by omega) ?_
  exact W.aret (v := .ref r_8) hx hb hr (Or.inl ⟨_, rfl⟩) (Or.inr ⟨_, rfl⟩) (fun t ht hW => ⟨⟨((o_X5_fails (o_X5_isNo p0) false).2, va2_5, na2_6, fa2_7), _, rfl, ⟨rfl, hn_na2_6, hL_na2_6⟩, ⟨by rw [ht]; exact hP, hD⟩⟩, hS.F ht⟩) hS.2.2 dX5_text_22
set_option maxHeartbeats 4000000 in
set_option maxRecDepth 100000 in
theorem kka_X5_wideText (l : Launch) (dC : Nat → ClassId) (dI : Nat → Nat → Nat) (cy : ClassId) (cB : ClassId) (h0 : Nat) (h1 : Nat) (hc1 : Nat) (h2 : Nat) (hc2 : Nat) (a1 : Int32) (f1 : Nat → Int64) (a2 : Int32) (f2 : Nat → Int64) (th : Int32) (rf : Int32) (kn : Int32) (p0 : Int32) (sz N : Nat) (hok2 : okF false f2) (hno : o_X5_isNo p0 = false) : Met l yX5_wideText wsX5_wideText ({ frames := 8, cells := 40, slots := 2000, locals := 254 }) (va_Pc [.ref h0, .int p0] (xT (dC, dI) xCl [(h0, eM h1 h2 th rf kn), (h1, eMR true hc1 a1), (hc1, eA cy f1), (h2, eMR false hc2 a2), (hc2, eA cy f2)] [(cy, .long), (cB, .byte)] sz N)) (va_Qr (fun (u : Int32 × Nat × Nat × (Nat → Int32)) => u.1 = (o_X5_fails (o_X5_isNo p0) false).2 ∧ u.2.2.1 ≤ 34 ∧ tL (tTx true (f1 p0.toNatClampNeg)) u.2.2.1 u.2.2.2) (fun (u : Int32 × Nat × Nat × (Nat → Int32)) a t => xW (dC, dI) xCl [(h0, eM h1 h2 u.1 rf kn), (h1, eMR true hc1 a1), (hc1, eA cy f1), (h2, eMR false hc2 a2), (hc2, eA cy f2), (a, .inr (0, [.ref u.2.1, .int 0, .int 0, .int 0])), (u.2.1, eY cB u.2.2.1 u.2.2.2)] (va_A [(h0, eM h1 h2 th rf kn), (h1, eMR true hc1 a1), (hc1, eA cy f1), (h2, eMR false hc2 a2), (hc2, eA cy f2)] sz) t) (va_A [(h0, eM h1 h2 th rf kn), (h1, eMR true hc1 a1), (hc1, eA cy f1), (h2, eMR false hc2 a2), (hc2, eA cy f2)] sz)) 40 2000 (va_A [(h0, eM h1 h2 th rf kn), (h1, eMR true hc1 a1), (hc1, eA cy f1), (h2, eMR false hc2 a2), (hc2, eA cy f2)] sz) := by
  refine Met.ofW (cc := cX5_wideText) (maxL := 2) (ret := (some (.object "java/lang/String"))) (by decide +kernel) rfl ?_
  intro p e s m args below meth c s₁ B hml hv
  obtain ⟨rfl, ⟨hsz, hP, hK, hD0, hN, hG⟩, hT⟩ := hv
  have hx := B.exec
  have hb := B.bytes
  have hr := B.returns
  have hts := atoms_spec (ws := wsX5_wideText) B.pre
  have hown : s.vm.findClass RX5 = some m.cls := findClass_of_methodNamed B.named
  have hlocks := B.notSynchronized
  subst hsz
  have hAN : ∀ q, va_A [(h0, eM h1 h2 th rf kn), (h1, eMR true hc1 a1), (hc1, eA cy f1), (h2, eMR false hc2 a2), (hc2, eA cy f2)] s.heap.size q → N ≤ q := xA_N hD0 hN
  have hD := hD0.self (sz := s.heap.size)
  generalize hAe : va_A [(h0, eM h1 h2 th rf kn), (h1, eMR true hc1 a1), (hc1, eA cy f1), (h2, eMR false hc2 a2), (hc2, eA cy f2)] s.heap.size = A at hD hAN ⊢
  have hA : ∀ q : Nat, s.heap.size ≤ q → A q := fun q h => by rw [← hAe]; exact Or.inr h
  have hS : va_S A s.heap s.heap [] := va_S.rf
  have hP : va_P (dC, dI) xCl [(h0, eM h1 h2 th rf kn), (h1, eMR true hc1 a1), (hc1, eA cy f1), (h2, eMR false hc2 a2), (hc2, eA cy f2)] s.heap := hP
  obtain ⟨hTc, ⟨tO, tT, fO, fT, hTo, hTt, hTa, hTb, hTf, hTg⟩, ⟨adK, adV, hTs, hTr0, hTr1, hTr2⟩, ⟨aE, hTe⟩, hTn⟩ := id hT
  have hl := lv_entry ([.ref h0, .int p0]) (n := 2) (Nat.le_of_ble_eq_true rfl)
  rw [lg_entry_eq]
  generalize (lg_sl ([.ref h0, .int p0]) ++ List.replicate (2 - (lg_sl ([.ref h0, .int p0])).length) Slot.unset).toArray = ls at hl ⊢
  have hl : lv_has ls 2 [(0, .ref h0), (1, .int p0)] := hl
  refine lv_aload_n hx hb dX5_wideText_0 rfl (lv_at hl 0 rfl) ?_
  refine lv_aload_n hx hb dX5_wideText_1 rfl (lv_at hl 0 rfl) ?_
  refine va_get (D := (dC, dI)) (ci := 7) (v := .ref h1) (C := RX5) (T := TX5) (N := 5) hx hb hts (by decide +kernel) hown hK hP 0 rfl rfl 0 (by decide) (hts (.fieldLink RX5 16 "EdgefloatsModel" "wide" "LEdgefloatsModel$Row;") (by decide +kernel)) (fun _ h9 => h9) rfl dX5_wideText_2 ?_
  refine lv_iload_n hx hb dX5_wideText_5 rfl (lv_at hl 1 rfl) ?_
  have hPc := hP.sub (ws' := [(h0, eM h1 h2 th rf kn), (h1, eMR true hc1 a1), (hc1, eA cy f1)]) [0, 1, 2] rfl
  have hDc := hD.sub (ws' := [(h0, eM h1 h2 th rf kn), (h1, eMR true hc1 a1), (hc1, eA cy f1)]) [0, 1, 2] (by decide) rfl
  have hKc := hK.sub (tys' := [(cy, .long), (cB, .byte)]) [0, 1] rfl
  have hFc := va_free (wc := [(h0, eM h1 h2 th rf kn), (h1, eMR true hc1 a1), (hc1, eA cy f1)]) hD hS hA [0, 1, 2] rfl
  refine va_callr (va_runV (As := [.ref h1, .int p0]) (rest := []) ⟨hx, hb, hml, hown, hts⟩ (kka_X5_text l dC dI cy cB h0 h1 h2 h1 hc1 true a1 f1 th rf kn p0 s.heap.size N (okF_true _) hno) (cwV 2 hts gX5_wideText_X5_text rfl rfl rfl (by decide +kernel) ⟨Nat.le_of_ble_eq_true rfl, Nat.le_of_ble_eq_true rfl⟩) (xT.preV hKc hPc hDc hAN (Nat.le_trans hN hS.1) (hG.kept hS hAN) (hT.kept hS hAN) (ci := 7) (q0 := 0) rfl rfl) rfl rfl hl.1 rfl (lv_room (Nat.le_of_ble_eq_true rfl)) dX5_wideText_6 ⟨(show _ ≤ 40 by omega), (show _ ≤ 2000 by omega)⟩) hS (fun q _ h => hFc q h) hFc (fun u_6 r_5 t H locs ht hvm hw hB hz hk hS => ?_)
  obtain ⟨hP1, hD1⟩ := hB
  rw [ht] at hP1
  obtain ⟨th2_1, va2_2, na2_3, fa2_4⟩ := u_6
  obtain ⟨hP, hD⟩ := va_join (wr := [(h2, eMR false hc2 a2), (hc2, eA cy f2)]) (w1 := [(h0, eM h1 h2 th2_1 rf kn), (h1, eMR true hc1 a1), (hc1, eA cy f1), (r_5, .inr (0, [.ref va2_2, .int 0, .int 0, .int 0])), (va2_2, eY cB na2_3 fa2_4)]) hP hD [0, 1, 2] [3, 4] rfl rfl (by decide) (by decide) hk hFc hP1 hD1
  have hP : va_P (dC, dI) xCl [(h2, eMR false hc2 a2), (hc2, eA cy f2), (h0, eM h1 h2 th2_1 rf kn), (h1, eMR true hc1 a1), (hc1, eA cy f1), (r_5, .inr (0, [.ref va2_2, .int 0, .int 0, .int 0])), (va2_2, eY cB na2_3 fa2_4)] H := hP
  have hD : va_D A [(h2, eMR false hc2 a2), (hc2, eA cy f2), (h0, eM h1 h2 th2_1 rf kn), (h1, eMR true hc1 a1), (hc1, eA cy f1), (r_5, .inr (0, [.ref va2_2, .int 0, .int 0, .int 0])), (va2_2, eY cB na2_3 fa2_4)] := hD
  obtain ⟨ht_th2_1, hn_th2_1, hL_th2_1⟩ : th2_1 = (o_X5_fails (o_X5_isNo p0) false).2 ∧ na2_3 ≤ 34 ∧ tL (tTx true (f1 p0.toNatClampNeg)) na2_3 fa2_4 := hw
  have hP := hP.sub (ws' := [(h0, eM h1 h2 th2_1 rf kn), (h1, eMR true hc1 a1), (hc1, eA cy f1), (h2, eMR false hc2 a2), (hc2, eA cy f2), (r_5, .inr (0, [.ref va2_2, .int 0, .int 0, .int 0])), (va2_2, eY cB na2_3 fa2_4)]) [2, 3, 4, 0, 1, 5, 6] rfl
  have hD := hD.sub (ws' := [(h0, eM h1 h2 th2_1 rf kn), (h1, eMR true hc1 a1), (hc1, eA cy f1), (h2, eMR false hc2 a2), (hc2, eA cy f2), (r_5, .inr (0, [.ref va2_2, .int 0, .int 0, .int 0])), (va2_2, eY cB na2_3 fa2_4)]) [2, 3, 4, 0, 1, 5, 6] (by decide) rfl
  refine W.widen (k := 40) (n := 2000) (by omega) (by omega) ?_
  exact W.aret (v := .ref r_5) hx hb hr (Or.inl ⟨_, rfl⟩) (Or.inr ⟨_, rfl⟩) (fun t ht hW => ⟨⟨(th2_1, va2_2, na2_3, fa2_4), _, rfl, ⟨ht_th2_1, hn_th2_1, hL_th2_1⟩, ⟨by rw [ht]; exact hP, hD⟩⟩, hS.F ht⟩) hS.2.2 dX5_wideText_9
set_option maxHeartbeats 4000000 in
set_option maxRecDepth 100000 in
theorem kka_X5_narrowText (l : Launch) (dC : Nat → ClassId) (dI : Nat → Nat → Nat) (cy : ClassId) (cB : ClassId) (h0 : Nat) (h1 : Nat) (hc1 : Nat) (h2 : Nat) (hc2 : Nat) (a1 : Int32) (f1 : Nat → Int64) (a2 : Int32) (f2 : Nat → Int64) (th : Int32) (rf : Int32) (kn : Int32) (p0 : Int32) (sz N : Nat) (hok2 : okF false f2) (hno : o_X5_isNo p0 = false) : Met l yX5_narrowText wsX5_narrowText ({ frames := 8, cells := 40, slots := 2000, locals := 254 }) (va_Pc [.ref h0, .int p0] (xT (dC, dI) xCl [(h0, eM h1 h2 th rf kn), (h1, eMR true hc1 a1), (hc1, eA cy f1), (h2, eMR false hc2 a2), (hc2, eA cy f2)] [(cy, .long), (cB, .byte)] sz N)) (va_Qr (fun (u : Int32 × Nat × Nat × (Nat → Int32)) => u.1 = (o_X5_fails (o_X5_isNo p0) false).2 ∧ u.2.2.1 ≤ 34 ∧ tL (tTx false (f2 p0.toNatClampNeg)) u.2.2.1 u.2.2.2) (fun (u : Int32 × Nat × Nat × (Nat → Int32)) a t => xW (dC, dI) xCl [(h0, eM h1 h2 u.1 rf kn), (h1, eMR true hc1 a1), (hc1, eA cy f1), (h2, eMR false hc2 a2), (hc2, eA cy f2), (a, .inr (0, [.ref u.2.1, .int 0, .int 0, .int 0])), (u.2.1, eY cB u.2.2.1 u.2.2.2)] (va_A [(h0, eM h1 h2 th rf kn), (h1, eMR true hc1 a1), (hc1, eA cy f1), (h2, eMR false hc2 a2), (hc2, eA cy f2)] sz) t) (va_A [(h0, eM h1 h2 th rf kn), (h1, eMR true hc1 a1), (hc1, eA cy f1), (h2, eMR false hc2 a2), (hc2, eA cy f2)] sz)) 40 2000 (va_A [(h0, eM h1 h2 th rf kn), (h1, eMR true hc1 a1), (hc1, eA cy f1), (h2, eMR false hc2 a2), (hc2, eA cy f2)] sz) := by
  refine Met.ofW (cc := cX5_narrowText) (maxL := 2) (ret := (some (.object "java/lang/String"))) (by decide +kernel) rfl ?_
  intro p e s m args below meth c s₁ B hml hv
  obtain ⟨rfl, ⟨hsz, hP, hK, hD0, hN, hG⟩, hT⟩ := hv
  have hx := B.exec
  have hb := B.bytes
  have hr := B.returns
  have hts := atoms_spec (ws := wsX5_narrowText) B.pre
  have hown : s.vm.findClass RX5 = some m.cls := findClass_of_methodNamed B.named
  have hlocks := B.notSynchronized
  subst hsz
  have hAN : ∀ q, va_A [(h0, eM h1 h2 th rf kn), (h1, eMR true hc1 a1), (hc1, eA cy f1), (h2, eMR false hc2 a2), (hc2, eA cy f2)] s.heap.size q → N ≤ q := xA_N hD0 hN
  have hD := hD0.self (sz := s.heap.size)
  generalize hAe : va_A [(h0, eM h1 h2 th rf kn), (h1, eMR true hc1 a1), (hc1, eA cy f1), (h2, eMR false hc2 a2), (hc2, eA cy f2)] s.heap.size = A at hD hAN ⊢
  have hA : ∀ q : Nat, s.heap.size ≤ q → A q := fun q h => by rw [← hAe]; exact Or.inr h
  have hS : va_S A s.heap s.heap [] := va_S.rf
  have hP : va_P (dC, dI) xCl [(h0, eM h1 h2 th rf kn), (h1, eMR true hc1 a1), (hc1, eA cy f1), (h2, eMR false hc2 a2), (hc2, eA cy f2)] s.heap := hP
  obtain ⟨hTc, ⟨tO, tT, fO, fT, hTo, hTt, hTa, hTb, hTf, hTg⟩, ⟨adK, adV, hTs, hTr0, hTr1, hTr2⟩, ⟨aE, hTe⟩, hTn⟩ := id hT
  have hl := lv_entry ([.ref h0, .int p0]) (n := 2) (Nat.le_of_ble_eq_true rfl)
  rw [lg_entry_eq]
  generalize (lg_sl ([.ref h0, .int p0]) ++ List.replicate (2 - (lg_sl ([.ref h0, .int p0])).length) Slot.unset).toArray = ls at hl ⊢
  have hl : lv_has ls 2 [(0, .ref h0), (1, .int p0)] := hl
  refine lv_aload_n hx hb dX5_narrowText_0 rfl (lv_at hl 0 rfl) ?_
  refine lv_aload_n hx hb dX5_narrowText_1 rfl (lv_at hl 0 rfl) ?_
  refine va_get (D := (dC, dI)) (ci := 7) (v := .ref h2) (C := RX5) (T := TX5) (N := 5) hx hb hts (by decide +kernel) hown hK hP 0 rfl rfl 1 (by decide) (hts (.fieldLink RX5 24 "EdgefloatsModel" "narrow" "LEdgefloatsModel$Row;") (by decide +kernel)) (fun _ h9 => h9) rfl dX5_narrowText_2 ?_
  refine lv_iload_n hx hb dX5_narrowText_5 rfl (lv_at hl 1 rfl) ?_
  have hPc := hP.sub (ws' := [(h0, eM h1 h2 th rf kn), (h2, eMR false hc2 a2), (hc2, eA cy f2)]) [0, 3, 4] rfl
  have hDc := hD.sub (ws' := [(h0, eM h1 h2 th rf kn), (h2, eMR false hc2 a2), (hc2, eA cy f2)]) [0, 3, 4] (by decide) rfl
  have hKc := hK.sub (tys' := [(cy, .long), (cB, .byte)]) [0, 1] rfl
  have hFc := va_free (wc := [(h0, eM h1 h2 th rf kn), (h2, eMR false hc2 a2), (hc2, eA cy f2)]) hD hS hA [0, 3, 4] rfl
  refine va_callr (va_runV (As := [.ref h2, .int p0]) (rest := []) ⟨hx, hb, hml, hown, hts⟩ (kka_X5_text l dC dI cy cB h0 h1 h2 h2 hc2 false a2 f2 th rf kn p0 s.heap.size N hok2 hno) (cwV 2 hts gX5_narrowText_X5_text rfl rfl rfl (by decide +kernel) ⟨Nat.le_of_ble_eq_true rfl, Nat.le_of_ble_eq_true rfl⟩) (xT.preV hKc hPc hDc hAN (Nat.le_trans hN hS.1) (hG.kept hS hAN) (hT.kept hS hAN) (ci := 7) (q0 := 0) rfl rfl) rfl rfl hl.1 rfl (lv_room (Nat.le_of_ble_eq_true rfl)) dX5_narrowText_6 ⟨(show _ ≤ 40 by omega), (show _ ≤ 2000 by omega)⟩) hS (fun q _ h => hFc q h) hFc (fun u_6 r_5 t H locs ht hvm hw hB hz hk hS => ?_)
  obtain ⟨hP1, hD1⟩ := hB
  rw [ht] at hP1
  obtain ⟨th2_1, va2_2, na2_3, fa2_4⟩ := u_6
  obtain ⟨hP, hD⟩ := va_join (wr := [(h1, eMR true hc1 a1), (hc1, eA cy f1)]) (w1 := [(h0, eM h1 h2 th2_1 rf kn), (h2, eMR false hc2 a2), (hc2, eA cy f2), (r_5, .inr (0, [.ref va2_2, .int 0, .int 0, .int 0])), (va2_2, eY cB na2_3 fa2_4)]) hP hD [0, 3, 4] [1, 2] rfl rfl (by decide) (by decide) hk hFc hP1 hD1
  have hP : va_P (dC, dI) xCl [(h1, eMR true hc1 a1), (hc1, eA cy f1), (h0, eM h1 h2 th2_1 rf kn), (h2, eMR false hc2 a2), (hc2, eA cy f2), (r_5, .inr (0, [.ref va2_2, .int 0, .int 0, .int 0])), (va2_2, eY cB na2_3 fa2_4)] H := hP
  have hD : va_D A [(h1, eMR true hc1 a1), (hc1, eA cy f1), (h0, eM h1 h2 th2_1 rf kn), (h2, eMR false hc2 a2), (hc2, eA cy f2), (r_5, .inr (0, [.ref va2_2, .int 0, .int 0, .int 0])), (va2_2, eY cB na2_3 fa2_4)] := hD
  obtain ⟨ht_th2_1, hn_th2_1, hL_th2_1⟩ : th2_1 = (o_X5_fails (o_X5_isNo p0) false).2 ∧ na2_3 ≤ 34 ∧ tL (tTx false (f2 p0.toNatClampNeg)) na2_3 fa2_4 := hw
  have hP := hP.sub (ws' := [(h0, eM h1 h2 th2_1 rf kn), (h1, eMR true hc1 a1), (hc1, eA cy f1), (h2, eMR false hc2 a2), (hc2, eA cy f2), (r_5, .inr (0, [.ref va2_2, .int 0, .int 0, .int 0])), (va2_2, eY cB na2_3 fa2_4)]) [2, 0, 1, 3, 4, 5, 6] rfl
  have hD := hD.sub (ws' := [(h0, eM h1 h2 th2_1 rf kn), (h1, eMR true hc1 a1), (hc1, eA cy f1), (h2, eMR false hc2 a2), (hc2, eA cy f2), (r_5, .inr (0, [.ref va2_2, .int 0, .int 0, .int 0])), (va2_2, eY cB na2_3 fa2_4)]) [2, 0, 1, 3, 4, 5, 6] (by decide) rfl
  refine W.widen (k := 40) (n := 2000) (by omega) (by omega) ?_
  exact W.aret (v := .ref r_5) hx hb hr (Or.inl ⟨_, rfl⟩) (Or.inr ⟨_, rfl⟩) (fun t ht hW => ⟨⟨(th2_1, va2_2, na2_3, fa2_4), _, rfl, ⟨ht_th2_1, hn_th2_1, hL_th2_1⟩, ⟨by rw [ht]; exact hP, hD⟩⟩, hS.F ht⟩) hS.2.2 dX5_narrowText_9
set_option maxHeartbeats 4000000 in
set_option maxRecDepth 100000 in
theorem kkb_X5_text (l : Launch) (dC : Nat → ClassId) (dI : Nat → Nat → Nat) (cy : ClassId) (cB : ClassId) (h0 : Nat) (h1 : Nat) (h2 : Nat) (ro : Nat) (hc : Nat) (wd : Bool) (a0 : Int32) (f : Nat → Int64) (th : Int32) (rf : Int32) (kn : Int32) (p0 : Int32) (sz N : Nat) (hokf : okF wd f) : Met l yX5_text wsX5_text ({ frames := 7, cells := 8, slots := 200, locals := 232 }) (va_Pc [.ref h0, .ref ro, .int p0] (xT (dC, dI) xCl [(h0, eM h1 h2 th rf kn), (ro, eMR wd hc a0), (hc, eA cy f)] [(cy, .long), (cB, .byte)] sz N)) (va_Qr (fun (u : Int32) => u = (o_X5_fails (o_X5_isNo p0) false).2) (fun (u : Int32) a t => xW (dC, dI) xCl [(h0, eM h1 h2 u rf kn), (ro, eMR wd hc a0), (hc, eA cy f)] (va_A [(h0, eM h1 h2 th rf kn), (ro, eMR wd hc a0), (hc, eA cy f)] sz) t) (va_A [(h0, eM h1 h2 th rf kn), (ro, eMR wd hc a0), (hc, eA cy f)] sz)) 8 200 (va_A [(h0, eM h1 h2 th rf kn), (ro, eMR wd hc a0), (hc, eA cy f)] sz) := by
  refine Met.ofW (cc := cX5_text) (maxL := 3) (ret := (some (.object "java/lang/String"))) (by decide +kernel) rfl ?_
  intro p e s m args below meth c s₁ B hml hv
  obtain ⟨rfl, ⟨hsz, hP, hK, hD0, hN, hG⟩, hT⟩ := hv
  have hx := B.exec
  have hb := B.bytes
  have hr := B.returns
  have hts := atoms_spec (ws := wsX5_text) B.pre
  have hown : s.vm.findClass RX5 = some m.cls := findClass_of_methodNamed B.named
  have hlocks := B.notSynchronized
  subst hsz
  have hAN : ∀ q, va_A [(h0, eM h1 h2 th rf kn), (ro, eMR wd hc a0), (hc, eA cy f)] s.heap.size q → N ≤ q := xA_N hD0 hN
  have hD := hD0.self (sz := s.heap.size)
  generalize hAe : va_A [(h0, eM h1 h2 th rf kn), (ro, eMR wd hc a0), (hc, eA cy f)] s.heap.size = A at hD hAN ⊢
  have hA : ∀ q : Nat, s.heap.size ≤ q → A q := fun q h => by rw [← hAe]; exact Or.inr h
  have hS : va_S A s.heap s.heap [] := va_S.rf
  have hP : va_P (dC, dI) xCl [(h0, eM h1 h2 th rf kn), (ro, eMR wd hc a0), (hc, eA cy f)] s.heap := hP
  obtain ⟨hTc, ⟨tO, tT, fO, fT, hTo, hTt, hTa, hTb, hTf, hTg⟩, ⟨adK, adV, hTs, hTr0, hTr1, hTr2⟩, ⟨aE, hTe⟩, hTn⟩ := id hT
  have hl := lv_entry ([.ref h0, .ref ro, .int p0]) (n := 3) (Nat.le_of_ble_eq_true rfl)
  rw [lg_entry_eq]
  generalize (lg_sl ([.ref h0, .ref ro, .int p0]) ++ List.replicate (3 - (lg_sl ([.ref h0, .ref ro, .int p0])).length) Slot.unset).toArray = ls at hl ⊢
  have hl : lv_has ls 3 [(0, .ref h0), (1, .ref ro), (2, .int p0)] := hl
  refine lv_aload_n hx hb dX5_text_0 rfl (lv_at hl 0 rfl) ?_
  refine lv_iload_n hx hb dX5_text_1 rfl (lv_at hl 2 rfl) ?_
  have hPc := xP_nil (D := (dC, dI)) (cl := xCl) (H := s.heap)
  have hDc := xD_nil (A := A)
  have hKc := hK.sub (tys' := []) [] rfl
  have hFc := va_free (wc := []) hD hS hA [] rfl
  refine va_calli (va_runS (As := [.int p0]) (rest := [.ref h0]) ⟨hx, hb, hml, hown, hts⟩ (k_X5_isNo l dC dI s.heap.size p0) (va_cwS 1 hts gX5_text_X5_isNo rfl rfl rfl (by decide +kernel) ⟨Nat.le_of_ble_eq_true rfl, Nat.le_of_ble_eq_true rfl⟩) (xB.preS hKc hPc) rfl rfl hl.1 rfl (lv_room (Nat.le_of_ble_eq_true rfl)) dX5_text_2 ⟨(show _ ≤ 8 by omega), (show _ ≤ 200 by omega)⟩) hS xA_old (fun q h => hA q (Nat.le_trans hS.1 h)) (fun r_1 u_2 t H locs ht hvm hw hB hz hk hS => ?_)
  have hP := xP_keep hP hk
  have hw : r_1 = b2i (o_X5_isNo p0) := hw
  rw [hw]
  refine lv_iconst (v := 0) hx hb dX5_text_5 (by decide) ?_
  have hPc := hP.sub (ws' := [(h0, eM h1 h2 th rf kn)]) [0] rfl
  have hDc := hD.sub (ws' := [(h0, eM h1 h2 th rf kn)]) [0] (by decide) rfl
  have hKc := hK.sub (tys' := []) [] rfl
  have hFc := va_free (wc := [(h0, eM h1 h2 th rf kn)]) hD hS hA [0] rfl
  refine va_calli (va_runV (As := [.int (b2i (o_X5_isNo p0)), .int 0]) (rest := []) ⟨hx, hb, hml, hown, hts⟩ (k_X5_fails l dC dI h0 h1 h2 th rf kn H.size N (o_X5_isNo p0) false) (cwV 2 hts gX5_text_X5_fails rfl rfl rfl (by decide +kernel) ⟨Nat.le_of_ble_eq_true rfl, Nat.le_of_ble_eq_true rfl⟩) (xM.preV hKc hPc hDc hAN (Nat.le_trans hN hS.1) (hG.kept hS hAN) (ci := 7) (q0 := 0) rfl rfl) rfl rfl hl.1 rfl (lv_room (Nat.le_of_ble_eq_true rfl)) dX5_text_6 ⟨(show _ ≤ 8 by omega), (show _ ≤ 200 by omega)⟩) hS (fun q _ h => hFc q h) hFc (fun r_3 u_4 t H locs ht hvm hw hB hz hk hS => ?_)
  obtain ⟨hP1, hD1⟩ := hB
  rw [ht] at hP1
  obtain ⟨hP, hD⟩ := va_join (wr := [(ro, eMR wd hc a0), (hc, eA cy f)]) (w1 := [(h0, eM h1 h2 (o_X5_fails (o_X5_isNo p0) false).2 rf kn)]) hP hD [0] [1, 2] rfl rfl (by decide) (by decide) hk hFc hP1 hD1
  have hP : va_P (dC, dI) xCl [(ro, eMR wd hc a0), (hc, eA cy f), (h0, eM h1 h2 (o_X5_fails (o_X5_isNo p0) false).2 rf kn)] H := hP
  have hD : va_D A [(ro, eMR wd hc a0), (hc, eA cy f), (h0, eM h1 h2 (o_X5_fails (o_X5_isNo p0) false).2 rf kn)] := hD
  have hw : r_3 = b2i (o_X5_fails (o_X5_isNo p0) false).1 := hw
  rw [hw]
  refine xz_eq (tgt := 17) hx hb dX5_text_9 (by decide) (fun c_5 => ?_) (fun c_5 => ?_)
  · skip
    refine lv_aload_n hx hb dX5_text_17 rfl (lv_at hl 1 rfl) ?_
    refine lv_iload_n hx hb dX5_text_18 rfl (lv_at hl 2 rfl) ?_
    have hPc := hP.sub (ws' := [(ro, eMR wd hc a0), (hc, eA cy f)]) [0, 1] rfl
    have hDc := hD.sub (ws' := [(ro, eMR wd hc a0), (hc, eA cy f)]) [0, 1] (by decide) rfl
    have hKc := hK.sub (tys' := [(cy, .long), (cB, .byte)]) [0, 1] rfl
    have hFc := va_free (wc := [(ro, eMR wd hc a0), (hc, eA cy f)]) hD hS hA [0, 1] rfl
    refine va_callr (va_runV (As := [.int p0]) (rest := []) ⟨hx, hb, hml, hown, hts⟩ (k_X4_text l dC dI cy cB ro hc wd a0 f p0 H.size N (jt_in c_5) (hokf _ (xm_lt (jt_in c_5)))) (cwV 1 hts gX5_text_X4_text rfl rfl rfl (by decide +kernel) ⟨Nat.le_of_ble_eq_true rfl, Nat.le_of_ble_eq_true rfl⟩) (xT.preV hKc hPc hDc hAN (Nat.le_trans hN hS.1) (hG.kept hS hAN) (hT.kept hS hAN) (ci := 6) (q0 := 0) rfl rfl) rfl rfl hl.1 rfl (lv_room (Nat.le_of_ble_eq_true rfl)) dX5_text_19 ⟨(show _ ≤ 8 by omega), (show _ ≤ 200 by omega)⟩) hS (fun q _ h => hFc q h) hFc (fun u_7 r_6 t H locs ht hvm hw hB hz hk hS => ?_)
    obtain ⟨hP1, hD1⟩ := hB
    rw [ht] at hP1
    obtain ⟨hP, hD⟩ := va_join (wr := [(h0, eM h1 h2 (o_X5_fails (o_X5_isNo p0) false).2 rf kn)]) (w1 := [(ro, eMR wd hc a0), (hc, eA cy f)]) hP hD [0, 1] [2] rfl rfl (by decide) (by decide) hk hFc hP1 hD1
    have hP : va_P (dC, dI) xCl [(h0, eM h1 h2 (o_X5_fails (o_X5_isNo p0) false).2 rf kn), (ro, eMR wd hc a0), (hc, eA cy f)] H := hP
    have hD : va_D A [(h0, eM h1 h2 (o_X5_fails (o_X5_isNo p0) false).2 rf kn), (ro, eMR wd hc a0), (hc, eA cy f)] := hD
    have hP := hP.sub (ws' := [(h0, eM h1 h2 (o_X5_fails (o_X5_isNo p0) false).2 rf kn), (ro, eMR wd hc a0), (hc, eA cy f)]) [0, 1, 2] rfl
    have hD := hD.sub (ws' := [(h0, eM h1 h2 (o_X5_fails (o_X5_isNo p0) false).2 rf kn), (ro, eMR wd hc a0), (hc, eA cy f)]) [0, 1, 2] (by decide) rfl
    refine W.widen (k := 8) (n := 200) (by omega) (by omega) ?_
    exact W.aret (v := .ref r_6) hx hb hr (Or.inl ⟨_, rfl⟩) (Or.inr ⟨_, rfl⟩) (fun t ht hW => ⟨⟨(o_X5_fails (o_X5_isNo p0) false).2, _, rfl, rfl, ⟨by rw [ht]; exact hP, hD⟩⟩, hS.F ht⟩) hS.2.2 dX5_text_22
  · skip
    refine va_ldcS hx hb hown hTe dX5_text_12 ?_
    refine lv_goto (tgt := 22) hx hb dX5_text_14 (by decide) ?_
    have hP := hP.sub (ws' := [(h0, eM h1 h2 (o_X5_fails (o_X5_isNo p0) false).2 rf kn), (ro, eMR wd hc a0), (hc, eA cy f)]) [2, 0, 1] rfl
    have hD := hD.sub (ws' := [(h0, eM h1 h2 (o_X5_fails (o_X5_isNo p0) false).2 rf kn), (ro, eMR wd hc a0), (hc, eA cy f)]) [2, 0, 1] (by decide) rfl
    refine W.widen (k := 8) (n := 200) (by omega) (by omega) ?_
    exact W.aret (v := .ref aE) hx hb hr (Or.inl ⟨_, rfl⟩) (Or.inr ⟨_, rfl⟩) (fun t ht hW => ⟨⟨(o_X5_fails (o_X5_isNo p0) false).2, _, rfl, rfl, ⟨by rw [ht]; exact hP, hD⟩⟩, hS.F ht⟩) hS.2.2 dX5_text_22
set_option maxHeartbeats 4000000 in
set_option maxRecDepth 100000 in
theorem kkb_X5_wideText (l : Launch) (dC : Nat → ClassId) (dI : Nat → Nat → Nat) (cy : ClassId) (cB : ClassId) (h0 : Nat) (h1 : Nat) (hc1 : Nat) (h2 : Nat) (hc2 : Nat) (a1 : Int32) (f1 : Nat → Int64) (a2 : Int32) (f2 : Nat → Int64) (th : Int32) (rf : Int32) (kn : Int32) (p0 : Int32) (sz N : Nat) (hok2 : okF false f2) : Met l yX5_wideText wsX5_wideText ({ frames := 8, cells := 40, slots := 2000, locals := 254 }) (va_Pc [.ref h0, .int p0] (xT (dC, dI) xCl [(h0, eM h1 h2 th rf kn), (h1, eMR true hc1 a1), (hc1, eA cy f1), (h2, eMR false hc2 a2), (hc2, eA cy f2)] [(cy, .long), (cB, .byte)] sz N)) (va_Qr (fun (u : Int32) => u = (o_X5_fails (o_X5_isNo p0) false).2) (fun (u : Int32) a t => xW (dC, dI) xCl [(h0, eM h1 h2 u rf kn), (h1, eMR true hc1 a1), (hc1, eA cy f1), (h2, eMR false hc2 a2), (hc2, eA cy f2)] (va_A [(h0, eM h1 h2 th rf kn), (h1, eMR true hc1 a1), (hc1, eA cy f1), (h2, eMR false hc2 a2), (hc2, eA cy f2)] sz) t) (va_A [(h0, eM h1 h2 th rf kn), (h1, eMR true hc1 a1), (hc1, eA cy f1), (h2, eMR false hc2 a2), (hc2, eA cy f2)] sz)) 40 2000 (va_A [(h0, eM h1 h2 th rf kn), (h1, eMR true hc1 a1), (hc1, eA cy f1), (h2, eMR false hc2 a2), (hc2, eA cy f2)] sz) := by
  refine Met.ofW (cc := cX5_wideText) (maxL := 2) (ret := (some (.object "java/lang/String"))) (by decide +kernel) rfl ?_
  intro p e s m args below meth c s₁ B hml hv
  obtain ⟨rfl, ⟨hsz, hP, hK, hD0, hN, hG⟩, hT⟩ := hv
  have hx := B.exec
  have hb := B.bytes
  have hr := B.returns
  have hts := atoms_spec (ws := wsX5_wideText) B.pre
  have hown : s.vm.findClass RX5 = some m.cls := findClass_of_methodNamed B.named
  have hlocks := B.notSynchronized
  subst hsz
  have hAN : ∀ q, va_A [(h0, eM h1 h2 th rf kn), (h1, eMR true hc1 a1), (hc1, eA cy f1), (h2, eMR false hc2 a2), (hc2, eA cy f2)] s.heap.size q → N ≤ q := xA_N hD0 hN
  have hD := hD0.self (sz := s.heap.size)
  generalize hAe : va_A [(h0, eM h1 h2 th rf kn), (h1, eMR true hc1 a1), (hc1, eA cy f1), (h2, eMR false hc2 a2), (hc2, eA cy f2)] s.heap.size = A at hD hAN ⊢
  have hA : ∀ q : Nat, s.heap.size ≤ q → A q := fun q h => by rw [← hAe]; exact Or.inr h
  have hS : va_S A s.heap s.heap [] := va_S.rf
  have hP : va_P (dC, dI) xCl [(h0, eM h1 h2 th rf kn), (h1, eMR true hc1 a1), (hc1, eA cy f1), (h2, eMR false hc2 a2), (hc2, eA cy f2)] s.heap := hP
  obtain ⟨hTc, ⟨tO, tT, fO, fT, hTo, hTt, hTa, hTb, hTf, hTg⟩, ⟨adK, adV, hTs, hTr0, hTr1, hTr2⟩, ⟨aE, hTe⟩, hTn⟩ := id hT
  have hl := lv_entry ([.ref h0, .int p0]) (n := 2) (Nat.le_of_ble_eq_true rfl)
  rw [lg_entry_eq]
  generalize (lg_sl ([.ref h0, .int p0]) ++ List.replicate (2 - (lg_sl ([.ref h0, .int p0])).length) Slot.unset).toArray = ls at hl ⊢
  have hl : lv_has ls 2 [(0, .ref h0), (1, .int p0)] := hl
  refine lv_aload_n hx hb dX5_wideText_0 rfl (lv_at hl 0 rfl) ?_
  refine lv_aload_n hx hb dX5_wideText_1 rfl (lv_at hl 0 rfl) ?_
  refine va_get (D := (dC, dI)) (ci := 7) (v := .ref h1) (C := RX5) (T := TX5) (N := 5) hx hb hts (by decide +kernel) hown hK hP 0 rfl rfl 0 (by decide) (hts (.fieldLink RX5 16 "EdgefloatsModel" "wide" "LEdgefloatsModel$Row;") (by decide +kernel)) (fun _ h9 => h9) rfl dX5_wideText_2 ?_
  refine lv_iload_n hx hb dX5_wideText_5 rfl (lv_at hl 1 rfl) ?_
  have hPc := hP.sub (ws' := [(h0, eM h1 h2 th rf kn), (h1, eMR true hc1 a1), (hc1, eA cy f1)]) [0, 1, 2] rfl
  have hDc := hD.sub (ws' := [(h0, eM h1 h2 th rf kn), (h1, eMR true hc1 a1), (hc1, eA cy f1)]) [0, 1, 2] (by decide) rfl
  have hKc := hK.sub (tys' := [(cy, .long), (cB, .byte)]) [0, 1] rfl
  have hFc := va_free (wc := [(h0, eM h1 h2 th rf kn), (h1, eMR true hc1 a1), (hc1, eA cy f1)]) hD hS hA [0, 1, 2] rfl
  refine va_callr (va_runV (As := [.ref h1, .int p0]) (rest := []) ⟨hx, hb, hml, hown, hts⟩ (kkb_X5_text l dC dI cy cB h0 h1 h2 h1 hc1 true a1 f1 th rf kn p0 s.heap.size N (okF_true _)) (cwV 2 hts gX5_wideText_X5_text rfl rfl rfl (by decide +kernel) ⟨Nat.le_of_ble_eq_true rfl, Nat.le_of_ble_eq_true rfl⟩) (xT.preV hKc hPc hDc hAN (Nat.le_trans hN hS.1) (hG.kept hS hAN) (hT.kept hS hAN) (ci := 7) (q0 := 0) rfl rfl) rfl rfl hl.1 rfl (lv_room (Nat.le_of_ble_eq_true rfl)) dX5_wideText_6 ⟨(show _ ≤ 40 by omega), (show _ ≤ 2000 by omega)⟩) hS (fun q _ h => hFc q h) hFc (fun u_3 r_2 t H locs ht hvm hw hB hz hk hS => ?_)
  obtain ⟨hP1, hD1⟩ := hB
  rw [ht] at hP1
  obtain ⟨th2_1, rfl⟩ : ∃ z, z = u_3 := ⟨_, rfl⟩
  obtain ⟨hP, hD⟩ := va_join (wr := [(h2, eMR false hc2 a2), (hc2, eA cy f2)]) (w1 := [(h0, eM h1 h2 th2_1 rf kn), (h1, eMR true hc1 a1), (hc1, eA cy f1)]) hP hD [0, 1, 2] [3, 4] rfl rfl (by decide) (by decide) hk hFc hP1 hD1
  have hP : va_P (dC, dI) xCl [(h2, eMR false hc2 a2), (hc2, eA cy f2), (h0, eM h1 h2 th2_1 rf kn), (h1, eMR true hc1 a1), (hc1, eA cy f1)] H := hP
  have hD : va_D A [(h2, eMR false hc2 a2), (hc2, eA cy f2), (h0, eM h1 h2 th2_1 rf kn), (h1, eMR true hc1 a1), (hc1, eA cy f1)] := hD
  have ht_th2_1 : th2_1 = (o_X5_fails (o_X5_isNo p0) false).2 := hw
  have hP := hP.sub (ws' := [(h0, eM h1 h2 th2_1 rf kn), (h1, eMR true hc1 a1), (hc1, eA cy f1), (h2, eMR false hc2 a2), (hc2, eA cy f2)]) [2, 3, 4, 0, 1] rfl
  have hD := hD.sub (ws' := [(h0, eM h1 h2 th2_1 rf kn), (h1, eMR true hc1 a1), (hc1, eA cy f1), (h2, eMR false hc2 a2), (hc2, eA cy f2)]) [2, 3, 4, 0, 1] (by decide) rfl
  refine W.widen (k := 40) (n := 2000) (by omega) (by omega) ?_
  exact W.aret (v := .ref r_2) hx hb hr (Or.inl ⟨_, rfl⟩) (Or.inr ⟨_, rfl⟩) (fun t ht hW => ⟨⟨th2_1, _, rfl, ht_th2_1, ⟨by rw [ht]; exact hP, hD⟩⟩, hS.F ht⟩) hS.2.2 dX5_wideText_9
set_option maxHeartbeats 4000000 in
set_option maxRecDepth 100000 in
theorem kkb_X5_narrowText (l : Launch) (dC : Nat → ClassId) (dI : Nat → Nat → Nat) (cy : ClassId) (cB : ClassId) (h0 : Nat) (h1 : Nat) (hc1 : Nat) (h2 : Nat) (hc2 : Nat) (a1 : Int32) (f1 : Nat → Int64) (a2 : Int32) (f2 : Nat → Int64) (th : Int32) (rf : Int32) (kn : Int32) (p0 : Int32) (sz N : Nat) (hok2 : okF false f2) : Met l yX5_narrowText wsX5_narrowText ({ frames := 8, cells := 40, slots := 2000, locals := 254 }) (va_Pc [.ref h0, .int p0] (xT (dC, dI) xCl [(h0, eM h1 h2 th rf kn), (h1, eMR true hc1 a1), (hc1, eA cy f1), (h2, eMR false hc2 a2), (hc2, eA cy f2)] [(cy, .long), (cB, .byte)] sz N)) (va_Qr (fun (u : Int32) => u = (o_X5_fails (o_X5_isNo p0) false).2) (fun (u : Int32) a t => xW (dC, dI) xCl [(h0, eM h1 h2 u rf kn), (h1, eMR true hc1 a1), (hc1, eA cy f1), (h2, eMR false hc2 a2), (hc2, eA cy f2)] (va_A [(h0, eM h1 h2 th rf kn), (h1, eMR true hc1 a1), (hc1, eA cy f1), (h2, eMR false hc2 a2), (hc2, eA cy f2)] sz) t) (va_A [(h0, eM h1 h2 th rf kn), (h1, eMR true hc1 a1), (hc1, eA cy f1), (h2, eMR false hc2 a2), (hc2, eA cy f2)] sz)) 40 2000 (va_A [(h0, eM h1 h2 th rf kn), (h1, eMR true hc1 a1), (hc1, eA cy f1), (h2, eMR false hc2 a2), (hc2, eA cy f2)] sz) := by
  refine Met.ofW (cc := cX5_narrowText) (maxL := 2) (ret := (some (.object "java/lang/String"))) (by decide +kernel) rfl ?_
  intro p e s m args below meth c s₁ B hml hv
  obtain ⟨rfl, ⟨hsz, hP, hK, hD0, hN, hG⟩, hT⟩ := hv
  have hx := B.exec
  have hb := B.bytes
  have hr := B.returns
  have hts := atoms_spec (ws := wsX5_narrowText) B.pre
  have hown : s.vm.findClass RX5 = some m.cls := findClass_of_methodNamed B.named
  have hlocks := B.notSynchronized
  subst hsz
  have hAN : ∀ q, va_A [(h0, eM h1 h2 th rf kn), (h1, eMR true hc1 a1), (hc1, eA cy f1), (h2, eMR false hc2 a2), (hc2, eA cy f2)] s.heap.size q → N ≤ q := xA_N hD0 hN
  have hD := hD0.self (sz := s.heap.size)
  generalize hAe : va_A [(h0, eM h1 h2 th rf kn), (h1, eMR true hc1 a1), (hc1, eA cy f1), (h2, eMR false hc2 a2), (hc2, eA cy f2)] s.heap.size = A at hD hAN ⊢
  have hA : ∀ q : Nat, s.heap.size ≤ q → A q := fun q h => by rw [← hAe]; exact Or.inr h
  have hS : va_S A s.heap s.heap [] := va_S.rf
  have hP : va_P (dC, dI) xCl [(h0, eM h1 h2 th rf kn), (h1, eMR true hc1 a1), (hc1, eA cy f1), (h2, eMR false hc2 a2), (hc2, eA cy f2)] s.heap := hP
  obtain ⟨hTc, ⟨tO, tT, fO, fT, hTo, hTt, hTa, hTb, hTf, hTg⟩, ⟨adK, adV, hTs, hTr0, hTr1, hTr2⟩, ⟨aE, hTe⟩, hTn⟩ := id hT
  have hl := lv_entry ([.ref h0, .int p0]) (n := 2) (Nat.le_of_ble_eq_true rfl)
  rw [lg_entry_eq]
  generalize (lg_sl ([.ref h0, .int p0]) ++ List.replicate (2 - (lg_sl ([.ref h0, .int p0])).length) Slot.unset).toArray = ls at hl ⊢
  have hl : lv_has ls 2 [(0, .ref h0), (1, .int p0)] := hl
  refine lv_aload_n hx hb dX5_narrowText_0 rfl (lv_at hl 0 rfl) ?_
  refine lv_aload_n hx hb dX5_narrowText_1 rfl (lv_at hl 0 rfl) ?_
  refine va_get (D := (dC, dI)) (ci := 7) (v := .ref h2) (C := RX5) (T := TX5) (N := 5) hx hb hts (by decide +kernel) hown hK hP 0 rfl rfl 1 (by decide) (hts (.fieldLink RX5 24 "EdgefloatsModel" "narrow" "LEdgefloatsModel$Row;") (by decide +kernel)) (fun _ h9 => h9) rfl dX5_narrowText_2 ?_
  refine lv_iload_n hx hb dX5_narrowText_5 rfl (lv_at hl 1 rfl) ?_
  have hPc := hP.sub (ws' := [(h0, eM h1 h2 th rf kn), (h2, eMR false hc2 a2), (hc2, eA cy f2)]) [0, 3, 4] rfl
  have hDc := hD.sub (ws' := [(h0, eM h1 h2 th rf kn), (h2, eMR false hc2 a2), (hc2, eA cy f2)]) [0, 3, 4] (by decide) rfl
  have hKc := hK.sub (tys' := [(cy, .long), (cB, .byte)]) [0, 1] rfl
  have hFc := va_free (wc := [(h0, eM h1 h2 th rf kn), (h2, eMR false hc2 a2), (hc2, eA cy f2)]) hD hS hA [0, 3, 4] rfl
  refine va_callr (va_runV (As := [.ref h2, .int p0]) (rest := []) ⟨hx, hb, hml, hown, hts⟩ (kkb_X5_text l dC dI cy cB h0 h1 h2 h2 hc2 false a2 f2 th rf kn p0 s.heap.size N hok2) (cwV 2 hts gX5_narrowText_X5_text rfl rfl rfl (by decide +kernel) ⟨Nat.le_of_ble_eq_true rfl, Nat.le_of_ble_eq_true rfl⟩) (xT.preV hKc hPc hDc hAN (Nat.le_trans hN hS.1) (hG.kept hS hAN) (hT.kept hS hAN) (ci := 7) (q0 := 0) rfl rfl) rfl rfl hl.1 rfl (lv_room (Nat.le_of_ble_eq_true rfl)) dX5_narrowText_6 ⟨(show _ ≤ 40 by omega), (show _ ≤ 2000 by omega)⟩) hS (fun q _ h => hFc q h) hFc (fun u_3 r_2 t H locs ht hvm hw hB hz hk hS => ?_)
  obtain ⟨hP1, hD1⟩ := hB
  rw [ht] at hP1
  obtain ⟨th2_1, rfl⟩ : ∃ z, z = u_3 := ⟨_, rfl⟩
  obtain ⟨hP, hD⟩ := va_join (wr := [(h1, eMR true hc1 a1), (hc1, eA cy f1)]) (w1 := [(h0, eM h1 h2 th2_1 rf kn), (h2, eMR false hc2 a2), (hc2, eA cy f2)]) hP hD [0, 3, 4] [1, 2] rfl rfl (by decide) (by decide) hk hFc hP1 hD1
  have hP : va_P (dC, dI) xCl [(h1, eMR true hc1 a1), (hc1, eA cy f1), (h0, eM h1 h2 th2_1 rf kn), (h2, eMR false hc2 a2), (hc2, eA cy f2)] H := hP
  have hD : va_D A [(h1, eMR true hc1 a1), (hc1, eA cy f1), (h0, eM h1 h2 th2_1 rf kn), (h2, eMR false hc2 a2), (hc2, eA cy f2)] := hD
  have ht_th2_1 : th2_1 = (o_X5_fails (o_X5_isNo p0) false).2 := hw
  have hP := hP.sub (ws' := [(h0, eM h1 h2 th2_1 rf kn), (h1, eMR true hc1 a1), (hc1, eA cy f1), (h2, eMR false hc2 a2), (hc2, eA cy f2)]) [2, 0, 1, 3, 4] rfl
  have hD := hD.sub (ws' := [(h0, eM h1 h2 th2_1 rf kn), (h1, eMR true hc1 a1), (hc1, eA cy f1), (h2, eMR false hc2 a2), (hc2, eA cy f2)]) [2, 0, 1, 3, 4] (by decide) rfl
  refine W.widen (k := 40) (n := 2000) (by omega) (by omega) ?_
  exact W.aret (v := .ref r_2) hx hb hr (Or.inl ⟨_, rfl⟩) (Or.inr ⟨_, rfl⟩) (fun t ht hW => ⟨⟨th2_1, _, rfl, ht_th2_1, ⟨by rw [ht]; exact hP, hD⟩⟩, hS.F ht⟩) hS.2.2 dX5_narrowText_9
