/-! the texts' letters -/
noncomputable def TT (c ex Wn : Nat) : List Nat := [c, 32] ++ dL (sb_dg ex) ex ++ [32] ++ dL (dgL Wn) Wn
noncomputable def tTx (w : Bool) (d : Int64) : List Nat := TT (if o_X1_hasSign w d = true then 49 else 48) (o_X1_exponent w d).toNatClampNeg (o_X1_fraction w d).toNatClampNeg
theorem jx_sign {w : Bool} {d : Int64} (h : okN w d) : o_X1_hasSign w d = true ↔ o_X4_isBelowZero w d = true := by
  obtain ⟨n, hn, rfl⟩ := mo_of h
  rw [mq_sign hn, mo_neg hn]
theorem jt_in2 {p : Int32} (h : o_X5_isNo p = false) : vp_in p 8 := by
  rcases me_cell p with ⟨_, _, h3⟩ | ⟨_, h2⟩
  · exact h3
  · rw [h2] at h
    cases h
theorem jt_nof {p : Int32} (h : o_X5_isNo p = false) : ¬ (o_X5_fails (o_X5_isNo p) false).1 = true := by
  rw [h]
  decide
theorem tp_0 : ∀ (i c : Nat), ([49, 32] : List Nat)[i]? = some c → i < 2 ∧ ([49, 32] : List Int32).getD i 0 = sb_b c := by
  intro i c h
  rcases i with _ | _ | i
  · have e : 49 = c := by simpa using h
    subst e
    exact ⟨by decide, by decide⟩
  · have e : 32 = c := by simpa using h
    subst e
    exact ⟨by decide, by decide⟩
  · simp at h
theorem tp_1 : ∀ (i c : Nat), ([48, 32] : List Nat)[i]? = some c → i < 2 ∧ ([48, 32] : List Int32).getD i 0 = sb_b c := by
  intro i c h
  rcases i with _ | _ | i
  · have e : 48 = c := by simpa using h
    subst e
    exact ⟨by decide, by decide⟩
  · have e : 32 = c := by simpa using h
    subst e
    exact ⟨by decide, by decide⟩
  · simp at h
theorem tp_2 : ∀ (i c : Nat), ([32] : List Nat)[i]? = some c → i < 1 ∧ ([32] : List Int32).getD i 0 = sb_b c := by
  intro i c h
  rcases i with _ | i
  · have e : 32 = c := by simpa using h
    subst e
    exact ⟨by decide, by decide⟩
  · simp at h

set_option maxHeartbeats 4000000 in
set_option maxRecDepth 100000 in
theorem kk_X1_appendWhole (l : Launch) (dC : Nat → ClassId) (dI : Nat → Nat → Nat) (cB : ClassId) (h0 : Nat) (wd : Bool) (h : Nat) (v : Nat) (n : Nat) (mm : Nat) (f : Nat → Int32) (Wn : Nat) (sz N : Nat) (hm : mm = 16 ∨ mm = 34) (hf : sb_Fit f) (hnm : n ≤ mm) (hn : n ≤ 18) (hW : Wn < 4503599627370496) : Met l yX1_appendWhole wsX1_appendWhole ({ frames := 6, cells := 10, slots := 340, locals := 188 }) (va_Pc [.ref h0, .ref h, .long (lN Wn)] (xT (dC, dI) xCl [(h0, eW wd), (h, eB v (nI n)), (v, eY cB mm f)] [(cB, .byte)] sz N)) (va_Qv (fun (u : Nat × Nat × Nat × (Nat → Int32)) => (u.2.2.1 = 16 ∨ u.2.2.1 = 34) ∧ u.1 ≤ u.2.2.1 ∧ sb_Fit u.2.2.2 ∧ u.1 = n + dgL Wn ∧ tX f u.2.2.2 n (dL (dgL Wn) Wn)) (fun (u : Nat × Nat × Nat × (Nat → Int32)) t => xW (dC, dI) xCl [(h0, eW wd), (h, eB u.2.1 (nI u.1)), (u.2.1, eY cB u.2.2.1 u.2.2.2)] (va_A [(h0, eW wd), (h, eB v (nI n)), (v, eY cB mm f)] sz) t) (va_A [(h0, eW wd), (h, eB v (nI n)), (v, eY cB mm f)] sz)) 10 340 (va_A [(h0, eW wd), (h, eB v (nI n)), (v, eY cB mm f)] sz) := by
  refine Met.ofW (cc := cX1_appendWhole) (maxL := 7) (ret := none) (by decide +kernel) rfl ?_
  intro p e s m args below meth c s₁ B hml hv
  obtain ⟨rfl, ⟨hsz, hP, hK, hD0, hN, hG⟩, hT⟩ := hv
  have hx := B.exec
  have hb := B.bytes
  have hr := B.returns
  have hts := atoms_spec (ws := wsX1_appendWhole) B.pre
  have hown : s.vm.findClass RX1 = some m.cls := findClass_of_methodNamed B.named
  have hlocks := B.notSynchronized
  subst hsz
  have hAN : ∀ q, va_A [(h0, eW wd), (h, eB v (nI n)), (v, eY cB mm f)] s.heap.size q → N ≤ q := xA_N hD0 hN
  have hD := hD0.self (sz := s.heap.size)
  generalize hAe : va_A [(h0, eW wd), (h, eB v (nI n)), (v, eY cB mm f)] s.heap.size = A at hD hAN ⊢
  have hA : ∀ q : Nat, s.heap.size ≤ q → A q := fun q h => by rw [← hAe]; exact Or.inr h
  have hS : va_S A s.heap s.heap [] := va_S.rf
  have hP : va_P (dC, dI) xCl [(h0, eW wd), (h, eB v (nI n)), (v, eY cB mm f)] s.heap := hP
  obtain ⟨hTc, ⟨tO, tT, fO, fT, hTo, hTt, hTa, hTb, hTf, hTg⟩, ⟨adK, adV, hTs, hTr0, hTr1, hTr2⟩, ⟨aE, hTe⟩, hTn⟩ := id hT
  have hl := lv_entry ([.ref h0, .ref h, .long (lN Wn)]) (n := 7) (Nat.le_of_ble_eq_true rfl)
  rw [lg_entry_eq]
  generalize (lg_sl ([.ref h0, .ref h, .long (lN Wn)]) ++ List.replicate (7 - (lg_sl ([.ref h0, .ref h, .long (lN Wn)])).length) Slot.unset).toArray = ls at hl ⊢
  have hl : lv_has ls 7 [(0, .ref h0), (1, .ref h), (2, .long (lN Wn))] := hl
  have hd7 := dg_le7 (w := Wn / 1000000000) (by omega)
  have hd9 := dg_le9 (w := Wn % 1000000000) (by omega)
  have ht0 : tX f f n [] := tX_nil f n
  have hl0 : ([] : List Nat).length = 0 := rfl
  refine lv_lload_n hx hb dX1_appendWhole_0 rfl (lv_at hl 2 rfl) ?_
  refine lv_ldc2 (own := RX1) (index := 94) (v := 1000000000) hx hb hown (hts (.constantLong RX1 94 (1000000000)) (by decide +kernel)) dX1_appendWhole_1 ?_
  refine lv_ldiv hx hb dX1_appendWhole_4 (by decide) ?_
  rw [show (((lN Wn) / 1000000000) : Int64) = (lN (Wn / 1000000000)) from jl_div (a := Wn) (d := 1000000000) (by omega) (by decide) (by decide)]
  refine lv_l2i (v := ((lN (Wn / 1000000000)).toInt32)) hx hb dX1_appendWhole_5 rfl ?_
  rw [show (((lN (Wn / 1000000000)).toInt32) : Int32) = (nI (Wn / 1000000000)) from lN_i _]
  refine lv_istore (lv' := [(4, .int (nI (Wn / 1000000000))), (0, .ref h0), (1, .ref h), (2, .long (lN Wn))]) hx hb dX1_appendWhole_6 hl (by decide) rfl (fun ls hl => ?_)
  refine lv_lload_n hx hb dX1_appendWhole_8 rfl (lv_at hl 3 rfl) ?_
  refine lv_ldc2 (own := RX1) (index := 94) (v := 1000000000) hx hb hown (hts (.constantLong RX1 94 (1000000000)) (by decide +kernel)) dX1_appendWhole_9 ?_
  refine lv_lrem hx hb dX1_appendWhole_12 (by decide) ?_
  rw [show (((lN Wn) - (lN Wn) / 1000000000 * 1000000000) : Int64) = (lN (Wn % 1000000000)) from jl_rem (a := Wn) (d := 1000000000) (by omega) (by decide) (by decide)]
  refine lv_l2i (v := ((lN (Wn % 1000000000)).toInt32)) hx hb dX1_appendWhole_13 rfl ?_
  rw [show (((lN (Wn % 1000000000)).toInt32) : Int32) = (nI (Wn % 1000000000)) from lN_i _]
  refine lv_istore (lv' := [(5, .int (nI (Wn % 1000000000))), (4, .int (nI (Wn / 1000000000))), (0, .ref h0), (1, .ref h), (2, .long (lN Wn))]) hx hb dX1_appendWhole_14 hl (by decide) rfl (fun ls hl => ?_)
  refine lv_iload hx hb dX1_appendWhole_16 (lv_at hl 1 rfl) ?_
  refine lv_if_ne (tgt := 29) hx hb dX1_appendWhole_18 (by decide) (fun c_1 => ?_) (fun c_1 => ?_)
  · skip
    refine lv_aload_n hx hb dX1_appendWhole_29 rfl (lv_at hl 3 rfl) ?_
    refine lv_iload hx hb dX1_appendWhole_30 (lv_at hl 1 rfl) ?_
    have hPc := hP.sub (ws' := [(h, eB v (nI n)), (v, eY cB mm f)]) [1, 2] rfl
    have hDc := hD.sub (ws' := [(h, eB v (nI n)), (v, eY cB mm f)]) [1, 2] (by decide) rfl
    have hKc := hK.sub (tys' := [(cB, .byte)]) [0] rfl
    have hFc := va_free (wc := [(h, eB v (nI n)), (v, eY cB mm f)]) hD hS hA [1, 2] rfl
    refine va_callr (va_runV (As := [.int (nI (Wn / 1000000000))]) (rest := []) ⟨hx, hb, hml, hown, hts⟩ (kk_J4_append_bf812 l dC dI cB h v n mm f (Wn / 1000000000) s.heap.size N hm hf (by omega) (by omega) (by omega)) (cwV 1 hts gX1_appendWhole_J4_append_bf812 rfl rfl rfl (by decide +kernel) ⟨Nat.le_of_ble_eq_true rfl, Nat.le_of_ble_eq_true rfl⟩) (xT.preV hKc hPc hDc hAN (Nat.le_trans hN hS.1) (hG.kept hS hAN) (hT.kept hS hAN) (ci := 1) (q0 := 0) rfl rfl) rfl rfl hl.1 rfl (lv_room (Nat.le_of_ble_eq_true rfl)) dX1_appendWhole_32 ⟨(show _ ≤ 10 by omega), (show _ ≤ 340 by omega)⟩) hS (fun q _ h => hFc q h) hFc (fun u_6 r_5 t H locs ht hvm hw hB hz hk hS => ?_)
    obtain ⟨he_r_5, hP1, hD1⟩ := hB
    rw [ht] at hP1
    obtain ⟨v2_2, m2_3, f2_4⟩ := u_6
    obtain ⟨hP, hD⟩ := va_join (wr := [(h0, eW wd)]) (w1 := [(h, eB v2_2 (nI (n + sb_dg (Wn / 1000000000)))), (v2_2, eY cB m2_3 f2_4)]) hP hD [1, 2] [0] rfl rfl (by decide) (by decide) hk hFc hP1 hD1
    have hP : va_P (dC, dI) xCl [(h0, eW wd), (h, eB v2_2 (nI (n + sb_dg (Wn / 1000000000)))), (v2_2, eY cB m2_3 f2_4)] H := hP
    have hD : va_D A [(h0, eW wd), (h, eB v2_2 (nI (n + sb_dg (Wn / 1000000000)))), (v2_2, eY cB m2_3 f2_4)] := hD
    obtain ⟨hm_m2_3, hq_m2_3, hf_m2_3, hx_m2_3⟩ : (m2_3 = 16 ∨ m2_3 = 34) ∧ n + sb_dg (Wn / 1000000000) ≤ m2_3 ∧ sb_Fit f2_4 ∧ tX f f2_4 n (dL (sb_dg (Wn / 1000000000)) (Wn / 1000000000)) := hw
    have hl_7 : (([] : List Nat) ++ dL (sb_dg (Wn / 1000000000)) (Wn / 1000000000)).length = 0 + sb_dg (Wn / 1000000000) := by rw [List.length_append, hl0, dL_len]
    have ht_8 := tX_trans ht0 (by omega) hx_m2_3
    rw [he_r_5]
    refine lv_pop hx hb dX1_appendWhole_35 rfl ?_
    refine lv_ldc (own := RX1) (index := 96) (v := 100000000) hx hb hown (hts (.constant RX1 96 (100000000)) (by decide +kernel)) dX1_appendWhole_36 ?_
    refine lv_istore (lv' := [(6, .int 100000000), (5, .int (nI (Wn % 1000000000))), (4, .int (nI (Wn / 1000000000))), (0, .ref h0), (1, .ref h), (2, .long (lN Wn))]) hx hb dX1_appendWhole_38 hl (by decide) rfl (fun ls hl => ?_)
    refine lv_iload hx hb dX1_appendWhole_40 (lv_at hl 0 rfl) ?_
    refine lv_if_le (tgt := 72) hx hb dX1_appendWhole_42 (by decide) (fun c9 => absurd c9 (by decide)) (fun _ => ?_)
    refine lv_aload_n hx hb dX1_appendWhole_45 rfl (lv_at hl 4 rfl) ?_
    refine lv_bipush (v := 48) hx hb dX1_appendWhole_46 (by decide) ?_
    refine lv_iload hx hb dX1_appendWhole_48 (lv_at hl 1 rfl) ?_
    refine lv_iload hx hb dX1_appendWhole_50 (lv_at hl 0 rfl) ?_
    refine lv_idiv hx hb dX1_appendWhole_52 (by decide) ?_
    rw [show (((nI (Wn % 1000000000)) / 100000000) : Int32) = (nI (Wn % 1000000000 / 100000000)) from (show nI (Wn % 1000000000) / nI 100000000 = _ from pk_div (a := Wn % 1000000000) (d := 100000000) (by omega) (by decide) (by decide))]
    refine lv_bipush (v := 10) hx hb dX1_appendWhole_53 (by decide) ?_
    refine lv_irem hx hb dX1_appendWhole_55 (by decide) ?_
    rw [show (((nI (Wn % 1000000000 / 100000000)) - (nI (Wn % 1000000000 / 100000000)) / 10 * 10) : Int32) = (nI (Wn % 1000000000 / 100000000 % 10)) from (show nI (Wn % 1000000000 / 100000000) - nI (Wn % 1000000000 / 100000000) / nI 10 * nI 10 = _ from pk_rem (a := Wn % 1000000000 / 100000000) (d := 10) (by omega) (by decide) (by decide))]
    refine lv_iadd hx hb dX1_appendWhole_56 ?_
    rw [show ((48 + (nI (Wn % 1000000000 / 100000000 % 10))) : Int32) = (nI (48 + Wn % 1000000000 / 100000000 % 10)) from (show nI 48 + nI (Wn % 1000000000 / 100000000 % 10) = _ from nI_add 48 _)]
    refine lv_i2c (v := (nI (48 + Wn % 1000000000 / 100000000 % 10))) hx hb dX1_appendWhole_57 (jl_chr (by omega)) ?_
    have hPc := hP.sub (ws' := [(h, eB v2_2 (nI (n + sb_dg (Wn / 1000000000)))), (v2_2, eY cB m2_3 f2_4)]) [1, 2] rfl
    have hDc := hD.sub (ws' := [(h, eB v2_2 (nI (n + sb_dg (Wn / 1000000000)))), (v2_2, eY cB m2_3 f2_4)]) [1, 2] (by decide) rfl
    have hKc := hK.sub (tys' := [(cB, .byte)]) [0] rfl
    have hFc := va_free (wc := [(h, eB v2_2 (nI (n + sb_dg (Wn / 1000000000)))), (v2_2, eY cB m2_3 f2_4)]) hD hS hA [1, 2] rfl
    refine va_callr (va_runV (As := [.int (nI (48 + Wn % 1000000000 / 100000000 % 10))]) (rest := []) ⟨hx, hb, hml, hown, hts⟩ (kk_J4_append_cf468 l dC dI cB h v2_2 (n + sb_dg (Wn / 1000000000)) m2_3 f2_4 (48 + Wn % 1000000000 / 100000000 % 10) H.size N hm_m2_3 hf_m2_3 (by omega) (by omega) (by omega)) (cwV 1 hts gX1_appendWhole_J4_append_cf468 rfl rfl rfl (by decide +kernel) ⟨Nat.le_of_ble_eq_true rfl, Nat.le_of_ble_eq_true rfl⟩) (xT.preV hKc hPc hDc hAN (Nat.le_trans hN hS.1) (hG.kept hS hAN) (hT.kept hS hAN) (ci := 1) (q0 := 0) rfl rfl) rfl rfl hl.1 rfl (lv_room (Nat.le_of_ble_eq_true rfl)) dX1_appendWhole_58 ⟨(show _ ≤ 10 by omega), (show _ ≤ 340 by omega)⟩) hS (fun q _ h => hFc q h) hFc (fun u_13 r_12 t H locs ht hvm hw hB hz hk hS => ?_)
    obtain ⟨he_r_12, hP1, hD1⟩ := hB
    rw [ht] at hP1
    obtain ⟨v2_9, m2_10, f2_11⟩ := u_13
    obtain ⟨hP, hD⟩ := va_join (wr := [(h0, eW wd)]) (w1 := [(h, eB v2_9 (nI ((n + sb_dg (Wn / 1000000000)) + 1))), (v2_9, eY cB m2_10 f2_11)]) hP hD [1, 2] [0] rfl rfl (by decide) (by decide) hk hFc hP1 hD1
    have hP : va_P (dC, dI) xCl [(h0, eW wd), (h, eB v2_9 (nI ((n + sb_dg (Wn / 1000000000)) + 1))), (v2_9, eY cB m2_10 f2_11)] H := hP
    have hD : va_D A [(h0, eW wd), (h, eB v2_9 (nI ((n + sb_dg (Wn / 1000000000)) + 1))), (v2_9, eY cB m2_10 f2_11)] := hD
    obtain ⟨hm_m2_10, hq_m2_10, hf_m2_10, hx_m2_10⟩ : (m2_10 = 16 ∨ m2_10 = 34) ∧ (n + sb_dg (Wn / 1000000000)) + 1 ≤ m2_10 ∧ sb_Fit f2_11 ∧ tX f2_4 f2_11 (n + sb_dg (Wn / 1000000000)) ([(48 + Wn % 1000000000 / 100000000 % 10)] : List Nat) := hw
    have hl_14 : ((([] : List Nat) ++ dL (sb_dg (Wn / 1000000000)) (Wn / 1000000000)) ++ ([(48 + Wn % 1000000000 / 100000000 % 10)] : List Nat)).length = 0 + sb_dg (Wn / 1000000000) + 1 := by rw [List.length_append, hl_7, (show ([(48 + Wn % 1000000000 / 100000000 % 10)] : List Nat).length = 1 from rfl)]
    have ht_15 := tX_trans ht_8 (by omega) hx_m2_10
    rw [he_r_12]
    refine lv_pop hx hb dX1_appendWhole_61 rfl ?_
    refine lv_iload hx hb dX1_appendWhole_62 (lv_at hl 0 rfl) ?_
    refine lv_bipush (v := 10) hx hb dX1_appendWhole_64 (by decide) ?_
    refine lv_idiv hx hb dX1_appendWhole_66 (by decide) ?_
    rw [show ((100000000 : Int32) / 10) = 10000000 from by decide]
    refine lv_istore (lv' := [(6, .int 10000000), (5, .int (nI (Wn % 1000000000))), (4, .int (nI (Wn / 1000000000))), (0, .ref h0), (1, .ref h), (2, .long (lN Wn))]) hx hb dX1_appendWhole_67 hl (by decide) rfl (fun ls hl => ?_)
    refine lv_goto (tgt := 40) hx hb dX1_appendWhole_69 (by decide) ?_
    refine lv_iload hx hb dX1_appendWhole_40 (lv_at hl 0 rfl) ?_
    refine lv_if_le (tgt := 72) hx hb dX1_appendWhole_42 (by decide) (fun c9 => absurd c9 (by decide)) (fun _ => ?_)
    refine lv_aload_n hx hb dX1_appendWhole_45 rfl (lv_at hl 4 rfl) ?_
    refine lv_bipush (v := 48) hx hb dX1_appendWhole_46 (by decide) ?_
    refine lv_iload hx hb dX1_appendWhole_48 (lv_at hl 1 rfl) ?_
    refine lv_iload hx hb dX1_appendWhole_50 (lv_at hl 0 rfl) ?_
    refine lv_idiv hx hb dX1_appendWhole_52 (by decide) ?_
    rw [show (((nI (Wn % 1000000000)) / 10000000) : Int32) = (nI (Wn % 1000000000 / 10000000)) from (show nI (Wn % 1000000000) / nI 10000000 = _ from pk_div (a := Wn % 1000000000) (d := 10000000) (by omega) (by decide) (by decide))]
    refine lv_bipush (v := 10) hx hb dX1_appendWhole_53 (by decide) ?_
    refine lv_irem hx hb dX1_appendWhole_55 (by decide) ?_
    rw [show (((nI (Wn % 1000000000 / 10000000)) - (nI (Wn % 1000000000 / 10000000)) / 10 * 10) : Int32) = (nI (Wn % 1000000000 / 10000000 % 10)) from (show nI (Wn % 1000000000 / 10000000) - nI (Wn % 1000000000 / 10000000) / nI 10 * nI 10 = _ from pk_rem (a := Wn % 1000000000 / 10000000) (d := 10) (by omega) (by decide) (by decide))]
    refine lv_iadd hx hb dX1_appendWhole_56 ?_
    rw [show ((48 + (nI (Wn % 1000000000 / 10000000 % 10))) : Int32) = (nI (48 + Wn % 1000000000 / 10000000 % 10)) from (show nI 48 + nI (Wn % 1000000000 / 10000000 % 10) = _ from nI_add 48 _)]
    refine lv_i2c (v := (nI (48 + Wn % 1000000000 / 10000000 % 10))) hx hb dX1_appendWhole_57 (jl_chr (by omega)) ?_
    have hPc := hP.sub (ws' := [(h, eB v2_9 (nI ((n + sb_dg (Wn / 1000000000)) + 1))), (v2_9, eY cB m2_10 f2_11)]) [1, 2] rfl
    have hDc := hD.sub (ws' := [(h, eB v2_9 (nI ((n + sb_dg (Wn / 1000000000)) + 1))), (v2_9, eY cB m2_10 f2_11)]) [1, 2] (by decide) rfl
    have hKc := hK.sub (tys' := [(cB, .byte)]) [0] rfl
    have hFc := va_free (wc := [(h, eB v2_9 (nI ((n + sb_dg (Wn / 1000000000)) + 1))), (v2_9, eY cB m2_10 f2_11)]) hD hS hA [1, 2] rfl
    refine va_callr (va_runV (As := [.int (nI (48 + Wn % 1000000000 / 10000000 % 10))]) (rest := []) ⟨hx, hb, hml, hown, hts⟩ (kk_J4_append_cf468 l dC dI cB h v2_9 ((n + sb_dg (Wn / 1000000000)) + 1) m2_10 f2_11 (48 + Wn % 1000000000 / 10000000 % 10) H.size N hm_m2_10 hf_m2_10 (by omega) (by omega) (by omega)) (cwV 1 hts gX1_appendWhole_J4_append_cf468 rfl rfl rfl (by decide +kernel) ⟨Nat.le_of_ble_eq_true rfl, Nat.le_of_ble_eq_true rfl⟩) (xT.preV hKc hPc hDc hAN (Nat.le_trans hN hS.1) (hG.kept hS hAN) (hT.kept hS hAN) (ci := 1) (q0 := 0) rfl rfl) rfl rfl hl.1 rfl (lv_room (Nat.le_of_ble_eq_true rfl)) dX1_appendWhole_58 ⟨(show _ ≤ 10 by omega), (show _ ≤ 340 by omega)⟩) hS (fun q _ h => hFc q h) hFc (fun u_20 r_19 t H locs ht hvm hw hB hz hk hS => ?_)
    obtain ⟨he_r_19, hP1, hD1⟩ := hB
    rw [ht] at hP1
    obtain ⟨v2_16, m2_17, f2_18⟩ := u_20
    obtain ⟨hP, hD⟩ := va_join (wr := [(h0, eW wd)]) (w1 := [(h, eB v2_16 (nI (((n + sb_dg (Wn / 1000000000)) + 1) + 1))), (v2_16, eY cB m2_17 f2_18)]) hP hD [1, 2] [0] rfl rfl (by decide) (by decide) hk hFc hP1 hD1
    have hP : va_P (dC, dI) xCl [(h0, eW wd), (h, eB v2_16 (nI (((n + sb_dg (Wn / 1000000000)) + 1) + 1))), (v2_16, eY cB m2_17 f2_18)] H := hP
    have hD : va_D A [(h0, eW wd), (h, eB v2_16 (nI (((n + sb_dg (Wn / 1000000000)) + 1) + 1))), (v2_16, eY cB m2_17 f2_18)] := hD
    obtain ⟨hm_m2_17, hq_m2_17, hf_m2_17, hx_m2_17⟩ : (m2_17 = 16 ∨ m2_17 = 34) ∧ ((n + sb_dg (Wn / 1000000000)) + 1) + 1 ≤ m2_17 ∧ sb_Fit f2_18 ∧ tX f2_11 f2_18 ((n + sb_dg (Wn / 1000000000)) + 1) ([(48 + Wn % 1000000000 / 10000000 % 10)] : List Nat) := hw
    have hl_21 : (((([] : List Nat) ++ dL (sb_dg (Wn / 1000000000)) (Wn / 1000000000)) ++ ([(48 + Wn % 1000000000 / 100000000 % 10)] : List Nat)) ++ ([(48 + Wn % 1000000000 / 10000000 % 10)] : List Nat)).length = 0 + sb_dg (Wn / 1000000000) + 1 + 1 := by rw [List.length_append, hl_14, (show ([(48 + Wn % 1000000000 / 10000000 % 10)] : List Nat).length = 1 from rfl)]
    have ht_22 := tX_trans ht_15 (by omega) hx_m2_17
    rw [he_r_19]
    refine lv_pop hx hb dX1_appendWhole_61 rfl ?_
    refine lv_iload hx hb dX1_appendWhole_62 (lv_at hl 0 rfl) ?_
    refine lv_bipush (v := 10) hx hb dX1_appendWhole_64 (by decide) ?_
    refine lv_idiv hx hb dX1_appendWhole_66 (by decide) ?_
    rw [show ((10000000 : Int32) / 10) = 1000000 from by decide]
    refine lv_istore (lv' := [(6, .int 1000000), (5, .int (nI (Wn % 1000000000))), (4, .int (nI (Wn / 1000000000))), (0, .ref h0), (1, .ref h), (2, .long (lN Wn))]) hx hb dX1_appendWhole_67 hl (by decide) rfl (fun ls hl => ?_)
    refine lv_goto (tgt := 40) hx hb dX1_appendWhole_69 (by decide) ?_
    refine lv_iload hx hb dX1_appendWhole_40 (lv_at hl 0 rfl) ?_
    refine lv_if_le (tgt := 72) hx hb dX1_appendWhole_42 (by decide) (fun c9 => absurd c9 (by decide)) (fun _ => ?_)
    refine lv_aload_n hx hb dX1_appendWhole_45 rfl (lv_at hl 4 rfl) ?_
    refine lv_bipush (v := 48) hx hb dX1_appendWhole_46 (by decide) ?_
    refine lv_iload hx hb dX1_appendWhole_48 (lv_at hl 1 rfl) ?_
    refine lv_iload hx hb dX1_appendWhole_50 (lv_at hl 0 rfl) ?_
    refine lv_idiv hx hb dX1_appendWhole_52 (by decide) ?_
    rw [show (((nI (Wn % 1000000000)) / 1000000) : Int32) = (nI (Wn % 1000000000 / 1000000)) from (show nI (Wn % 1000000000) / nI 1000000 = _ from pk_div (a := Wn % 1000000000) (d := 1000000) (by omega) (by decide) (by decide))]
    refine lv_bipush (v := 10) hx hb dX1_appendWhole_53 (by decide) ?_
    refine lv_irem hx hb dX1_appendWhole_55 (by decide) ?_
    rw [show (((nI (Wn % 1000000000 / 1000000)) - (nI (Wn % 1000000000 / 1000000)) / 10 * 10) : Int32) = (nI (Wn % 1000000000 / 1000000 % 10)) from (show nI (Wn % 1000000000 / 1000000) - nI (Wn % 1000000000 / 1000000) / nI 10 * nI 10 = _ from pk_rem (a := Wn % 1000000000 / 1000000) (d := 10) (by omega) (by decide) (by decide))]
    refine lv_iadd hx hb dX1_appendWhole_56 ?_
    rw [show ((48 + (nI (Wn % 1000000000 / 1000000 % 10))) : Int32) = (nI (48 + Wn % 1000000000 / 1000000 % 10)) from (show nI 48 + nI (Wn % 1000000000 / 1000000 % 10) = _ from nI_add 48 _)]
    refine lv_i2c (v := (nI (48 + Wn % 1000000000 / 1000000 % 10))) hx hb dX1_appendWhole_57 (jl_chr (by omega)) ?_
    have hPc := hP.sub (ws' := [(h, eB v2_16 (nI (((n + sb_dg (Wn / 1000000000)) + 1) + 1))), (v2_16, eY cB m2_17 f2_18)]) [1, 2] rfl
    have hDc := hD.sub (ws' := [(h, eB v2_16 (nI (((n + sb_dg (Wn / 1000000000)) + 1) + 1))), (v2_16, eY cB m2_17 f2_18)]) [1, 2] (by decide) rfl
    have hKc := hK.sub (tys' := [(cB, .byte)]) [0] rfl
    have hFc := va_free (wc := [(h, eB v2_16 (nI (((n + sb_dg (Wn / 1000000000)) + 1) + 1))), (v2_16, eY cB m2_17 f2_18)]) hD hS hA [1, 2] rfl
    refine va_callr (va_runV (As := [.int (nI (48 + Wn % 1000000000 / 1000000 % 10))]) (rest := []) ⟨hx, hb, hml, hown, hts⟩ (kk_J4_append_cf468 l dC dI cB h v2_16 (((n + sb_dg (Wn / 1000000000)) + 1) + 1) m2_17 f2_18 (48 + Wn % 1000000000 / 1000000 % 10) H.size N hm_m2_17 hf_m2_17 (by omega) (by omega) (by omega)) (cwV 1 hts gX1_appendWhole_J4_append_cf468 rfl rfl rfl (by decide +kernel) ⟨Nat.le_of_ble_eq_true rfl, Nat.le_of_ble_eq_true rfl⟩) (xT.preV hKc hPc hDc hAN (Nat.le_trans hN hS.1) (hG.kept hS hAN) (hT.kept hS hAN) (ci := 1) (q0 := 0) rfl rfl) rfl rfl hl.1 rfl (lv_room (Nat.le_of_ble_eq_true rfl)) dX1_appendWhole_58 ⟨(show _ ≤ 10 by omega), (show _ ≤ 340 by omega)⟩) hS (fun q _ h => hFc q h) hFc (fun u_27 r_26 t H locs ht hvm hw hB hz hk hS => ?_)
    obtain ⟨he_r_26, hP1, hD1⟩ := hB
    rw [ht] at hP1
    obtain ⟨v2_23, m2_24, f2_25⟩ := u_27
    obtain ⟨hP, hD⟩ := va_join (wr := [(h0, eW wd)]) (w1 := [(h, eB v2_23 (nI ((((n + sb_dg (Wn / 1000000000)) + 1) + 1) + 1))), (v2_23, eY cB m2_24 f2_25)]) hP hD [1, 2] [0] rfl rfl (by decide) (by decide) hk hFc hP1 hD1
    have hP : va_P (dC, dI) xCl [(h0, eW wd), (h, eB v2_23 (nI ((((n + sb_dg (Wn / 1000000000)) + 1) + 1) + 1))), (v2_23, eY cB m2_24 f2_25)] H := hP
    have hD : va_D A [(h0, eW wd), (h, eB v2_23 (nI ((((n + sb_dg (Wn / 1000000000)) + 1) + 1) + 1))), (v2_23, eY cB m2_24 f2_25)] := hD
    obtain ⟨hm_m2_24, hq_m2_24, hf_m2_24, hx_m2_24⟩ : (m2_24 = 16 ∨ m2_24 = 34) ∧ (((n + sb_dg (Wn / 1000000000)) + 1) + 1) + 1 ≤ m2_24 ∧ sb_Fit f2_25 ∧ tX f2_18 f2_25 (((n + sb_dg (Wn / 1000000000)) + 1) + 1) ([(48 + Wn % 1000000000 / 1000000 % 10)] : List Nat) := hw
    have hl_28 : ((((([] : List Nat) ++ dL (sb_dg (Wn / 1000000000)) (Wn / 1000000000)) ++ ([(48 + Wn % 1000000000 / 100000000 % 10)] : List Nat)) ++ ([(48 + Wn % 1000000000 / 10000000 % 10)] : List Nat)) ++ ([(48 + Wn % 1000000000 / 1000000 % 10)] : List Nat)).length = 0 + sb_dg (Wn / 1000000000) + 1 + 1 + 1 := by rw [List.length_append, hl_21, (show ([(48 + Wn % 1000000000 / 1000000 % 10)] : List Nat).length = 1 from rfl)]
    have ht_29 := tX_trans ht_22 (by omega) hx_m2_24
    rw [he_r_26]
    refine lv_pop hx hb dX1_appendWhole_61 rfl ?_
    refine lv_iload hx hb dX1_appendWhole_62 (lv_at hl 0 rfl) ?_
    refine lv_bipush (v := 10) hx hb dX1_appendWhole_64 (by decide) ?_
    refine lv_idiv hx hb dX1_appendWhole_66 (by decide) ?_
    rw [show ((1000000 : Int32) / 10) = 100000 from by decide]
    refine lv_istore (lv' := [(6, .int 100000), (5, .int (nI (Wn % 1000000000))), (4, .int (nI (Wn / 1000000000))), (0, .ref h0), (1, .ref h), (2, .long (lN Wn))]) hx hb dX1_appendWhole_67 hl (by decide) rfl (fun ls hl => ?_)
    refine lv_goto (tgt := 40) hx hb dX1_appendWhole_69 (by decide) ?_
    refine lv_iload hx hb dX1_appendWhole_40 (lv_at hl 0 rfl) ?_
    refine lv_if_le (tgt := 72) hx hb dX1_appendWhole_42 (by decide) (fun c9 => absurd c9 (by decide)) (fun _ => ?_)
    refine lv_aload_n hx hb dX1_appendWhole_45 rfl (lv_at hl 4 rfl) ?_
    refine lv_bipush (v := 48) hx hb dX1_appendWhole_46 (by decide) ?_
    refine lv_iload hx hb dX1_appendWhole_48 (lv_at hl 1 rfl) ?_
    refine lv_iload hx hb dX1_appendWhole_50 (lv_at hl 0 rfl) ?_
    refine lv_idiv hx hb dX1_appendWhole_52 (by decide) ?_
    rw [show (((nI (Wn % 1000000000)) / 100000) : Int32) = (nI (Wn % 1000000000 / 100000)) from (show nI (Wn % 1000000000) / nI 100000 = _ from pk_div (a := Wn % 1000000000) (d := 100000) (by omega) (by decide) (by decide))]
    refine lv_bipush (v := 10) hx hb dX1_appendWhole_53 (by decide) ?_
    refine lv_irem hx hb dX1_appendWhole_55 (by decide) ?_
    rw [show (((nI (Wn % 1000000000 / 100000)) - (nI (Wn % 1000000000 / 100000)) / 10 * 10) : Int32) = (nI (Wn % 1000000000 / 100000 % 10)) from (show nI (Wn % 1000000000 / 100000) - nI (Wn % 1000000000 / 100000) / nI 10 * nI 10 = _ from pk_rem (a := Wn % 1000000000 / 100000) (d := 10) (by omega) (by decide) (by decide))]
    refine lv_iadd hx hb dX1_appendWhole_56 ?_
    rw [show ((48 + (nI (Wn % 1000000000 / 100000 % 10))) : Int32) = (nI (48 + Wn % 1000000000 / 100000 % 10)) from (show nI 48 + nI (Wn % 1000000000 / 100000 % 10) = _ from nI_add 48 _)]
    refine lv_i2c (v := (nI (48 + Wn % 1000000000 / 100000 % 10))) hx hb dX1_appendWhole_57 (jl_chr (by omega)) ?_
    have hPc := hP.sub (ws' := [(h, eB v2_23 (nI ((((n + sb_dg (Wn / 1000000000)) + 1) + 1) + 1))), (v2_23, eY cB m2_24 f2_25)]) [1, 2] rfl
    have hDc := hD.sub (ws' := [(h, eB v2_23 (nI ((((n + sb_dg (Wn / 1000000000)) + 1) + 1) + 1))), (v2_23, eY cB m2_24 f2_25)]) [1, 2] (by decide) rfl
    have hKc := hK.sub (tys' := [(cB, .byte)]) [0] rfl
    have hFc := va_free (wc := [(h, eB v2_23 (nI ((((n + sb_dg (Wn / 1000000000)) + 1) + 1) + 1))), (v2_23, eY cB m2_24 f2_25)]) hD hS hA [1, 2] rfl
    refine va_callr (va_runV (As := [.int (nI (48 + Wn % 1000000000 / 100000 % 10))]) (rest := []) ⟨hx, hb, hml, hown, hts⟩ (kk_J4_append_cf468 l dC dI cB h v2_23 ((((n + sb_dg (Wn / 1000000000)) + 1) + 1) + 1) m2_24 f2_25 (48 + Wn % 1000000000 / 100000 % 10) H.size N hm_m2_24 hf_m2_24 (by omega) (by omega) (by omega)) (cwV 1 hts gX1_appendWhole_J4_append_cf468 rfl rfl rfl (by decide +kernel) ⟨Nat.le_of_ble_eq_true rfl, Nat.le_of_ble_eq_true rfl⟩) (xT.preV hKc hPc hDc hAN (Nat.le_trans hN hS.1) (hG.kept hS hAN) (hT.kept hS hAN) (ci := 1) (q0 := 0) rfl rfl) rfl rfl hl.1 rfl (lv_room (Nat.le_of_ble_eq_true rfl)) dX1_appendWhole_58 ⟨(show _ ≤ 10 by omega), (show _ ≤ 340 by omega)⟩) hS (fun q _ h => hFc q h) hFc (fun u_34 r_33 t H locs ht hvm hw hB hz hk hS => ?_)
    obtain ⟨he_r_33, hP1, hD1⟩ := hB
    rw [ht] at hP1
    obtain ⟨v2_30, m2_31, f2_32⟩ := u_34
    obtain ⟨hP, hD⟩ := va_join (wr := [(h0, eW wd)]) (w1 := [(h, eB v2_30 (nI (((((n + sb_dg (Wn / 1000000000)) + 1) + 1) + 1) + 1))), (v2_30, eY cB m2_31 f2_32)]) hP hD [1, 2] [0] rfl rfl (by decide) (by decide) hk hFc hP1 hD1
    have hP : va_P (dC, dI) xCl [(h0, eW wd), (h, eB v2_30 (nI (((((n + sb_dg (Wn / 1000000000)) + 1) + 1) + 1) + 1))), (v2_30, eY cB m2_31 f2_32)] H := hP
    have hD : va_D A [(h0, eW wd), (h, eB v2_30 (nI (((((n + sb_dg (Wn / 1000000000)) + 1) + 1) + 1) + 1))), (v2_30, eY cB m2_31 f2_32)] := hD
    obtain ⟨hm_m2_31, hq_m2_31, hf_m2_31, hx_m2_31⟩ : (m2_31 = 16 ∨ m2_31 = 34) ∧ ((((n + sb_dg (Wn / 1000000000)) + 1) + 1) + 1) + 1 ≤ m2_31 ∧ sb_Fit f2_32 ∧ tX f2_25 f2_32 ((((n + sb_dg (Wn / 1000000000)) + 1) + 1) + 1) ([(48 + Wn % 1000000000 / 100000 % 10)] : List Nat) := hw
    have hl_35 : (((((([] : List Nat) ++ dL (sb_dg (Wn / 1000000000)) (Wn / 1000000000)) ++ ([(48 + Wn % 1000000000 / 100000000 % 10)] : List Nat)) ++ ([(48 + Wn % 1000000000 / 10000000 % 10)] : List Nat)) ++ ([(48 + Wn % 1000000000 / 1000000 % 10)] : List Nat)) ++ ([(48 + Wn % 1000000000 / 100000 % 10)] : List Nat)).length = 0 + sb_dg (Wn / 1000000000) + 1 + 1 + 1 + 1 := by rw [List.length_append, hl_28, (show ([(48 + Wn % 1000000000 / 100000 % 10)] : List Nat).length = 1 from rfl)]
    have ht_36 := tX_trans ht_29 (by omega) hx_m2_31
    rw [he_r_33]
    refine lv_pop hx hb dX1_appendWhole_61 rfl ?_
    refine lv_iload hx hb dX1_appendWhole_62 (lv_at hl 0 rfl) ?_
    refine lv_bipush (v := 10) hx hb dX1_appendWhole_64 (by decide) ?_
    refine lv_idiv hx hb dX1_appendWhole_66 (by decide) ?_
    rw [show ((100000 : Int32) / 10) = 10000 from by decide]
    refine lv_istore (lv' := [(6, .int 10000), (5, .int (nI (Wn % 1000000000))), (4, .int (nI (Wn / 1000000000))), (0, .ref h0), (1, .ref h), (2, .long (lN Wn))]) hx hb dX1_appendWhole_67 hl (by decide) rfl (fun ls hl => ?_)
    refine lv_goto (tgt := 40) hx hb dX1_appendWhole_69 (by decide) ?_
    refine lv_iload hx hb dX1_appendWhole_40 (lv_at hl 0 rfl) ?_
    refine lv_if_le (tgt := 72) hx hb dX1_appendWhole_42 (by decide) (fun c9 => absurd c9 (by decide)) (fun _ => ?_)
    refine lv_aload_n hx hb dX1_appendWhole_45 rfl (lv_at hl 4 rfl) ?_
    refine lv_bipush (v := 48) hx hb dX1_appendWhole_46 (by decide) ?_
    refine lv_iload hx hb dX1_appendWhole_48 (lv_at hl 1 rfl) ?_
    refine lv_iload hx hb dX1_appendWhole_50 (lv_at hl 0 rfl) ?_
    refine lv_idiv hx hb dX1_appendWhole_52 (by decide) ?_
    rw [show (((nI (Wn % 1000000000)) / 10000) : Int32) = (nI (Wn % 1000000000 / 10000)) from (show nI (Wn % 1000000000) / nI 10000 = _ from pk_div (a := Wn % 1000000000) (d := 10000) (by omega) (by decide) (by decide))]
    refine lv_bipush (v := 10) hx hb dX1_appendWhole_53 (by decide) ?_
    refine lv_irem hx hb dX1_appendWhole_55 (by decide) ?_
    rw [show (((nI (Wn % 1000000000 / 10000)) - (nI (Wn % 1000000000 / 10000)) / 10 * 10) : Int32) = (nI (Wn % 1000000000 / 10000 % 10)) from (show nI (Wn % 1000000000 / 10000) - nI (Wn % 1000000000 / 10000) / nI 10 * nI 10 = _ from pk_rem (a := Wn % 1000000000 / 10000) (d := 10) (by omega) (by decide) (by decide))]
    refine lv_iadd hx hb dX1_appendWhole_56 ?_
    rw [show ((48 + (nI (Wn % 1000000000 / 10000 % 10))) : Int32) = (nI (48 + Wn % 1000000000 / 10000 % 10)) from (show nI 48 + nI (Wn % 1000000000 / 10000 % 10) = _ from nI_add 48 _)]
    refine lv_i2c (v := (nI (48 + Wn % 1000000000 / 10000 % 10))) hx hb dX1_appendWhole_57 (jl_chr (by omega)) ?_
    have hPc := hP.sub (ws' := [(h, eB v2_30 (nI (((((n + sb_dg (Wn / 1000000000)) + 1) + 1) + 1) + 1))), (v2_30, eY cB m2_31 f2_32)]) [1, 2] rfl
    have hDc := hD.sub (ws' := [(h, eB v2_30 (nI (((((n + sb_dg (Wn / 1000000000)) + 1) + 1) + 1) + 1))), (v2_30, eY cB m2_31 f2_32)]) [1, 2] (by decide) rfl
    have hKc := hK.sub (tys' := [(cB, .byte)]) [0] rfl
    have hFc := va_free (wc := [(h, eB v2_30 (nI (((((n + sb_dg (Wn / 1000000000)) + 1) + 1) + 1) + 1))), (v2_30, eY cB m2_31 f2_32)]) hD hS hA [1, 2] rfl
    refine va_callr (va_runV (As := [.int (nI (48 + Wn % 1000000000 / 10000 % 10))]) (rest := []) ⟨hx, hb, hml, hown, hts⟩ (kk_J4_append_cf468 l dC dI cB h v2_30 (((((n + sb_dg (Wn / 1000000000)) + 1) + 1) + 1) + 1) m2_31 f2_32 (48 + Wn % 1000000000 / 10000 % 10) H.size N hm_m2_31 hf_m2_31 (by omega) (by omega) (by omega)) (cwV 1 hts gX1_appendWhole_J4_append_cf468 rfl rfl rfl (by decide +kernel) ⟨Nat.le_of_ble_eq_true rfl, Nat.le_of_ble_eq_true rfl⟩) (xT.preV hKc hPc hDc hAN (Nat.le_trans hN hS.1) (hG.kept hS hAN) (hT.kept hS hAN) (ci := 1) (q0 := 0) rfl rfl) rfl rfl hl.1 rfl (lv_room (Nat.le_of_ble_eq_true rfl)) dX1_appendWhole_58 ⟨(show _ ≤ 10 by omega), (show _ ≤ 340 by omega)⟩) hS (fun q _ h => hFc q h) hFc (fun u_41 r_40 t H locs ht hvm hw hB hz hk hS => ?_)
    obtain ⟨he_r_40, hP1, hD1⟩ := hB
    rw [ht] at hP1
    obtain ⟨v2_37, m2_38, f2_39⟩ := u_41
    obtain ⟨hP, hD⟩ := va_join (wr := [(h0, eW wd)]) (w1 := [(h, eB v2_37 (nI ((((((n + sb_dg (Wn / 1000000000)) + 1) + 1) + 1) + 1) + 1))), (v2_37, eY cB m2_38 f2_39)]) hP hD [1, 2] [0] rfl rfl (by decide) (by decide) hk hFc hP1 hD1
    have hP : va_P (dC, dI) xCl [(h0, eW wd), (h, eB v2_37 (nI ((((((n + sb_dg (Wn / 1000000000)) + 1) + 1) + 1) + 1) + 1))), (v2_37, eY cB m2_38 f2_39)] H := hP
    have hD : va_D A [(h0, eW wd), (h, eB v2_37 (nI ((((((n + sb_dg (Wn / 1000000000)) + 1) + 1) + 1) + 1) + 1))), (v2_37, eY cB m2_38 f2_39)] := hD
    obtain ⟨hm_m2_38, hq_m2_38, hf_m2_38, hx_m2_38⟩ : (m2_38 = 16 ∨ m2_38 = 34) ∧ (((((n + sb_dg (Wn / 1000000000)) + 1) + 1) + 1) + 1) + 1 ≤ m2_38 ∧ sb_Fit f2_39 ∧ tX f2_32 f2_39 (((((n + sb_dg (Wn / 1000000000)) + 1) + 1) + 1) + 1) ([(48 + Wn % 1000000000 / 10000 % 10)] : List Nat) := hw
    have hl_42 : ((((((([] : List Nat) ++ dL (sb_dg (Wn / 1000000000)) (Wn / 1000000000)) ++ ([(48 + Wn % 1000000000 / 100000000 % 10)] : List Nat)) ++ ([(48 + Wn % 1000000000 / 10000000 % 10)] : List Nat)) ++ ([(48 + Wn % 1000000000 / 1000000 % 10)] : List Nat)) ++ ([(48 + Wn % 1000000000 / 100000 % 10)] : List Nat)) ++ ([(48 + Wn % 1000000000 / 10000 % 10)] : List Nat)).length = 0 + sb_dg (Wn / 1000000000) + 1 + 1 + 1 + 1 + 1 := by rw [List.length_append, hl_35, (show ([(48 + Wn % 1000000000 / 10000 % 10)] : List Nat).length = 1 from rfl)]
    have ht_43 := tX_trans ht_36 (by omega) hx_m2_38
    rw [he_r_40]
    refine lv_pop hx hb dX1_appendWhole_61 rfl ?_
    refine lv_iload hx hb dX1_appendWhole_62 (lv_at hl 0 rfl) ?_
    refine lv_bipush (v := 10) hx hb dX1_appendWhole_64 (by decide) ?_
    refine lv_idiv hx hb dX1_appendWhole_66 (by decide) ?_
    rw [show ((10000 : Int32) / 10) = 1000 from by decide]
    refine lv_istore (lv' := [(6, .int 1000), (5, .int (nI (Wn % 1000000000))), (4, .int (nI (Wn / 1000000000))), (0, .ref h0), (1, .ref h), (2, .long (lN Wn))]) hx hb dX1_appendWhole_67 hl (by decide) rfl (fun ls hl => ?_)
    refine lv_goto (tgt := 40) hx hb dX1_appendWhole_69 (by decide) ?_
    refine lv_iload hx hb dX1_appendWhole_40 (lv_at hl 0 rfl) ?_
    refine lv_if_le (tgt := 72) hx hb dX1_appendWhole_42 (by decide) (fun c9 => absurd c9 (by decide)) (fun _ => ?_)
    refine lv_aload_n hx hb dX1_appendWhole_45 rfl (lv_at hl 4 rfl) ?_
    refine lv_bipush (v := 48) hx hb dX1_appendWhole_46 (by decide) ?_
    refine lv_iload hx hb dX1_appendWhole_48 (lv_at hl 1 rfl) ?_
    refine lv_iload hx hb dX1_appendWhole_50 (lv_at hl 0 rfl) ?_
    refine lv_idiv hx hb dX1_appendWhole_52 (by decide) ?_
    rw [show (((nI (Wn % 1000000000)) / 1000) : Int32) = (nI (Wn % 1000000000 / 1000)) from (show nI (Wn % 1000000000) / nI 1000 = _ from pk_div (a := Wn % 1000000000) (d := 1000) (by omega) (by decide) (by decide))]
    refine lv_bipush (v := 10) hx hb dX1_appendWhole_53 (by decide) ?_
    refine lv_irem hx hb dX1_appendWhole_55 (by decide) ?_
    rw [show (((nI (Wn % 1000000000 / 1000)) - (nI (Wn % 1000000000 / 1000)) / 10 * 10) : Int32) = (nI (Wn % 1000000000 / 1000 % 10)) from (show nI (Wn % 1000000000 / 1000) - nI (Wn % 1000000000 / 1000) / nI 10 * nI 10 = _ from pk_rem (a := Wn % 1000000000 / 1000) (d := 10) (by omega) (by decide) (by decide))]
    refine lv_iadd hx hb dX1_appendWhole_56 ?_
    rw [show ((48 + (nI (Wn % 1000000000 / 1000 % 10))) : Int32) = (nI (48 + Wn % 1000000000 / 1000 % 10)) from (show nI 48 + nI (Wn % 1000000000 / 1000 % 10) = _ from nI_add 48 _)]
    refine lv_i2c (v := (nI (48 + Wn % 1000000000 / 1000 % 10))) hx hb dX1_appendWhole_57 (jl_chr (by omega)) ?_
    have hPc := hP.sub (ws' := [(h, eB v2_37 (nI ((((((n + sb_dg (Wn / 1000000000)) + 1) + 1) + 1) + 1) + 1))), (v2_37, eY cB m2_38 f2_39)]) [1, 2] rfl
    have hDc := hD.sub (ws' := [(h, eB v2_37 (nI ((((((n + sb_dg (Wn / 1000000000)) + 1) + 1) + 1) + 1) + 1))), (v2_37, eY cB m2_38 f2_39)]) [1, 2] (by decide) rfl
    have hKc := hK.sub (tys' := [(cB, .byte)]) [0] rfl
    have hFc := va_free (wc := [(h, eB v2_37 (nI ((((((n + sb_dg (Wn / 1000000000)) + 1) + 1) + 1) + 1) + 1))), (v2_37, eY cB m2_38 f2_39)]) hD hS hA [1, 2] rfl
    refine va_callr (va_runV (As := [.int (nI (48 + Wn % 1000000000 / 1000 % 10))]) (rest := []) ⟨hx, hb, hml, hown, hts⟩ (kk_J4_append_cf468 l dC dI cB h v2_37 ((((((n + sb_dg (Wn / 1000000000)) + 1) + 1) + 1) + 1) + 1) m2_38 f2_39 (48 + Wn % 1000000000 / 1000 % 10) H.size N hm_m2_38 hf_m2_38 (by omega) (by omega) (by omega)) (cwV 1 hts gX1_appendWhole_J4_append_cf468 rfl rfl rfl (by decide +kernel) ⟨Nat.le_of_ble_eq_true rfl, Nat.le_of_ble_eq_true rfl⟩) (xT.preV hKc hPc hDc hAN (Nat.le_trans hN hS.1) (hG.kept hS hAN) (hT.kept hS hAN) (ci := 1) (q0 := 0) rfl rfl) rfl rfl hl.1 rfl (lv_room (Nat.le_of_ble_eq_true rfl)) dX1_appendWhole_58 ⟨(show _ ≤ 10 by omega), (show _ ≤ 340 by omega)⟩) hS (fun q _ h => hFc q h) hFc (fun u_48 r_47 t H locs ht hvm hw hB hz hk hS => ?_)
    obtain ⟨he_r_47, hP1, hD1⟩ := hB
    rw [ht] at hP1
    obtain ⟨v2_44, m2_45, f2_46⟩ := u_48
    obtain ⟨hP, hD⟩ := va_join (wr := [(h0, eW wd)]) (w1 := [(h, eB v2_44 (nI (((((((n + sb_dg (Wn / 1000000000)) + 1) + 1) + 1) + 1) + 1) + 1))), (v2_44, eY cB m2_45 f2_46)]) hP hD [1, 2] [0] rfl rfl (by decide) (by decide) hk hFc hP1 hD1
    have hP : va_P (dC, dI) xCl [(h0, eW wd), (h, eB v2_44 (nI (((((((n + sb_dg (Wn / 1000000000)) + 1) + 1) + 1) + 1) + 1) + 1))), (v2_44, eY cB m2_45 f2_46)] H := hP
    have hD : va_D A [(h0, eW wd), (h, eB v2_44 (nI (((((((n + sb_dg (Wn / 1000000000)) + 1) + 1) + 1) + 1) + 1) + 1))), (v2_44, eY cB m2_45 f2_46)] := hD
    obtain ⟨hm_m2_45, hq_m2_45, hf_m2_45, hx_m2_45⟩ : (m2_45 = 16 ∨ m2_45 = 34) ∧ ((((((n + sb_dg (Wn / 1000000000)) + 1) + 1) + 1) + 1) + 1) + 1 ≤ m2_45 ∧ sb_Fit f2_46 ∧ tX f2_39 f2_46 ((((((n + sb_dg (Wn / 1000000000)) + 1) + 1) + 1) + 1) + 1) ([(48 + Wn % 1000000000 / 1000 % 10)] : List Nat) := hw
    have hl_49 : (((((((([] : List Nat) ++ dL (sb_dg (Wn / 1000000000)) (Wn / 1000000000)) ++ ([(48 + Wn % 1000000000 / 100000000 % 10)] : List Nat)) ++ ([(48 + Wn % 1000000000 / 10000000 % 10)] : List Nat)) ++ ([(48 + Wn % 1000000000 / 1000000 % 10)] : List Nat)) ++ ([(48 + Wn % 1000000000 / 100000 % 10)] : List Nat)) ++ ([(48 + Wn % 1000000000 / 10000 % 10)] : List Nat)) ++ ([(48 + Wn % 1000000000 / 1000 % 10)] : List Nat)).length = 0 + sb_dg (Wn / 1000000000) + 1 + 1 + 1 + 1 + 1 + 1 := by rw [List.length_append, hl_42, (show ([(48 + Wn % 1000000000 / 1000 % 10)] : List Nat).length = 1 from rfl)]
    have ht_50 := tX_trans ht_43 (by omega) hx_m2_45
    rw [he_r_47]
    refine lv_pop hx hb dX1_appendWhole_61 rfl ?_
    refine lv_iload hx hb dX1_appendWhole_62 (lv_at hl 0 rfl) ?_
    refine lv_bipush (v := 10) hx hb dX1_appendWhole_64 (by decide) ?_
    refine lv_idiv hx hb dX1_appendWhole_66 (by decide) ?_
    rw [show ((1000 : Int32) / 10) = 100 from by decide]
    refine lv_istore (lv' := [(6, .int 100), (5, .int (nI (Wn % 1000000000))), (4, .int (nI (Wn / 1000000000))), (0, .ref h0), (1, .ref h), (2, .long (lN Wn))]) hx hb dX1_appendWhole_67 hl (by decide) rfl (fun ls hl => ?_)
    refine lv_goto (tgt := 40) hx hb dX1_appendWhole_69 (by decide) ?_
    refine lv_iload hx hb dX1_appendWhole_40 (lv_at hl 0 rfl) ?_
    refine lv_if_le (tgt := 72) hx hb dX1_appendWhole_42 (by decide) (fun c9 => absurd c9 (by decide)) (fun _ => ?_)
    refine lv_aload_n hx hb dX1_appendWhole_45 rfl (lv_at hl 4 rfl) ?_
    refine lv_bipush (v := 48) hx hb dX1_appendWhole_46 (by decide) ?_
    refine lv_iload hx hb dX1_appendWhole_48 (lv_at hl 1 rfl) ?_
    refine lv_iload hx hb dX1_appendWhole_50 (lv_at hl 0 rfl) ?_
    refine lv_idiv hx hb dX1_appendWhole_52 (by decide) ?_
    rw [show (((nI (Wn % 1000000000)) / 100) : Int32) = (nI (Wn % 1000000000 / 100)) from (show nI (Wn % 1000000000) / nI 100 = _ from pk_div (a := Wn % 1000000000) (d := 100) (by omega) (by decide) (by decide))]
    refine lv_bipush (v := 10) hx hb dX1_appendWhole_53 (by decide) ?_
    refine lv_irem hx hb dX1_appendWhole_55 (by decide) ?_
    rw [show (((nI (Wn % 1000000000 / 100)) - (nI (Wn % 1000000000 / 100)) / 10 * 10) : Int32) = (nI (Wn % 1000000000 / 100 % 10)) from (show nI (Wn % 1000000000 / 100) - nI (Wn % 1000000000 / 100) / nI 10 * nI 10 = _ from pk_rem (a := Wn % 1000000000 / 100) (d := 10) (by omega) (by decide) (by decide))]
    refine lv_iadd hx hb dX1_appendWhole_56 ?_
    rw [show ((48 + (nI (Wn % 1000000000 / 100 % 10))) : Int32) = (nI (48 + Wn % 1000000000 / 100 % 10)) from (show nI 48 + nI (Wn % 1000000000 / 100 % 10) = _ from nI_add 48 _)]
    refine lv_i2c (v := (nI (48 + Wn % 1000000000 / 100 % 10))) hx hb dX1_appendWhole_57 (jl_chr (by omega)) ?_
    have hPc := hP.sub (ws' := [(h, eB v2_44 (nI (((((((n + sb_dg (Wn / 1000000000)) + 1) + 1) + 1) + 1) + 1) + 1))), (v2_44, eY cB m2_45 f2_46)]) [1, 2] rfl
    have hDc := hD.sub (ws' := [(h, eB v2_44 (nI (((((((n + sb_dg (Wn / 1000000000)) + 1) + 1) + 1) + 1) + 1) + 1))), (v2_44, eY cB m2_45 f2_46)]) [1, 2] (by decide) rfl
    have hKc := hK.sub (tys' := [(cB, .byte)]) [0] rfl
    have hFc := va_free (wc := [(h, eB v2_44 (nI (((((((n + sb_dg (Wn / 1000000000)) + 1) + 1) + 1) + 1) + 1) + 1))), (v2_44, eY cB m2_45 f2_46)]) hD hS hA [1, 2] rfl
    refine va_callr (va_runV (As := [.int (nI (48 + Wn % 1000000000 / 100 % 10))]) (rest := []) ⟨hx, hb, hml, hown, hts⟩ (kk_J4_append_cf468 l dC dI cB h v2_44 (((((((n + sb_dg (Wn / 1000000000)) + 1) + 1) + 1) + 1) + 1) + 1) m2_45 f2_46 (48 + Wn % 1000000000 / 100 % 10) H.size N hm_m2_45 hf_m2_45 (by omega) (by omega) (by omega)) (cwV 1 hts gX1_appendWhole_J4_append_cf468 rfl rfl rfl (by decide +kernel) ⟨Nat.le_of_ble_eq_true rfl, Nat.le_of_ble_eq_true rfl⟩) (xT.preV hKc hPc hDc hAN (Nat.le_trans hN hS.1) (hG.kept hS hAN) (hT.kept hS hAN) (ci := 1) (q0 := 0) rfl rfl) rfl rfl hl.1 rfl (lv_room (Nat.le_of_ble_eq_true rfl)) dX1_appendWhole_58 ⟨(show _ ≤ 10 by omega), (show _ ≤ 340 by omega)⟩) hS (fun q _ h => hFc q h) hFc (fun u_55 r_54 t H locs ht hvm hw hB hz hk hS => ?_)
    obtain ⟨he_r_54, hP1, hD1⟩ := hB
    rw [ht] at hP1
    obtain ⟨v2_51, m2_52, f2_53⟩ := u_55
    obtain ⟨hP, hD⟩ := va_join (wr := [(h0, eW wd)]) (w1 := [(h, eB v2_51 (nI ((((((((n + sb_dg (Wn / 1000000000)) + 1) + 1) + 1) + 1) + 1) + 1) + 1))), (v2_51, eY cB m2_52 f2_53)]) hP hD [1, 2] [0] rfl rfl (by decide) (by decide) hk hFc hP1 hD1
    have hP : va_P (dC, dI) xCl [(h0, eW wd), (h, eB v2_51 (nI ((((((((n + sb_dg (Wn / 1000000000)) + 1) + 1) + 1) + 1) + 1) + 1) + 1))), (v2_51, eY cB m2_52 f2_53)] H := hP
    have hD : va_D A [(h0, eW wd), (h, eB v2_51 (nI ((((((((n + sb_dg (Wn / 1000000000)) + 1) + 1) + 1) + 1) + 1) + 1) + 1))), (v2_51, eY cB m2_52 f2_53)] := hD
    obtain ⟨hm_m2_52, hq_m2_52, hf_m2_52, hx_m2_52⟩ : (m2_52 = 16 ∨ m2_52 = 34) ∧ (((((((n + sb_dg (Wn / 1000000000)) + 1) + 1) + 1) + 1) + 1) + 1) + 1 ≤ m2_52 ∧ sb_Fit f2_53 ∧ tX f2_46 f2_53 (((((((n + sb_dg (Wn / 1000000000)) + 1) + 1) + 1) + 1) + 1) + 1) ([(48 + Wn % 1000000000 / 100 % 10)] : List Nat) := hw
    have hl_56 : ((((((((([] : List Nat) ++ dL (sb_dg (Wn / 1000000000)) (Wn / 1000000000)) ++ ([(48 + Wn % 1000000000 / 100000000 % 10)] : List Nat)) ++ ([(48 + Wn % 1000000000 / 10000000 % 10)] : List Nat)) ++ ([(48 + Wn % 1000000000 / 1000000 % 10)] : List Nat)) ++ ([(48 + Wn % 1000000000 / 100000 % 10)] : List Nat)) ++ ([(48 + Wn % 1000000000 / 10000 % 10)] : List Nat)) ++ ([(48 + Wn % 1000000000 / 1000 % 10)] : List Nat)) ++ ([(48 + Wn % 1000000000 / 100 % 10)] : List Nat)).length = 0 + sb_dg (Wn / 1000000000) + 1 + 1 + 1 + 1 + 1 + 1 + 1 := by rw [List.length_append, hl_49, (show ([(48 + Wn % 1000000000 / 100 % 10)] : List Nat).length = 1 from rfl)]
    have ht_57 := tX_trans ht_50 (by omega) hx_m2_52
    rw [he_r_54]
    refine lv_pop hx hb dX1_appendWhole_61 rfl ?_
    refine lv_iload hx hb dX1_appendWhole_62 (lv_at hl 0 rfl) ?_
    refine lv_bipush (v := 10) hx hb dX1_appendWhole_64 (by decide) ?_
    refine lv_idiv hx hb dX1_appendWhole_66 (by decide) ?_
    rw [show ((100 : Int32) / 10) = 10 from by decide]
    refine lv_istore (lv' := [(6, .int 10), (5, .int (nI (Wn % 1000000000))), (4, .int (nI (Wn / 1000000000))), (0, .ref h0), (1, .ref h), (2, .long (lN Wn))]) hx hb dX1_appendWhole_67 hl (by decide) rfl (fun ls hl => ?_)
    refine lv_goto (tgt := 40) hx hb dX1_appendWhole_69 (by decide) ?_
    refine lv_iload hx hb dX1_appendWhole_40 (lv_at hl 0 rfl) ?_
    refine lv_if_le (tgt := 72) hx hb dX1_appendWhole_42 (by decide) (fun c9 => absurd c9 (by decide)) (fun _ => ?_)
    refine lv_aload_n hx hb dX1_appendWhole_45 rfl (lv_at hl 4 rfl) ?_
    refine lv_bipush (v := 48) hx hb dX1_appendWhole_46 (by decide) ?_
    refine lv_iload hx hb dX1_appendWhole_48 (lv_at hl 1 rfl) ?_
    refine lv_iload hx hb dX1_appendWhole_50 (lv_at hl 0 rfl) ?_
    refine lv_idiv hx hb dX1_appendWhole_52 (by decide) ?_
    rw [show (((nI (Wn % 1000000000)) / 10) : Int32) = (nI (Wn % 1000000000 / 10)) from (show nI (Wn % 1000000000) / nI 10 = _ from pk_div (a := Wn % 1000000000) (d := 10) (by omega) (by decide) (by decide))]
    refine lv_bipush (v := 10) hx hb dX1_appendWhole_53 (by decide) ?_
    refine lv_irem hx hb dX1_appendWhole_55 (by decide) ?_
    rw [show (((nI (Wn % 1000000000 / 10)) - (nI (Wn % 1000000000 / 10)) / 10 * 10) : Int32) = (nI (Wn % 1000000000 / 10 % 10)) from (show nI (Wn % 1000000000 / 10) - nI (Wn % 1000000000 / 10) / nI 10 * nI 10 = _ from pk_rem (a := Wn % 1000000000 / 10) (d := 10) (by omega) (by decide) (by decide))]
    refine lv_iadd hx hb dX1_appendWhole_56 ?_
    rw [show ((48 + (nI (Wn % 1000000000 / 10 % 10))) : Int32) = (nI (48 + Wn % 1000000000 / 10 % 10)) from (show nI 48 + nI (Wn % 1000000000 / 10 % 10) = _ from nI_add 48 _)]
    refine lv_i2c (v := (nI (48 + Wn % 1000000000 / 10 % 10))) hx hb dX1_appendWhole_57 (jl_chr (by omega)) ?_
    have hPc := hP.sub (ws' := [(h, eB v2_51 (nI ((((((((n + sb_dg (Wn / 1000000000)) + 1) + 1) + 1) + 1) + 1) + 1) + 1))), (v2_51, eY cB m2_52 f2_53)]) [1, 2] rfl
    have hDc := hD.sub (ws' := [(h, eB v2_51 (nI ((((((((n + sb_dg (Wn / 1000000000)) + 1) + 1) + 1) + 1) + 1) + 1) + 1))), (v2_51, eY cB m2_52 f2_53)]) [1, 2] (by decide) rfl
    have hKc := hK.sub (tys' := [(cB, .byte)]) [0] rfl
    have hFc := va_free (wc := [(h, eB v2_51 (nI ((((((((n + sb_dg (Wn / 1000000000)) + 1) + 1) + 1) + 1) + 1) + 1) + 1))), (v2_51, eY cB m2_52 f2_53)]) hD hS hA [1, 2] rfl
    refine va_callr (va_runV (As := [.int (nI (48 + Wn % 1000000000 / 10 % 10))]) (rest := []) ⟨hx, hb, hml, hown, hts⟩ (kk_J4_append_cf468 l dC dI cB h v2_51 ((((((((n + sb_dg (Wn / 1000000000)) + 1) + 1) + 1) + 1) + 1) + 1) + 1) m2_52 f2_53 (48 + Wn % 1000000000 / 10 % 10) H.size N hm_m2_52 hf_m2_52 (by omega) (by omega) (by omega)) (cwV 1 hts gX1_appendWhole_J4_append_cf468 rfl rfl rfl (by decide +kernel) ⟨Nat.le_of_ble_eq_true rfl, Nat.le_of_ble_eq_true rfl⟩) (xT.preV hKc hPc hDc hAN (Nat.le_trans hN hS.1) (hG.kept hS hAN) (hT.kept hS hAN) (ci := 1) (q0 := 0) rfl rfl) rfl rfl hl.1 rfl (lv_room (Nat.le_of_ble_eq_true rfl)) dX1_appendWhole_58 ⟨(show _ ≤ 10 by omega), (show _ ≤ 340 by omega)⟩) hS (fun q _ h => hFc q h) hFc (fun u_62 r_61 t H locs ht hvm hw hB hz hk hS => ?_)
    obtain ⟨he_r_61, hP1, hD1⟩ := hB
    rw [ht] at hP1
    obtain ⟨v2_58, m2_59, f2_60⟩ := u_62
    obtain ⟨hP, hD⟩ := va_join (wr := [(h0, eW wd)]) (w1 := [(h, eB v2_58 (nI (((((((((n + sb_dg (Wn / 1000000000)) + 1) + 1) + 1) + 1) + 1) + 1) + 1) + 1))), (v2_58, eY cB m2_59 f2_60)]) hP hD [1, 2] [0] rfl rfl (by decide) (by decide) hk hFc hP1 hD1
    have hP : va_P (dC, dI) xCl [(h0, eW wd), (h, eB v2_58 (nI (((((((((n + sb_dg (Wn / 1000000000)) + 1) + 1) + 1) + 1) + 1) + 1) + 1) + 1))), (v2_58, eY cB m2_59 f2_60)] H := hP
    have hD : va_D A [(h0, eW wd), (h, eB v2_58 (nI (((((((((n + sb_dg (Wn / 1000000000)) + 1) + 1) + 1) + 1) + 1) + 1) + 1) + 1))), (v2_58, eY cB m2_59 f2_60)] := hD
    obtain ⟨hm_m2_59, hq_m2_59, hf_m2_59, hx_m2_59⟩ : (m2_59 = 16 ∨ m2_59 = 34) ∧ ((((((((n + sb_dg (Wn / 1000000000)) + 1) + 1) + 1) + 1) + 1) + 1) + 1) + 1 ≤ m2_59 ∧ sb_Fit f2_60 ∧ tX f2_53 f2_60 ((((((((n + sb_dg (Wn / 1000000000)) + 1) + 1) + 1) + 1) + 1) + 1) + 1) ([(48 + Wn % 1000000000 / 10 % 10)] : List Nat) := hw
    have hl_63 : (((((((((([] : List Nat) ++ dL (sb_dg (Wn / 1000000000)) (Wn / 1000000000)) ++ ([(48 + Wn % 1000000000 / 100000000 % 10)] : List Nat)) ++ ([(48 + Wn % 1000000000 / 10000000 % 10)] : List Nat)) ++ ([(48 + Wn % 1000000000 / 1000000 % 10)] : List Nat)) ++ ([(48 + Wn % 1000000000 / 100000 % 10)] : List Nat)) ++ ([(48 + Wn % 1000000000 / 10000 % 10)] : List Nat)) ++ ([(48 + Wn % 1000000000 / 1000 % 10)] : List Nat)) ++ ([(48 + Wn % 1000000000 / 100 % 10)] : List Nat)) ++ ([(48 + Wn % 1000000000 / 10 % 10)] : List Nat)).length = 0 + sb_dg (Wn / 1000000000) + 1 + 1 + 1 + 1 + 1 + 1 + 1 + 1 := by rw [List.length_append, hl_56, (show ([(48 + Wn % 1000000000 / 10 % 10)] : List Nat).length = 1 from rfl)]
    have ht_64 := tX_trans ht_57 (by omega) hx_m2_59
    rw [he_r_61]
    refine lv_pop hx hb dX1_appendWhole_61 rfl ?_
    refine lv_iload hx hb dX1_appendWhole_62 (lv_at hl 0 rfl) ?_
    refine lv_bipush (v := 10) hx hb dX1_appendWhole_64 (by decide) ?_
    refine lv_idiv hx hb dX1_appendWhole_66 (by decide) ?_
    rw [show ((10 : Int32) / 10) = 1 from by decide]
    refine lv_istore (lv' := [(6, .int 1), (5, .int (nI (Wn % 1000000000))), (4, .int (nI (Wn / 1000000000))), (0, .ref h0), (1, .ref h), (2, .long (lN Wn))]) hx hb dX1_appendWhole_67 hl (by decide) rfl (fun ls hl => ?_)
    refine lv_goto (tgt := 40) hx hb dX1_appendWhole_69 (by decide) ?_
    refine lv_iload hx hb dX1_appendWhole_40 (lv_at hl 0 rfl) ?_
    refine lv_if_le (tgt := 72) hx hb dX1_appendWhole_42 (by decide) (fun c9 => absurd c9 (by decide)) (fun _ => ?_)
    refine lv_aload_n hx hb dX1_appendWhole_45 rfl (lv_at hl 4 rfl) ?_
    refine lv_bipush (v := 48) hx hb dX1_appendWhole_46 (by decide) ?_
    refine lv_iload hx hb dX1_appendWhole_48 (lv_at hl 1 rfl) ?_
    refine lv_iload hx hb dX1_appendWhole_50 (lv_at hl 0 rfl) ?_
    refine lv_idiv hx hb dX1_appendWhole_52 (by decide) ?_
    rw [show (((nI (Wn % 1000000000)) / 1) : Int32) = (nI (Wn % 1000000000 / 1)) from (show nI (Wn % 1000000000) / nI 1 = _ from pk_div (a := Wn % 1000000000) (d := 1) (by omega) (by decide) (by decide))]
    refine lv_bipush (v := 10) hx hb dX1_appendWhole_53 (by decide) ?_
    refine lv_irem hx hb dX1_appendWhole_55 (by decide) ?_
    rw [show (((nI (Wn % 1000000000 / 1)) - (nI (Wn % 1000000000 / 1)) / 10 * 10) : Int32) = (nI (Wn % 1000000000 / 1 % 10)) from (show nI (Wn % 1000000000 / 1) - nI (Wn % 1000000000 / 1) / nI 10 * nI 10 = _ from pk_rem (a := Wn % 1000000000 / 1) (d := 10) (by omega) (by decide) (by decide))]
    refine lv_iadd hx hb dX1_appendWhole_56 ?_
    rw [show ((48 + (nI (Wn % 1000000000 / 1 % 10))) : Int32) = (nI (48 + Wn % 1000000000 / 1 % 10)) from (show nI 48 + nI (Wn % 1000000000 / 1 % 10) = _ from nI_add 48 _)]
    refine lv_i2c (v := (nI (48 + Wn % 1000000000 / 1 % 10))) hx hb dX1_appendWhole_57 (jl_chr (by omega)) ?_
    have hPc := hP.sub (ws' := [(h, eB v2_58 (nI (((((((((n + sb_dg (Wn / 1000000000)) + 1) + 1) + 1) + 1) + 1) + 1) + 1) + 1))), (v2_58, eY cB m2_59 f2_60)]) [1, 2] rfl
    have hDc := hD.sub (ws' := [(h, eB v2_58 (nI (((((((((n + sb_dg (Wn / 1000000000)) + 1) + 1) + 1) + 1) + 1) + 1) + 1) + 1))), (v2_58, eY cB m2_59 f2_60)]) [1, 2] (by decide) rfl
    have hKc := hK.sub (tys' := [(cB, .byte)]) [0] rfl
    have hFc := va_free (wc := [(h, eB v2_58 (nI (((((((((n + sb_dg (Wn / 1000000000)) + 1) + 1) + 1) + 1) + 1) + 1) + 1) + 1))), (v2_58, eY cB m2_59 f2_60)]) hD hS hA [1, 2] rfl
    refine va_callr (va_runV (As := [.int (nI (48 + Wn % 1000000000 / 1 % 10))]) (rest := []) ⟨hx, hb, hml, hown, hts⟩ (kk_J4_append_cf468 l dC dI cB h v2_58 (((((((((n + sb_dg (Wn / 1000000000)) + 1) + 1) + 1) + 1) + 1) + 1) + 1) + 1) m2_59 f2_60 (48 + Wn % 1000000000 / 1 % 10) H.size N hm_m2_59 hf_m2_59 (by omega) (by omega) (by omega)) (cwV 1 hts gX1_appendWhole_J4_append_cf468 rfl rfl rfl (by decide +kernel) ⟨Nat.le_of_ble_eq_true rfl, Nat.le_of_ble_eq_true rfl⟩) (xT.preV hKc hPc hDc hAN (Nat.le_trans hN hS.1) (hG.kept hS hAN) (hT.kept hS hAN) (ci := 1) (q0 := 0) rfl rfl) rfl rfl hl.1 rfl (lv_room (Nat.le_of_ble_eq_true rfl)) dX1_appendWhole_58 ⟨(show _ ≤ 10 by omega), (show _ ≤ 340 by omega)⟩) hS (fun q _ h => hFc q h) hFc (fun u_69 r_68 t H locs ht hvm hw hB hz hk hS => ?_)
    obtain ⟨he_r_68, hP1, hD1⟩ := hB
    rw [ht] at hP1
    obtain ⟨v2_65, m2_66, f2_67⟩ := u_69
    obtain ⟨hP, hD⟩ := va_join (wr := [(h0, eW wd)]) (w1 := [(h, eB v2_65 (nI ((((((((((n + sb_dg (Wn / 1000000000)) + 1) + 1) + 1) + 1) + 1) + 1) + 1) + 1) + 1))), (v2_65, eY cB m2_66 f2_67)]) hP hD [1, 2] [0] rfl rfl (by decide) (by decide) hk hFc hP1 hD1
    have hP : va_P (dC, dI) xCl [(h0, eW wd), (h, eB v2_65 (nI ((((((((((n + sb_dg (Wn / 1000000000)) + 1) + 1) + 1) + 1) + 1) + 1) + 1) + 1) + 1))), (v2_65, eY cB m2_66 f2_67)] H := hP
    have hD : va_D A [(h0, eW wd), (h, eB v2_65 (nI ((((((((((n + sb_dg (Wn / 1000000000)) + 1) + 1) + 1) + 1) + 1) + 1) + 1) + 1) + 1))), (v2_65, eY cB m2_66 f2_67)] := hD
    obtain ⟨hm_m2_66, hq_m2_66, hf_m2_66, hx_m2_66⟩ : (m2_66 = 16 ∨ m2_66 = 34) ∧ (((((((((n + sb_dg (Wn / 1000000000)) + 1) + 1) + 1) + 1) + 1) + 1) + 1) + 1) + 1 ≤ m2_66 ∧ sb_Fit f2_67 ∧ tX f2_60 f2_67 (((((((((n + sb_dg (Wn / 1000000000)) + 1) + 1) + 1) + 1) + 1) + 1) + 1) + 1) ([(48 + Wn % 1000000000 / 1 % 10)] : List Nat) := hw
    have hl_70 : ((((((((((([] : List Nat) ++ dL (sb_dg (Wn / 1000000000)) (Wn / 1000000000)) ++ ([(48 + Wn % 1000000000 / 100000000 % 10)] : List Nat)) ++ ([(48 + Wn % 1000000000 / 10000000 % 10)] : List Nat)) ++ ([(48 + Wn % 1000000000 / 1000000 % 10)] : List Nat)) ++ ([(48 + Wn % 1000000000 / 100000 % 10)] : List Nat)) ++ ([(48 + Wn % 1000000000 / 10000 % 10)] : List Nat)) ++ ([(48 + Wn % 1000000000 / 1000 % 10)] : List Nat)) ++ ([(48 + Wn % 1000000000 / 100 % 10)] : List Nat)) ++ ([(48 + Wn % 1000000000 / 10 % 10)] : List Nat)) ++ ([(48 + Wn % 1000000000 / 1 % 10)] : List Nat)).length = 0 + sb_dg (Wn / 1000000000) + 1 + 1 + 1 + 1 + 1 + 1 + 1 + 1 + 1 := by rw [List.length_append, hl_63, (show ([(48 + Wn % 1000000000 / 1 % 10)] : List Nat).length = 1 from rfl)]
    have ht_71 := tX_trans ht_64 (by omega) hx_m2_66
    rw [he_r_68]
    refine lv_pop hx hb dX1_appendWhole_61 rfl ?_
    refine lv_iload hx hb dX1_appendWhole_62 (lv_at hl 0 rfl) ?_
    refine lv_bipush (v := 10) hx hb dX1_appendWhole_64 (by decide) ?_
    refine lv_idiv hx hb dX1_appendWhole_66 (by decide) ?_
    rw [show ((1 : Int32) / 10) = 0 from by decide]
    refine lv_istore (lv' := [(6, .int 0), (5, .int (nI (Wn % 1000000000))), (4, .int (nI (Wn / 1000000000))), (0, .ref h0), (1, .ref h), (2, .long (lN Wn))]) hx hb dX1_appendWhole_67 hl (by decide) rfl (fun ls hl => ?_)
    refine lv_goto (tgt := 40) hx hb dX1_appendWhole_69 (by decide) ?_
    refine lv_iload hx hb dX1_appendWhole_40 (lv_at hl 0 rfl) ?_
    refine lv_if_le (tgt := 72) hx hb dX1_appendWhole_42 (by decide) (fun _ => ?_) (fun c9 => absurd c9 (by decide))
    have hbg : ¬ Wn < 1000000000 := fun z => c_1 (by rw [show Wn / 1000000000 = 0 by omega]; rfl)
    have hdg : dgL Wn = 9 + sb_dg (Wn / 1000000000) := by rw [dgL, if_neg hbg]
    have hP := hP.sub (ws' := [(h0, eW wd), (h, eB v2_65 (nI ((((((((((n + sb_dg (Wn / 1000000000)) + 1) + 1) + 1) + 1) + 1) + 1) + 1) + 1) + 1))), (v2_65, eY cB m2_66 f2_67)]) [0, 1, 2] rfl
    have hD := hD.sub (ws' := [(h0, eW wd), (h, eB v2_65 (nI ((((((((((n + sb_dg (Wn / 1000000000)) + 1) + 1) + 1) + 1) + 1) + 1) + 1) + 1) + 1))), (v2_65, eY cB m2_66 f2_67)]) [0, 1, 2] (by decide) rfl
    refine W.widen (k := 10) (n := 340) (by omega) (by omega) ?_
    exact W.vret hx hb hr (fun t ht hW => ⟨⟨(((((((((((n + sb_dg (Wn / 1000000000)) + 1) + 1) + 1) + 1) + 1) + 1) + 1) + 1) + 1), v2_65, m2_66, f2_67), rfl, ⟨hm_m2_66, hq_m2_66, hf_m2_66, (by omega), (by rw [hdg, dL_big]; exact ht_71)⟩, by rw [ht]; exact hP, hD⟩, hS.F ht⟩) hS.2.2 dX1_appendWhole_72
  · skip
    refine lv_aload_n hx hb dX1_appendWhole_21 rfl (lv_at hl 3 rfl) ?_
    refine lv_iload hx hb dX1_appendWhole_22 (lv_at hl 0 rfl) ?_
    have hPc := hP.sub (ws' := [(h, eB v (nI n)), (v, eY cB mm f)]) [1, 2] rfl
    have hDc := hD.sub (ws' := [(h, eB v (nI n)), (v, eY cB mm f)]) [1, 2] (by decide) rfl
    have hKc := hK.sub (tys' := [(cB, .byte)]) [0] rfl
    have hFc := va_free (wc := [(h, eB v (nI n)), (v, eY cB mm f)]) hD hS hA [1, 2] rfl
    refine va_callr (va_runV (As := [.int (nI (Wn % 1000000000))]) (rest := []) ⟨hx, hb, hml, hown, hts⟩ (kk_J4_append_bf812 l dC dI cB h v n mm f (Wn % 1000000000) s.heap.size N hm hf (by omega) (by omega) (by omega)) (cwV 1 hts gX1_appendWhole_J4_append_bf812 rfl rfl rfl (by decide +kernel) ⟨Nat.le_of_ble_eq_true rfl, Nat.le_of_ble_eq_true rfl⟩) (xT.preV hKc hPc hDc hAN (Nat.le_trans hN hS.1) (hG.kept hS hAN) (hT.kept hS hAN) (ci := 1) (q0 := 0) rfl rfl) rfl rfl hl.1 rfl (lv_room (Nat.le_of_ble_eq_true rfl)) dX1_appendWhole_24 ⟨(show _ ≤ 10 by omega), (show _ ≤ 340 by omega)⟩) hS (fun q _ h => hFc q h) hFc (fun u_76 r_75 t H locs ht hvm hw hB hz hk hS => ?_)
    obtain ⟨he_r_75, hP1, hD1⟩ := hB
    rw [ht] at hP1
    obtain ⟨v2_72, m2_73, f2_74⟩ := u_76
    obtain ⟨hP, hD⟩ := va_join (wr := [(h0, eW wd)]) (w1 := [(h, eB v2_72 (nI (n + sb_dg (Wn % 1000000000)))), (v2_72, eY cB m2_73 f2_74)]) hP hD [1, 2] [0] rfl rfl (by decide) (by decide) hk hFc hP1 hD1
    have hP : va_P (dC, dI) xCl [(h0, eW wd), (h, eB v2_72 (nI (n + sb_dg (Wn % 1000000000)))), (v2_72, eY cB m2_73 f2_74)] H := hP
    have hD : va_D A [(h0, eW wd), (h, eB v2_72 (nI (n + sb_dg (Wn % 1000000000)))), (v2_72, eY cB m2_73 f2_74)] := hD
    obtain ⟨hm_m2_73, hq_m2_73, hf_m2_73, hx_m2_73⟩ : (m2_73 = 16 ∨ m2_73 = 34) ∧ n + sb_dg (Wn % 1000000000) ≤ m2_73 ∧ sb_Fit f2_74 ∧ tX f f2_74 n (dL (sb_dg (Wn % 1000000000)) (Wn % 1000000000)) := hw
    have hl_77 : (([] : List Nat) ++ dL (sb_dg (Wn % 1000000000)) (Wn % 1000000000)).length = 0 + sb_dg (Wn % 1000000000) := by rw [List.length_append, hl0, dL_len]
    have ht_78 := tX_trans ht0 (by omega) hx_m2_73
    rw [he_r_75]
    refine lv_pop hx hb dX1_appendWhole_27 rfl ?_
    have hsm : Wn / 1000000000 = 0 := by
      have h9 := congrArg Int32.toNatClampNeg c_1
      rw [nI_clamp (by omega), sb_cl0] at h9
      exact h9
    have hlt9 : Wn < 1000000000 := by omega
    have hmo : Wn % 1000000000 = Wn := Nat.mod_eq_of_lt hlt9
    have hdg : dgL Wn = sb_dg Wn := by rw [dgL, if_pos hlt9]
    rw [hmo] at ht_78
    have hP := hP.sub (ws' := [(h0, eW wd), (h, eB v2_72 (nI (n + sb_dg (Wn % 1000000000)))), (v2_72, eY cB m2_73 f2_74)]) [0, 1, 2] rfl
    have hD := hD.sub (ws' := [(h0, eW wd), (h, eB v2_72 (nI (n + sb_dg (Wn % 1000000000)))), (v2_72, eY cB m2_73 f2_74)]) [0, 1, 2] (by decide) rfl
    refine W.widen (k := 10) (n := 340) (by omega) (by omega) ?_
    exact W.vret hx hb hr (fun t ht hW => ⟨⟨((n + sb_dg (Wn % 1000000000)), v2_72, m2_73, f2_74), rfl, ⟨hm_m2_73, hq_m2_73, hf_m2_73, (by rw [hdg, hmo]), (by rw [hdg]; exact ht_78)⟩, by rw [ht]; exact hP, hD⟩, hS.F ht⟩) hS.2.2 dX1_appendWhole_28
set_option maxHeartbeats 4000000 in
set_option maxRecDepth 100000 in
theorem kk_X1_text (l : Launch) (dC : Nat → ClassId) (dI : Nat → Nat → Nat) (cB : ClassId) (h0 : Nat) (wd : Bool) (d : Int64) (sz N : Nat) (hok : okN wd d) : Met l yX1_text wsX1_text ({ frames := 7, cells := 18, slots := 540, locals := 214 }) (va_Pc [.ref h0, .long d] (xT (dC, dI) xCl [(h0, eW wd)] [(cB, .byte)] sz N)) (va_Qr (fun (u : Nat × Nat × (Nat → Int32)) => u.2.1 ≤ 34 ∧ tL (tTx wd d) u.2.1 u.2.2) (fun (u : Nat × Nat × (Nat → Int32)) a t => xW (dC, dI) xCl [(h0, eW wd), (a, .inr (0, [.ref u.1, .int 0, .int 0, .int 0])), (u.1, eY cB u.2.1 u.2.2)] (va_A [(h0, eW wd)] sz) t) (va_A [(h0, eW wd)] sz)) 18 540 (va_A [(h0, eW wd)] sz) := by
  refine Met.ofW (cc := cX1_text) (maxL := 4) (ret := (some (.object "java/lang/String"))) (by decide +kernel) rfl ?_
  intro p e s m args below meth c s₁ B hml hv
  obtain ⟨rfl, ⟨hsz, hP, hK, hD0, hN, hG⟩, hT⟩ := hv
  have hx := B.exec
  have hb := B.bytes
  have hr := B.returns
  have hts := atoms_spec (ws := wsX1_text) B.pre
  have hown : s.vm.findClass RX1 = some m.cls := findClass_of_methodNamed B.named
  have hlocks := B.notSynchronized
  subst hsz
  have hAN : ∀ q, va_A [(h0, eW wd)] s.heap.size q → N ≤ q := xA_N hD0 hN
  have hD := hD0.self (sz := s.heap.size)
  generalize hAe : va_A [(h0, eW wd)] s.heap.size = A at hD hAN ⊢
  have hA : ∀ q : Nat, s.heap.size ≤ q → A q := fun q h => by rw [← hAe]; exact Or.inr h
  have hS : va_S A s.heap s.heap [] := va_S.rf
  have hP : va_P (dC, dI) xCl [(h0, eW wd)] s.heap := hP
  obtain ⟨hTc, ⟨tO, tT, fO, fT, hTo, hTt, hTa, hTb, hTf, hTg⟩, ⟨adK, adV, hTs, hTr0, hTr1, hTr2⟩, ⟨aE, hTe⟩, hTn⟩ := id hT
  have hl := lv_entry ([.ref h0, .long d]) (n := 4) (Nat.le_of_ble_eq_true rfl)
  rw [lg_entry_eq]
  generalize (lg_sl ([.ref h0, .long d]) ++ List.replicate (4 - (lg_sl ([.ref h0, .long d])).length) Slot.unset).toArray = ls at hl ⊢
  have hl : lv_has ls 4 [(0, .ref h0), (1, .long d)] := hl
  obtain ⟨⟨ex, hex, hE, -⟩, ⟨Wn, hW0, hF, -⟩⟩ := jx_of hok
  have hE1 := hE
  have hF1 := hF
  have hd4 := dg_le4 (w := ex) (by omega)
  refine va_new (ci := 1) (fs := [.null, .int 0, .int 0, .int 0]) (C := RJ4) (T := TJ4) (N := 4) hx hb hts (by decide +kernel) tyJ4 tyJ4_ok hown (hts (.classLink RX1 76 RJ4) (by decide +kernel)) (hts (.instantiable RJ4 4) (by decide +kernel)) (hts (.initialized RJ4) (by decide +kernel)) hK hP hD hS hA rfl (fun j hj => by rcases (show j = 0 ∨ j = 1 ∨ j = 2 ∨ j = 3 by omega) with rfl | rfl | rfl | rfl <;> rfl) (show _ ≤ 18 by omega) (show _ ≤ 540 by omega) dX1_text_0 (fun q0 H hP hD hS => ?_)
  have hP : va_P (dC, dI) xCl [(h0, eW wd), (q0, .inr (1, [.null, .int 0, .int 0, .int 0]))] H := hP
  have hD : va_D A [(h0, eW wd), (q0, .inr (1, [.null, .int 0, .int 0, .int 0]))] := hD
  refine lv_dup hx hb dX1_text_3 rfl ?_
  have hPc := hP.sub (ws' := [(q0, .inr (1, [.null, .int 0, .int 0, .int 0]))]) [1] rfl
  have hDc := hD.sub (ws' := [(q0, .inr (1, [.null, .int 0, .int 0, .int 0]))]) [1] (by decide) rfl
  have hKc := hK.sub (tys' := [(cB, .byte)]) [0] rfl
  have hFc := va_free (wc := [(q0, .inr (1, [.null, .int 0, .int 0, .int 0]))]) hD hS hA [1] rfl
  refine va_callv (va_runI (As := []) (rest := [.ref q0]) ⟨hx, hb, hml, hown, hts⟩ (k_J4_init_da8c8 l dC dI cB q0 H.size N) (cwI 0 hts gX1_text_J4_init_da8c8 rfl rfl rfl (hts (.initialized RJ4) (by decide +kernel)) (hts (.methodLink RX1 78 yJ4_init_da8c8) (by decide +kernel)) (hts (.instanceMethod yJ4_init_da8c8) (by decide +kernel)) rfl (by decide +kernel) ⟨Nat.le_of_ble_eq_true rfl, Nat.le_of_ble_eq_true rfl⟩) (xT.preS  (As := .ref q0 :: []) hKc hPc hDc hAN (Nat.le_trans hN hS.1) (hG.kept hS hAN) (hT.kept hS hAN)) rfl rfl hl.1 rfl (lv_room (Nat.le_of_ble_eq_true rfl)) dX1_text_4 ⟨(show _ ≤ 18 by omega), (show _ ≤ 540 by omega)⟩) hS (fun q _ h => hFc q h) hFc (fun u_3 t H locs ht hvm hw hB hz hk hS => ?_)
  obtain ⟨hP1, hD1⟩ := hB
  rw [ht] at hP1
  obtain ⟨v_1, rfl⟩ : ∃ z, z = u_3 := ⟨_, rfl⟩
  obtain ⟨hP, hD⟩ := va_join (wr := [(h0, eW wd)]) (w1 := [(q0, eB v_1 0), (v_1, eY cB 16 (fun _ => 0))]) hP hD [1] [0] rfl rfl (by decide) (by decide) hk hFc hP1 hD1
  have hP : va_P (dC, dI) xCl [(h0, eW wd), (q0, eB v_1 0), (v_1, eY cB 16 (fun _ => 0))] H := hP
  have hD : va_D A [(h0, eW wd), (q0, eB v_1 0), (v_1, eY cB 16 (fun _ => 0))] := hD
  have ht_4 : tX (fun _ => 0) (fun _ => 0) 0 [] := tX_nil _ _
  have hl_5 : ([] : List Nat).length = 0 := rfl
  refine lv_astore_n (lv' := [(3, .ref q0), (0, .ref h0), (1, .long d)]) hx hb dX1_text_7 rfl hl (by decide) rfl (fun ls hl => ?_)
  refine lv_aload_n hx hb dX1_text_8 rfl (lv_at hl 0 rfl) ?_
  refine lv_aload_n hx hb dX1_text_9 rfl (lv_at hl 1 rfl) ?_
  refine lv_lload_n hx hb dX1_text_10 rfl (lv_at hl 2 rfl) ?_
  have hPc := hP.sub (ws' := [(h0, eW wd)]) [0] rfl
  have hDc := hD.sub (ws' := [(h0, eW wd)]) [0] (by decide) rfl
  have hKc := hK.sub (tys' := []) [] rfl
  have hFc := va_free (wc := [(h0, eW wd)]) hD hS hA [0] rfl
  refine va_calli (va_runV (As := [.long d]) (rest := [.ref q0]) ⟨hx, hb, hml, hown, hts⟩ (k_X1_hasSign l dC dI h0 wd H.size d) (cwV 1 hts gX1_text_X1_hasSign rfl rfl rfl (by decide +kernel) ⟨Nat.le_of_ble_eq_true rfl, Nat.le_of_ble_eq_true rfl⟩) (xB.preV hKc hPc (ci := 3) (q0 := 0) rfl rfl) rfl rfl hl.1 rfl (lv_room (Nat.le_of_ble_eq_true rfl)) dX1_text_11 ⟨(show _ ≤ 18 by omega), (show _ ≤ 540 by omega)⟩) hS xA_old (fun q h => hA q (Nat.le_trans hS.1 h)) (fun r_6 u_7 t H locs ht hvm hw hB hz hk hS => ?_)
  have hP := xP_keep hP hk
  have hw : r_6 = b2i (o_X1_hasSign wd d) := hw
  rw [hw]
  refine xz_eq (tgt := 22) hx hb dX1_text_14 (by decide) (fun c_8 => ?_) (fun c_8 => ?_)
  · skip
    refine lv_bipush (v := 48) hx hb dX1_text_22 (by decide) ?_
    have hPc := hP.sub (ws' := [(q0, eB v_1 0), (v_1, eY cB 16 (fun _ => 0))]) [1, 2] rfl
    have hDc := hD.sub (ws' := [(q0, eB v_1 0), (v_1, eY cB 16 (fun _ => 0))]) [1, 2] (by decide) rfl
    have hKc := hK.sub (tys' := [(cB, .byte)]) [0] rfl
    have hFc := va_free (wc := [(q0, eB v_1 0), (v_1, eY cB 16 (fun _ => 0))]) hD hS hA [1, 2] rfl
    refine va_callr (va_runV (As := [.int 48]) (rest := []) ⟨hx, hb, hml, hown, hts⟩ (kk_J4_append_cf468 l dC dI cB q0 v_1 0 16 (fun _ => 0) 48 H.size N (Or.inl rfl) sb_fit0 (by omega) (by omega) (by decide)) (cwV 1 hts gX1_text_J4_append_cf468 rfl rfl rfl (by decide +kernel) ⟨Nat.le_of_ble_eq_true rfl, Nat.le_of_ble_eq_true rfl⟩) (xT.preV hKc hPc hDc hAN (Nat.le_trans hN hS.1) (hG.kept hS hAN) (hT.kept hS hAN) (ci := 1) (q0 := 0) rfl rfl) rfl rfl hl.1 rfl (lv_room (Nat.le_of_ble_eq_true rfl)) dX1_text_24 ⟨(show _ ≤ 18 by omega), (show _ ≤ 540 by omega)⟩) hS (fun q _ h => hFc q h) hFc (fun u_13 r_12 t H locs ht hvm hw hB hz hk hS => ?_)
    obtain ⟨he_r_12, hP1, hD1⟩ := hB
    rw [ht] at hP1
    obtain ⟨v2_9, m2_10, f2_11⟩ := u_13
    obtain ⟨hP, hD⟩ := va_join (wr := [(h0, eW wd)]) (w1 := [(q0, eB v2_9 (nI (0 + 1))), (v2_9, eY cB m2_10 f2_11)]) hP hD [1, 2] [0] rfl rfl (by decide) (by decide) hk hFc hP1 hD1
    have hP : va_P (dC, dI) xCl [(h0, eW wd), (q0, eB v2_9 (nI (0 + 1))), (v2_9, eY cB m2_10 f2_11)] H := hP
    have hD : va_D A [(h0, eW wd), (q0, eB v2_9 (nI (0 + 1))), (v2_9, eY cB m2_10 f2_11)] := hD
    obtain ⟨hm_m2_10, hq_m2_10, hf_m2_10, hx_m2_10⟩ : (m2_10 = 16 ∨ m2_10 = 34) ∧ 0 + 1 ≤ m2_10 ∧ sb_Fit f2_11 ∧ tX (fun _ => 0) f2_11 0 ([48] : List Nat) := hw
    have hl_14 : (([] : List Nat) ++ ([48] : List Nat)).length = 0 + 1 := by rw [List.length_append, hl_5, (show ([48] : List Nat).length = 1 from rfl)]
    have ht_15 := tX_trans ht_4 (by omega) hx_m2_10
    rw [he_r_12]
    refine lv_pop hx hb dX1_text_27 rfl ?_
    refine lv_aload_n hx hb dX1_text_28 rfl (lv_at hl 0 rfl) ?_
    refine lv_bipush (v := 32) hx hb dX1_text_29 (by decide) ?_
    have hPc := hP.sub (ws' := [(q0, eB v2_9 (nI (0 + 1))), (v2_9, eY cB m2_10 f2_11)]) [1, 2] rfl
    have hDc := hD.sub (ws' := [(q0, eB v2_9 (nI (0 + 1))), (v2_9, eY cB m2_10 f2_11)]) [1, 2] (by decide) rfl
    have hKc := hK.sub (tys' := [(cB, .byte)]) [0] rfl
    have hFc := va_free (wc := [(q0, eB v2_9 (nI (0 + 1))), (v2_9, eY cB m2_10 f2_11)]) hD hS hA [1, 2] rfl
    refine va_callr (va_runV (As := [.int 32]) (rest := []) ⟨hx, hb, hml, hown, hts⟩ (kk_J4_append_cf468 l dC dI cB q0 v2_9 (0 + 1) m2_10 f2_11 32 H.size N hm_m2_10 hf_m2_10 (by omega) (by omega) (by decide)) (cwV 1 hts gX1_text_J4_append_cf468 rfl rfl rfl (by decide +kernel) ⟨Nat.le_of_ble_eq_true rfl, Nat.le_of_ble_eq_true rfl⟩) (xT.preV hKc hPc hDc hAN (Nat.le_trans hN hS.1) (hG.kept hS hAN) (hT.kept hS hAN) (ci := 1) (q0 := 0) rfl rfl) rfl rfl hl.1 rfl (lv_room (Nat.le_of_ble_eq_true rfl)) dX1_text_31 ⟨(show _ ≤ 18 by omega), (show _ ≤ 540 by omega)⟩) hS (fun q _ h => hFc q h) hFc (fun u_20 r_19 t H locs ht hvm hw hB hz hk hS => ?_)
    obtain ⟨he_r_19, hP1, hD1⟩ := hB
    rw [ht] at hP1
    obtain ⟨v2_16, m2_17, f2_18⟩ := u_20
    obtain ⟨hP, hD⟩ := va_join (wr := [(h0, eW wd)]) (w1 := [(q0, eB v2_16 (nI ((0 + 1) + 1))), (v2_16, eY cB m2_17 f2_18)]) hP hD [1, 2] [0] rfl rfl (by decide) (by decide) hk hFc hP1 hD1
    have hP : va_P (dC, dI) xCl [(h0, eW wd), (q0, eB v2_16 (nI ((0 + 1) + 1))), (v2_16, eY cB m2_17 f2_18)] H := hP
    have hD : va_D A [(h0, eW wd), (q0, eB v2_16 (nI ((0 + 1) + 1))), (v2_16, eY cB m2_17 f2_18)] := hD
    obtain ⟨hm_m2_17, hq_m2_17, hf_m2_17, hx_m2_17⟩ : (m2_17 = 16 ∨ m2_17 = 34) ∧ (0 + 1) + 1 ≤ m2_17 ∧ sb_Fit f2_18 ∧ tX f2_11 f2_18 (0 + 1) ([32] : List Nat) := hw
    have hl_21 : ((([] : List Nat) ++ ([48] : List Nat)) ++ ([32] : List Nat)).length = 0 + 1 + 1 := by rw [List.length_append, hl_14, (show ([32] : List Nat).length = 1 from rfl)]
    have ht_22 := tX_trans ht_15 (by omega) hx_m2_17
    rw [he_r_19]
    refine lv_pop hx hb dX1_text_34 rfl ?_
    refine lv_aload_n hx hb dX1_text_35 rfl (lv_at hl 0 rfl) ?_
    refine lv_aload_n hx hb dX1_text_36 rfl (lv_at hl 1 rfl) ?_
    refine lv_lload_n hx hb dX1_text_37 rfl (lv_at hl 2 rfl) ?_
    have hPc := hP.sub (ws' := [(h0, eW wd)]) [0] rfl
    have hDc := hD.sub (ws' := [(h0, eW wd)]) [0] (by decide) rfl
    have hKc := hK.sub (tys' := []) [] rfl
    have hFc := va_free (wc := [(h0, eW wd)]) hD hS hA [0] rfl
    refine va_calli (va_runV (As := [.long d]) (rest := [.ref q0]) ⟨hx, hb, hml, hown, hts⟩ (k_X1_exponent l dC dI h0 wd H.size d) (cwV 1 hts gX1_text_X1_exponent rfl rfl rfl (by decide +kernel) ⟨Nat.le_of_ble_eq_true rfl, Nat.le_of_ble_eq_true rfl⟩) (xB.preV hKc hPc (ci := 3) (q0 := 0) rfl rfl) rfl rfl hl.1 rfl (lv_room (Nat.le_of_ble_eq_true rfl)) dX1_text_38 ⟨(show _ ≤ 18 by omega), (show _ ≤ 540 by omega)⟩) hS xA_old (fun q h => hA q (Nat.le_trans hS.1 h)) (fun r_23 u_24 t H locs ht hvm hw hB hz hk hS => ?_)
    have hP := xP_keep hP hk
    have hw : r_23 = nI ex := hw.trans hE
    rw [hw]
    have hPc := hP.sub (ws' := [(q0, eB v2_16 (nI ((0 + 1) + 1))), (v2_16, eY cB m2_17 f2_18)]) [1, 2] rfl
    have hDc := hD.sub (ws' := [(q0, eB v2_16 (nI ((0 + 1) + 1))), (v2_16, eY cB m2_17 f2_18)]) [1, 2] (by decide) rfl
    have hKc := hK.sub (tys' := [(cB, .byte)]) [0] rfl
    have hFc := va_free (wc := [(q0, eB v2_16 (nI ((0 + 1) + 1))), (v2_16, eY cB m2_17 f2_18)]) hD hS hA [1, 2] rfl
    refine va_callr (va_runV (As := [.int (nI ex)]) (rest := []) ⟨hx, hb, hml, hown, hts⟩ (kk_J4_append_bf812 l dC dI cB q0 v2_16 ((0 + 1) + 1) m2_17 f2_18 ex H.size N hm_m2_17 hf_m2_17 (by omega) (by omega) (by omega)) (cwV 1 hts gX1_text_J4_append_bf812 rfl rfl rfl (by decide +kernel) ⟨Nat.le_of_ble_eq_true rfl, Nat.le_of_ble_eq_true rfl⟩) (xT.preV hKc hPc hDc hAN (Nat.le_trans hN hS.1) (hG.kept hS hAN) (hT.kept hS hAN) (ci := 1) (q0 := 0) rfl rfl) rfl rfl hl.1 rfl (lv_room (Nat.le_of_ble_eq_true rfl)) dX1_text_41 ⟨(show _ ≤ 18 by omega), (show _ ≤ 540 by omega)⟩) hS (fun q _ h => hFc q h) hFc (fun u_29 r_28 t H locs ht hvm hw hB hz hk hS => ?_)
    obtain ⟨he_r_28, hP1, hD1⟩ := hB
    rw [ht] at hP1
    obtain ⟨v2_25, m2_26, f2_27⟩ := u_29
    obtain ⟨hP, hD⟩ := va_join (wr := [(h0, eW wd)]) (w1 := [(q0, eB v2_25 (nI (((0 + 1) + 1) + sb_dg ex))), (v2_25, eY cB m2_26 f2_27)]) hP hD [1, 2] [0] rfl rfl (by decide) (by decide) hk hFc hP1 hD1
    have hP : va_P (dC, dI) xCl [(h0, eW wd), (q0, eB v2_25 (nI (((0 + 1) + 1) + sb_dg ex))), (v2_25, eY cB m2_26 f2_27)] H := hP
    have hD : va_D A [(h0, eW wd), (q0, eB v2_25 (nI (((0 + 1) + 1) + sb_dg ex))), (v2_25, eY cB m2_26 f2_27)] := hD
    obtain ⟨hm_m2_26, hq_m2_26, hf_m2_26, hx_m2_26⟩ : (m2_26 = 16 ∨ m2_26 = 34) ∧ ((0 + 1) + 1) + sb_dg ex ≤ m2_26 ∧ sb_Fit f2_27 ∧ tX f2_18 f2_27 ((0 + 1) + 1) (dL (sb_dg ex) ex) := hw
    have hl_30 : (((([] : List Nat) ++ ([48] : List Nat)) ++ ([32] : List Nat)) ++ dL (sb_dg ex) ex).length = 0 + 1 + 1 + sb_dg ex := by rw [List.length_append, hl_21, dL_len]
    have ht_31 := tX_trans ht_22 (by omega) hx_m2_26
    rw [he_r_28]
    refine lv_pop hx hb dX1_text_44 rfl ?_
    refine lv_aload_n hx hb dX1_text_45 rfl (lv_at hl 0 rfl) ?_
    refine lv_bipush (v := 32) hx hb dX1_text_46 (by decide) ?_
    have hPc := hP.sub (ws' := [(q0, eB v2_25 (nI (((0 + 1) + 1) + sb_dg ex))), (v2_25, eY cB m2_26 f2_27)]) [1, 2] rfl
    have hDc := hD.sub (ws' := [(q0, eB v2_25 (nI (((0 + 1) + 1) + sb_dg ex))), (v2_25, eY cB m2_26 f2_27)]) [1, 2] (by decide) rfl
    have hKc := hK.sub (tys' := [(cB, .byte)]) [0] rfl
    have hFc := va_free (wc := [(q0, eB v2_25 (nI (((0 + 1) + 1) + sb_dg ex))), (v2_25, eY cB m2_26 f2_27)]) hD hS hA [1, 2] rfl
    refine va_callr (va_runV (As := [.int 32]) (rest := []) ⟨hx, hb, hml, hown, hts⟩ (kk_J4_append_cf468 l dC dI cB q0 v2_25 (((0 + 1) + 1) + sb_dg ex) m2_26 f2_27 32 H.size N hm_m2_26 hf_m2_26 (by omega) (by omega) (by decide)) (cwV 1 hts gX1_text_J4_append_cf468 rfl rfl rfl (by decide +kernel) ⟨Nat.le_of_ble_eq_true rfl, Nat.le_of_ble_eq_true rfl⟩) (xT.preV hKc hPc hDc hAN (Nat.le_trans hN hS.1) (hG.kept hS hAN) (hT.kept hS hAN) (ci := 1) (q0 := 0) rfl rfl) rfl rfl hl.1 rfl (lv_room (Nat.le_of_ble_eq_true rfl)) dX1_text_48 ⟨(show _ ≤ 18 by omega), (show _ ≤ 540 by omega)⟩) hS (fun q _ h => hFc q h) hFc (fun u_36 r_35 t H locs ht hvm hw hB hz hk hS => ?_)
    obtain ⟨he_r_35, hP1, hD1⟩ := hB
    rw [ht] at hP1
    obtain ⟨v2_32, m2_33, f2_34⟩ := u_36
    obtain ⟨hP, hD⟩ := va_join (wr := [(h0, eW wd)]) (w1 := [(q0, eB v2_32 (nI ((((0 + 1) + 1) + sb_dg ex) + 1))), (v2_32, eY cB m2_33 f2_34)]) hP hD [1, 2] [0] rfl rfl (by decide) (by decide) hk hFc hP1 hD1
    have hP : va_P (dC, dI) xCl [(h0, eW wd), (q0, eB v2_32 (nI ((((0 + 1) + 1) + sb_dg ex) + 1))), (v2_32, eY cB m2_33 f2_34)] H := hP
    have hD : va_D A [(h0, eW wd), (q0, eB v2_32 (nI ((((0 + 1) + 1) + sb_dg ex) + 1))), (v2_32, eY cB m2_33 f2_34)] := hD
    obtain ⟨hm_m2_33, hq_m2_33, hf_m2_33, hx_m2_33⟩ : (m2_33 = 16 ∨ m2_33 = 34) ∧ (((0 + 1) + 1) + sb_dg ex) + 1 ≤ m2_33 ∧ sb_Fit f2_34 ∧ tX f2_27 f2_34 (((0 + 1) + 1) + sb_dg ex) ([32] : List Nat) := hw
    have hl_37 : ((((([] : List Nat) ++ ([48] : List Nat)) ++ ([32] : List Nat)) ++ dL (sb_dg ex) ex) ++ ([32] : List Nat)).length = 0 + 1 + 1 + sb_dg ex + 1 := by rw [List.length_append, hl_30, (show ([32] : List Nat).length = 1 from rfl)]
    have ht_38 := tX_trans ht_31 (by omega) hx_m2_33
    rw [he_r_35]
    refine lv_pop hx hb dX1_text_51 rfl ?_
    refine lv_aload_n hx hb dX1_text_52 rfl (lv_at hl 1 rfl) ?_
    refine lv_aload_n hx hb dX1_text_53 rfl (lv_at hl 0 rfl) ?_
    refine lv_aload_n hx hb dX1_text_54 rfl (lv_at hl 1 rfl) ?_
    refine lv_lload_n hx hb dX1_text_55 rfl (lv_at hl 2 rfl) ?_
    have hPc := hP.sub (ws' := [(h0, eW wd)]) [0] rfl
    have hDc := hD.sub (ws' := [(h0, eW wd)]) [0] (by decide) rfl
    have hKc := hK.sub (tys' := []) [] rfl
    have hFc := va_free (wc := [(h0, eW wd)]) hD hS hA [0] rfl
    refine va_calll (va_runV (As := [.long d]) (rest := [.ref q0, .ref h0]) ⟨hx, hb, hml, hown, hts⟩ (k_X1_fraction l dC dI h0 wd H.size d) (cwV 1 hts gX1_text_X1_fraction rfl rfl rfl (by decide +kernel) ⟨Nat.le_of_ble_eq_true rfl, Nat.le_of_ble_eq_true rfl⟩) (xB.preV hKc hPc (ci := 3) (q0 := 0) rfl rfl) rfl rfl hl.1 rfl (lv_room (Nat.le_of_ble_eq_true rfl)) dX1_text_56 ⟨(show _ ≤ 18 by omega), (show _ ≤ 540 by omega)⟩) hS xA_old (fun q h => hA q (Nat.le_trans hS.1 h)) (fun r_39 u_40 t H locs ht hvm hw hB hz hk hS => ?_)
    have hP := xP_keep hP hk
    have hw : r_39 = lN Wn := hw.trans hF
    rw [hw]
    have hPc := hP.sub (ws' := [(h0, eW wd), (q0, eB v2_32 (nI ((((0 + 1) + 1) + sb_dg ex) + 1))), (v2_32, eY cB m2_33 f2_34)]) [0, 1, 2] rfl
    have hDc := hD.sub (ws' := [(h0, eW wd), (q0, eB v2_32 (nI ((((0 + 1) + 1) + sb_dg ex) + 1))), (v2_32, eY cB m2_33 f2_34)]) [0, 1, 2] (by decide) rfl
    have hKc := hK.sub (tys' := [(cB, .byte)]) [0] rfl
    have hFc := va_free (wc := [(h0, eW wd), (q0, eB v2_32 (nI ((((0 + 1) + 1) + sb_dg ex) + 1))), (v2_32, eY cB m2_33 f2_34)]) hD hS hA [0, 1, 2] rfl
    refine va_callv (va_runV (As := [.ref q0, .long (lN Wn)]) (rest := []) ⟨hx, hb, hml, hown, hts⟩ (kk_X1_appendWhole l dC dI cB h0 wd q0 v2_32 ((((0 + 1) + 1) + sb_dg ex) + 1) m2_33 f2_34 Wn H.size N hm_m2_33 hf_m2_33 (by omega) (by omega) (by omega)) (cwV 2 hts gX1_text_X1_appendWhole rfl rfl rfl (by decide +kernel) ⟨Nat.le_of_ble_eq_true rfl, Nat.le_of_ble_eq_true rfl⟩) (xT.preV hKc hPc hDc hAN (Nat.le_trans hN hS.1) (hG.kept hS hAN) (hT.kept hS hAN) (ci := 3) (q0 := 0) rfl rfl) rfl rfl hl.1 rfl (lv_room (Nat.le_of_ble_eq_true rfl)) dX1_text_59 ⟨(show _ ≤ 18 by omega), (show _ ≤ 540 by omega)⟩) hS (fun q _ h => hFc q h) hFc (fun u_46 t H locs ht hvm hw hB hz hk hS => ?_)
    obtain ⟨hP1, hD1⟩ := hB
    rw [ht] at hP1
    obtain ⟨n2_41, v2_42, m2_43, f2_44⟩ := u_46
    obtain ⟨hP, hD⟩ := va_join (wr := []) (w1 := [(h0, eW wd), (q0, eB v2_42 (nI n2_41)), (v2_42, eY cB m2_43 f2_44)]) hP hD [0, 1, 2] [] rfl rfl (by decide) (by decide) hk hFc hP1 hD1
    have hP : va_P (dC, dI) xCl [(h0, eW wd), (q0, eB v2_42 (nI n2_41)), (v2_42, eY cB m2_43 f2_44)] H := hP
    have hD : va_D A [(h0, eW wd), (q0, eB v2_42 (nI n2_41)), (v2_42, eY cB m2_43 f2_44)] := hD
    obtain ⟨hm_m2_43, hq_m2_43, hf_m2_43, hn_m2_43, hx_m2_43⟩ : (m2_43 = 16 ∨ m2_43 = 34) ∧ n2_41 ≤ m2_43 ∧ sb_Fit f2_44 ∧ n2_41 = ((((0 + 1) + 1) + sb_dg ex) + 1) + dgL Wn ∧ tX f2_34 f2_44 ((((0 + 1) + 1) + sb_dg ex) + 1) (dL (dgL Wn) Wn) := hw
    have hl_47 : (((((([] : List Nat) ++ ([48] : List Nat)) ++ ([32] : List Nat)) ++ dL (sb_dg ex) ex) ++ ([32] : List Nat)) ++ dL (dgL Wn) Wn).length = 0 + 1 + 1 + sb_dg ex + 1 + dgL Wn := by rw [List.length_append, hl_37, dL_len]
    have ht_48 := tX_trans ht_38 (by omega) hx_m2_43
    refine lv_aload_n hx hb dX1_text_62 rfl (lv_at hl 0 rfl) ?_
    have hPc := hP.sub (ws' := [(q0, eB v2_42 (nI n2_41)), (v2_42, eY cB m2_43 f2_44)]) [1, 2] rfl
    have hDc := hD.sub (ws' := [(q0, eB v2_42 (nI n2_41)), (v2_42, eY cB m2_43 f2_44)]) [1, 2] (by decide) rfl
    have hKc := hK.sub (tys' := [(cB, .byte)]) [0] rfl
    have hFc := va_free (wc := [(q0, eB v2_42 (nI n2_41)), (v2_42, eY cB m2_43 f2_44)]) hD hS hA [1, 2] rfl
    refine va_callr (va_runV (As := []) (rest := []) ⟨hx, hb, hml, hown, hts⟩ (kk_J4_toString_0e30d l dC dI cB q0 v2_42 n2_41 m2_43 f2_44 H.size N (by omega) (by omega) hf_m2_43) (cwV 0 hts gX1_text_J4_toString_0e30d rfl rfl rfl (by decide +kernel) ⟨Nat.le_of_ble_eq_true rfl, Nat.le_of_ble_eq_true rfl⟩) (xT.preV hKc hPc hDc hAN (Nat.le_trans hN hS.1) (hG.kept hS hAN) (hT.kept hS hAN) (ci := 1) (q0 := 0) rfl rfl) rfl rfl hl.1 rfl (lv_room (Nat.le_of_ble_eq_true rfl)) dX1_text_63 ⟨(show _ ≤ 18 by omega), (show _ ≤ 540 by omega)⟩) hS (fun q _ h => hFc q h) hFc (fun u_52 r_51 t H locs ht hvm hw hB hz hk hS => ?_)
    obtain ⟨hP1, hD1⟩ := hB
    rw [ht] at hP1
    obtain ⟨v2_49, f2_50⟩ := u_52
    obtain ⟨hP, hD⟩ := va_join (wr := [(h0, eW wd)]) (w1 := [(r_51, .inr (0, [.ref v2_49, .int 0, .int 0, .int 0])), (v2_49, eY cB n2_41 f2_50)]) hP hD [1, 2] [0] rfl rfl (by decide) (by decide) hk hFc hP1 hD1
    have hP : va_P (dC, dI) xCl [(h0, eW wd), (r_51, .inr (0, [.ref v2_49, .int 0, .int 0, .int 0])), (v2_49, eY cB n2_41 f2_50)] H := hP
    have hD : va_D A [(h0, eW wd), (r_51, .inr (0, [.ref v2_49, .int 0, .int 0, .int 0])), (v2_49, eY cB n2_41 f2_50)] := hD
    obtain ⟨hf_f2_50, hk_f2_50⟩ : sb_Fit f2_50 ∧ ∀ j, j < n2_41 → f2_50 j = f2_44 j := hw
    have hPQ : (((((([] : List Nat) ++ ([48] : List Nat)) ++ ([32] : List Nat)) ++ dL (sb_dg ex) ex) ++ ([32] : List Nat)) ++ dL (dgL Wn) Wn) = tTx wd d := by
      rw [tTx, hE1, hF1, nI_clamp (by omega), lN_clamp (by omega), if_neg (c_8)]
      rfl
    have hP := hP.sub (ws' := [(h0, eW wd), (r_51, .inr (0, [.ref v2_49, .int 0, .int 0, .int 0])), (v2_49, eY cB n2_41 f2_50)]) [0, 1, 2] rfl
    have hD := hD.sub (ws' := [(h0, eW wd), (r_51, .inr (0, [.ref v2_49, .int 0, .int 0, .int 0])), (v2_49, eY cB n2_41 f2_50)]) [0, 1, 2] (by decide) rfl
    refine W.widen (k := 18) (n := 540) (by omega) (by omega) ?_
    exact W.aret (v := .ref r_51) hx hb hr (Or.inl ⟨_, rfl⟩) (Or.inr ⟨_, rfl⟩) (fun t ht hW => ⟨⟨(v2_49, n2_41, f2_50), _, rfl, ⟨(show n2_41 ≤ 34 by omega), tL_of ht_48 (show (((((([] : List Nat) ++ ([48] : List Nat)) ++ ([32] : List Nat)) ++ dL (sb_dg ex) ex) ++ ([32] : List Nat)) ++ dL (dgL Wn) Wn).length = n2_41 by omega) hk_f2_50 hPQ⟩, ⟨by rw [ht]; exact hP, hD⟩⟩, hS.F ht⟩) hS.2.2 dX1_text_66
  · skip
    refine lv_bipush (v := 49) hx hb dX1_text_17 (by decide) ?_
    refine lv_goto (tgt := 24) hx hb dX1_text_19 (by decide) ?_
    have hPc := hP.sub (ws' := [(q0, eB v_1 0), (v_1, eY cB 16 (fun _ => 0))]) [1, 2] rfl
    have hDc := hD.sub (ws' := [(q0, eB v_1 0), (v_1, eY cB 16 (fun _ => 0))]) [1, 2] (by decide) rfl
    have hKc := hK.sub (tys' := [(cB, .byte)]) [0] rfl
    have hFc := va_free (wc := [(q0, eB v_1 0), (v_1, eY cB 16 (fun _ => 0))]) hD hS hA [1, 2] rfl
    refine va_callr (va_runV (As := [.int 49]) (rest := []) ⟨hx, hb, hml, hown, hts⟩ (kk_J4_append_cf468 l dC dI cB q0 v_1 0 16 (fun _ => 0) 49 H.size N (Or.inl rfl) sb_fit0 (by omega) (by omega) (by decide)) (cwV 1 hts gX1_text_J4_append_cf468 rfl rfl rfl (by decide +kernel) ⟨Nat.le_of_ble_eq_true rfl, Nat.le_of_ble_eq_true rfl⟩) (xT.preV hKc hPc hDc hAN (Nat.le_trans hN hS.1) (hG.kept hS hAN) (hT.kept hS hAN) (ci := 1) (q0 := 0) rfl rfl) rfl rfl hl.1 rfl (lv_room (Nat.le_of_ble_eq_true rfl)) dX1_text_24 ⟨(show _ ≤ 18 by omega), (show _ ≤ 540 by omega)⟩) hS (fun q _ h => hFc q h) hFc (fun u_57 r_56 t H locs ht hvm hw hB hz hk hS => ?_)
    obtain ⟨he_r_56, hP1, hD1⟩ := hB
    rw [ht] at hP1
    obtain ⟨v2_53, m2_54, f2_55⟩ := u_57
    obtain ⟨hP, hD⟩ := va_join (wr := [(h0, eW wd)]) (w1 := [(q0, eB v2_53 (nI (0 + 1))), (v2_53, eY cB m2_54 f2_55)]) hP hD [1, 2] [0] rfl rfl (by decide) (by decide) hk hFc hP1 hD1
    have hP : va_P (dC, dI) xCl [(h0, eW wd), (q0, eB v2_53 (nI (0 + 1))), (v2_53, eY cB m2_54 f2_55)] H := hP
    have hD : va_D A [(h0, eW wd), (q0, eB v2_53 (nI (0 + 1))), (v2_53, eY cB m2_54 f2_55)] := hD
    obtain ⟨hm_m2_54, hq_m2_54, hf_m2_54, hx_m2_54⟩ : (m2_54 = 16 ∨ m2_54 = 34) ∧ 0 + 1 ≤ m2_54 ∧ sb_Fit f2_55 ∧ tX (fun _ => 0) f2_55 0 ([49] : List Nat) := hw
    have hl_58 : (([] : List Nat) ++ ([49] : List Nat)).length = 0 + 1 := by rw [List.length_append, hl_5, (show ([49] : List Nat).length = 1 from rfl)]
    have ht_59 := tX_trans ht_4 (by omega) hx_m2_54
    rw [he_r_56]
    refine lv_pop hx hb dX1_text_27 rfl ?_
    refine lv_aload_n hx hb dX1_text_28 rfl (lv_at hl 0 rfl) ?_
    refine lv_bipush (v := 32) hx hb dX1_text_29 (by decide) ?_
    have hPc := hP.sub (ws' := [(q0, eB v2_53 (nI (0 + 1))), (v2_53, eY cB m2_54 f2_55)]) [1, 2] rfl
    have hDc := hD.sub (ws' := [(q0, eB v2_53 (nI (0 + 1))), (v2_53, eY cB m2_54 f2_55)]) [1, 2] (by decide) rfl
    have hKc := hK.sub (tys' := [(cB, .byte)]) [0] rfl
    have hFc := va_free (wc := [(q0, eB v2_53 (nI (0 + 1))), (v2_53, eY cB m2_54 f2_55)]) hD hS hA [1, 2] rfl
    refine va_callr (va_runV (As := [.int 32]) (rest := []) ⟨hx, hb, hml, hown, hts⟩ (kk_J4_append_cf468 l dC dI cB q0 v2_53 (0 + 1) m2_54 f2_55 32 H.size N hm_m2_54 hf_m2_54 (by omega) (by omega) (by decide)) (cwV 1 hts gX1_text_J4_append_cf468 rfl rfl rfl (by decide +kernel) ⟨Nat.le_of_ble_eq_true rfl, Nat.le_of_ble_eq_true rfl⟩) (xT.preV hKc hPc hDc hAN (Nat.le_trans hN hS.1) (hG.kept hS hAN) (hT.kept hS hAN) (ci := 1) (q0 := 0) rfl rfl) rfl rfl hl.1 rfl (lv_room (Nat.le_of_ble_eq_true rfl)) dX1_text_31 ⟨(show _ ≤ 18 by omega), (show _ ≤ 540 by omega)⟩) hS (fun q _ h => hFc q h) hFc (fun u_64 r_63 t H locs ht hvm hw hB hz hk hS => ?_)
    obtain ⟨he_r_63, hP1, hD1⟩ := hB
    rw [ht] at hP1
    obtain ⟨v2_60, m2_61, f2_62⟩ := u_64
    obtain ⟨hP, hD⟩ := va_join (wr := [(h0, eW wd)]) (w1 := [(q0, eB v2_60 (nI ((0 + 1) + 1))), (v2_60, eY cB m2_61 f2_62)]) hP hD [1, 2] [0] rfl rfl (by decide) (by decide) hk hFc hP1 hD1
    have hP : va_P (dC, dI) xCl [(h0, eW wd), (q0, eB v2_60 (nI ((0 + 1) + 1))), (v2_60, eY cB m2_61 f2_62)] H := hP
    have hD : va_D A [(h0, eW wd), (q0, eB v2_60 (nI ((0 + 1) + 1))), (v2_60, eY cB m2_61 f2_62)] := hD
    obtain ⟨hm_m2_61, hq_m2_61, hf_m2_61, hx_m2_61⟩ : (m2_61 = 16 ∨ m2_61 = 34) ∧ (0 + 1) + 1 ≤ m2_61 ∧ sb_Fit f2_62 ∧ tX f2_55 f2_62 (0 + 1) ([32] : List Nat) := hw
    have hl_65 : ((([] : List Nat) ++ ([49] : List Nat)) ++ ([32] : List Nat)).length = 0 + 1 + 1 := by rw [List.length_append, hl_58, (show ([32] : List Nat).length = 1 from rfl)]
    have ht_66 := tX_trans ht_59 (by omega) hx_m2_61
    rw [he_r_63]
    refine lv_pop hx hb dX1_text_34 rfl ?_
    refine lv_aload_n hx hb dX1_text_35 rfl (lv_at hl 0 rfl) ?_
    refine lv_aload_n hx hb dX1_text_36 rfl (lv_at hl 1 rfl) ?_
    refine lv_lload_n hx hb dX1_text_37 rfl (lv_at hl 2 rfl) ?_
    have hPc := hP.sub (ws' := [(h0, eW wd)]) [0] rfl
    have hDc := hD.sub (ws' := [(h0, eW wd)]) [0] (by decide) rfl
    have hKc := hK.sub (tys' := []) [] rfl
    have hFc := va_free (wc := [(h0, eW wd)]) hD hS hA [0] rfl
    refine va_calli (va_runV (As := [.long d]) (rest := [.ref q0]) ⟨hx, hb, hml, hown, hts⟩ (k_X1_exponent l dC dI h0 wd H.size d) (cwV 1 hts gX1_text_X1_exponent rfl rfl rfl (by decide +kernel) ⟨Nat.le_of_ble_eq_true rfl, Nat.le_of_ble_eq_true rfl⟩) (xB.preV hKc hPc (ci := 3) (q0 := 0) rfl rfl) rfl rfl hl.1 rfl (lv_room (Nat.le_of_ble_eq_true rfl)) dX1_text_38 ⟨(show _ ≤ 18 by omega), (show _ ≤ 540 by omega)⟩) hS xA_old (fun q h => hA q (Nat.le_trans hS.1 h)) (fun r_67 u_68 t H locs ht hvm hw hB hz hk hS => ?_)
    have hP := xP_keep hP hk
    have hw : r_67 = nI ex := hw.trans hE
    rw [hw]
    have hPc := hP.sub (ws' := [(q0, eB v2_60 (nI ((0 + 1) + 1))), (v2_60, eY cB m2_61 f2_62)]) [1, 2] rfl
    have hDc := hD.sub (ws' := [(q0, eB v2_60 (nI ((0 + 1) + 1))), (v2_60, eY cB m2_61 f2_62)]) [1, 2] (by decide) rfl
    have hKc := hK.sub (tys' := [(cB, .byte)]) [0] rfl
    have hFc := va_free (wc := [(q0, eB v2_60 (nI ((0 + 1) + 1))), (v2_60, eY cB m2_61 f2_62)]) hD hS hA [1, 2] rfl
    refine va_callr (va_runV (As := [.int (nI ex)]) (rest := []) ⟨hx, hb, hml, hown, hts⟩ (kk_J4_append_bf812 l dC dI cB q0 v2_60 ((0 + 1) + 1) m2_61 f2_62 ex H.size N hm_m2_61 hf_m2_61 (by omega) (by omega) (by omega)) (cwV 1 hts gX1_text_J4_append_bf812 rfl rfl rfl (by decide +kernel) ⟨Nat.le_of_ble_eq_true rfl, Nat.le_of_ble_eq_true rfl⟩) (xT.preV hKc hPc hDc hAN (Nat.le_trans hN hS.1) (hG.kept hS hAN) (hT.kept hS hAN) (ci := 1) (q0 := 0) rfl rfl) rfl rfl hl.1 rfl (lv_room (Nat.le_of_ble_eq_true rfl)) dX1_text_41 ⟨(show _ ≤ 18 by omega), (show _ ≤ 540 by omega)⟩) hS (fun q _ h => hFc q h) hFc (fun u_73 r_72 t H locs ht hvm hw hB hz hk hS => ?_)
    obtain ⟨he_r_72, hP1, hD1⟩ := hB
    rw [ht] at hP1
    obtain ⟨v2_69, m2_70, f2_71⟩ := u_73
    obtain ⟨hP, hD⟩ := va_join (wr := [(h0, eW wd)]) (w1 := [(q0, eB v2_69 (nI (((0 + 1) + 1) + sb_dg ex))), (v2_69, eY cB m2_70 f2_71)]) hP hD [1, 2] [0] rfl rfl (by decide) (by decide) hk hFc hP1 hD1
    have hP : va_P (dC, dI) xCl [(h0, eW wd), (q0, eB v2_69 (nI (((0 + 1) + 1) + sb_dg ex))), (v2_69, eY cB m2_70 f2_71)] H := hP
    have hD : va_D A [(h0, eW wd), (q0, eB v2_69 (nI (((0 + 1) + 1) + sb_dg ex))), (v2_69, eY cB m2_70 f2_71)] := hD
    obtain ⟨hm_m2_70, hq_m2_70, hf_m2_70, hx_m2_70⟩ : (m2_70 = 16 ∨ m2_70 = 34) ∧ ((0 + 1) + 1) + sb_dg ex ≤ m2_70 ∧ sb_Fit f2_71 ∧ tX f2_62 f2_71 ((0 + 1) + 1) (dL (sb_dg ex) ex) := hw
    have hl_74 : (((([] : List Nat) ++ ([49] : List Nat)) ++ ([32] : List Nat)) ++ dL (sb_dg ex) ex).length = 0 + 1 + 1 + sb_dg ex := by rw [List.length_append, hl_65, dL_len]
    have ht_75 := tX_trans ht_66 (by omega) hx_m2_70
    rw [he_r_72]
    refine lv_pop hx hb dX1_text_44 rfl ?_
    refine lv_aload_n hx hb dX1_text_45 rfl (lv_at hl 0 rfl) ?_
    refine lv_bipush (v := 32) hx hb dX1_text_46 (by decide) ?_
    have hPc := hP.sub (ws' := [(q0, eB v2_69 (nI (((0 + 1) + 1) + sb_dg ex))), (v2_69, eY cB m2_70 f2_71)]) [1, 2] rfl
    have hDc := hD.sub (ws' := [(q0, eB v2_69 (nI (((0 + 1) + 1) + sb_dg ex))), (v2_69, eY cB m2_70 f2_71)]) [1, 2] (by decide) rfl
    have hKc := hK.sub (tys' := [(cB, .byte)]) [0] rfl
    have hFc := va_free (wc := [(q0, eB v2_69 (nI (((0 + 1) + 1) + sb_dg ex))), (v2_69, eY cB m2_70 f2_71)]) hD hS hA [1, 2] rfl
    refine va_callr (va_runV (As := [.int 32]) (rest := []) ⟨hx, hb, hml, hown, hts⟩ (kk_J4_append_cf468 l dC dI cB q0 v2_69 (((0 + 1) + 1) + sb_dg ex) m2_70 f2_71 32 H.size N hm_m2_70 hf_m2_70 (by omega) (by omega) (by decide)) (cwV 1 hts gX1_text_J4_append_cf468 rfl rfl rfl (by decide +kernel) ⟨Nat.le_of_ble_eq_true rfl, Nat.le_of_ble_eq_true rfl⟩) (xT.preV hKc hPc hDc hAN (Nat.le_trans hN hS.1) (hG.kept hS hAN) (hT.kept hS hAN) (ci := 1) (q0 := 0) rfl rfl) rfl rfl hl.1 rfl (lv_room (Nat.le_of_ble_eq_true rfl)) dX1_text_48 ⟨(show _ ≤ 18 by omega), (show _ ≤ 540 by omega)⟩) hS (fun q _ h => hFc q h) hFc (fun u_80 r_79 t H locs ht hvm hw hB hz hk hS => ?_)
    obtain ⟨he_r_79, hP1, hD1⟩ := hB
    rw [ht] at hP1
    obtain ⟨v2_76, m2_77, f2_78⟩ := u_80
    obtain ⟨hP, hD⟩ := va_join (wr := [(h0, eW wd)]) (w1 := [(q0, eB v2_76 (nI ((((0 + 1) + 1) + sb_dg ex) + 1))), (v2_76, eY cB m2_77 f2_78)]) hP hD [1, 2] [0] rfl rfl (by decide) (by decide) hk hFc hP1 hD1
    have hP : va_P (dC, dI) xCl [(h0, eW wd), (q0, eB v2_76 (nI ((((0 + 1) + 1) + sb_dg ex) + 1))), (v2_76, eY cB m2_77 f2_78)] H := hP
    have hD : va_D A [(h0, eW wd), (q0, eB v2_76 (nI ((((0 + 1) + 1) + sb_dg ex) + 1))), (v2_76, eY cB m2_77 f2_78)] := hD
    obtain ⟨hm_m2_77, hq_m2_77, hf_m2_77, hx_m2_77⟩ : (m2_77 = 16 ∨ m2_77 = 34) ∧ (((0 + 1) + 1) + sb_dg ex) + 1 ≤ m2_77 ∧ sb_Fit f2_78 ∧ tX f2_71 f2_78 (((0 + 1) + 1) + sb_dg ex) ([32] : List Nat) := hw
    have hl_81 : ((((([] : List Nat) ++ ([49] : List Nat)) ++ ([32] : List Nat)) ++ dL (sb_dg ex) ex) ++ ([32] : List Nat)).length = 0 + 1 + 1 + sb_dg ex + 1 := by rw [List.length_append, hl_74, (show ([32] : List Nat).length = 1 from rfl)]
    have ht_82 := tX_trans ht_75 (by omega) hx_m2_77
    rw [he_r_79]
    refine lv_pop hx hb dX1_text_51 rfl ?_
    refine lv_aload_n hx hb dX1_text_52 rfl (lv_at hl 1 rfl) ?_
    refine lv_aload_n hx hb dX1_text_53 rfl (lv_at hl 0 rfl) ?_
    refine lv_aload_n hx hb dX1_text_54 rfl (lv_at hl 1 rfl) ?_
    refine lv_lload_n hx hb dX1_text_55 rfl (lv_at hl 2 rfl) ?_
    have hPc := hP.sub (ws' := [(h0, eW wd)]) [0] rfl
    have hDc := hD.sub (ws' := [(h0, eW wd)]) [0] (by decide) rfl
    have hKc := hK.sub (tys' := []) [] rfl
    have hFc := va_free (wc := [(h0, eW wd)]) hD hS hA [0] rfl
    refine va_calll (va_runV (As := [.long d]) (rest := [.ref q0, .ref h0]) ⟨hx, hb, hml, hown, hts⟩ (k_X1_fraction l dC dI h0 wd H.size d) (cwV 1 hts gX1_text_X1_fraction rfl rfl rfl (by decide +kernel) ⟨Nat.le_of_ble_eq_true rfl, Nat.le_of_ble_eq_true rfl⟩) (xB.preV hKc hPc (ci := 3) (q0 := 0) rfl rfl) rfl rfl hl.1 rfl (lv_room (Nat.le_of_ble_eq_true rfl)) dX1_text_56 ⟨(show _ ≤ 18 by omega), (show _ ≤ 540 by omega)⟩) hS xA_old (fun q h => hA q (Nat.le_trans hS.1 h)) (fun r_83 u_84 t H locs ht hvm hw hB hz hk hS => ?_)
    have hP := xP_keep hP hk
    have hw : r_83 = lN Wn := hw.trans hF
    rw [hw]
    have hPc := hP.sub (ws' := [(h0, eW wd), (q0, eB v2_76 (nI ((((0 + 1) + 1) + sb_dg ex) + 1))), (v2_76, eY cB m2_77 f2_78)]) [0, 1, 2] rfl
    have hDc := hD.sub (ws' := [(h0, eW wd), (q0, eB v2_76 (nI ((((0 + 1) + 1) + sb_dg ex) + 1))), (v2_76, eY cB m2_77 f2_78)]) [0, 1, 2] (by decide) rfl
    have hKc := hK.sub (tys' := [(cB, .byte)]) [0] rfl
    have hFc := va_free (wc := [(h0, eW wd), (q0, eB v2_76 (nI ((((0 + 1) + 1) + sb_dg ex) + 1))), (v2_76, eY cB m2_77 f2_78)]) hD hS hA [0, 1, 2] rfl
    refine va_callv (va_runV (As := [.ref q0, .long (lN Wn)]) (rest := []) ⟨hx, hb, hml, hown, hts⟩ (kk_X1_appendWhole l dC dI cB h0 wd q0 v2_76 ((((0 + 1) + 1) + sb_dg ex) + 1) m2_77 f2_78 Wn H.size N hm_m2_77 hf_m2_77 (by omega) (by omega) (by omega)) (cwV 2 hts gX1_text_X1_appendWhole rfl rfl rfl (by decide +kernel) ⟨Nat.le_of_ble_eq_true rfl, Nat.le_of_ble_eq_true rfl⟩) (xT.preV hKc hPc hDc hAN (Nat.le_trans hN hS.1) (hG.kept hS hAN) (hT.kept hS hAN) (ci := 3) (q0 := 0) rfl rfl) rfl rfl hl.1 rfl (lv_room (Nat.le_of_ble_eq_true rfl)) dX1_text_59 ⟨(show _ ≤ 18 by omega), (show _ ≤ 540 by omega)⟩) hS (fun q _ h => hFc q h) hFc (fun u_90 t H locs ht hvm hw hB hz hk hS => ?_)
    obtain ⟨hP1, hD1⟩ := hB
    rw [ht] at hP1
    obtain ⟨n2_85, v2_86, m2_87, f2_88⟩ := u_90
    obtain ⟨hP, hD⟩ := va_join (wr := []) (w1 := [(h0, eW wd), (q0, eB v2_86 (nI n2_85)), (v2_86, eY cB m2_87 f2_88)]) hP hD [0, 1, 2] [] rfl rfl (by decide) (by decide) hk hFc hP1 hD1
    have hP : va_P (dC, dI) xCl [(h0, eW wd), (q0, eB v2_86 (nI n2_85)), (v2_86, eY cB m2_87 f2_88)] H := hP
    have hD : va_D A [(h0, eW wd), (q0, eB v2_86 (nI n2_85)), (v2_86, eY cB m2_87 f2_88)] := hD
    obtain ⟨hm_m2_87, hq_m2_87, hf_m2_87, hn_m2_87, hx_m2_87⟩ : (m2_87 = 16 ∨ m2_87 = 34) ∧ n2_85 ≤ m2_87 ∧ sb_Fit f2_88 ∧ n2_85 = ((((0 + 1) + 1) + sb_dg ex) + 1) + dgL Wn ∧ tX f2_78 f2_88 ((((0 + 1) + 1) + sb_dg ex) + 1) (dL (dgL Wn) Wn) := hw
    have hl_91 : (((((([] : List Nat) ++ ([49] : List Nat)) ++ ([32] : List Nat)) ++ dL (sb_dg ex) ex) ++ ([32] : List Nat)) ++ dL (dgL Wn) Wn).length = 0 + 1 + 1 + sb_dg ex + 1 + dgL Wn := by rw [List.length_append, hl_81, dL_len]
    have ht_92 := tX_trans ht_82 (by omega) hx_m2_87
    refine lv_aload_n hx hb dX1_text_62 rfl (lv_at hl 0 rfl) ?_
    have hPc := hP.sub (ws' := [(q0, eB v2_86 (nI n2_85)), (v2_86, eY cB m2_87 f2_88)]) [1, 2] rfl
    have hDc := hD.sub (ws' := [(q0, eB v2_86 (nI n2_85)), (v2_86, eY cB m2_87 f2_88)]) [1, 2] (by decide) rfl
    have hKc := hK.sub (tys' := [(cB, .byte)]) [0] rfl
    have hFc := va_free (wc := [(q0, eB v2_86 (nI n2_85)), (v2_86, eY cB m2_87 f2_88)]) hD hS hA [1, 2] rfl
    refine va_callr (va_runV (As := []) (rest := []) ⟨hx, hb, hml, hown, hts⟩ (kk_J4_toString_0e30d l dC dI cB q0 v2_86 n2_85 m2_87 f2_88 H.size N (by omega) (by omega) hf_m2_87) (cwV 0 hts gX1_text_J4_toString_0e30d rfl rfl rfl (by decide +kernel) ⟨Nat.le_of_ble_eq_true rfl, Nat.le_of_ble_eq_true rfl⟩) (xT.preV hKc hPc hDc hAN (Nat.le_trans hN hS.1) (hG.kept hS hAN) (hT.kept hS hAN) (ci := 1) (q0 := 0) rfl rfl) rfl rfl hl.1 rfl (lv_room (Nat.le_of_ble_eq_true rfl)) dX1_text_63 ⟨(show _ ≤ 18 by omega), (show _ ≤ 540 by omega)⟩) hS (fun q _ h => hFc q h) hFc (fun u_96 r_95 t H locs ht hvm hw hB hz hk hS => ?_)
    obtain ⟨hP1, hD1⟩ := hB
    rw [ht] at hP1
    obtain ⟨v2_93, f2_94⟩ := u_96
    obtain ⟨hP, hD⟩ := va_join (wr := [(h0, eW wd)]) (w1 := [(r_95, .inr (0, [.ref v2_93, .int 0, .int 0, .int 0])), (v2_93, eY cB n2_85 f2_94)]) hP hD [1, 2] [0] rfl rfl (by decide) (by decide) hk hFc hP1 hD1
    have hP : va_P (dC, dI) xCl [(h0, eW wd), (r_95, .inr (0, [.ref v2_93, .int 0, .int 0, .int 0])), (v2_93, eY cB n2_85 f2_94)] H := hP
    have hD : va_D A [(h0, eW wd), (r_95, .inr (0, [.ref v2_93, .int 0, .int 0, .int 0])), (v2_93, eY cB n2_85 f2_94)] := hD
    obtain ⟨hf_f2_94, hk_f2_94⟩ : sb_Fit f2_94 ∧ ∀ j, j < n2_85 → f2_94 j = f2_88 j := hw
    have hPQ : (((((([] : List Nat) ++ ([49] : List Nat)) ++ ([32] : List Nat)) ++ dL (sb_dg ex) ex) ++ ([32] : List Nat)) ++ dL (dgL Wn) Wn) = tTx wd d := by
      rw [tTx, hE1, hF1, nI_clamp (by omega), lN_clamp (by omega), if_pos (c_8)]
      rfl
    have hP := hP.sub (ws' := [(h0, eW wd), (r_95, .inr (0, [.ref v2_93, .int 0, .int 0, .int 0])), (v2_93, eY cB n2_85 f2_94)]) [0, 1, 2] rfl
    have hD := hD.sub (ws' := [(h0, eW wd), (r_95, .inr (0, [.ref v2_93, .int 0, .int 0, .int 0])), (v2_93, eY cB n2_85 f2_94)]) [0, 1, 2] (by decide) rfl
    refine W.widen (k := 18) (n := 540) (by omega) (by omega) ?_
    exact W.aret (v := .ref r_95) hx hb hr (Or.inl ⟨_, rfl⟩) (Or.inr ⟨_, rfl⟩) (fun t ht hW => ⟨⟨(v2_93, n2_85, f2_94), _, rfl, ⟨(show n2_85 ≤ 34 by omega), tL_of ht_92 (show (((((([] : List Nat) ++ ([49] : List Nat)) ++ ([32] : List Nat)) ++ dL (sb_dg ex) ex) ++ ([32] : List Nat)) ++ dL (dgL Wn) Wn).length = n2_85 by omega) hk_f2_94 hPQ⟩, ⟨by rw [ht]; exact hP, hD⟩⟩, hS.F ht⟩) hS.2.2 dX1_text_66
set_option maxHeartbeats 4000000 in
set_option maxRecDepth 100000 in
theorem kk_X4_text (l : Launch) (dC : Nat → ClassId) (dI : Nat → Nat → Nat) (cy : ClassId) (cB : ClassId) (h0 : Nat) (hc : Nat) (wd : Bool) (a0 : Int32) (f : Nat → Int64) (p0 : Int32) (sz N : Nat) (hin : vp_in p0 8) (hok : okN wd (f p0.toNatClampNeg)) : Met l yX4_text wsX4_text ({ frames := 6, cells := 8, slots := 200, locals := 211 }) (va_Pc [.ref h0, .int p0] (xT (dC, dI) xCl [(h0, eMR wd hc a0), (hc, eA cy f)] [(cy, .long), (cB, .byte)] sz N)) (va_Qr (fun (u : Nat × Nat × (Nat → Int32)) => u.2.1 ≤ 34 ∧ tL (tTx wd (f p0.toNatClampNeg)) u.2.1 u.2.2) (fun (u : Nat × Nat × (Nat → Int32)) a t => xW (dC, dI) xCl [(h0, eMR wd hc a0), (hc, eA cy f), (a, .inr (0, [.ref u.1, .int 0, .int 0, .int 0])), (u.1, eY cB u.2.1 u.2.2)] (va_A [(h0, eMR wd hc a0), (hc, eA cy f)] sz) t) (va_A [(h0, eMR wd hc a0), (hc, eA cy f)] sz)) 8 200 (va_A [(h0, eMR wd hc a0), (hc, eA cy f)] sz) := by
  refine Met.ofW (cc := cX4_text) (maxL := 2) (ret := (some (.object "java/lang/String"))) (by decide +kernel) rfl ?_
  intro p e s m args below meth c s₁ B hml hv
  obtain ⟨rfl, ⟨hsz, hP, hK, hD0, hN, hG⟩, hT⟩ := hv
  have hx := B.exec
  have hb := B.bytes
  have hr := B.returns
  have hts := atoms_spec (ws := wsX4_text) B.pre
  have hown : s.vm.findClass RX4 = some m.cls := findClass_of_methodNamed B.named
  have hlocks := B.notSynchronized
  subst hsz
  have hAN : ∀ q, va_A [(h0, eMR wd hc a0), (hc, eA cy f)] s.heap.size q → N ≤ q := xA_N hD0 hN
  have hD := hD0.self (sz := s.heap.size)
  generalize hAe : va_A [(h0, eMR wd hc a0), (hc, eA cy f)] s.heap.size = A at hD hAN ⊢
  have hA : ∀ q : Nat, s.heap.size ≤ q → A q := fun q h => by rw [← hAe]; exact Or.inr h
  have hS : va_S A s.heap s.heap [] := va_S.rf
  have hP : va_P (dC, dI) xCl [(h0, eMR wd hc a0), (hc, eA cy f)] s.heap := hP
  obtain ⟨hTc, ⟨tO, tT, fO, fT, hTo, hTt, hTa, hTb, hTf, hTg⟩, ⟨adK, adV, hTs, hTr0, hTr1, hTr2⟩, ⟨aE, hTe⟩, hTn⟩ := id hT
  have hl := lv_entry ([.ref h0, .int p0]) (n := 2) (Nat.le_of_ble_eq_true rfl)
  rw [lg_entry_eq]
  generalize (lg_sl ([.ref h0, .int p0]) ++ List.replicate (2 - (lg_sl ([.ref h0, .int p0])).length) Slot.unset).toArray = ls at hl ⊢
  have hl : lv_has ls 2 [(0, .ref h0), (1, .int p0)] := hl
  obtain ⟨⟨ex, hex, hE1, hE⟩, ⟨Wn, hW0, hF1, hF⟩⟩ := jx_of hok
  have hd4 := dgL_le4 (w := ex) (by omega)
  have hd16 := dgL_16 (w := Wn) (by omega)
  obtain ⟨hSs0, hSs1, hSs2⟩ := tS_of hTs
  refine va_new (ci := 1) (fs := [.null, .int 0, .int 0, .int 0]) (C := RJ4) (T := TJ4) (N := 4) hx hb hts (by decide +kernel) tyJ4 tyJ4_ok hown (hts (.classLink RX4 81 RJ4) (by decide +kernel)) (hts (.instantiable RJ4 4) (by decide +kernel)) (hts (.initialized RJ4) (by decide +kernel)) hK hP hD hS hA rfl (fun j hj => by rcases (show j = 0 ∨ j = 1 ∨ j = 2 ∨ j = 3 by omega) with rfl | rfl | rfl | rfl <;> rfl) (show _ ≤ 8 by omega) (show _ ≤ 200 by omega) dX4_text_0 (fun q0 H hP hD hS => ?_)
  have hP : va_P (dC, dI) xCl [(h0, eMR wd hc a0), (hc, eA cy f), (q0, .inr (1, [.null, .int 0, .int 0, .int 0]))] H := hP
  have hD : va_D A [(h0, eMR wd hc a0), (hc, eA cy f), (q0, .inr (1, [.null, .int 0, .int 0, .int 0]))] := hD
  refine lv_dup hx hb dX4_text_3 rfl ?_
  have hPc := hP.sub (ws' := [(q0, .inr (1, [.null, .int 0, .int 0, .int 0]))]) [2] rfl
  have hDc := hD.sub (ws' := [(q0, .inr (1, [.null, .int 0, .int 0, .int 0]))]) [2] (by decide) rfl
  have hKc := hK.sub (tys' := [(cB, .byte)]) [1] rfl
  have hFc := va_free (wc := [(q0, .inr (1, [.null, .int 0, .int 0, .int 0]))]) hD hS hA [2] rfl
  refine va_callv (va_runI (As := []) (rest := [.ref q0]) ⟨hx, hb, hml, hown, hts⟩ (k_J4_init_da8c8 l dC dI cB q0 H.size N) (cwI 0 hts gX4_text_J4_init_da8c8 rfl rfl rfl (hts (.initialized RJ4) (by decide +kernel)) (hts (.methodLink RX4 83 yJ4_init_da8c8) (by decide +kernel)) (hts (.instanceMethod yJ4_init_da8c8) (by decide +kernel)) rfl (by decide +kernel) ⟨Nat.le_of_ble_eq_true rfl, Nat.le_of_ble_eq_true rfl⟩) (xT.preS  (As := .ref q0 :: []) hKc hPc hDc hAN (Nat.le_trans hN hS.1) (hG.kept hS hAN) (hT.kept hS hAN)) rfl rfl hl.1 rfl (lv_room (Nat.le_of_ble_eq_true rfl)) dX4_text_4 ⟨(show _ ≤ 8 by omega), (show _ ≤ 200 by omega)⟩) hS (fun q _ h => hFc q h) hFc (fun u_3 t H locs ht hvm hw hB hz hk hS => ?_)
  obtain ⟨hP1, hD1⟩ := hB
  rw [ht] at hP1
  obtain ⟨v_1, rfl⟩ : ∃ z, z = u_3 := ⟨_, rfl⟩
  obtain ⟨hP, hD⟩ := va_join (wr := [(h0, eMR wd hc a0), (hc, eA cy f)]) (w1 := [(q0, eB v_1 0), (v_1, eY cB 16 (fun _ => 0))]) hP hD [2] [0, 1] rfl rfl (by decide) (by decide) hk hFc hP1 hD1
  have hP : va_P (dC, dI) xCl [(h0, eMR wd hc a0), (hc, eA cy f), (q0, eB v_1 0), (v_1, eY cB 16 (fun _ => 0))] H := hP
  have hD : va_D A [(h0, eMR wd hc a0), (hc, eA cy f), (q0, eB v_1 0), (v_1, eY cB 16 (fun _ => 0))] := hD
  have ht_4 : tX (fun _ => 0) (fun _ => 0) 0 [] := tX_nil _ _
  have hl_5 : ([] : List Nat).length = 0 := rfl
  refine lv_aload_n hx hb dX4_text_7 rfl (lv_at hl 0 rfl) ?_
  refine lv_aload_n hx hb dX4_text_8 rfl (lv_at hl 0 rfl) ?_
  refine va_get (D := (dC, dI)) (ci := 6) (v := .ref hc) (C := RX4) (T := TX4) (N := 5) hx hb hts (by decide +kernel) hown hK hP 0 rfl rfl 3 (by decide) (hts (.fieldLink RX4 9 "EdgefloatsModel$Row" "cells" "[J") (by decide +kernel)) (fun _ h9 => h9) rfl dX4_text_9 ?_
  refine lv_iload_n hx hb dX4_text_12 rfl (lv_at hl 1 rfl) ?_
  refine xa_lald hx hb hK hP 1 0 (f := f) rfl rfl (k := p0.toNatClampNeg) hin rfl dX4_text_13 ?_
  have hPc := hP.sub (ws' := [(h0, eMR wd hc a0), (hc, eA cy f)]) [0, 1] rfl
  have hDc := hD.sub (ws' := [(h0, eMR wd hc a0), (hc, eA cy f)]) [0, 1] (by decide) rfl
  have hKc := hK.sub (tys' := [(cy, .long)]) [0] rfl
  have hFc := va_free (wc := [(h0, eMR wd hc a0), (hc, eA cy f)]) hD hS hA [0, 1] rfl
  refine va_calli (va_runV (As := [.long (f p0.toNatClampNeg)]) (rest := [.ref q0]) ⟨hx, hb, hml, hown, hts⟩ (k_X4_isBelowZero l dC dI cy h0 hc wd a0 f H.size (f p0.toNatClampNeg)) (cwV 1 hts gX4_text_X4_isBelowZero rfl rfl rfl (by decide +kernel) ⟨Nat.le_of_ble_eq_true rfl, Nat.le_of_ble_eq_true rfl⟩) (xB.preV hKc hPc (ci := 6) (q0 := 0) rfl rfl) rfl rfl hl.1 rfl (lv_room (Nat.le_of_ble_eq_true rfl)) dX4_text_14 ⟨(show _ ≤ 8 by omega), (show _ ≤ 200 by omega)⟩) hS xA_old (fun q h => hA q (Nat.le_trans hS.1 h)) (fun r_6 u_7 t H locs ht hvm hw hB hz hk hS => ?_)
  have hP := xP_keep hP hk
  have hw : r_6 = b2i (o_X4_isBelowZero wd (f p0.toNatClampNeg)) := hw
  rw [hw]
  refine xz_eq (tgt := 25) hx hb dX4_text_17 (by decide) (fun c_8 => ?_) (fun c_8 => ?_)
  · skip
    refine va_ldcS hx hb hown hTr1 dX4_text_25 ?_
    have hPc := hP.sub (ws' := [(q0, eB v_1 0), (v_1, eY cB 16 (fun _ => 0))]) [2, 3] rfl
    have hDc := hD.sub (ws' := [(q0, eB v_1 0), (v_1, eY cB 16 (fun _ => 0))]) [2, 3] (by decide) rfl
    have hKc := hK.sub (tys' := [(cB, .byte)]) [1] rfl
    have hFc := va_free (wc := [(q0, eB v_1 0), (v_1, eY cB 16 (fun _ => 0))]) hD hS hA [2, 3] rfl
    refine va_callr (va_runV (As := [.ref (adK 1)]) (rest := []) ⟨hx, hb, hml, hown, hts⟩ (kk_J4_append_15ec4 l dC dI cB q0 v_1 0 16 (fun _ => 0) (adK 1) (adV 1) 2 [48, 32] [48, 32] H.size N (Or.inl rfl) sb_fit0 (by omega) (by decide) tf_1 tp_1 rfl (by omega)) (cwV 1 hts gX4_text_J4_append_15ec4 rfl rfl rfl (by decide +kernel) ⟨Nat.le_of_ble_eq_true rfl, Nat.le_of_ble_eq_true rfl⟩) (xS.preV hKc hPc hDc hAN (Nat.le_trans hN hS.1) (hG.kept hS hAN) (hT.kept hS hAN) (hSs1.kept (fun q h1 h2 => hS.2.1 q h1 (fun z => h2 (hAN q z)))) (ci := 1) (q0 := 0) rfl rfl) rfl rfl hl.1 rfl (lv_room (Nat.le_of_ble_eq_true rfl)) dX4_text_27 ⟨(show _ ≤ 8 by omega), (show _ ≤ 200 by omega)⟩) hS (fun q _ h => hFc q h) hFc (fun u_13 r_12 t H locs ht hvm hw hB hz hk hS => ?_)
    obtain ⟨he_r_12, hP1, hD1⟩ := hB
    rw [ht] at hP1
    obtain ⟨v2_9, m2_10, f2_11⟩ := u_13
    obtain ⟨hP, hD⟩ := va_join (wr := [(h0, eMR wd hc a0), (hc, eA cy f)]) (w1 := [(q0, eB v2_9 (nI (0 + 2))), (v2_9, eY cB m2_10 f2_11)]) hP hD [2, 3] [0, 1] rfl rfl (by decide) (by decide) hk hFc hP1 hD1
    have hP : va_P (dC, dI) xCl [(h0, eMR wd hc a0), (hc, eA cy f), (q0, eB v2_9 (nI (0 + 2))), (v2_9, eY cB m2_10 f2_11)] H := hP
    have hD : va_D A [(h0, eMR wd hc a0), (hc, eA cy f), (q0, eB v2_9 (nI (0 + 2))), (v2_9, eY cB m2_10 f2_11)] := hD
    obtain ⟨hm_m2_10, hq_m2_10, hf_m2_10, hx_m2_10⟩ : (m2_10 = 16 ∨ m2_10 = 34) ∧ 0 + 2 ≤ m2_10 ∧ sb_Fit f2_11 ∧ tX (fun _ => 0) f2_11 0 ([48, 32] : List Nat) := hw
    have hl_14 : (([] : List Nat) ++ ([48, 32] : List Nat)).length = 0 + 2 := by rw [List.length_append, hl_5, (show ([48, 32] : List Nat).length = 2 from rfl)]
    have ht_15 := tX_trans ht_4 (by omega) hx_m2_10
    rw [he_r_12]
    refine lv_aload_n hx hb dX4_text_30 rfl (lv_at hl 0 rfl) ?_
    refine lv_aload_n hx hb dX4_text_31 rfl (lv_at hl 0 rfl) ?_
    refine va_get (D := (dC, dI)) (ci := 6) (v := .ref hc) (C := RX4) (T := TX4) (N := 5) hx hb hts (by decide +kernel) hown hK hP 0 rfl rfl 3 (by decide) (hts (.fieldLink RX4 9 "EdgefloatsModel$Row" "cells" "[J") (by decide +kernel)) (fun _ h9 => h9) rfl dX4_text_32 ?_
    refine lv_iload_n hx hb dX4_text_35 rfl (lv_at hl 1 rfl) ?_
    refine xa_lald hx hb hK hP 1 0 (f := f) rfl rfl (k := p0.toNatClampNeg) hin rfl dX4_text_36 ?_
    have hPc := hP.sub (ws' := [(h0, eMR wd hc a0), (hc, eA cy f)]) [0, 1] rfl
    have hDc := hD.sub (ws' := [(h0, eMR wd hc a0), (hc, eA cy f)]) [0, 1] (by decide) rfl
    have hKc := hK.sub (tys' := [(cy, .long)]) [0] rfl
    have hFc := va_free (wc := [(h0, eMR wd hc a0), (hc, eA cy f)]) hD hS hA [0, 1] rfl
    refine va_calll (va_runV (As := [.long (f p0.toNatClampNeg)]) (rest := [.ref q0]) ⟨hx, hb, hml, hown, hts⟩ (k_X4_exponent l dC dI cy h0 hc wd a0 f H.size (f p0.toNatClampNeg)) (cwV 1 hts gX4_text_X4_exponent rfl rfl rfl (by decide +kernel) ⟨Nat.le_of_ble_eq_true rfl, Nat.le_of_ble_eq_true rfl⟩) (xB.preV hKc hPc (ci := 6) (q0 := 0) rfl rfl) rfl rfl hl.1 rfl (lv_room (Nat.le_of_ble_eq_true rfl)) dX4_text_37 ⟨(show _ ≤ 8 by omega), (show _ ≤ 200 by omega)⟩) hS xA_old (fun q h => hA q (Nat.le_trans hS.1 h)) (fun r_16 u_17 t H locs ht hvm hw hB hz hk hS => ?_)
    have hP := xP_keep hP hk
    have hw : r_16 = lN ex := hw.trans hE
    rw [hw]
    have hPc := hP.sub (ws' := [(q0, eB v2_9 (nI (0 + 2))), (v2_9, eY cB m2_10 f2_11)]) [2, 3] rfl
    have hDc := hD.sub (ws' := [(q0, eB v2_9 (nI (0 + 2))), (v2_9, eY cB m2_10 f2_11)]) [2, 3] (by decide) rfl
    have hKc := hK.sub (tys' := [(cB, .byte)]) [1] rfl
    have hFc := va_free (wc := [(q0, eB v2_9 (nI (0 + 2))), (v2_9, eY cB m2_10 f2_11)]) hD hS hA [2, 3] rfl
    refine va_callr (va_runV (As := [.long (lN ex)]) (rest := []) ⟨hx, hb, hml, hown, hts⟩ (kk_J4_append_f7089 l dC dI cB q0 v2_9 (0 + 2) m2_10 f2_11 ex H.size N hm_m2_10 hf_m2_10 (by omega) (by omega) (by omega)) (cwV 1 hts gX4_text_J4_append_f7089 rfl rfl rfl (by decide +kernel) ⟨Nat.le_of_ble_eq_true rfl, Nat.le_of_ble_eq_true rfl⟩) (xT.preV hKc hPc hDc hAN (Nat.le_trans hN hS.1) (hG.kept hS hAN) (hT.kept hS hAN) (ci := 1) (q0 := 0) rfl rfl) rfl rfl hl.1 rfl (lv_room (Nat.le_of_ble_eq_true rfl)) dX4_text_40 ⟨(show _ ≤ 8 by omega), (show _ ≤ 200 by omega)⟩) hS (fun q _ h => hFc q h) hFc (fun u_22 r_21 t H locs ht hvm hw hB hz hk hS => ?_)
    obtain ⟨he_r_21, hP1, hD1⟩ := hB
    rw [ht] at hP1
    obtain ⟨v2_18, m2_19, f2_20⟩ := u_22
    obtain ⟨hP, hD⟩ := va_join (wr := [(h0, eMR wd hc a0), (hc, eA cy f)]) (w1 := [(q0, eB v2_18 (nI ((0 + 2) + dgL ex))), (v2_18, eY cB m2_19 f2_20)]) hP hD [2, 3] [0, 1] rfl rfl (by decide) (by decide) hk hFc hP1 hD1
    have hP : va_P (dC, dI) xCl [(h0, eMR wd hc a0), (hc, eA cy f), (q0, eB v2_18 (nI ((0 + 2) + dgL ex))), (v2_18, eY cB m2_19 f2_20)] H := hP
    have hD : va_D A [(h0, eMR wd hc a0), (hc, eA cy f), (q0, eB v2_18 (nI ((0 + 2) + dgL ex))), (v2_18, eY cB m2_19 f2_20)] := hD
    obtain ⟨hm_m2_19, hq_m2_19, hf_m2_19, hx_m2_19⟩ : (m2_19 = 16 ∨ m2_19 = 34) ∧ (0 + 2) + dgL ex ≤ m2_19 ∧ sb_Fit f2_20 ∧ tX f2_11 f2_20 (0 + 2) (dL (dgL ex) ex) := hw
    have hl_23 : ((([] : List Nat) ++ ([48, 32] : List Nat)) ++ dL (dgL ex) ex).length = 0 + 2 + dgL ex := by rw [List.length_append, hl_14, dL_len]
    have ht_24 := tX_trans ht_15 (by omega) hx_m2_19
    rw [he_r_21]
    refine va_ldcS hx hb hown hTr2 dX4_text_43 ?_
    have hPc := hP.sub (ws' := [(q0, eB v2_18 (nI ((0 + 2) + dgL ex))), (v2_18, eY cB m2_19 f2_20)]) [2, 3] rfl
    have hDc := hD.sub (ws' := [(q0, eB v2_18 (nI ((0 + 2) + dgL ex))), (v2_18, eY cB m2_19 f2_20)]) [2, 3] (by decide) rfl
    have hKc := hK.sub (tys' := [(cB, .byte)]) [1] rfl
    have hFc := va_free (wc := [(q0, eB v2_18 (nI ((0 + 2) + dgL ex))), (v2_18, eY cB m2_19 f2_20)]) hD hS hA [2, 3] rfl
    refine va_callr (va_runV (As := [.ref (adK 2)]) (rest := []) ⟨hx, hb, hml, hown, hts⟩ (kk_J4_append_15ec4 l dC dI cB q0 v2_18 ((0 + 2) + dgL ex) m2_19 f2_20 (adK 2) (adV 2) 1 [32] [32] H.size N hm_m2_19 hf_m2_19 (by omega) (by decide) tf_2 tp_2 rfl (by omega)) (cwV 1 hts gX4_text_J4_append_15ec4 rfl rfl rfl (by decide +kernel) ⟨Nat.le_of_ble_eq_true rfl, Nat.le_of_ble_eq_true rfl⟩) (xS.preV hKc hPc hDc hAN (Nat.le_trans hN hS.1) (hG.kept hS hAN) (hT.kept hS hAN) (hSs2.kept (fun q h1 h2 => hS.2.1 q h1 (fun z => h2 (hAN q z)))) (ci := 1) (q0 := 0) rfl rfl) rfl rfl hl.1 rfl (lv_room (Nat.le_of_ble_eq_true rfl)) dX4_text_45 ⟨(show _ ≤ 8 by omega), (show _ ≤ 200 by omega)⟩) hS (fun q _ h => hFc q h) hFc (fun u_29 r_28 t H locs ht hvm hw hB hz hk hS => ?_)
    obtain ⟨he_r_28, hP1, hD1⟩ := hB
    rw [ht] at hP1
    obtain ⟨v2_25, m2_26, f2_27⟩ := u_29
    obtain ⟨hP, hD⟩ := va_join (wr := [(h0, eMR wd hc a0), (hc, eA cy f)]) (w1 := [(q0, eB v2_25 (nI (((0 + 2) + dgL ex) + 1))), (v2_25, eY cB m2_26 f2_27)]) hP hD [2, 3] [0, 1] rfl rfl (by decide) (by decide) hk hFc hP1 hD1
    have hP : va_P (dC, dI) xCl [(h0, eMR wd hc a0), (hc, eA cy f), (q0, eB v2_25 (nI (((0 + 2) + dgL ex) + 1))), (v2_25, eY cB m2_26 f2_27)] H := hP
    have hD : va_D A [(h0, eMR wd hc a0), (hc, eA cy f), (q0, eB v2_25 (nI (((0 + 2) + dgL ex) + 1))), (v2_25, eY cB m2_26 f2_27)] := hD
    obtain ⟨hm_m2_26, hq_m2_26, hf_m2_26, hx_m2_26⟩ : (m2_26 = 16 ∨ m2_26 = 34) ∧ ((0 + 2) + dgL ex) + 1 ≤ m2_26 ∧ sb_Fit f2_27 ∧ tX f2_20 f2_27 ((0 + 2) + dgL ex) ([32] : List Nat) := hw
    have hl_30 : (((([] : List Nat) ++ ([48, 32] : List Nat)) ++ dL (dgL ex) ex) ++ ([32] : List Nat)).length = 0 + 2 + dgL ex + 1 := by rw [List.length_append, hl_23, (show ([32] : List Nat).length = 1 from rfl)]
    have ht_31 := tX_trans ht_24 (by omega) hx_m2_26
    rw [he_r_28]
    refine lv_aload_n hx hb dX4_text_48 rfl (lv_at hl 0 rfl) ?_
    refine lv_aload_n hx hb dX4_text_49 rfl (lv_at hl 0 rfl) ?_
    refine va_get (D := (dC, dI)) (ci := 6) (v := .ref hc) (C := RX4) (T := TX4) (N := 5) hx hb hts (by decide +kernel) hown hK hP 0 rfl rfl 3 (by decide) (hts (.fieldLink RX4 9 "EdgefloatsModel$Row" "cells" "[J") (by decide +kernel)) (fun _ h9 => h9) rfl dX4_text_50 ?_
    refine lv_iload_n hx hb dX4_text_53 rfl (lv_at hl 1 rfl) ?_
    refine xa_lald hx hb hK hP 1 0 (f := f) rfl rfl (k := p0.toNatClampNeg) hin rfl dX4_text_54 ?_
    have hPc := hP.sub (ws' := [(h0, eMR wd hc a0), (hc, eA cy f)]) [0, 1] rfl
    have hDc := hD.sub (ws' := [(h0, eMR wd hc a0), (hc, eA cy f)]) [0, 1] (by decide) rfl
    have hKc := hK.sub (tys' := [(cy, .long)]) [0] rfl
    have hFc := va_free (wc := [(h0, eMR wd hc a0), (hc, eA cy f)]) hD hS hA [0, 1] rfl
    refine va_calll (va_runV (As := [.long (f p0.toNatClampNeg)]) (rest := [.ref q0]) ⟨hx, hb, hml, hown, hts⟩ (k_X4_fraction l dC dI cy h0 hc wd a0 f H.size (f p0.toNatClampNeg)) (cwV 1 hts gX4_text_X4_fraction rfl rfl rfl (by decide +kernel) ⟨Nat.le_of_ble_eq_true rfl, Nat.le_of_ble_eq_true rfl⟩) (xB.preV hKc hPc (ci := 6) (q0 := 0) rfl rfl) rfl rfl hl.1 rfl (lv_room (Nat.le_of_ble_eq_true rfl)) dX4_text_55 ⟨(show _ ≤ 8 by omega), (show _ ≤ 200 by omega)⟩) hS xA_old (fun q h => hA q (Nat.le_trans hS.1 h)) (fun r_32 u_33 t H locs ht hvm hw hB hz hk hS => ?_)
    have hP := xP_keep hP hk
    have hw : r_32 = lN Wn := hw.trans hF
    rw [hw]
    have hPc := hP.sub (ws' := [(q0, eB v2_25 (nI (((0 + 2) + dgL ex) + 1))), (v2_25, eY cB m2_26 f2_27)]) [2, 3] rfl
    have hDc := hD.sub (ws' := [(q0, eB v2_25 (nI (((0 + 2) + dgL ex) + 1))), (v2_25, eY cB m2_26 f2_27)]) [2, 3] (by decide) rfl
    have hKc := hK.sub (tys' := [(cB, .byte)]) [1] rfl
    have hFc := va_free (wc := [(q0, eB v2_25 (nI (((0 + 2) + dgL ex) + 1))), (v2_25, eY cB m2_26 f2_27)]) hD hS hA [2, 3] rfl
    refine va_callr (va_runV (As := [.long (lN Wn)]) (rest := []) ⟨hx, hb, hml, hown, hts⟩ (kk_J4_append_f7089 l dC dI cB q0 v2_25 (((0 + 2) + dgL ex) + 1) m2_26 f2_27 Wn H.size N hm_m2_26 hf_m2_26 (by omega) (by omega) (by omega)) (cwV 1 hts gX4_text_J4_append_f7089 rfl rfl rfl (by decide +kernel) ⟨Nat.le_of_ble_eq_true rfl, Nat.le_of_ble_eq_true rfl⟩) (xT.preV hKc hPc hDc hAN (Nat.le_trans hN hS.1) (hG.kept hS hAN) (hT.kept hS hAN) (ci := 1) (q0 := 0) rfl rfl) rfl rfl hl.1 rfl (lv_room (Nat.le_of_ble_eq_true rfl)) dX4_text_58 ⟨(show _ ≤ 8 by omega), (show _ ≤ 200 by omega)⟩) hS (fun q _ h => hFc q h) hFc (fun u_38 r_37 t H locs ht hvm hw hB hz hk hS => ?_)
    obtain ⟨he_r_37, hP1, hD1⟩ := hB
    rw [ht] at hP1
    obtain ⟨v2_34, m2_35, f2_36⟩ := u_38
    obtain ⟨hP, hD⟩ := va_join (wr := [(h0, eMR wd hc a0), (hc, eA cy f)]) (w1 := [(q0, eB v2_34 (nI ((((0 + 2) + dgL ex) + 1) + dgL Wn))), (v2_34, eY cB m2_35 f2_36)]) hP hD [2, 3] [0, 1] rfl rfl (by decide) (by decide) hk hFc hP1 hD1
    have hP : va_P (dC, dI) xCl [(h0, eMR wd hc a0), (hc, eA cy f), (q0, eB v2_34 (nI ((((0 + 2) + dgL ex) + 1) + dgL Wn))), (v2_34, eY cB m2_35 f2_36)] H := hP
    have hD : va_D A [(h0, eMR wd hc a0), (hc, eA cy f), (q0, eB v2_34 (nI ((((0 + 2) + dgL ex) + 1) + dgL Wn))), (v2_34, eY cB m2_35 f2_36)] := hD
    obtain ⟨hm_m2_35, hq_m2_35, hf_m2_35, hx_m2_35⟩ : (m2_35 = 16 ∨ m2_35 = 34) ∧ (((0 + 2) + dgL ex) + 1) + dgL Wn ≤ m2_35 ∧ sb_Fit f2_36 ∧ tX f2_27 f2_36 (((0 + 2) + dgL ex) + 1) (dL (dgL Wn) Wn) := hw
    have hl_39 : ((((([] : List Nat) ++ ([48, 32] : List Nat)) ++ dL (dgL ex) ex) ++ ([32] : List Nat)) ++ dL (dgL Wn) Wn).length = 0 + 2 + dgL ex + 1 + dgL Wn := by rw [List.length_append, hl_30, dL_len]
    have ht_40 := tX_trans ht_31 (by omega) hx_m2_35
    rw [he_r_37]
    have hPc := hP.sub (ws' := [(q0, eB v2_34 (nI ((((0 + 2) + dgL ex) + 1) + dgL Wn))), (v2_34, eY cB m2_35 f2_36)]) [2, 3] rfl
    have hDc := hD.sub (ws' := [(q0, eB v2_34 (nI ((((0 + 2) + dgL ex) + 1) + dgL Wn))), (v2_34, eY cB m2_35 f2_36)]) [2, 3] (by decide) rfl
    have hKc := hK.sub (tys' := [(cB, .byte)]) [1] rfl
    have hFc := va_free (wc := [(q0, eB v2_34 (nI ((((0 + 2) + dgL ex) + 1) + dgL Wn))), (v2_34, eY cB m2_35 f2_36)]) hD hS hA [2, 3] rfl
    refine va_callr (va_runV (As := []) (rest := []) ⟨hx, hb, hml, hown, hts⟩ (kk_J4_toString_0e30d l dC dI cB q0 v2_34 ((((0 + 2) + dgL ex) + 1) + dgL Wn) m2_35 f2_36 H.size N (by omega) (by omega) hf_m2_35) (cwV 0 hts gX4_text_J4_toString_0e30d rfl rfl rfl (by decide +kernel) ⟨Nat.le_of_ble_eq_true rfl, Nat.le_of_ble_eq_true rfl⟩) (xT.preV hKc hPc hDc hAN (Nat.le_trans hN hS.1) (hG.kept hS hAN) (hT.kept hS hAN) (ci := 1) (q0 := 0) rfl rfl) rfl rfl hl.1 rfl (lv_room (Nat.le_of_ble_eq_true rfl)) dX4_text_61 ⟨(show _ ≤ 8 by omega), (show _ ≤ 200 by omega)⟩) hS (fun q _ h => hFc q h) hFc (fun u_44 r_43 t H locs ht hvm hw hB hz hk hS => ?_)
    obtain ⟨hP1, hD1⟩ := hB
    rw [ht] at hP1
    obtain ⟨v2_41, f2_42⟩ := u_44
    obtain ⟨hP, hD⟩ := va_join (wr := [(h0, eMR wd hc a0), (hc, eA cy f)]) (w1 := [(r_43, .inr (0, [.ref v2_41, .int 0, .int 0, .int 0])), (v2_41, eY cB ((((0 + 2) + dgL ex) + 1) + dgL Wn) f2_42)]) hP hD [2, 3] [0, 1] rfl rfl (by decide) (by decide) hk hFc hP1 hD1
    have hP : va_P (dC, dI) xCl [(h0, eMR wd hc a0), (hc, eA cy f), (r_43, .inr (0, [.ref v2_41, .int 0, .int 0, .int 0])), (v2_41, eY cB ((((0 + 2) + dgL ex) + 1) + dgL Wn) f2_42)] H := hP
    have hD : va_D A [(h0, eMR wd hc a0), (hc, eA cy f), (r_43, .inr (0, [.ref v2_41, .int 0, .int 0, .int 0])), (v2_41, eY cB ((((0 + 2) + dgL ex) + 1) + dgL Wn) f2_42)] := hD
    obtain ⟨hf_f2_42, hk_f2_42⟩ : sb_Fit f2_42 ∧ ∀ j, j < ((((0 + 2) + dgL ex) + 1) + dgL Wn) → f2_42 j = f2_36 j := hw
    have hPQ : ((((([] : List Nat) ++ ([48, 32] : List Nat)) ++ dL (dgL ex) ex) ++ ([32] : List Nat)) ++ dL (dgL Wn) Wn) = tTx wd (f p0.toNatClampNeg) := by
      rw [tTx, hE1, hF1, nI_clamp (by omega), lN_clamp (by omega), if_neg (fun z => c_8 ((jx_sign hok).mp z)), show dgL ex = sb_dg ex from by rw [dgL, if_pos (show ex < 1000000000 by omega)]]
      rfl
    have hP := hP.sub (ws' := [(h0, eMR wd hc a0), (hc, eA cy f), (r_43, .inr (0, [.ref v2_41, .int 0, .int 0, .int 0])), (v2_41, eY cB ((((0 + 2) + dgL ex) + 1) + dgL Wn) f2_42)]) [0, 1, 2, 3] rfl
    have hD := hD.sub (ws' := [(h0, eMR wd hc a0), (hc, eA cy f), (r_43, .inr (0, [.ref v2_41, .int 0, .int 0, .int 0])), (v2_41, eY cB ((((0 + 2) + dgL ex) + 1) + dgL Wn) f2_42)]) [0, 1, 2, 3] (by decide) rfl
    refine W.widen (k := 8) (n := 200) (by omega) (by omega) ?_
    exact W.aret (v := .ref r_43) hx hb hr (Or.inl ⟨_, rfl⟩) (Or.inr ⟨_, rfl⟩) (fun t ht hW => ⟨⟨(v2_41, ((((0 + 2) + dgL ex) + 1) + dgL Wn), f2_42), _, rfl, ⟨(show ((((0 + 2) + dgL ex) + 1) + dgL Wn) ≤ 34 by omega), tL_of ht_40 (show ((((([] : List Nat) ++ ([48, 32] : List Nat)) ++ dL (dgL ex) ex) ++ ([32] : List Nat)) ++ dL (dgL Wn) Wn).length = ((((0 + 2) + dgL ex) + 1) + dgL Wn) by omega) hk_f2_42 hPQ⟩, ⟨by rw [ht]; exact hP, hD⟩⟩, hS.F ht⟩) hS.2.2 dX4_text_64
  · skip
    refine va_ldcS hx hb hown hTr0 dX4_text_20 ?_
    refine lv_goto (tgt := 27) hx hb dX4_text_22 (by decide) ?_
    have hPc := hP.sub (ws' := [(q0, eB v_1 0), (v_1, eY cB 16 (fun _ => 0))]) [2, 3] rfl
    have hDc := hD.sub (ws' := [(q0, eB v_1 0), (v_1, eY cB 16 (fun _ => 0))]) [2, 3] (by decide) rfl
    have hKc := hK.sub (tys' := [(cB, .byte)]) [1] rfl
    have hFc := va_free (wc := [(q0, eB v_1 0), (v_1, eY cB 16 (fun _ => 0))]) hD hS hA [2, 3] rfl
    refine va_callr (va_runV (As := [.ref (adK 0)]) (rest := []) ⟨hx, hb, hml, hown, hts⟩ (kk_J4_append_15ec4 l dC dI cB q0 v_1 0 16 (fun _ => 0) (adK 0) (adV 0) 2 [49, 32] [49, 32] H.size N (Or.inl rfl) sb_fit0 (by omega) (by decide) tf_0 tp_0 rfl (by omega)) (cwV 1 hts gX4_text_J4_append_15ec4 rfl rfl rfl (by decide +kernel) ⟨Nat.le_of_ble_eq_true rfl, Nat.le_of_ble_eq_true rfl⟩) (xS.preV hKc hPc hDc hAN (Nat.le_trans hN hS.1) (hG.kept hS hAN) (hT.kept hS hAN) (hSs0.kept (fun q h1 h2 => hS.2.1 q h1 (fun z => h2 (hAN q z)))) (ci := 1) (q0 := 0) rfl rfl) rfl rfl hl.1 rfl (lv_room (Nat.le_of_ble_eq_true rfl)) dX4_text_27 ⟨(show _ ≤ 8 by omega), (show _ ≤ 200 by omega)⟩) hS (fun q _ h => hFc q h) hFc (fun u_49 r_48 t H locs ht hvm hw hB hz hk hS => ?_)
    obtain ⟨he_r_48, hP1, hD1⟩ := hB
    rw [ht] at hP1
    obtain ⟨v2_45, m2_46, f2_47⟩ := u_49
    obtain ⟨hP, hD⟩ := va_join (wr := [(h0, eMR wd hc a0), (hc, eA cy f)]) (w1 := [(q0, eB v2_45 (nI (0 + 2))), (v2_45, eY cB m2_46 f2_47)]) hP hD [2, 3] [0, 1] rfl rfl (by decide) (by decide) hk hFc hP1 hD1
    have hP : va_P (dC, dI) xCl [(h0, eMR wd hc a0), (hc, eA cy f), (q0, eB v2_45 (nI (0 + 2))), (v2_45, eY cB m2_46 f2_47)] H := hP
    have hD : va_D A [(h0, eMR wd hc a0), (hc, eA cy f), (q0, eB v2_45 (nI (0 + 2))), (v2_45, eY cB m2_46 f2_47)] := hD
    obtain ⟨hm_m2_46, hq_m2_46, hf_m2_46, hx_m2_46⟩ : (m2_46 = 16 ∨ m2_46 = 34) ∧ 0 + 2 ≤ m2_46 ∧ sb_Fit f2_47 ∧ tX (fun _ => 0) f2_47 0 ([49, 32] : List Nat) := hw
    have hl_50 : (([] : List Nat) ++ ([49, 32] : List Nat)).length = 0 + 2 := by rw [List.length_append, hl_5, (show ([49, 32] : List Nat).length = 2 from rfl)]
    have ht_51 := tX_trans ht_4 (by omega) hx_m2_46
    rw [he_r_48]
    refine lv_aload_n hx hb dX4_text_30 rfl (lv_at hl 0 rfl) ?_
    refine lv_aload_n hx hb dX4_text_31 rfl (lv_at hl 0 rfl) ?_
    refine va_get (D := (dC, dI)) (ci := 6) (v := .ref hc) (C := RX4) (T := TX4) (N := 5) hx hb hts (by decide +kernel) hown hK hP 0 rfl rfl 3 (by decide) (hts (.fieldLink RX4 9 "EdgefloatsModel$Row" "cells" "[J") (by decide +kernel)) (fun _ h9 => h9) rfl dX4_text_32 ?_
    refine lv_iload_n hx hb dX4_text_35 rfl (lv_at hl 1 rfl) ?_
    refine xa_lald hx hb hK hP 1 0 (f := f) rfl rfl (k := p0.toNatClampNeg) hin rfl dX4_text_36 ?_
    have hPc := hP.sub (ws' := [(h0, eMR wd hc a0), (hc, eA cy f)]) [0, 1] rfl
    have hDc := hD.sub (ws' := [(h0, eMR wd hc a0), (hc, eA cy f)]) [0, 1] (by decide) rfl
    have hKc := hK.sub (tys' := [(cy, .long)]) [0] rfl
    have hFc := va_free (wc := [(h0, eMR wd hc a0), (hc, eA cy f)]) hD hS hA [0, 1] rfl
    refine va_calll (va_runV (As := [.long (f p0.toNatClampNeg)]) (rest := [.ref q0]) ⟨hx, hb, hml, hown, hts⟩ (k_X4_exponent l dC dI cy h0 hc wd a0 f H.size (f p0.toNatClampNeg)) (cwV 1 hts gX4_text_X4_exponent rfl rfl rfl (by decide +kernel) ⟨Nat.le_of_ble_eq_true rfl, Nat.le_of_ble_eq_true rfl⟩) (xB.preV hKc hPc (ci := 6) (q0 := 0) rfl rfl) rfl rfl hl.1 rfl (lv_room (Nat.le_of_ble_eq_true rfl)) dX4_text_37 ⟨(show _ ≤ 8 by omega), (show _ ≤ 200 by omega)⟩) hS xA_old (fun q h => hA q (Nat.le_trans hS.1 h)) (fun r_52 u_53 t H locs ht hvm hw hB hz hk hS => ?_)
    have hP := xP_keep hP hk
    have hw : r_52 = lN ex := hw.trans hE
    rw [hw]
    have hPc := hP.sub (ws' := [(q0, eB v2_45 (nI (0 + 2))), (v2_45, eY cB m2_46 f2_47)]) [2, 3] rfl
    have hDc := hD.sub (ws' := [(q0, eB v2_45 (nI (0 + 2))), (v2_45, eY cB m2_46 f2_47)]) [2, 3] (by decide) rfl
    have hKc := hK.sub (tys' := [(cB, .byte)]) [1] rfl
    have hFc := va_free (wc := [(q0, eB v2_45 (nI (0 + 2))), (v2_45, eY cB m2_46 f2_47)]) hD hS hA [2, 3] rfl
    refine va_callr (va_runV (As := [.long (lN ex)]) (rest := []) ⟨hx, hb, hml, hown, hts⟩ (kk_J4_append_f7089 l dC dI cB q0 v2_45 (0 + 2) m2_46 f2_47 ex H.size N hm_m2_46 hf_m2_46 (by omega) (by omega) (by omega)) (cwV 1 hts gX4_text_J4_append_f7089 rfl rfl rfl (by decide +kernel) ⟨Nat.le_of_ble_eq_true rfl, Nat.le_of_ble_eq_true rfl⟩) (xT.preV hKc hPc hDc hAN (Nat.le_trans hN hS.1) (hG.kept hS hAN) (hT.kept hS hAN) (ci := 1) (q0 := 0) rfl rfl) rfl rfl hl.1 rfl (lv_room (Nat.le_of_ble_eq_true rfl)) dX4_text_40 ⟨(show _ ≤ 8 by omega), (show _ ≤ 200 by omega)⟩) hS (fun q _ h => hFc q h) hFc (fun u_58 r_57 t H locs ht hvm hw hB hz hk hS => ?_)
    obtain ⟨he_r_57, hP1, hD1⟩ := hB
    rw [ht] at hP1
    obtain ⟨v2_54, m2_55, f2_56⟩ := u_58
    obtain ⟨hP, hD⟩ := va_join (wr := [(h0, eMR wd hc a0), (hc, eA cy f)]) (w1 := [(q0, eB v2_54 (nI ((0 + 2) + dgL ex))), (v2_54, eY cB m2_55 f2_56)]) hP hD [2, 3] [0, 1] rfl rfl (by decide) (by decide) hk hFc hP1 hD1
    have hP : va_P (dC, dI) xCl [(h0, eMR wd hc a0), (hc, eA cy f), (q0, eB v2_54 (nI ((0 + 2) + dgL ex))), (v2_54, eY cB m2_55 f2_56)] H := hP
    have hD : va_D A [(h0, eMR wd hc a0), (hc, eA cy f), (q0, eB v2_54 (nI ((0 + 2) + dgL ex))), (v2_54, eY cB m2_55 f2_56)] := hD
    obtain ⟨hm_m2_55, hq_m2_55, hf_m2_55, hx_m2_55⟩ : (m2_55 = 16 ∨ m2_55 = 34) ∧ (0 + 2) + dgL ex ≤ m2_55 ∧ sb_Fit f2_56 ∧ tX f2_47 f2_56 (0 + 2) (dL (dgL ex) ex) := hw
    have hl_59 : ((([] : List Nat) ++ ([49, 32] : List Nat)) ++ dL (dgL ex) ex).length = 0 + 2 + dgL ex := by rw [List.length_append, hl_50, dL_len]
    have ht_60 := tX_trans ht_51 (by omega) hx_m2_55
    rw [he_r_57]
    refine va_ldcS hx hb hown hTr2 dX4_text_43 ?_
    have hPc := hP.sub (ws' := [(q0, eB v2_54 (nI ((0 + 2) + dgL ex))), (v2_54, eY cB m2_55 f2_56)]) [2, 3] rfl
    have hDc := hD.sub (ws' := [(q0, eB v2_54 (nI ((0 + 2) + dgL ex))), (v2_54, eY cB m2_55 f2_56)]) [2, 3] (by decide) rfl
    have hKc := hK.sub (tys' := [(cB, .byte)]) [1] rfl
    have hFc := va_free (wc := [(q0, eB v2_54 (nI ((0 + 2) + dgL ex))), (v2_54, eY cB m2_55 f2_56)]) hD hS hA [2, 3] rfl
    refine va_callr (va_runV (As := [.ref (adK 2)]) (rest := []) ⟨hx, hb, hml, hown, hts⟩ (kk_J4_append_15ec4 l dC dI cB q0 v2_54 ((0 + 2) + dgL ex) m2_55 f2_56 (adK 2) (adV 2) 1 [32] [32] H.size N hm_m2_55 hf_m2_55 (by omega) (by decide) tf_2 tp_2 rfl (by omega)) (cwV 1 hts gX4_text_J4_append_15ec4 rfl rfl rfl (by decide +kernel) ⟨Nat.le_of_ble_eq_true rfl, Nat.le_of_ble_eq_true rfl⟩) (xS.preV hKc hPc hDc hAN (Nat.le_trans hN hS.1) (hG.kept hS hAN) (hT.kept hS hAN) (hSs2.kept (fun q h1 h2 => hS.2.1 q h1 (fun z => h2 (hAN q z)))) (ci := 1) (q0 := 0) rfl rfl) rfl rfl hl.1 rfl (lv_room (Nat.le_of_ble_eq_true rfl)) dX4_text_45 ⟨(show _ ≤ 8 by omega), (show _ ≤ 200 by omega)⟩) hS (fun q _ h => hFc q h) hFc (fun u_65 r_64 t H locs ht hvm hw hB hz hk hS => ?_)
    obtain ⟨he_r_64, hP1, hD1⟩ := hB
    rw [ht] at hP1
    obtain ⟨v2_61, m2_62, f2_63⟩ := u_65
    obtain ⟨hP, hD⟩ := va_join (wr := [(h0, eMR wd hc a0), (hc, eA cy f)]) (w1 := [(q0, eB v2_61 (nI (((0 + 2) + dgL ex) + 1))), (v2_61, eY cB m2_62 f2_63)]) hP hD [2, 3] [0, 1] rfl rfl (by decide) (by decide) hk hFc hP1 hD1
    have hP : va_P (dC, dI) xCl [(h0, eMR wd hc a0), (hc, eA cy f), (q0, eB v2_61 (nI (((0 + 2) + dgL ex) + 1))), (v2_61, eY cB m2_62 f2_63)] H := hP
    have hD : va_D A [(h0, eMR wd hc a0), (hc, eA cy f), (q0, eB v2_61 (nI (((0 + 2) + dgL ex) + 1))), (v2_61, eY cB m2_62 f2_63)] := hD
    obtain ⟨hm_m2_62, hq_m2_62, hf_m2_62, hx_m2_62⟩ : (m2_62 = 16 ∨ m2_62 = 34) ∧ ((0 + 2) + dgL ex) + 1 ≤ m2_62 ∧ sb_Fit f2_63 ∧ tX f2_56 f2_63 ((0 + 2) + dgL ex) ([32] : List Nat) := hw
    have hl_66 : (((([] : List Nat) ++ ([49, 32] : List Nat)) ++ dL (dgL ex) ex) ++ ([32] : List Nat)).length = 0 + 2 + dgL ex + 1 := by rw [List.length_append, hl_59, (show ([32] : List Nat).length = 1 from rfl)]
    have ht_67 := tX_trans ht_60 (by omega) hx_m2_62
    rw [he_r_64]
    refine lv_aload_n hx hb dX4_text_48 rfl (lv_at hl 0 rfl) ?_
    refine lv_aload_n hx hb dX4_text_49 rfl (lv_at hl 0 rfl) ?_
    refine va_get (D := (dC, dI)) (ci := 6) (v := .ref hc) (C := RX4) (T := TX4) (N := 5) hx hb hts (by decide +kernel) hown hK hP 0 rfl rfl 3 (by decide) (hts (.fieldLink RX4 9 "EdgefloatsModel$Row" "cells" "[J") (by decide +kernel)) (fun _ h9 => h9) rfl dX4_text_50 ?_
    refine lv_iload_n hx hb dX4_text_53 rfl (lv_at hl 1 rfl) ?_
    refine xa_lald hx hb hK hP 1 0 (f := f) rfl rfl (k := p0.toNatClampNeg) hin rfl dX4_text_54 ?_
    have hPc := hP.sub (ws' := [(h0, eMR wd hc a0), (hc, eA cy f)]) [0, 1] rfl
    have hDc := hD.sub (ws' := [(h0, eMR wd hc a0), (hc, eA cy f)]) [0, 1] (by decide) rfl
    have hKc := hK.sub (tys' := [(cy, .long)]) [0] rfl
    have hFc := va_free (wc := [(h0, eMR wd hc a0), (hc, eA cy f)]) hD hS hA [0, 1] rfl
    refine va_calll (va_runV (As := [.long (f p0.toNatClampNeg)]) (rest := [.ref q0]) ⟨hx, hb, hml, hown, hts⟩ (k_X4_fraction l dC dI cy h0 hc wd a0 f H.size (f p0.toNatClampNeg)) (cwV 1 hts gX4_text_X4_fraction rfl rfl rfl (by decide +kernel) ⟨Nat.le_of_ble_eq_true rfl, Nat.le_of_ble_eq_true rfl⟩) (xB.preV hKc hPc (ci := 6) (q0 := 0) rfl rfl) rfl rfl hl.1 rfl (lv_room (Nat.le_of_ble_eq_true rfl)) dX4_text_55 ⟨(show _ ≤ 8 by omega), (show _ ≤ 200 by omega)⟩) hS xA_old (fun q h => hA q (Nat.le_trans hS.1 h)) (fun r_68 u_69 t H locs ht hvm hw hB hz hk hS => ?_)
    have hP := xP_keep hP hk
    have hw : r_68 = lN Wn := hw.trans hF
    rw [hw]
    have hPc := hP.sub (ws' := [(q0, eB v2_61 (nI (((0 + 2) + dgL ex) + 1))), (v2_61, eY cB m2_62 f2_63)]) [2, 3] rfl
    have hDc := hD.sub (ws' := [(q0, eB v2_61 (nI (((0 + 2) + dgL ex) + 1))), (v2_61, eY cB m2_62 f2_63)]) [2, 3] (by decide) rfl
    have hKc := hK.sub (tys' := [(cB, .byte)]) [1] rfl
    have hFc := va_free (wc := [(q0, eB v2_61 (nI (((0 + 2) + dgL ex) + 1))), (v2_61, eY cB m2_62 f2_63)]) hD hS hA [2, 3] rfl
    refine va_callr (va_runV (As := [.long (lN Wn)]) (rest := []) ⟨hx, hb, hml, hown, hts⟩ (kk_J4_append_f7089 l dC dI cB q0 v2_61 (((0 + 2) + dgL ex) + 1) m2_62 f2_63 Wn H.size N hm_m2_62 hf_m2_62 (by omega) (by omega) (by omega)) (cwV 1 hts gX4_text_J4_append_f7089 rfl rfl rfl (by decide +kernel) ⟨Nat.le_of_ble_eq_true rfl, Nat.le_of_ble_eq_true rfl⟩) (xT.preV hKc hPc hDc hAN (Nat.le_trans hN hS.1) (hG.kept hS hAN) (hT.kept hS hAN) (ci := 1) (q0 := 0) rfl rfl) rfl rfl hl.1 rfl (lv_room (Nat.le_of_ble_eq_true rfl)) dX4_text_58 ⟨(show _ ≤ 8 by omega), (show _ ≤ 200 by omega)⟩) hS (fun q _ h => hFc q h) hFc (fun u_74 r_73 t H locs ht hvm hw hB hz hk hS => ?_)
    obtain ⟨he_r_73, hP1, hD1⟩ := hB
    rw [ht] at hP1
    obtain ⟨v2_70, m2_71, f2_72⟩ := u_74
    obtain ⟨hP, hD⟩ := va_join (wr := [(h0, eMR wd hc a0), (hc, eA cy f)]) (w1 := [(q0, eB v2_70 (nI ((((0 + 2) + dgL ex) + 1) + dgL Wn))), (v2_70, eY cB m2_71 f2_72)]) hP hD [2, 3] [0, 1] rfl rfl (by decide) (by decide) hk hFc hP1 hD1
    have hP : va_P (dC, dI) xCl [(h0, eMR wd hc a0), (hc, eA cy f), (q0, eB v2_70 (nI ((((0 + 2) + dgL ex) + 1) + dgL Wn))), (v2_70, eY cB m2_71 f2_72)] H := hP
    have hD : va_D A [(h0, eMR wd hc a0), (hc, eA cy f), (q0, eB v2_70 (nI ((((0 + 2) + dgL ex) + 1) + dgL Wn))), (v2_70, eY cB m2_71 f2_72)] := hD
    obtain ⟨hm_m2_71, hq_m2_71, hf_m2_71, hx_m2_71⟩ : (m2_71 = 16 ∨ m2_71 = 34) ∧ (((0 + 2) + dgL ex) + 1) + dgL Wn ≤ m2_71 ∧ sb_Fit f2_72 ∧ tX f2_63 f2_72 (((0 + 2) + dgL ex) + 1) (dL (dgL Wn) Wn) := hw
    have hl_75 : ((((([] : List Nat) ++ ([49, 32] : List Nat)) ++ dL (dgL ex) ex) ++ ([32] : List Nat)) ++ dL (dgL Wn) Wn).length = 0 + 2 + dgL ex + 1 + dgL Wn := by rw [List.length_append, hl_66, dL_len]
    have ht_76 := tX_trans ht_67 (by omega) hx_m2_71
    rw [he_r_73]
    have hPc := hP.sub (ws' := [(q0, eB v2_70 (nI ((((0 + 2) + dgL ex) + 1) + dgL Wn))), (v2_70, eY cB m2_71 f2_72)]) [2, 3] rfl
    have hDc := hD.sub (ws' := [(q0, eB v2_70 (nI ((((0 + 2) + dgL ex) + 1) + dgL Wn))), (v2_70, eY cB m2_71 f2_72)]) [2, 3] (by decide) rfl
    have hKc := hK.sub (tys' := [(cB, .byte)]) [1] rfl
    have hFc := va_free (wc := [(q0, eB v2_70 (nI ((((0 + 2) + dgL ex) + 1) + dgL Wn))), (v2_70, eY cB m2_71 f2_72)]) hD hS hA [2, 3] rfl
    refine va_callr (va_runV (As := []) (rest := []) ⟨hx, hb, hml, hown, hts⟩ (kk_J4_toString_0e30d l dC dI cB q0 v2_70 ((((0 + 2) + dgL ex) + 1) + dgL Wn) m2_71 f2_72 H.size N (by omega) (by omega) hf_m2_71) (cwV 0 hts gX4_text_J4_toString_0e30d rfl rfl rfl (by decide +kernel) ⟨Nat.le_of_ble_eq_true rfl, Nat.le_of_ble_eq_true rfl⟩) (xT.preV hKc hPc hDc hAN (Nat.le_trans hN hS.1) (hG.kept hS hAN) (hT.kept hS hAN) (ci := 1) (q0 := 0) rfl rfl) rfl rfl hl.1 rfl (lv_room (Nat.le_of_ble_eq_true rfl)) dX4_text_61 ⟨(show _ ≤ 8 by omega), (show _ ≤ 200 by omega)⟩) hS (fun q _ h => hFc q h) hFc (fun u_80 r_79 t H locs ht hvm hw hB hz hk hS => ?_)
    obtain ⟨hP1, hD1⟩ := hB
    rw [ht] at hP1
    obtain ⟨v2_77, f2_78⟩ := u_80
    obtain ⟨hP, hD⟩ := va_join (wr := [(h0, eMR wd hc a0), (hc, eA cy f)]) (w1 := [(r_79, .inr (0, [.ref v2_77, .int 0, .int 0, .int 0])), (v2_77, eY cB ((((0 + 2) + dgL ex) + 1) + dgL Wn) f2_78)]) hP hD [2, 3] [0, 1] rfl rfl (by decide) (by decide) hk hFc hP1 hD1
    have hP : va_P (dC, dI) xCl [(h0, eMR wd hc a0), (hc, eA cy f), (r_79, .inr (0, [.ref v2_77, .int 0, .int 0, .int 0])), (v2_77, eY cB ((((0 + 2) + dgL ex) + 1) + dgL Wn) f2_78)] H := hP
    have hD : va_D A [(h0, eMR wd hc a0), (hc, eA cy f), (r_79, .inr (0, [.ref v2_77, .int 0, .int 0, .int 0])), (v2_77, eY cB ((((0 + 2) + dgL ex) + 1) + dgL Wn) f2_78)] := hD
    obtain ⟨hf_f2_78, hk_f2_78⟩ : sb_Fit f2_78 ∧ ∀ j, j < ((((0 + 2) + dgL ex) + 1) + dgL Wn) → f2_78 j = f2_72 j := hw
    have hPQ : ((((([] : List Nat) ++ ([49, 32] : List Nat)) ++ dL (dgL ex) ex) ++ ([32] : List Nat)) ++ dL (dgL Wn) Wn) = tTx wd (f p0.toNatClampNeg) := by
      rw [tTx, hE1, hF1, nI_clamp (by omega), lN_clamp (by omega), if_pos ((jx_sign hok).mpr c_8), show dgL ex = sb_dg ex from by rw [dgL, if_pos (show ex < 1000000000 by omega)]]
      rfl
    have hP := hP.sub (ws' := [(h0, eMR wd hc a0), (hc, eA cy f), (r_79, .inr (0, [.ref v2_77, .int 0, .int 0, .int 0])), (v2_77, eY cB ((((0 + 2) + dgL ex) + 1) + dgL Wn) f2_78)]) [0, 1, 2, 3] rfl
    have hD := hD.sub (ws' := [(h0, eMR wd hc a0), (hc, eA cy f), (r_79, .inr (0, [.ref v2_77, .int 0, .int 0, .int 0])), (v2_77, eY cB ((((0 + 2) + dgL ex) + 1) + dgL Wn) f2_78)]) [0, 1, 2, 3] (by decide) rfl
    refine W.widen (k := 8) (n := 200) (by omega) (by omega) ?_
    exact W.aret (v := .ref r_79) hx hb hr (Or.inl ⟨_, rfl⟩) (Or.inr ⟨_, rfl⟩) (fun t ht hW => ⟨⟨(v2_77, ((((0 + 2) + dgL ex) + 1) + dgL Wn), f2_78), _, rfl, ⟨(show ((((0 + 2) + dgL ex) + 1) + dgL Wn) ≤ 34 by omega), tL_of ht_76 (show ((((([] : List Nat) ++ ([49, 32] : List Nat)) ++ dL (dgL ex) ex) ++ ([32] : List Nat)) ++ dL (dgL Wn) Wn).length = ((((0 + 2) + dgL ex) + 1) + dgL Wn) by omega) hk_f2_78 hPQ⟩, ⟨by rw [ht]; exact hP, hD⟩⟩, hS.F ht⟩) hS.2.2 dX4_text_64
