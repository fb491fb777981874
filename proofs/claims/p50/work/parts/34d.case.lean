set_option maxHeartbeats 4000000 in
set_option maxRecDepth 100000 in
theorem st_21 (l : Launch) (p : Program) (e : Env) (s : State) (m : MethodId) (below : List Frame) (meth : Method) (c : Code) (b L N : Nat) (xs : Nat → Int32) (A : Nat → Prop) (dC : Nat → ClassId) (dI : Nat → Nat → Nat) (cy cB : ClassId) (h0 h1 hw1 hc1 hb1 h2 hw2 hc2 hb2 ho m0 m1 mc1 m2 mc2 : Nat) (C0 : lw_C l p e s m below meth c b L N xs A dC dI cy cB) (i : Nat) (hi : i + 4 ≤ L) (p1 p2 p3 : Int32) (hp1 : xs (i + 1) = p1) (hp2 : xs (i + 2) = p2) (hp3 : xs (i + 3) = p3) (cells slots : Nat) (hcs : cells + 760 ≤ 989448) (hss : slots + 4500 ≤ 6127760) (K : lw_K l p e s m below meth c b L N xs A dC dI cy cB h0 h1 hw1 hc1 hb1 h2 hw2 hc2 hb2 ho m0 m1 mc1 m2 mc2 i (cells + 760) (slots + 4500) 2240) (a1 : Int32) (r1 : Int32) (f1 : Nat → Int64) (g1 : Nat → Int64) (a2 : Int32) (r2 : Int32) (f2 : Nat → Int64) (g2 : Nat → Int64) (kn : Int32) (nv : Int64) (sv : Value) (th : Int32) (H : Heap) (locs : List Loc) (ls : Array Slot) (hka1 : okA true f1) (hka2 : okA false f2) (hP : va_P (dC, dI) xCl [(h0, eE h1 h2 kn), (h1, eR hw1 hc1 hb1 a1 r1), (hw1, eW true), (hc1, eA cy f1), (hb1, eA cy g1), (h2, eR hw2 hc2 hb2 a2 r2), (hw2, eW false), (hc2, eA cy f2), (hb2, eA cy g2), (ho, eO nv sv), (m0, eM m1 m2 th (r1 + r2) kn), (m1, eMR true mc1 a1), (mc1, eA cy f1), (m2, eMR false mc2 a2), (mc2, eA cy f2)] H) (hD : va_D A [(h0, eE h1 h2 kn), (h1, eR hw1 hc1 hb1 a1 r1), (hw1, eW true), (hc1, eA cy f1), (hb1, eA cy g1), (h2, eR hw2 hc2 hb2 a2 r2), (hw2, eW false), (hc2, eA cy f2), (hb2, eA cy g2), (ho, eO nv sv), (m0, eM m1 m2 th (r1 + r2) kn), (m1, eMR true mc1 a1), (mc1, eA cy f1), (m2, eMR false mc2 a2), (mc2, eA cy f2)]) (hS : va_S A s.heap H locs) (hl : lv_has ls 7 [(0, .ref b), (1, .ref h0), (2, .ref m0), (3, .ref ho), (4, .int (nI i))]) : W p l e room_1 s m #[Value.ref b] below meth c H locs cells slots (lw_Z below #[Value.ref b] s) (F0 m 1148 ls []) := by
  obtain ⟨hfl, hx, hb, hr, hml, hown, hts, hX, hbl, hbA, hlocks, hK, hG, hnc, hA, hAN, hN, hL, hT, hNs⟩ := id C0
  have hok2 := me_okF hka2
  have hsp1 : ∀ k, k < 8 → o_X1_isSpoiled true (f1 k) = false := fun k hk => (hka1 k hk).2
  have hsp2 : ∀ k, k < 8 → o_X1_isSpoiled false (f2 k) = false := fun k hk => (hka2 k hk).2
  refine lv_aload_n hx hb dL_law_1148 rfl (lv_at hl 1 rfl) ?_
  refine lv_aload_n hx hb dL_law_1149 rfl (lv_at hl 0 rfl) ?_
  refine lv_iload hx hb dL_law_1150 (lv_at hl 4 rfl) ?_
  refine lv_iconst (v := 1) hx hb dL_law_1152 (by decide +kernel) ?_
  refine lv_iadd hx hb dL_law_1153 ?_
  rw [nI_1 i]
  refine xa_sld hx hb hX hbl hbA hS (k := i + 1) (by omega) hL hp1 dL_law_1154 ?_
  refine lv_aload_n hx hb dL_law_1155 rfl (lv_at hl 0 rfl) ?_
  refine lv_iload hx hb dL_law_1156 (lv_at hl 4 rfl) ?_
  refine lv_iconst (v := 2) hx hb dL_law_1158 (by decide +kernel) ?_
  refine lv_iadd hx hb dL_law_1159 ?_
  rw [nI_p2 i]
  refine xa_sld hx hb hX hbl hbA hS (k := i + 2) (by omega) hL hp2 dL_law_1160 ?_
  refine lv_if_eq (tgt := 1168) hx hb dL_law_1161 (by decide +kernel) (fun c_1 => ?_) (fun c_1 => ?_)
  · skip
    refine lv_iconst (v := 0) hx hb dL_law_1168 (by decide +kernel) ?_
    refine lv_aload_n hx hb dL_law_1169 rfl (lv_at hl 3 rfl) ?_
    have hPc := hP.sub (ws' := [(h0, eE h1 h2 kn), (h1, eR hw1 hc1 hb1 a1 r1), (hw1, eW true), (hc1, eA cy f1), (hb1, eA cy g1), (h2, eR hw2 hc2 hb2 a2 r2), (hw2, eW false), (hc2, eA cy f2), (hb2, eA cy g2), (ho, eO nv sv)]) [0, 1, 2, 3, 4, 5, 6, 7, 8, 9] rfl
    have hDc := hD.sub (ws' := [(h0, eE h1 h2 kn), (h1, eR hw1 hc1 hb1 a1 r1), (hw1, eW true), (hc1, eA cy f1), (hb1, eA cy g1), (h2, eR hw2 hc2 hb2 a2 r2), (hw2, eW false), (hc2, eA cy f2), (hb2, eA cy g2), (ho, eO nv sv)]) [0, 1, 2, 3, 4, 5, 6, 7, 8, 9] (by decide +kernel) rfl
    have hKc := hK.sub (tys' := [(cy, .long)]) [0] rfl
    have hFc := va_free (wc := [(h0, eE h1 h2 kn), (h1, eR hw1 hc1 hb1 a1 r1), (hw1, eW true), (hc1, eA cy f1), (hb1, eA cy g1), (h2, eR hw2 hc2 hb2 a2 r2), (hw2, eW false), (hc2, eA cy f2), (hb2, eA cy g2), (ho, eO nv sv)]) hD hS hA [0, 1, 2, 3, 4, 5, 6, 7, 8, 9] rfl
    refine va_calli (vx_runSW (As := [.ref h0, .int p1, .int 0, .ref ho]) (rest := []) ⟨hx, hb, hml, hown, hts⟩ (k_L_wideFind l hfl dC dI cy h0 h1 hw1 hc1 hb1 h2 hw2 hc2 hb2 a1 r1 f1 g1 a2 r2 f2 g2 kn ho nv sv H.size N p1 false) (vx_cwSW 4 hts gL_law_L_wideFind rfl rfl rfl (by decide +kernel) ⟨Nat.le_of_ble_eq_true rfl, Nat.le_of_ble_eq_true rfl⟩) (xL.preS hKc hPc hDc hAN (Nat.le_trans hN hS.1) (hG.kept hS hAN) hnc) rfl rfl hl.1 rfl (lv_room (Nat.le_of_ble_eq_true rfl)) dL_law_1170 ⟨(show _ ≤ 989448 by omega), (show _ ≤ 6127760 by omega)⟩) hS (fun q _ h => hFc q h) hFc (fun r_2 u t H locs ht hvm hw hB hz hk hS => ?_)
    replace hw : r_2 = (o_L_wideFind f1 nv p1 false).1 := hw
    subst r_2
    obtain ⟨hP1, hD1⟩ := hB
    rw [ht] at hP1
    obtain ⟨hP, hD⟩ := va_join (wr := [(m0, eM m1 m2 th (r1 + r2) kn), (m1, eMR true mc1 a1), (mc1, eA cy f1), (m2, eMR false mc2 a2), (mc2, eA cy f2)]) (w1 := [(h0, eE h1 h2 kn), (h1, eR hw1 hc1 hb1 a1 r1), (hw1, eW true), (hc1, eA cy f1), (hb1, eA cy g1), (h2, eR hw2 hc2 hb2 a2 r2), (hw2, eW false), (hc2, eA cy f2), (hb2, eA cy g2), (ho, eO (o_L_wideFind f1 nv p1 false).2 sv)]) hP hD [0, 1, 2, 3, 4, 5, 6, 7, 8, 9] [10, 11, 12, 13, 14] rfl rfl (by decide +kernel) (by decide +kernel) hk hFc hP1 hD1
    have hP := hP.sub (ws' := [(h0, eE h1 h2 kn), (h1, eR hw1 hc1 hb1 a1 r1), (hw1, eW true), (hc1, eA cy f1), (hb1, eA cy g1), (h2, eR hw2 hc2 hb2 a2 r2), (hw2, eW false), (hc2, eA cy f2), (hb2, eA cy g2), (ho, eO (o_L_wideFind f1 nv p1 false).2 sv), (m0, eM m1 m2 th (r1 + r2) kn), (m1, eMR true mc1 a1), (mc1, eA cy f1), (m2, eMR false mc2 a2), (mc2, eA cy f2)]) [5, 6, 7, 8, 9, 10, 11, 12, 13, 14, 0, 1, 2, 3, 4] rfl
    have hD := hD.sub (ws' := [(h0, eE h1 h2 kn), (h1, eR hw1 hc1 hb1 a1 r1), (hw1, eW true), (hc1, eA cy f1), (hb1, eA cy g1), (h2, eR hw2 hc2 hb2 a2 r2), (hw2, eW false), (hc2, eA cy f2), (hb2, eA cy g2), (ho, eO (o_L_wideFind f1 nv p1 false).2 sv), (m0, eM m1 m2 th (r1 + r2) kn), (m1, eMR true mc1 a1), (mc1, eA cy f1), (m2, eMR false mc2 a2), (mc2, eA cy f2)]) [5, 6, 7, 8, 9, 10, 11, 12, 13, 14, 0, 1, 2, 3, 4] (by decide +kernel) rfl
    refine lv_istore (lv' := [(5, .int ((o_L_wideFind f1 nv p1 false).1)), (0, .ref b), (1, .ref h0), (2, .ref m0), (3, .ref ho), (4, .int (nI i))]) hx hb dL_law_1173 hl (by decide +kernel) rfl (fun ls hl => ?_)
    refine lv_aload_n hx hb dL_law_1175 rfl (lv_at hl 3 rfl) ?_
    refine lv_aload_n hx hb dL_law_1176 rfl (lv_at hl 1 rfl) ?_
    refine lv_iload hx hb dL_law_1177 (lv_at hl 5 rfl) ?_
    refine lv_iconst (v := 1) hx hb dL_law_1179 (by decide +kernel) ?_
    refine lv_iadd hx hb dL_law_1180 ?_
    rw [nI_1 i]
    refine xa_sld hx hb hX hbl hbA hS (k := i + 1) (by omega) hL hp1 dL_law_1181 ?_
    refine lv_aload_n hx hb dL_law_1182 rfl (lv_at hl 1 rfl) ?_
    refine lv_iload hx hb dL_law_1183 (lv_at hl 5 rfl) ?_
    refine lv_iconst (v := 2) hx hb dL_law_1185 (by decide +kernel) ?_
    refine lv_iadd hx hb dL_law_1186 ?_
    rw [nI_p2 i]
    refine xa_sld hx hb hX hbl hbA hS (k := i + 2) (by omega) hL hp2 dL_law_1187 ?_
    refine lv_if_eq (tgt := 1195) hx hb dL_law_1188 (by decide +kernel) (fun c9 => ?_) (fun c9 => absurd c_1 c9)
    refine lv_iconst (v := 0) hx hb dL_law_1195 (by decide +kernel) ?_
    have hPc := hP.sub (ws' := [(m0, eM m1 m2 th (r1 + r2) kn), (m1, eMR true mc1 a1), (mc1, eA cy f1), (m2, eMR false mc2 a2), (mc2, eA cy f2)]) [10, 11, 12, 13, 14] rfl
    have hDc := hD.sub (ws' := [(m0, eM m1 m2 th (r1 + r2) kn), (m1, eMR true mc1 a1), (mc1, eA cy f1), (m2, eMR false mc2 a2), (mc2, eA cy f2)]) [10, 11, 12, 13, 14] (by decide +kernel) rfl
    have hKc := hK.sub (tys' := [(cy, .long)]) [0] rfl
    have hFc := va_free (wc := [(m0, eM m1 m2 th (r1 + r2) kn), (m1, eMR true mc1 a1), (mc1, eA cy f1), (m2, eMR false mc2 a2), (mc2, eA cy f2)]) hD hS hA [10, 11, 12, 13, 14] rfl
    refine va_calli (va_runV (As := [.int p1, .int 0]) (rest := []) ⟨hx, hb, hml, hown, hts⟩ (k_X5_wideFind l dC dI cy m0 m1 mc1 m2 mc2 a1 f1 a2 f2 th (r1 + r2) kn H.size N p1 false) (cwV 2 hts gL_law_X5_wideFind rfl rfl rfl (by decide +kernel) ⟨Nat.le_of_ble_eq_true rfl, Nat.le_of_ble_eq_true rfl⟩) (xM.preV hKc hPc hDc hAN (Nat.le_trans hN hS.1) (hG.kept hS hAN) (ci := 7) (q0 := 0) rfl rfl) rfl rfl hl.1 rfl (lv_room (Nat.le_of_ble_eq_true rfl)) dL_law_1196 ⟨(show _ ≤ 989448 by omega), (show _ ≤ 6127760 by omega)⟩) hS (fun q _ h => hFc q h) hFc (fun r_3 u t H locs ht hvm hw hB hz hk hS => ?_)
    replace hw : r_3 = (o_X5_wideFind f1 p1 false).1 := hw
    subst r_3
    obtain ⟨hP1, hD1⟩ := hB
    rw [ht] at hP1
    obtain ⟨hP, hD⟩ := va_join (wr := [(h0, eE h1 h2 kn), (h1, eR hw1 hc1 hb1 a1 r1), (hw1, eW true), (hc1, eA cy f1), (hb1, eA cy g1), (h2, eR hw2 hc2 hb2 a2 r2), (hw2, eW false), (hc2, eA cy f2), (hb2, eA cy g2), (ho, eO (o_L_wideFind f1 nv p1 false).2 sv)]) (w1 := [(m0, eM m1 m2 (o_X5_wideFind f1 p1 false).2 (r1 + r2) kn), (m1, eMR true mc1 a1), (mc1, eA cy f1), (m2, eMR false mc2 a2), (mc2, eA cy f2)]) hP hD [10, 11, 12, 13, 14] [0, 1, 2, 3, 4, 5, 6, 7, 8, 9] rfl rfl (by decide +kernel) (by decide +kernel) hk hFc hP1 hD1
    have hP := hP.sub (ws' := [(h0, eE h1 h2 kn), (h1, eR hw1 hc1 hb1 a1 r1), (hw1, eW true), (hc1, eA cy f1), (hb1, eA cy g1), (h2, eR hw2 hc2 hb2 a2 r2), (hw2, eW false), (hc2, eA cy f2), (hb2, eA cy g2), (ho, eO (o_L_wideFind f1 nv p1 false).2 sv), (m0, eM m1 m2 (o_X5_wideFind f1 p1 false).2 (r1 + r2) kn), (m1, eMR true mc1 a1), (mc1, eA cy f1), (m2, eMR false mc2 a2), (mc2, eA cy f2)]) [0, 1, 2, 3, 4, 5, 6, 7, 8, 9, 10, 11, 12, 13, 14] rfl
    have hD := hD.sub (ws' := [(h0, eE h1 h2 kn), (h1, eR hw1 hc1 hb1 a1 r1), (hw1, eW true), (hc1, eA cy f1), (hb1, eA cy g1), (h2, eR hw2 hc2 hb2 a2 r2), (hw2, eW false), (hc2, eA cy f2), (hb2, eA cy g2), (ho, eO (o_L_wideFind f1 nv p1 false).2 sv), (m0, eM m1 m2 (o_X5_wideFind f1 p1 false).2 (r1 + r2) kn), (m1, eMR true mc1 a1), (mc1, eA cy f1), (m2, eMR false mc2 a2), (mc2, eA cy f2)]) [0, 1, 2, 3, 4, 5, 6, 7, 8, 9, 10, 11, 12, 13, 14] (by decide +kernel) rfl
    refine lv_istore (lv' := [(6, .int ((o_X5_wideFind f1 p1 false).1)), (5, .int ((o_L_wideFind f1 nv p1 false).1)), (0, .ref b), (1, .ref h0), (2, .ref m0), (3, .ref ho), (4, .int (nI i))]) hx hb dL_law_1199 hl (by decide +kernel) rfl (fun ls hl => ?_)
    refine lv_goto (tgt := 2240) hx hb dL_law_1201 (by decide +kernel) ?_
    refine W.widen (k := cells + 760) (n := slots + 4500) (by omega) (by omega) ?_
    exact K a1 r1 f1 g1 a2 r2 f2 g2 kn ((o_L_wideFind f1 nv p1 false).2) sv ((o_X5_wideFind f1 p1 false).2) a1 f1 a2 f2 (r1 + r2) kn _ _ _ rfl rfl rfl rfl rfl rfl hka1 hka2 hP hD hS (lv_sub hl [2, 3, 4, 5, 6] rfl)
  · skip
    refine lv_iconst (v := 1) hx hb dL_law_1164 (by decide +kernel) ?_
    refine lv_goto (tgt := 1169) hx hb dL_law_1165 (by decide +kernel) ?_
    refine lv_aload_n hx hb dL_law_1169 rfl (lv_at hl 3 rfl) ?_
    have hPc := hP.sub (ws' := [(h0, eE h1 h2 kn), (h1, eR hw1 hc1 hb1 a1 r1), (hw1, eW true), (hc1, eA cy f1), (hb1, eA cy g1), (h2, eR hw2 hc2 hb2 a2 r2), (hw2, eW false), (hc2, eA cy f2), (hb2, eA cy g2), (ho, eO nv sv)]) [0, 1, 2, 3, 4, 5, 6, 7, 8, 9] rfl
    have hDc := hD.sub (ws' := [(h0, eE h1 h2 kn), (h1, eR hw1 hc1 hb1 a1 r1), (hw1, eW true), (hc1, eA cy f1), (hb1, eA cy g1), (h2, eR hw2 hc2 hb2 a2 r2), (hw2, eW false), (hc2, eA cy f2), (hb2, eA cy g2), (ho, eO nv sv)]) [0, 1, 2, 3, 4, 5, 6, 7, 8, 9] (by decide +kernel) rfl
    have hKc := hK.sub (tys' := [(cy, .long)]) [0] rfl
    have hFc := va_free (wc := [(h0, eE h1 h2 kn), (h1, eR hw1 hc1 hb1 a1 r1), (hw1, eW true), (hc1, eA cy f1), (hb1, eA cy g1), (h2, eR hw2 hc2 hb2 a2 r2), (hw2, eW false), (hc2, eA cy f2), (hb2, eA cy g2), (ho, eO nv sv)]) hD hS hA [0, 1, 2, 3, 4, 5, 6, 7, 8, 9] rfl
    refine va_calli (vx_runSW (As := [.ref h0, .int p1, .int 1, .ref ho]) (rest := []) ⟨hx, hb, hml, hown, hts⟩ (k_L_wideFind l hfl dC dI cy h0 h1 hw1 hc1 hb1 h2 hw2 hc2 hb2 a1 r1 f1 g1 a2 r2 f2 g2 kn ho nv sv H.size N p1 true) (vx_cwSW 4 hts gL_law_L_wideFind rfl rfl rfl (by decide +kernel) ⟨Nat.le_of_ble_eq_true rfl, Nat.le_of_ble_eq_true rfl⟩) (xL.preS hKc hPc hDc hAN (Nat.le_trans hN hS.1) (hG.kept hS hAN) hnc) rfl rfl hl.1 rfl (lv_room (Nat.le_of_ble_eq_true rfl)) dL_law_1170 ⟨(show _ ≤ 989448 by omega), (show _ ≤ 6127760 by omega)⟩) hS (fun q _ h => hFc q h) hFc (fun r_4 u t H locs ht hvm hw hB hz hk hS => ?_)
    replace hw : r_4 = (o_L_wideFind f1 nv p1 true).1 := hw
    subst r_4
    obtain ⟨hP1, hD1⟩ := hB
    rw [ht] at hP1
    obtain ⟨hP, hD⟩ := va_join (wr := [(m0, eM m1 m2 th (r1 + r2) kn), (m1, eMR true mc1 a1), (mc1, eA cy f1), (m2, eMR false mc2 a2), (mc2, eA cy f2)]) (w1 := [(h0, eE h1 h2 kn), (h1, eR hw1 hc1 hb1 a1 r1), (hw1, eW true), (hc1, eA cy f1), (hb1, eA cy g1), (h2, eR hw2 hc2 hb2 a2 r2), (hw2, eW false), (hc2, eA cy f2), (hb2, eA cy g2), (ho, eO (o_L_wideFind f1 nv p1 true).2 sv)]) hP hD [0, 1, 2, 3, 4, 5, 6, 7, 8, 9] [10, 11, 12, 13, 14] rfl rfl (by decide +kernel) (by decide +kernel) hk hFc hP1 hD1
    have hP := hP.sub (ws' := [(h0, eE h1 h2 kn), (h1, eR hw1 hc1 hb1 a1 r1), (hw1, eW true), (hc1, eA cy f1), (hb1, eA cy g1), (h2, eR hw2 hc2 hb2 a2 r2), (hw2, eW false), (hc2, eA cy f2), (hb2, eA cy g2), (ho, eO (o_L_wideFind f1 nv p1 true).2 sv), (m0, eM m1 m2 th (r1 + r2) kn), (m1, eMR true mc1 a1), (mc1, eA cy f1), (m2, eMR false mc2 a2), (mc2, eA cy f2)]) [5, 6, 7, 8, 9, 10, 11, 12, 13, 14, 0, 1, 2, 3, 4] rfl
    have hD := hD.sub (ws' := [(h0, eE h1 h2 kn), (h1, eR hw1 hc1 hb1 a1 r1), (hw1, eW true), (hc1, eA cy f1), (hb1, eA cy g1), (h2, eR hw2 hc2 hb2 a2 r2), (hw2, eW false), (hc2, eA cy f2), (hb2, eA cy g2), (ho, eO (o_L_wideFind f1 nv p1 true).2 sv), (m0, eM m1 m2 th (r1 + r2) kn), (m1, eMR true mc1 a1), (mc1, eA cy f1), (m2, eMR false mc2 a2), (mc2, eA cy f2)]) [5, 6, 7, 8, 9, 10, 11, 12, 13, 14, 0, 1, 2, 3, 4] (by decide +kernel) rfl
    refine lv_istore (lv' := [(5, .int ((o_L_wideFind f1 nv p1 true).1)), (0, .ref b), (1, .ref h0), (2, .ref m0), (3, .ref ho), (4, .int (nI i))]) hx hb dL_law_1173 hl (by decide +kernel) rfl (fun ls hl => ?_)
    refine lv_aload_n hx hb dL_law_1175 rfl (lv_at hl 3 rfl) ?_
    refine lv_aload_n hx hb dL_law_1176 rfl (lv_at hl 1 rfl) ?_
    refine lv_iload hx hb dL_law_1177 (lv_at hl 5 rfl) ?_
    refine lv_iconst (v := 1) hx hb dL_law_1179 (by decide +kernel) ?_
    refine lv_iadd hx hb dL_law_1180 ?_
    rw [nI_1 i]
    refine xa_sld hx hb hX hbl hbA hS (k := i + 1) (by omega) hL hp1 dL_law_1181 ?_
    refine lv_aload_n hx hb dL_law_1182 rfl (lv_at hl 1 rfl) ?_
    refine lv_iload hx hb dL_law_1183 (lv_at hl 5 rfl) ?_
    refine lv_iconst (v := 2) hx hb dL_law_1185 (by decide +kernel) ?_
    refine lv_iadd hx hb dL_law_1186 ?_
    rw [nI_p2 i]
    refine xa_sld hx hb hX hbl hbA hS (k := i + 2) (by omega) hL hp2 dL_law_1187 ?_
    refine lv_if_eq (tgt := 1195) hx hb dL_law_1188 (by decide +kernel) (fun c9 => absurd c9 c_1) (fun c9 => ?_)
    refine lv_iconst (v := 1) hx hb dL_law_1191 (by decide +kernel) ?_
    refine lv_goto (tgt := 1196) hx hb dL_law_1192 (by decide +kernel) ?_
    have hPc := hP.sub (ws' := [(m0, eM m1 m2 th (r1 + r2) kn), (m1, eMR true mc1 a1), (mc1, eA cy f1), (m2, eMR false mc2 a2), (mc2, eA cy f2)]) [10, 11, 12, 13, 14] rfl
    have hDc := hD.sub (ws' := [(m0, eM m1 m2 th (r1 + r2) kn), (m1, eMR true mc1 a1), (mc1, eA cy f1), (m2, eMR false mc2 a2), (mc2, eA cy f2)]) [10, 11, 12, 13, 14] (by decide +kernel) rfl
    have hKc := hK.sub (tys' := [(cy, .long)]) [0] rfl
    have hFc := va_free (wc := [(m0, eM m1 m2 th (r1 + r2) kn), (m1, eMR true mc1 a1), (mc1, eA cy f1), (m2, eMR false mc2 a2), (mc2, eA cy f2)]) hD hS hA [10, 11, 12, 13, 14] rfl
    refine va_calli (va_runV (As := [.int p1, .int 1]) (rest := []) ⟨hx, hb, hml, hown, hts⟩ (k_X5_wideFind l dC dI cy m0 m1 mc1 m2 mc2 a1 f1 a2 f2 th (r1 + r2) kn H.size N p1 true) (cwV 2 hts gL_law_X5_wideFind rfl rfl rfl (by decide +kernel) ⟨Nat.le_of_ble_eq_true rfl, Nat.le_of_ble_eq_true rfl⟩) (xM.preV hKc hPc hDc hAN (Nat.le_trans hN hS.1) (hG.kept hS hAN) (ci := 7) (q0 := 0) rfl rfl) rfl rfl hl.1 rfl (lv_room (Nat.le_of_ble_eq_true rfl)) dL_law_1196 ⟨(show _ ≤ 989448 by omega), (show _ ≤ 6127760 by omega)⟩) hS (fun q _ h => hFc q h) hFc (fun r_5 u t H locs ht hvm hw hB hz hk hS => ?_)
    replace hw : r_5 = (o_X5_wideFind f1 p1 true).1 := hw
    subst r_5
    obtain ⟨hP1, hD1⟩ := hB
    rw [ht] at hP1
    obtain ⟨hP, hD⟩ := va_join (wr := [(h0, eE h1 h2 kn), (h1, eR hw1 hc1 hb1 a1 r1), (hw1, eW true), (hc1, eA cy f1), (hb1, eA cy g1), (h2, eR hw2 hc2 hb2 a2 r2), (hw2, eW false), (hc2, eA cy f2), (hb2, eA cy g2), (ho, eO (o_L_wideFind f1 nv p1 true).2 sv)]) (w1 := [(m0, eM m1 m2 (o_X5_wideFind f1 p1 true).2 (r1 + r2) kn), (m1, eMR true mc1 a1), (mc1, eA cy f1), (m2, eMR false mc2 a2), (mc2, eA cy f2)]) hP hD [10, 11, 12, 13, 14] [0, 1, 2, 3, 4, 5, 6, 7, 8, 9] rfl rfl (by decide +kernel) (by decide +kernel) hk hFc hP1 hD1
    have hP := hP.sub (ws' := [(h0, eE h1 h2 kn), (h1, eR hw1 hc1 hb1 a1 r1), (hw1, eW true), (hc1, eA cy f1), (hb1, eA cy g1), (h2, eR hw2 hc2 hb2 a2 r2), (hw2, eW false), (hc2, eA cy f2), (hb2, eA cy g2), (ho, eO (o_L_wideFind f1 nv p1 true).2 sv), (m0, eM m1 m2 (o_X5_wideFind f1 p1 true).2 (r1 + r2) kn), (m1, eMR true mc1 a1), (mc1, eA cy f1), (m2, eMR false mc2 a2), (mc2, eA cy f2)]) [0, 1, 2, 3, 4, 5, 6, 7, 8, 9, 10, 11, 12, 13, 14] rfl
    have hD := hD.sub (ws' := [(h0, eE h1 h2 kn), (h1, eR hw1 hc1 hb1 a1 r1), (hw1, eW true), (hc1, eA cy f1), (hb1, eA cy g1), (h2, eR hw2 hc2 hb2 a2 r2), (hw2, eW false), (hc2, eA cy f2), (hb2, eA cy g2), (ho, eO (o_L_wideFind f1 nv p1 true).2 sv), (m0, eM m1 m2 (o_X5_wideFind f1 p1 true).2 (r1 + r2) kn), (m1, eMR true mc1 a1), (mc1, eA cy f1), (m2, eMR false mc2 a2), (mc2, eA cy f2)]) [0, 1, 2, 3, 4, 5, 6, 7, 8, 9, 10, 11, 12, 13, 14] (by decide +kernel) rfl
    refine lv_istore (lv' := [(6, .int ((o_X5_wideFind f1 p1 true).1)), (5, .int ((o_L_wideFind f1 nv p1 true).1)), (0, .ref b), (1, .ref h0), (2, .ref m0), (3, .ref ho), (4, .int (nI i))]) hx hb dL_law_1199 hl (by decide +kernel) rfl (fun ls hl => ?_)
    refine lv_goto (tgt := 2240) hx hb dL_law_1201 (by decide +kernel) ?_
    refine W.widen (k := cells + 760) (n := slots + 4500) (by omega) (by omega) ?_
    exact K a1 r1 f1 g1 a2 r2 f2 g2 kn ((o_L_wideFind f1 nv p1 true).2) sv ((o_X5_wideFind f1 p1 true).2) a1 f1 a2 f2 (r1 + r2) kn _ _ _ rfl rfl rfl rfl rfl rfl hka1 hka2 hP hD hS (lv_sub hl [2, 3, 4, 5, 6] rfl)
set_option maxHeartbeats 4000000 in
set_option maxRecDepth 100000 in
theorem st_22 (l : Launch) (p : Program) (e : Env) (s : State) (m : MethodId) (below : List Frame) (meth : Method) (c : Code) (b L N : Nat) (xs : Nat → Int32) (A : Nat → Prop) (dC : Nat → ClassId) (dI : Nat → Nat → Nat) (cy cB : ClassId) (h0 h1 hw1 hc1 hb1 h2 hw2 hc2 hb2 ho m0 m1 mc1 m2 mc2 : Nat) (C0 : lw_C l p e s m below meth c b L N xs A dC dI cy cB) (i : Nat) (hi : i + 4 ≤ L) (p1 p2 p3 : Int32) (hp1 : xs (i + 1) = p1) (hp2 : xs (i + 2) = p2) (hp3 : xs (i + 3) = p3) (cells slots : Nat) (hcs : cells + 760 ≤ 989448) (hss : slots + 4500 ≤ 6127760) (K : lw_K l p e s m below meth c b L N xs A dC dI cy cB h0 h1 hw1 hc1 hb1 h2 hw2 hc2 hb2 ho m0 m1 mc1 m2 mc2 i (cells + 760) (slots + 4500) 2240) (a1 : Int32) (r1 : Int32) (f1 : Nat → Int64) (g1 : Nat → Int64) (a2 : Int32) (r2 : Int32) (f2 : Nat → Int64) (g2 : Nat → Int64) (kn : Int32) (nv : Int64) (sv : Value) (th : Int32) (H : Heap) (locs : List Loc) (ls : Array Slot) (hka1 : okA true f1) (hka2 : okA false f2) (hP : va_P (dC, dI) xCl [(h0, eE h1 h2 kn), (h1, eR hw1 hc1 hb1 a1 r1), (hw1, eW true), (hc1, eA cy f1), (hb1, eA cy g1), (h2, eR hw2 hc2 hb2 a2 r2), (hw2, eW false), (hc2, eA cy f2), (hb2, eA cy g2), (ho, eO nv sv), (m0, eM m1 m2 th (r1 + r2) kn), (m1, eMR true mc1 a1), (mc1, eA cy f1), (m2, eMR false mc2 a2), (mc2, eA cy f2)] H) (hD : va_D A [(h0, eE h1 h2 kn), (h1, eR hw1 hc1 hb1 a1 r1), (hw1, eW true), (hc1, eA cy f1), (hb1, eA cy g1), (h2, eR hw2 hc2 hb2 a2 r2), (hw2, eW false), (hc2, eA cy f2), (hb2, eA cy g2), (ho, eO nv sv), (m0, eM m1 m2 th (r1 + r2) kn), (m1, eMR true mc1 a1), (mc1, eA cy f1), (m2, eMR false mc2 a2), (mc2, eA cy f2)]) (hS : va_S A s.heap H locs) (hl : lv_has ls 7 [(0, .ref b), (1, .ref h0), (2, .ref m0), (3, .ref ho), (4, .int (nI i))]) : W p l e room_1 s m #[Value.ref b] below meth c H locs cells slots (lw_Z below #[Value.ref b] s) (F0 m 1204 ls []) := by
  obtain ⟨hfl, hx, hb, hr, hml, hown, hts, hX, hbl, hbA, hlocks, hK, hG, hnc, hA, hAN, hN, hL, hT, hNs⟩ := id C0
  have hok2 := me_okF hka2
  have hsp1 : ∀ k, k < 8 → o_X1_isSpoiled true (f1 k) = false := fun k hk => (hka1 k hk).2
  have hsp2 : ∀ k, k < 8 → o_X1_isSpoiled false (f2 k) = false := fun k hk => (hka2 k hk).2
  refine lv_aload_n hx hb dL_law_1204 rfl (lv_at hl 1 rfl) ?_
  refine lv_aload_n hx hb dL_law_1205 rfl (lv_at hl 0 rfl) ?_
  refine lv_iload hx hb dL_law_1206 (lv_at hl 4 rfl) ?_
  refine lv_iconst (v := 1) hx hb dL_law_1208 (by decide +kernel) ?_
  refine lv_iadd hx hb dL_law_1209 ?_
  rw [nI_1 i]
  refine xa_sld hx hb hX hbl hbA hS (k := i + 1) (by omega) hL hp1 dL_law_1210 ?_
  refine lv_aload_n hx hb dL_law_1211 rfl (lv_at hl 3 rfl) ?_
  have hPc := hP.sub (ws' := [(h0, eE h1 h2 kn), (h1, eR hw1 hc1 hb1 a1 r1), (hw1, eW true), (hc1, eA cy f1), (hb1, eA cy g1), (h2, eR hw2 hc2 hb2 a2 r2), (hw2, eW false), (hc2, eA cy f2), (hb2, eA cy g2), (ho, eO nv sv)]) [0, 1, 2, 3, 4, 5, 6, 7, 8, 9] rfl
  have hDc := hD.sub (ws' := [(h0, eE h1 h2 kn), (h1, eR hw1 hc1 hb1 a1 r1), (hw1, eW true), (hc1, eA cy f1), (hb1, eA cy g1), (h2, eR hw2 hc2 hb2 a2 r2), (hw2, eW false), (hc2, eA cy f2), (hb2, eA cy g2), (ho, eO nv sv)]) [0, 1, 2, 3, 4, 5, 6, 7, 8, 9] (by decide +kernel) rfl
  have hKc := hK.sub (tys' := [(cy, .long)]) [0] rfl
  have hFc := va_free (wc := [(h0, eE h1 h2 kn), (h1, eR hw1 hc1 hb1 a1 r1), (hw1, eW true), (hc1, eA cy f1), (hb1, eA cy g1), (h2, eR hw2 hc2 hb2 a2 r2), (hw2, eW false), (hc2, eA cy f2), (hb2, eA cy g2), (ho, eO nv sv)]) hD hS hA [0, 1, 2, 3, 4, 5, 6, 7, 8, 9] rfl
  refine va_calli (vx_runSW (As := [.ref h0, .int p1, .ref ho]) (rest := []) ⟨hx, hb, hml, hown, hts⟩ (k_L_wideHas l hfl dC dI cy h0 h1 hw1 hc1 hb1 h2 hw2 hc2 hb2 a1 r1 f1 g1 a2 r2 f2 g2 kn ho nv sv H.size N p1) (vx_cwSW 3 hts gL_law_L_wideHas rfl rfl rfl (by decide +kernel) ⟨Nat.le_of_ble_eq_true rfl, Nat.le_of_ble_eq_true rfl⟩) (xL.preS hKc hPc hDc hAN (Nat.le_trans hN hS.1) (hG.kept hS hAN) hnc) rfl rfl hl.1 rfl (lv_room (Nat.le_of_ble_eq_true rfl)) dL_law_1212 ⟨(show _ ≤ 989448 by omega), (show _ ≤ 6127760 by omega)⟩) hS (fun q _ h => hFc q h) hFc (fun r_1 u t H locs ht hvm hw hB hz hk hS => ?_)
  replace hw : r_1 = (o_L_wideHas f1 nv p1).1 := hw
  subst r_1
  obtain ⟨hP1, hD1⟩ := hB
  rw [ht] at hP1
  obtain ⟨hP, hD⟩ := va_join (wr := [(m0, eM m1 m2 th (r1 + r2) kn), (m1, eMR true mc1 a1), (mc1, eA cy f1), (m2, eMR false mc2 a2), (mc2, eA cy f2)]) (w1 := [(h0, eE h1 h2 kn), (h1, eR hw1 hc1 hb1 a1 r1), (hw1, eW true), (hc1, eA cy f1), (hb1, eA cy g1), (h2, eR hw2 hc2 hb2 a2 r2), (hw2, eW false), (hc2, eA cy f2), (hb2, eA cy g2), (ho, eO (o_L_wideHas f1 nv p1).2 sv)]) hP hD [0, 1, 2, 3, 4, 5, 6, 7, 8, 9] [10, 11, 12, 13, 14] rfl rfl (by decide +kernel) (by decide +kernel) hk hFc hP1 hD1
  have hP := hP.sub (ws' := [(h0, eE h1 h2 kn), (h1, eR hw1 hc1 hb1 a1 r1), (hw1, eW true), (hc1, eA cy f1), (hb1, eA cy g1), (h2, eR hw2 hc2 hb2 a2 r2), (hw2, eW false), (hc2, eA cy f2), (hb2, eA cy g2), (ho, eO (o_L_wideHas f1 nv p1).2 sv), (m0, eM m1 m2 th (r1 + r2) kn), (m1, eMR true mc1 a1), (mc1, eA cy f1), (m2, eMR false mc2 a2), (mc2, eA cy f2)]) [5, 6, 7, 8, 9, 10, 11, 12, 13, 14, 0, 1, 2, 3, 4] rfl
  have hD := hD.sub (ws' := [(h0, eE h1 h2 kn), (h1, eR hw1 hc1 hb1 a1 r1), (hw1, eW true), (hc1, eA cy f1), (hb1, eA cy g1), (h2, eR hw2 hc2 hb2 a2 r2), (hw2, eW false), (hc2, eA cy f2), (hb2, eA cy g2), (ho, eO (o_L_wideHas f1 nv p1).2 sv), (m0, eM m1 m2 th (r1 + r2) kn), (m1, eMR true mc1 a1), (mc1, eA cy f1), (m2, eMR false mc2 a2), (mc2, eA cy f2)]) [5, 6, 7, 8, 9, 10, 11, 12, 13, 14, 0, 1, 2, 3, 4] (by decide +kernel) rfl
  refine lv_istore (lv' := [(5, .int ((o_L_wideHas f1 nv p1).1)), (0, .ref b), (1, .ref h0), (2, .ref m0), (3, .ref ho), (4, .int (nI i))]) hx hb dL_law_1215 hl (by decide +kernel) rfl (fun ls hl => ?_)
  refine lv_aload_n hx hb dL_law_1217 rfl (lv_at hl 3 rfl) ?_
  refine lv_aload_n hx hb dL_law_1218 rfl (lv_at hl 1 rfl) ?_
  refine lv_iload hx hb dL_law_1219 (lv_at hl 5 rfl) ?_
  refine lv_iconst (v := 1) hx hb dL_law_1221 (by decide +kernel) ?_
  refine lv_iadd hx hb dL_law_1222 ?_
  rw [nI_1 i]
  refine xa_sld hx hb hX hbl hbA hS (k := i + 1) (by omega) hL hp1 dL_law_1223 ?_
  have hPc := hP.sub (ws' := [(m0, eM m1 m2 th (r1 + r2) kn), (m1, eMR true mc1 a1), (mc1, eA cy f1), (m2, eMR false mc2 a2), (mc2, eA cy f2)]) [10, 11, 12, 13, 14] rfl
  have hDc := hD.sub (ws' := [(m0, eM m1 m2 th (r1 + r2) kn), (m1, eMR true mc1 a1), (mc1, eA cy f1), (m2, eMR false mc2 a2), (mc2, eA cy f2)]) [10, 11, 12, 13, 14] (by decide +kernel) rfl
  have hKc := hK.sub (tys' := [(cy, .long)]) [0] rfl
  have hFc := va_free (wc := [(m0, eM m1 m2 th (r1 + r2) kn), (m1, eMR true mc1 a1), (mc1, eA cy f1), (m2, eMR false mc2 a2), (mc2, eA cy f2)]) hD hS hA [10, 11, 12, 13, 14] rfl
  refine va_calli (va_runV (As := [.int p1]) (rest := []) ⟨hx, hb, hml, hown, hts⟩ (k_X5_wideHas l dC dI cy m0 m1 mc1 m2 mc2 a1 f1 a2 f2 th (r1 + r2) kn H.size N p1) (cwV 1 hts gL_law_X5_wideHas rfl rfl rfl (by decide +kernel) ⟨Nat.le_of_ble_eq_true rfl, Nat.le_of_ble_eq_true rfl⟩) (xM.preV hKc hPc hDc hAN (Nat.le_trans hN hS.1) (hG.kept hS hAN) (ci := 7) (q0 := 0) rfl rfl) rfl rfl hl.1 rfl (lv_room (Nat.le_of_ble_eq_true rfl)) dL_law_1224 ⟨(show _ ≤ 989448 by omega), (show _ ≤ 6127760 by omega)⟩) hS (fun q _ h => hFc q h) hFc (fun r_2 u t H locs ht hvm hw hB hz hk hS => ?_)
  replace hw : r_2 = b2i ((o_X5_wideHas f1 p1).1) := hw
  subst r_2
  obtain ⟨hP1, hD1⟩ := hB
  rw [ht] at hP1
  obtain ⟨hP, hD⟩ := va_join (wr := [(h0, eE h1 h2 kn), (h1, eR hw1 hc1 hb1 a1 r1), (hw1, eW true), (hc1, eA cy f1), (hb1, eA cy g1), (h2, eR hw2 hc2 hb2 a2 r2), (hw2, eW false), (hc2, eA cy f2), (hb2, eA cy g2), (ho, eO (o_L_wideHas f1 nv p1).2 sv)]) (w1 := [(m0, eM m1 m2 (o_X5_wideHas f1 p1).2 (r1 + r2) kn), (m1, eMR true mc1 a1), (mc1, eA cy f1), (m2, eMR false mc2 a2), (mc2, eA cy f2)]) hP hD [10, 11, 12, 13, 14] [0, 1, 2, 3, 4, 5, 6, 7, 8, 9] rfl rfl (by decide +kernel) (by decide +kernel) hk hFc hP1 hD1
  have hP := hP.sub (ws' := [(h0, eE h1 h2 kn), (h1, eR hw1 hc1 hb1 a1 r1), (hw1, eW true), (hc1, eA cy f1), (hb1, eA cy g1), (h2, eR hw2 hc2 hb2 a2 r2), (hw2, eW false), (hc2, eA cy f2), (hb2, eA cy g2), (ho, eO (o_L_wideHas f1 nv p1).2 sv), (m0, eM m1 m2 (o_X5_wideHas f1 p1).2 (r1 + r2) kn), (m1, eMR true mc1 a1), (mc1, eA cy f1), (m2, eMR false mc2 a2), (mc2, eA cy f2)]) [0, 1, 2, 3, 4, 5, 6, 7, 8, 9, 10, 11, 12, 13, 14] rfl
  have hD := hD.sub (ws' := [(h0, eE h1 h2 kn), (h1, eR hw1 hc1 hb1 a1 r1), (hw1, eW true), (hc1, eA cy f1), (hb1, eA cy g1), (h2, eR hw2 hc2 hb2 a2 r2), (hw2, eW false), (hc2, eA cy f2), (hb2, eA cy g2), (ho, eO (o_L_wideHas f1 nv p1).2 sv), (m0, eM m1 m2 (o_X5_wideHas f1 p1).2 (r1 + r2) kn), (m1, eMR true mc1 a1), (mc1, eA cy f1), (m2, eMR false mc2 a2), (mc2, eA cy f2)]) [0, 1, 2, 3, 4, 5, 6, 7, 8, 9, 10, 11, 12, 13, 14] (by decide +kernel) rfl
  refine lv_istore (lv' := [(6, .int (b2i ((o_X5_wideHas f1 p1).1))), (5, .int ((o_L_wideHas f1 nv p1).1)), (0, .ref b), (1, .ref h0), (2, .ref m0), (3, .ref ho), (4, .int (nI i))]) hx hb dL_law_1227 hl (by decide +kernel) rfl (fun ls hl => ?_)
  refine lv_goto (tgt := 2240) hx hb dL_law_1229 (by decide +kernel) ?_
  refine W.widen (k := cells + 760) (n := slots + 4500) (by omega) (by omega) ?_
  exact K a1 r1 f1 g1 a2 r2 f2 g2 kn ((o_L_wideHas f1 nv p1).2) sv ((o_X5_wideHas f1 p1).2) a1 f1 a2 f2 (r1 + r2) kn _ _ _ rfl rfl rfl rfl rfl rfl hka1 hka2 hP hD hS (lv_sub hl [2, 3, 4, 5, 6] rfl)
set_option maxHeartbeats 4000000 in
set_option maxRecDepth 100000 in
theorem st_23 (l : Launch) (p : Program) (e : Env) (s : State) (m : MethodId) (below : List Frame) (meth : Method) (c : Code) (b L N : Nat) (xs : Nat → Int32) (A : Nat → Prop) (dC : Nat → ClassId) (dI : Nat → Nat → Nat) (cy cB : ClassId) (h0 h1 hw1 hc1 hb1 h2 hw2 hc2 hb2 ho m0 m1 mc1 m2 mc2 : Nat) (C0 : lw_C l p e s m below meth c b L N xs A dC dI cy cB) (i : Nat) (hi : i + 4 ≤ L) (p1 p2 p3 : Int32) (hp1 : xs (i + 1) = p1) (hp2 : xs (i + 2) = p2) (hp3 : xs (i + 3) = p3) (cells slots : Nat) (hcs : cells + 760 ≤ 989448) (hss : slots + 4500 ≤ 6127760) (K : lw_K l p e s m below meth c b L N xs A dC dI cy cB h0 h1 hw1 hc1 hb1 h2 hw2 hc2 hb2 ho m0 m1 mc1 m2 mc2 i (cells + 760) (slots + 4500) 2240) (a1 : Int32) (r1 : Int32) (f1 : Nat → Int64) (g1 : Nat → Int64) (a2 : Int32) (r2 : Int32) (f2 : Nat → Int64) (g2 : Nat → Int64) (kn : Int32) (nv : Int64) (sv : Value) (th : Int32) (H : Heap) (locs : List Loc) (ls : Array Slot) (hka1 : okA true f1) (hka2 : okA false f2) (hP : va_P (dC, dI) xCl [(h0, eE h1 h2 kn), (h1, eR hw1 hc1 hb1 a1 r1), (hw1, eW true), (hc1, eA cy f1), (hb1, eA cy g1), (h2, eR hw2 hc2 hb2 a2 r2), (hw2, eW false), (hc2, eA cy f2), (hb2, eA cy g2), (ho, eO nv sv), (m0, eM m1 m2 th (r1 + r2) kn), (m1, eMR true mc1 a1), (mc1, eA cy f1), (m2, eMR false mc2 a2), (mc2, eA cy f2)] H) (hD : va_D A [(h0, eE h1 h2 kn), (h1, eR hw1 hc1 hb1 a1 r1), (hw1, eW true), (hc1, eA cy f1), (hb1, eA cy g1), (h2, eR hw2 hc2 hb2 a2 r2), (hw2, eW false), (hc2, eA cy f2), (hb2, eA cy g2), (ho, eO nv sv), (m0, eM m1 m2 th (r1 + r2) kn), (m1, eMR true mc1 a1), (mc1, eA cy f1), (m2, eMR false mc2 a2), (mc2, eA cy f2)]) (hS : va_S A s.heap H locs) (hl : lv_has ls 7 [(0, .ref b), (1, .ref h0), (2, .ref m0), (3, .ref ho), (4, .int (nI i))]) : W p l e room_1 s m #[Value.ref b] below meth c H locs cells slots (lw_Z below #[Value.ref b] s) (F0 m 1232 ls []) := by
  obtain ⟨hfl, hx, hb, hr, hml, hown, hts, hX, hbl, hbA, hlocks, hK, hG, hnc, hA, hAN, hN, hL, hT, hNs⟩ := id C0
  have hok2 := me_okF hka2
  have hsp1 : ∀ k, k < 8 → o_X1_isSpoiled true (f1 k) = false := fun k hk => (hka1 k hk).2
  have hsp2 : ∀ k, k < 8 → o_X1_isSpoiled false (f2 k) = false := fun k hk => (hka2 k hk).2
  refine lv_aload_n hx hb dL_law_1232 rfl (lv_at hl 1 rfl) ?_
  refine lv_aload_n hx hb dL_law_1233 rfl (lv_at hl 0 rfl) ?_
  refine lv_iload hx hb dL_law_1234 (lv_at hl 4 rfl) ?_
  refine lv_iconst (v := 1) hx hb dL_law_1236 (by decide +kernel) ?_
  refine lv_iadd hx hb dL_law_1237 ?_
  rw [nI_1 i]
  refine xa_sld hx hb hX hbl hbA hS (k := i + 1) (by omega) hL hp1 dL_law_1238 ?_
  refine lv_aload_n hx hb dL_law_1239 rfl (lv_at hl 0 rfl) ?_
  refine lv_iload hx hb dL_law_1240 (lv_at hl 4 rfl) ?_
  refine lv_iconst (v := 2) hx hb dL_law_1242 (by decide +kernel) ?_
  refine lv_iadd hx hb dL_law_1243 ?_
  rw [nI_p2 i]
  refine xa_sld hx hb hX hbl hbA hS (k := i + 2) (by omega) hL hp2 dL_law_1244 ?_
  refine lv_aload_n hx hb dL_law_1245 rfl (lv_at hl 3 rfl) ?_
  have hPc := hP.sub (ws' := [(h0, eE h1 h2 kn), (h1, eR hw1 hc1 hb1 a1 r1), (hw1, eW true), (hc1, eA cy f1), (hb1, eA cy g1), (h2, eR hw2 hc2 hb2 a2 r2), (hw2, eW false), (hc2, eA cy f2), (hb2, eA cy g2), (ho, eO nv sv)]) [0, 1, 2, 3, 4, 5, 6, 7, 8, 9] rfl
  have hDc := hD.sub (ws' := [(h0, eE h1 h2 kn), (h1, eR hw1 hc1 hb1 a1 r1), (hw1, eW true), (hc1, eA cy f1), (hb1, eA cy g1), (h2, eR hw2 hc2 hb2 a2 r2), (hw2, eW false), (hc2, eA cy f2), (hb2, eA cy g2), (ho, eO nv sv)]) [0, 1, 2, 3, 4, 5, 6, 7, 8, 9] (by decide +kernel) rfl
  have hKc := hK.sub (tys' := [(cy, .long)]) [0] rfl
  have hFc := va_free (wc := [(h0, eE h1 h2 kn), (h1, eR hw1 hc1 hb1 a1 r1), (hw1, eW true), (hc1, eA cy f1), (hb1, eA cy g1), (h2, eR hw2 hc2 hb2 a2 r2), (hw2, eW false), (hc2, eA cy f2), (hb2, eA cy g2), (ho, eO nv sv)]) hD hS hA [0, 1, 2, 3, 4, 5, 6, 7, 8, 9] rfl
  refine va_calli (vx_runSW (As := [.ref h0, .int p1, .int p2, .ref ho]) (rest := []) ⟨hx, hb, hml, hown, hts⟩ (k_L_putNarrow l hfl dC dI cy h0 h1 hw1 hc1 hb1 h2 hw2 hc2 hb2 a1 r1 f1 g1 a2 r2 f2 g2 kn ho nv sv H.size N p1 p2) (vx_cwSW 4 hts gL_law_L_putNarrow rfl rfl rfl (by decide +kernel) ⟨Nat.le_of_ble_eq_true rfl, Nat.le_of_ble_eq_true rfl⟩) (xL.preS hKc hPc hDc hAN (Nat.le_trans hN hS.1) (hG.kept hS hAN) hnc) rfl rfl hl.1 rfl (lv_room (Nat.le_of_ble_eq_true rfl)) dL_law_1246 ⟨(show _ ≤ 989448 by omega), (show _ ≤ 6127760 by omega)⟩) hS (fun q _ h => hFc q h) hFc (fun r_1 u t H locs ht hvm hw hB hz hk hS => ?_)
  replace hw : r_1 = (o_L_putNarrow a2 r2 f2 nv p1 p2).1 := hw
  subst r_1
  obtain ⟨hP1, hD1⟩ := hB
  rw [ht] at hP1
  obtain ⟨hP, hD⟩ := va_join (wr := [(m0, eM m1 m2 th (r1 + r2) kn), (m1, eMR true mc1 a1), (mc1, eA cy f1), (m2, eMR false mc2 a2), (mc2, eA cy f2)]) (w1 := [(h0, eE h1 h2 kn), (h1, eR hw1 hc1 hb1 a1 r1), (hw1, eW true), (hc1, eA cy f1), (hb1, eA cy g1), (h2, eR hw2 hc2 hb2 (o_L_putNarrow a2 r2 f2 nv p1 p2).2.1 (o_L_putNarrow a2 r2 f2 nv p1 p2).2.2.1), (hw2, eW false), (hc2, eA cy (o_L_putNarrow a2 r2 f2 nv p1 p2).2.2.2.1), (hb2, eA cy g2), (ho, eO (o_L_putNarrow a2 r2 f2 nv p1 p2).2.2.2.2 sv)]) hP hD [0, 1, 2, 3, 4, 5, 6, 7, 8, 9] [10, 11, 12, 13, 14] rfl rfl (by decide +kernel) (by decide +kernel) hk hFc hP1 hD1
  have hP := hP.sub (ws' := [(h0, eE h1 h2 kn), (h1, eR hw1 hc1 hb1 a1 r1), (hw1, eW true), (hc1, eA cy f1), (hb1, eA cy g1), (h2, eR hw2 hc2 hb2 (o_L_putNarrow a2 r2 f2 nv p1 p2).2.1 (o_L_putNarrow a2 r2 f2 nv p1 p2).2.2.1), (hw2, eW false), (hc2, eA cy (o_L_putNarrow a2 r2 f2 nv p1 p2).2.2.2.1), (hb2, eA cy g2), (ho, eO (o_L_putNarrow a2 r2 f2 nv p1 p2).2.2.2.2 sv), (m0, eM m1 m2 th (r1 + r2) kn), (m1, eMR true mc1 a1), (mc1, eA cy f1), (m2, eMR false mc2 a2), (mc2, eA cy f2)]) [5, 6, 7, 8, 9, 10, 11, 12, 13, 14, 0, 1, 2, 3, 4] rfl
  have hD := hD.sub (ws' := [(h0, eE h1 h2 kn), (h1, eR hw1 hc1 hb1 a1 r1), (hw1, eW true), (hc1, eA cy f1), (hb1, eA cy g1), (h2, eR hw2 hc2 hb2 (o_L_putNarrow a2 r2 f2 nv p1 p2).2.1 (o_L_putNarrow a2 r2 f2 nv p1 p2).2.2.1), (hw2, eW false), (hc2, eA cy (o_L_putNarrow a2 r2 f2 nv p1 p2).2.2.2.1), (hb2, eA cy g2), (ho, eO (o_L_putNarrow a2 r2 f2 nv p1 p2).2.2.2.2 sv), (m0, eM m1 m2 th (r1 + r2) kn), (m1, eMR true mc1 a1), (mc1, eA cy f1), (m2, eMR false mc2 a2), (mc2, eA cy f2)]) [5, 6, 7, 8, 9, 10, 11, 12, 13, 14, 0, 1, 2, 3, 4] (by decide +kernel) rfl
  refine lv_istore (lv' := [(5, .int ((o_L_putNarrow a2 r2 f2 nv p1 p2).1)), (0, .ref b), (1, .ref h0), (2, .ref m0), (3, .ref ho), (4, .int (nI i))]) hx hb dL_law_1249 hl (by decide +kernel) rfl (fun ls hl => ?_)
  refine lv_aload_n hx hb dL_law_1251 rfl (lv_at hl 3 rfl) ?_
  refine lv_aload_n hx hb dL_law_1252 rfl (lv_at hl 1 rfl) ?_
  refine lv_iload hx hb dL_law_1253 (lv_at hl 5 rfl) ?_
  refine lv_iconst (v := 1) hx hb dL_law_1255 (by decide +kernel) ?_
  refine lv_iadd hx hb dL_law_1256 ?_
  rw [nI_1 i]
  refine xa_sld hx hb hX hbl hbA hS (k := i + 1) (by omega) hL hp1 dL_law_1257 ?_
  refine lv_aload_n hx hb dL_law_1258 rfl (lv_at hl 1 rfl) ?_
  refine lv_iload hx hb dL_law_1259 (lv_at hl 5 rfl) ?_
  refine lv_iconst (v := 2) hx hb dL_law_1261 (by decide +kernel) ?_
  refine lv_iadd hx hb dL_law_1262 ?_
  rw [nI_p2 i]
  refine xa_sld hx hb hX hbl hbA hS (k := i + 2) (by omega) hL hp2 dL_law_1263 ?_
  have hPc := hP.sub (ws' := [(m0, eM m1 m2 th (r1 + r2) kn), (m1, eMR true mc1 a1), (mc1, eA cy f1), (m2, eMR false mc2 a2), (mc2, eA cy f2)]) [10, 11, 12, 13, 14] rfl
  have hDc := hD.sub (ws' := [(m0, eM m1 m2 th (r1 + r2) kn), (m1, eMR true mc1 a1), (mc1, eA cy f1), (m2, eMR false mc2 a2), (mc2, eA cy f2)]) [10, 11, 12, 13, 14] (by decide +kernel) rfl
  have hKc := hK.sub (tys' := [(cy, .long)]) [0] rfl
  have hFc := va_free (wc := [(m0, eM m1 m2 th (r1 + r2) kn), (m1, eMR true mc1 a1), (mc1, eA cy f1), (m2, eMR false mc2 a2), (mc2, eA cy f2)]) hD hS hA [10, 11, 12, 13, 14] rfl
  refine va_calli (va_runV (As := [.int p1, .int p2]) (rest := []) ⟨hx, hb, hml, hown, hts⟩ (k_X5_putNarrow l dC dI cy m0 m1 mc1 m2 mc2 a1 f1 a2 f2 th (r1 + r2) kn H.size N p1 p2) (cwV 2 hts gL_law_X5_putNarrow rfl rfl rfl (by decide +kernel) ⟨Nat.le_of_ble_eq_true rfl, Nat.le_of_ble_eq_true rfl⟩) (xM.preV hKc hPc hDc hAN (Nat.le_trans hN hS.1) (hG.kept hS hAN) (ci := 7) (q0 := 0) rfl rfl) rfl rfl hl.1 rfl (lv_room (Nat.le_of_ble_eq_true rfl)) dL_law_1264 ⟨(show _ ≤ 989448 by omega), (show _ ≤ 6127760 by omega)⟩) hS (fun q _ h => hFc q h) hFc (fun r_2 u t H locs ht hvm hw hB hz hk hS => ?_)
  replace hw : r_2 = (o_X5_putNarrow a2 f2 (r1 + r2) p1 p2).1 := hw
  subst r_2
  obtain ⟨hP1, hD1⟩ := hB
  rw [ht] at hP1
  obtain ⟨hP, hD⟩ := va_join (wr := [(h0, eE h1 h2 kn), (h1, eR hw1 hc1 hb1 a1 r1), (hw1, eW true), (hc1, eA cy f1), (hb1, eA cy g1), (h2, eR hw2 hc2 hb2 (o_L_putNarrow a2 r2 f2 nv p1 p2).2.1 (o_L_putNarrow a2 r2 f2 nv p1 p2).2.2.1), (hw2, eW false), (hc2, eA cy (o_L_putNarrow a2 r2 f2 nv p1 p2).2.2.2.1), (hb2, eA cy g2), (ho, eO (o_L_putNarrow a2 r2 f2 nv p1 p2).2.2.2.2 sv)]) (w1 := [(m0, eM m1 m2 (o_X5_putNarrow a2 f2 (r1 + r2) p1 p2).2.2.2.1 (o_X5_putNarrow a2 f2 (r1 + r2) p1 p2).2.2.2.2 kn), (m1, eMR true mc1 a1), (mc1, eA cy f1), (m2, eMR false mc2 (o_X5_putNarrow a2 f2 (r1 + r2) p1 p2).2.1), (mc2, eA cy (o_X5_putNarrow a2 f2 (r1 + r2) p1 p2).2.2.1)]) hP hD [10, 11, 12, 13, 14] [0, 1, 2, 3, 4, 5, 6, 7, 8, 9] rfl rfl (by decide +kernel) (by decide +kernel) hk hFc hP1 hD1
  have hP := hP.sub (ws' := [(h0, eE h1 h2 kn), (h1, eR hw1 hc1 hb1 a1 r1), (hw1, eW true), (hc1, eA cy f1), (hb1, eA cy g1), (h2, eR hw2 hc2 hb2 (o_L_putNarrow a2 r2 f2 nv p1 p2).2.1 (o_L_putNarrow a2 r2 f2 nv p1 p2).2.2.1), (hw2, eW false), (hc2, eA cy (o_L_putNarrow a2 r2 f2 nv p1 p2).2.2.2.1), (hb2, eA cy g2), (ho, eO (o_L_putNarrow a2 r2 f2 nv p1 p2).2.2.2.2 sv), (m0, eM m1 m2 (o_X5_putNarrow a2 f2 (r1 + r2) p1 p2).2.2.2.1 (o_X5_putNarrow a2 f2 (r1 + r2) p1 p2).2.2.2.2 kn), (m1, eMR true mc1 a1), (mc1, eA cy f1), (m2, eMR false mc2 (o_X5_putNarrow a2 f2 (r1 + r2) p1 p2).2.1), (mc2, eA cy (o_X5_putNarrow a2 f2 (r1 + r2) p1 p2).2.2.1)]) [0, 1, 2, 3, 4, 5, 6, 7, 8, 9, 10, 11, 12, 13, 14] rfl
  have hD := hD.sub (ws' := [(h0, eE h1 h2 kn), (h1, eR hw1 hc1 hb1 a1 r1), (hw1, eW true), (hc1, eA cy f1), (hb1, eA cy g1), (h2, eR hw2 hc2 hb2 (o_L_putNarrow a2 r2 f2 nv p1 p2).2.1 (o_L_putNarrow a2 r2 f2 nv p1 p2).2.2.1), (hw2, eW false), (hc2, eA cy (o_L_putNarrow a2 r2 f2 nv p1 p2).2.2.2.1), (hb2, eA cy g2), (ho, eO (o_L_putNarrow a2 r2 f2 nv p1 p2).2.2.2.2 sv), (m0, eM m1 m2 (o_X5_putNarrow a2 f2 (r1 + r2) p1 p2).2.2.2.1 (o_X5_putNarrow a2 f2 (r1 + r2) p1 p2).2.2.2.2 kn), (m1, eMR true mc1 a1), (mc1, eA cy f1), (m2, eMR false mc2 (o_X5_putNarrow a2 f2 (r1 + r2) p1 p2).2.1), (mc2, eA cy (o_X5_putNarrow a2 f2 (r1 + r2) p1 p2).2.2.1)]) [0, 1, 2, 3, 4, 5, 6, 7, 8, 9, 10, 11, 12, 13, 14] (by decide +kernel) rfl
  refine lv_istore (lv' := [(6, .int ((o_X5_putNarrow a2 f2 (r1 + r2) p1 p2).1)), (5, .int ((o_L_putNarrow a2 r2 f2 nv p1 p2).1)), (0, .ref b), (1, .ref h0), (2, .ref m0), (3, .ref ho), (4, .int (nI i))]) hx hb dL_law_1267 hl (by decide +kernel) rfl (fun ls hl => ?_)
  refine lv_goto (tgt := 2240) hx hb dL_law_1269 (by decide +kernel) ?_
  refine W.widen (k := cells + 760) (n := slots + 4500) (by omega) (by omega) ?_
  have qe_b2 : (o_X5_putNarrow a2 f2 (r1 + r2) p1 p2).2.1 = (o_L_putNarrow a2 r2 f2 nv p1 p2).2.1 := (by have hm := ml_putNarrow a2 r2 r1 nv p1 p2 hka2; rw [Int32.add_comm r2 r1] at hm; exact hm.2.1.symm)
  have qe_e2 : (o_X5_putNarrow a2 f2 (r1 + r2) p1 p2).2.2.1 = (o_L_putNarrow a2 r2 f2 nv p1 p2).2.2.2.1 := (by have hm := ml_putNarrow a2 r2 r1 nv p1 p2 hka2; rw [Int32.add_comm r2 r1] at hm; exact hm.2.2.2.1.symm)
  have qe_rf : (o_X5_putNarrow a2 f2 (r1 + r2) p1 p2).2.2.2.2 = r1 + (o_L_putNarrow a2 r2 f2 nv p1 p2).2.2.1 := (by have hm := ml_putNarrow a2 r2 r1 nv p1 p2 hka2; rw [Int32.add_comm r2 r1] at hm; exact hm.2.2.1.symm.trans (Int32.add_comm _ _))
  have qk_2 : okA false ((o_L_putNarrow a2 r2 f2 nv p1 p2).2.2.2.1) := (by have hm := ml_putNarrow a2 r2 r1 nv p1 p2 hka2; rw [Int32.add_comm r2 r1] at hm; rw [hm.2.2.2.1]; exact hm.2.2.2.2.2)
  exact K a1 r1 f1 g1 ((o_L_putNarrow a2 r2 f2 nv p1 p2).2.1) ((o_L_putNarrow a2 r2 f2 nv p1 p2).2.2.1) ((o_L_putNarrow a2 r2 f2 nv p1 p2).2.2.2.1) g2 kn ((o_L_putNarrow a2 r2 f2 nv p1 p2).2.2.2.2) sv ((o_X5_putNarrow a2 f2 (r1 + r2) p1 p2).2.2.2.1) a1 f1 ((o_X5_putNarrow a2 f2 (r1 + r2) p1 p2).2.1) ((o_X5_putNarrow a2 f2 (r1 + r2) p1 p2).2.2.1) ((o_X5_putNarrow a2 f2 (r1 + r2) p1 p2).2.2.2.2) kn _ _ _ rfl rfl qe_b2 qe_e2 qe_rf rfl hka1 qk_2 hP hD hS (lv_sub hl [2, 3, 4, 5, 6] rfl)
set_option maxHeartbeats 4000000 in
set_option maxRecDepth 100000 in
theorem st_24 (l : Launch) (p : Program) (e : Env) (s : State) (m : MethodId) (below : List Frame) (meth : Method) (c : Code) (b L N : Nat) (xs : Nat → Int32) (A : Nat → Prop) (dC : Nat → ClassId) (dI : Nat → Nat → Nat) (cy cB : ClassId) (h0 h1 hw1 hc1 hb1 h2 hw2 hc2 hb2 ho m0 m1 mc1 m2 mc2 : Nat) (C0 : lw_C l p e s m below meth c b L N xs A dC dI cy cB) (i : Nat) (hi : i + 4 ≤ L) (p1 p2 p3 : Int32) (hp1 : xs (i + 1) = p1) (hp2 : xs (i + 2) = p2) (hp3 : xs (i + 3) = p3) (cells slots : Nat) (hcs : cells + 760 ≤ 989448) (hss : slots + 4500 ≤ 6127760) (K : lw_K l p e s m below meth c b L N xs A dC dI cy cB h0 h1 hw1 hc1 hb1 h2 hw2 hc2 hb2 ho m0 m1 mc1 m2 mc2 i (cells + 760) (slots + 4500) 2240) (a1 : Int32) (r1 : Int32) (f1 : Nat → Int64) (g1 : Nat → Int64) (a2 : Int32) (r2 : Int32) (f2 : Nat → Int64) (g2 : Nat → Int64) (kn : Int32) (nv : Int64) (sv : Value) (th : Int32) (H : Heap) (locs : List Loc) (ls : Array Slot) (hka1 : okA true f1) (hka2 : okA false f2) (hP : va_P (dC, dI) xCl [(h0, eE h1 h2 kn), (h1, eR hw1 hc1 hb1 a1 r1), (hw1, eW true), (hc1, eA cy f1), (hb1, eA cy g1), (h2, eR hw2 hc2 hb2 a2 r2), (hw2, eW false), (hc2, eA cy f2), (hb2, eA cy g2), (ho, eO nv sv), (m0, eM m1 m2 th (r1 + r2) kn), (m1, eMR true mc1 a1), (mc1, eA cy f1), (m2, eMR false mc2 a2), (mc2, eA cy f2)] H) (hD : va_D A [(h0, eE h1 h2 kn), (h1, eR hw1 hc1 hb1 a1 r1), (hw1, eW true), (hc1, eA cy f1), (hb1, eA cy g1), (h2, eR hw2 hc2 hb2 a2 r2), (hw2, eW false), (hc2, eA cy f2), (hb2, eA cy g2), (ho, eO nv sv), (m0, eM m1 m2 th (r1 + r2) kn), (m1, eMR true mc1 a1), (mc1, eA cy f1), (m2, eMR false mc2 a2), (mc2, eA cy f2)]) (hS : va_S A s.heap H locs) (hl : lv_has ls 7 [(0, .ref b), (1, .ref h0), (2, .ref m0), (3, .ref ho), (4, .int (nI i))]) : W p l e room_1 s m #[Value.ref b] below meth c H locs cells slots (lw_Z below #[Value.ref b] s) (F0 m 1272 ls []) := by
  obtain ⟨hfl, hx, hb, hr, hml, hown, hts, hX, hbl, hbA, hlocks, hK, hG, hnc, hA, hAN, hN, hL, hT, hNs⟩ := id C0
  have hok2 := me_okF hka2
  have hsp1 : ∀ k, k < 8 → o_X1_isSpoiled true (f1 k) = false := fun k hk => (hka1 k hk).2
  have hsp2 : ∀ k, k < 8 → o_X1_isSpoiled false (f2 k) = false := fun k hk => (hka2 k hk).2
  refine lv_aload_n hx hb dL_law_1272 rfl (lv_at hl 1 rfl) ?_
  refine lv_aload_n hx hb dL_law_1273 rfl (lv_at hl 0 rfl) ?_
  refine lv_iload hx hb dL_law_1274 (lv_at hl 4 rfl) ?_
  refine lv_iconst (v := 1) hx hb dL_law_1276 (by decide +kernel) ?_
  refine lv_iadd hx hb dL_law_1277 ?_
  rw [nI_1 i]
  refine xa_sld hx hb hX hbl hbA hS (k := i + 1) (by omega) hL hp1 dL_law_1278 ?_
  refine lv_aload_n hx hb dL_law_1279 rfl (lv_at hl 0 rfl) ?_
  refine lv_iload hx hb dL_law_1280 (lv_at hl 4 rfl) ?_
  refine lv_iconst (v := 2) hx hb dL_law_1282 (by decide +kernel) ?_
  refine lv_iadd hx hb dL_law_1283 ?_
  rw [nI_p2 i]
  refine xa_sld hx hb hX hbl hbA hS (k := i + 2) (by omega) hL hp2 dL_law_1284 ?_
  refine lv_aload_n hx hb dL_law_1285 rfl (lv_at hl 3 rfl) ?_
  have hPc := hP.sub (ws' := [(h0, eE h1 h2 kn), (h1, eR hw1 hc1 hb1 a1 r1), (hw1, eW true), (hc1, eA cy f1), (hb1, eA cy g1), (h2, eR hw2 hc2 hb2 a2 r2), (hw2, eW false), (hc2, eA cy f2), (hb2, eA cy g2), (ho, eO nv sv)]) [0, 1, 2, 3, 4, 5, 6, 7, 8, 9] rfl
  have hDc := hD.sub (ws' := [(h0, eE h1 h2 kn), (h1, eR hw1 hc1 hb1 a1 r1), (hw1, eW true), (hc1, eA cy f1), (hb1, eA cy g1), (h2, eR hw2 hc2 hb2 a2 r2), (hw2, eW false), (hc2, eA cy f2), (hb2, eA cy g2), (ho, eO nv sv)]) [0, 1, 2, 3, 4, 5, 6, 7, 8, 9] (by decide +kernel) rfl
  have hKc := hK.sub (tys' := [(cy, .long)]) [0] rfl
  have hFc := va_free (wc := [(h0, eE h1 h2 kn), (h1, eR hw1 hc1 hb1 a1 r1), (hw1, eW true), (hc1, eA cy f1), (hb1, eA cy g1), (h2, eR hw2 hc2 hb2 a2 r2), (hw2, eW false), (hc2, eA cy f2), (hb2, eA cy g2), (ho, eO nv sv)]) hD hS hA [0, 1, 2, 3, 4, 5, 6, 7, 8, 9] rfl
  refine va_calli (vx_runSW (As := [.ref h0, .int p1, .int p2, .ref ho]) (rest := []) ⟨hx, hb, hml, hown, hts⟩ (k_L_narrowQuarters l hfl dC dI cy h0 h1 hw1 hc1 hb1 h2 hw2 hc2 hb2 a1 r1 f1 g1 a2 r2 f2 g2 kn ho nv sv H.size N p1 p2) (vx_cwSW 4 hts gL_law_L_narrowQuarters rfl rfl rfl (by decide +kernel) ⟨Nat.le_of_ble_eq_true rfl, Nat.le_of_ble_eq_true rfl⟩) (xL.preS hKc hPc hDc hAN (Nat.le_trans hN hS.1) (hG.kept hS hAN) hnc) rfl rfl hl.1 rfl (lv_room (Nat.le_of_ble_eq_true rfl)) dL_law_1286 ⟨(show _ ≤ 989448 by omega), (show _ ≤ 6127760 by omega)⟩) hS (fun q _ h => hFc q h) hFc (fun r_1 u t H locs ht hvm hw hB hz hk hS => ?_)
  replace hw : r_1 = (o_L_narrowQuarters a2 f2 nv p1 p2).1 := hw
  subst r_1
  obtain ⟨hP1, hD1⟩ := hB
  rw [ht] at hP1
  obtain ⟨hP, hD⟩ := va_join (wr := [(m0, eM m1 m2 th (r1 + r2) kn), (m1, eMR true mc1 a1), (mc1, eA cy f1), (m2, eMR false mc2 a2), (mc2, eA cy f2)]) (w1 := [(h0, eE h1 h2 kn), (h1, eR hw1 hc1 hb1 a1 r1), (hw1, eW true), (hc1, eA cy f1), (hb1, eA cy g1), (h2, eR hw2 hc2 hb2 (o_L_narrowQuarters a2 f2 nv p1 p2).2.1 r2), (hw2, eW false), (hc2, eA cy (o_L_narrowQuarters a2 f2 nv p1 p2).2.2.1), (hb2, eA cy g2), (ho, eO (o_L_narrowQuarters a2 f2 nv p1 p2).2.2.2 sv)]) hP hD [0, 1, 2, 3, 4, 5, 6, 7, 8, 9] [10, 11, 12, 13, 14] rfl rfl (by decide +kernel) (by decide +kernel) hk hFc hP1 hD1
  have hP := hP.sub (ws' := [(h0, eE h1 h2 kn), (h1, eR hw1 hc1 hb1 a1 r1), (hw1, eW true), (hc1, eA cy f1), (hb1, eA cy g1), (h2, eR hw2 hc2 hb2 (o_L_narrowQuarters a2 f2 nv p1 p2).2.1 r2), (hw2, eW false), (hc2, eA cy (o_L_narrowQuarters a2 f2 nv p1 p2).2.2.1), (hb2, eA cy g2), (ho, eO (o_L_narrowQuarters a2 f2 nv p1 p2).2.2.2 sv), (m0, eM m1 m2 th (r1 + r2) kn), (m1, eMR true mc1 a1), (mc1, eA cy f1), (m2, eMR false mc2 a2), (mc2, eA cy f2)]) [5, 6, 7, 8, 9, 10, 11, 12, 13, 14, 0, 1, 2, 3, 4] rfl
  have hD := hD.sub (ws' := [(h0, eE h1 h2 kn), (h1, eR hw1 hc1 hb1 a1 r1), (hw1, eW true), (hc1, eA cy f1), (hb1, eA cy g1), (h2, eR hw2 hc2 hb2 (o_L_narrowQuarters a2 f2 nv p1 p2).2.1 r2), (hw2, eW false), (hc2, eA cy (o_L_narrowQuarters a2 f2 nv p1 p2).2.2.1), (hb2, eA cy g2), (ho, eO (o_L_narrowQuarters a2 f2 nv p1 p2).2.2.2 sv), (m0, eM m1 m2 th (r1 + r2) kn), (m1, eMR true mc1 a1), (mc1, eA cy f1), (m2, eMR false mc2 a2), (mc2, eA cy f2)]) [5, 6, 7, 8, 9, 10, 11, 12, 13, 14, 0, 1, 2, 3, 4] (by decide +kernel) rfl
  refine lv_istore (lv' := [(5, .int ((o_L_narrowQuarters a2 f2 nv p1 p2).1)), (0, .ref b), (1, .ref h0), (2, .ref m0), (3, .ref ho), (4, .int (nI i))]) hx hb dL_law_1289 hl (by decide +kernel) rfl (fun ls hl => ?_)
  refine lv_aload_n hx hb dL_law_1291 rfl (lv_at hl 3 rfl) ?_
  refine lv_aload_n hx hb dL_law_1292 rfl (lv_at hl 1 rfl) ?_
  refine lv_iload hx hb dL_law_1293 (lv_at hl 5 rfl) ?_
  refine lv_iconst (v := 1) hx hb dL_law_1295 (by decide +kernel) ?_
  refine lv_iadd hx hb dL_law_1296 ?_
  rw [nI_1 i]
  refine xa_sld hx hb hX hbl hbA hS (k := i + 1) (by omega) hL hp1 dL_law_1297 ?_
  refine lv_aload_n hx hb dL_law_1298 rfl (lv_at hl 1 rfl) ?_
  refine lv_iload hx hb dL_law_1299 (lv_at hl 5 rfl) ?_
  refine lv_iconst (v := 2) hx hb dL_law_1301 (by decide +kernel) ?_
  refine lv_iadd hx hb dL_law_1302 ?_
  rw [nI_p2 i]
  refine xa_sld hx hb hX hbl hbA hS (k := i + 2) (by omega) hL hp2 dL_law_1303 ?_
  have hPc := hP.sub (ws' := [(m0, eM m1 m2 th (r1 + r2) kn), (m1, eMR true mc1 a1), (mc1, eA cy f1), (m2, eMR false mc2 a2), (mc2, eA cy f2)]) [10, 11, 12, 13, 14] rfl
  have hDc := hD.sub (ws' := [(m0, eM m1 m2 th (r1 + r2) kn), (m1, eMR true mc1 a1), (mc1, eA cy f1), (m2, eMR false mc2 a2), (mc2, eA cy f2)]) [10, 11, 12, 13, 14] (by decide +kernel) rfl
  have hKc := hK.sub (tys' := [(cy, .long)]) [0] rfl
  have hFc := va_free (wc := [(m0, eM m1 m2 th (r1 + r2) kn), (m1, eMR true mc1 a1), (mc1, eA cy f1), (m2, eMR false mc2 a2), (mc2, eA cy f2)]) hD hS hA [10, 11, 12, 13, 14] rfl
  refine va_calli (va_runV (As := [.int p1, .int p2]) (rest := []) ⟨hx, hb, hml, hown, hts⟩ (k_X5_narrowQuarters l dC dI cy m0 m1 mc1 m2 mc2 a1 f1 a2 f2 th (r1 + r2) kn H.size N p1 p2) (cwV 2 hts gL_law_X5_narrowQuarters rfl rfl rfl (by decide +kernel) ⟨Nat.le_of_ble_eq_true rfl, Nat.le_of_ble_eq_true rfl⟩) (xM.preV hKc hPc hDc hAN (Nat.le_trans hN hS.1) (hG.kept hS hAN) (ci := 7) (q0 := 0) rfl rfl) rfl rfl hl.1 rfl (lv_room (Nat.le_of_ble_eq_true rfl)) dL_law_1304 ⟨(show _ ≤ 989448 by omega), (show _ ≤ 6127760 by omega)⟩) hS (fun q _ h => hFc q h) hFc (fun r_2 u t H locs ht hvm hw hB hz hk hS => ?_)
  replace hw : r_2 = (o_X5_narrowQuarters a2 f2 p1 p2).1 := hw
  subst r_2
  obtain ⟨hP1, hD1⟩ := hB
  rw [ht] at hP1
  obtain ⟨hP, hD⟩ := va_join (wr := [(h0, eE h1 h2 kn), (h1, eR hw1 hc1 hb1 a1 r1), (hw1, eW true), (hc1, eA cy f1), (hb1, eA cy g1), (h2, eR hw2 hc2 hb2 (o_L_narrowQuarters a2 f2 nv p1 p2).2.1 r2), (hw2, eW false), (hc2, eA cy (o_L_narrowQuarters a2 f2 nv p1 p2).2.2.1), (hb2, eA cy g2), (ho, eO (o_L_narrowQuarters a2 f2 nv p1 p2).2.2.2 sv)]) (w1 := [(m0, eM m1 m2 (o_X5_narrowQuarters a2 f2 p1 p2).2.2.2 (r1 + r2) kn), (m1, eMR true mc1 a1), (mc1, eA cy f1), (m2, eMR false mc2 (o_X5_narrowQuarters a2 f2 p1 p2).2.1), (mc2, eA cy (o_X5_narrowQuarters a2 f2 p1 p2).2.2.1)]) hP hD [10, 11, 12, 13, 14] [0, 1, 2, 3, 4, 5, 6, 7, 8, 9] rfl rfl (by decide +kernel) (by decide +kernel) hk hFc hP1 hD1
  have hP := hP.sub (ws' := [(h0, eE h1 h2 kn), (h1, eR hw1 hc1 hb1 a1 r1), (hw1, eW true), (hc1, eA cy f1), (hb1, eA cy g1), (h2, eR hw2 hc2 hb2 (o_L_narrowQuarters a2 f2 nv p1 p2).2.1 r2), (hw2, eW false), (hc2, eA cy (o_L_narrowQuarters a2 f2 nv p1 p2).2.2.1), (hb2, eA cy g2), (ho, eO (o_L_narrowQuarters a2 f2 nv p1 p2).2.2.2 sv), (m0, eM m1 m2 (o_X5_narrowQuarters a2 f2 p1 p2).2.2.2 (r1 + r2) kn), (m1, eMR true mc1 a1), (mc1, eA cy f1), (m2, eMR false mc2 (o_X5_narrowQuarters a2 f2 p1 p2).2.1), (mc2, eA cy (o_X5_narrowQuarters a2 f2 p1 p2).2.2.1)]) [0, 1, 2, 3, 4, 5, 6, 7, 8, 9, 10, 11, 12, 13, 14] rfl
  have hD := hD.sub (ws' := [(h0, eE h1 h2 kn), (h1, eR hw1 hc1 hb1 a1 r1), (hw1, eW true), (hc1, eA cy f1), (hb1, eA cy g1), (h2, eR hw2 hc2 hb2 (o_L_narrowQuarters a2 f2 nv p1 p2).2.1 r2), (hw2, eW false), (hc2, eA cy (o_L_narrowQuarters a2 f2 nv p1 p2).2.2.1), (hb2, eA cy g2), (ho, eO (o_L_narrowQuarters a2 f2 nv p1 p2).2.2.2 sv), (m0, eM m1 m2 (o_X5_narrowQuarters a2 f2 p1 p2).2.2.2 (r1 + r2) kn), (m1, eMR true mc1 a1), (mc1, eA cy f1), (m2, eMR false mc2 (o_X5_narrowQuarters a2 f2 p1 p2).2.1), (mc2, eA cy (o_X5_narrowQuarters a2 f2 p1 p2).2.2.1)]) [0, 1, 2, 3, 4, 5, 6, 7, 8, 9, 10, 11, 12, 13, 14] (by decide +kernel) rfl
  refine lv_istore (lv' := [(6, .int ((o_X5_narrowQuarters a2 f2 p1 p2).1)), (5, .int ((o_L_narrowQuarters a2 f2 nv p1 p2).1)), (0, .ref b), (1, .ref h0), (2, .ref m0), (3, .ref ho), (4, .int (nI i))]) hx hb dL_law_1307 hl (by decide +kernel) rfl (fun ls hl => ?_)
  refine lv_goto (tgt := 2240) hx hb dL_law_1309 (by decide +kernel) ?_
  refine W.widen (k := cells + 760) (n := slots + 4500) (by omega) (by omega) ?_
  have qe_b2 : (o_X5_narrowQuarters a2 f2 p1 p2).2.1 = (o_L_narrowQuarters a2 f2 nv p1 p2).2.1 := (by have hm := ml_narrowQuarters a2 nv p1 p2 hka2; rw [hm.1] <;> rfl)
  have qe_e2 : (o_X5_narrowQuarters a2 f2 p1 p2).2.2.1 = (o_L_narrowQuarters a2 f2 nv p1 p2).2.2.1 := (by have hm := ml_narrowQuarters a2 nv p1 p2 hka2; rw [hm.1] <;> rfl)
  have qk_2 : okA false ((o_L_narrowQuarters a2 f2 nv p1 p2).2.2.1) := (by have hm := ml_narrowQuarters a2 nv p1 p2 hka2; rw [hm.1]; exact hm.2)
  exact K a1 r1 f1 g1 ((o_L_narrowQuarters a2 f2 nv p1 p2).2.1) r2 ((o_L_narrowQuarters a2 f2 nv p1 p2).2.2.1) g2 kn ((o_L_narrowQuarters a2 f2 nv p1 p2).2.2.2) sv ((o_X5_narrowQuarters a2 f2 p1 p2).2.2.2) a1 f1 ((o_X5_narrowQuarters a2 f2 p1 p2).2.1) ((o_X5_narrowQuarters a2 f2 p1 p2).2.2.1) (r1 + r2) kn _ _ _ rfl rfl qe_b2 qe_e2 rfl rfl hka1 qk_2 hP hD hS (lv_sub hl [2, 3, 4, 5, 6] rfl)
set_option maxHeartbeats 4000000 in
set_option maxRecDepth 100000 in
theorem st_25 (l : Launch) (p : Program) (e : Env) (s : State) (m : MethodId) (below : List Frame) (meth : Method) (c : Code) (b L N : Nat) (xs : Nat → Int32) (A : Nat → Prop) (dC : Nat → ClassId) (dI : Nat → Nat → Nat) (cy cB : ClassId) (h0 h1 hw1 hc1 hb1 h2 hw2 hc2 hb2 ho m0 m1 mc1 m2 mc2 : Nat) (C0 : lw_C l p e s m below meth c b L N xs A dC dI cy cB) (i : Nat) (hi : i + 4 ≤ L) (p1 p2 p3 : Int32) (hp1 : xs (i + 1) = p1) (hp2 : xs (i + 2) = p2) (hp3 : xs (i + 3) = p3) (cells slots : Nat) (hcs : cells + 760 ≤ 989448) (hss : slots + 4500 ≤ 6127760) (K : lw_K l p e s m below meth c b L N xs A dC dI cy cB h0 h1 hw1 hc1 hb1 h2 hw2 hc2 hb2 ho m0 m1 mc1 m2 mc2 i (cells + 760) (slots + 4500) 2240) (a1 : Int32) (r1 : Int32) (f1 : Nat → Int64) (g1 : Nat → Int64) (a2 : Int32) (r2 : Int32) (f2 : Nat → Int64) (g2 : Nat → Int64) (kn : Int32) (nv : Int64) (sv : Value) (th : Int32) (H : Heap) (locs : List Loc) (ls : Array Slot) (hka1 : okA true f1) (hka2 : okA false f2) (hP : va_P (dC, dI) xCl [(h0, eE h1 h2 kn), (h1, eR hw1 hc1 hb1 a1 r1), (hw1, eW true), (hc1, eA cy f1), (hb1, eA cy g1), (h2, eR hw2 hc2 hb2 a2 r2), (hw2, eW false), (hc2, eA cy f2), (hb2, eA cy g2), (ho, eO nv sv), (m0, eM m1 m2 th (r1 + r2) kn), (m1, eMR true mc1 a1), (mc1, eA cy f1), (m2, eMR false mc2 a2), (mc2, eA cy f2)] H) (hD : va_D A [(h0, eE h1 h2 kn), (h1, eR hw1 hc1 hb1 a1 r1), (hw1, eW true), (hc1, eA cy f1), (hb1, eA cy g1), (h2, eR hw2 hc2 hb2 a2 r2), (hw2, eW false), (hc2, eA cy f2), (hb2, eA cy g2), (ho, eO nv sv), (m0, eM m1 m2 th (r1 + r2) kn), (m1, eMR true mc1 a1), (mc1, eA cy f1), (m2, eMR false mc2 a2), (mc2, eA cy f2)]) (hS : va_S A s.heap H locs) (hl : lv_has ls 7 [(0, .ref b), (1, .ref h0), (2, .ref m0), (3, .ref ho), (4, .int (nI i))]) : W p l e room_1 s m #[Value.ref b] below meth c H locs cells slots (lw_Z below #[Value.ref b] s) (F0 m 1312 ls []) := by
  obtain ⟨hfl, hx, hb, hr, hml, hown, hts, hX, hbl, hbA, hlocks, hK, hG, hnc, hA, hAN, hN, hL, hT, hNs⟩ := id C0
  have hok2 := me_okF hka2
  have hsp1 : ∀ k, k < 8 → o_X1_isSpoiled true (f1 k) = false := fun k hk => (hka1 k hk).2
  have hsp2 : ∀ k, k < 8 → o_X1_isSpoiled false (f2 k) = false := fun k hk => (hka2 k hk).2
  refine lv_aload_n hx hb dL_law_1312 rfl (lv_at hl 1 rfl) ?_
  refine lv_aload_n hx hb dL_law_1313 rfl (lv_at hl 0 rfl) ?_
  refine lv_iload hx hb dL_law_1314 (lv_at hl 4 rfl) ?_
  refine lv_iconst (v := 1) hx hb dL_law_1316 (by decide +kernel) ?_
  refine lv_iadd hx hb dL_law_1317 ?_
  rw [nI_1 i]
  refine xa_sld hx hb hX hbl hbA hS (k := i + 1) (by omega) hL hp1 dL_law_1318 ?_
  refine lv_aload_n hx hb dL_law_1319 rfl (lv_at hl 0 rfl) ?_
  refine lv_iload hx hb dL_law_1320 (lv_at hl 4 rfl) ?_
  refine lv_iconst (v := 2) hx hb dL_law_1322 (by decide +kernel) ?_
  refine lv_iadd hx hb dL_law_1323 ?_
  rw [nI_p2 i]
  refine xa_sld hx hb hX hbl hbA hS (k := i + 2) (by omega) hL hp2 dL_law_1324 ?_
  refine lv_aload_n hx hb dL_law_1325 rfl (lv_at hl 3 rfl) ?_
  have hPc := hP.sub (ws' := [(h0, eE h1 h2 kn), (h1, eR hw1 hc1 hb1 a1 r1), (hw1, eW true), (hc1, eA cy f1), (hb1, eA cy g1), (h2, eR hw2 hc2 hb2 a2 r2), (hw2, eW false), (hc2, eA cy f2), (hb2, eA cy g2), (ho, eO nv sv)]) [0, 1, 2, 3, 4, 5, 6, 7, 8, 9] rfl
  have hDc := hD.sub (ws' := [(h0, eE h1 h2 kn), (h1, eR hw1 hc1 hb1 a1 r1), (hw1, eW true), (hc1, eA cy f1), (hb1, eA cy g1), (h2, eR hw2 hc2 hb2 a2 r2), (hw2, eW false), (hc2, eA cy f2), (hb2, eA cy g2), (ho, eO nv sv)]) [0, 1, 2, 3, 4, 5, 6, 7, 8, 9] (by decide +kernel) rfl
  have hKc := hK.sub (tys' := [(cy, .long)]) [0] rfl
  have hFc := va_free (wc := [(h0, eE h1 h2 kn), (h1, eR hw1 hc1 hb1 a1 r1), (hw1, eW true), (hc1, eA cy f1), (hb1, eA cy g1), (h2, eR hw2 hc2 hb2 a2 r2), (hw2, eW false), (hc2, eA cy f2), (hb2, eA cy g2), (ho, eO nv sv)]) hD hS hA [0, 1, 2, 3, 4, 5, 6, 7, 8, 9] rfl
  refine va_calli (vx_runSW (As := [.ref h0, .int p1, .int p2, .ref ho]) (rest := []) ⟨hx, hb, hml, hown, hts⟩ (k_L_narrowKnown l hfl dC dI cy h0 h1 hw1 hc1 hb1 h2 hw2 hc2 hb2 a1 r1 f1 g1 a2 r2 f2 g2 kn ho nv sv H.size N p1 p2) (vx_cwSW 4 hts gL_law_L_narrowKnown rfl rfl rfl (by decide +kernel) ⟨Nat.le_of_ble_eq_true rfl, Nat.le_of_ble_eq_true rfl⟩) (xL.preS hKc hPc hDc hAN (Nat.le_trans hN hS.1) (hG.kept hS hAN) hnc) rfl rfl hl.1 rfl (lv_room (Nat.le_of_ble_eq_true rfl)) dL_law_1326 ⟨(show _ ≤ 989448 by omega), (show _ ≤ 6127760 by omega)⟩) hS (fun q _ h => hFc q h) hFc (fun r_1 u t H locs ht hvm hw hB hz hk hS => ?_)
  replace hw : r_1 = (o_L_narrowKnown a2 f2 nv p1 p2).1 := hw
  subst r_1
  obtain ⟨hP1, hD1⟩ := hB
  rw [ht] at hP1
  obtain ⟨hP, hD⟩ := va_join (wr := [(m0, eM m1 m2 th (r1 + r2) kn), (m1, eMR true mc1 a1), (mc1, eA cy f1), (m2, eMR false mc2 a2), (mc2, eA cy f2)]) (w1 := [(h0, eE h1 h2 kn), (h1, eR hw1 hc1 hb1 a1 r1), (hw1, eW true), (hc1, eA cy f1), (hb1, eA cy g1), (h2, eR hw2 hc2 hb2 (o_L_narrowKnown a2 f2 nv p1 p2).2.1 r2), (hw2, eW false), (hc2, eA cy (o_L_narrowKnown a2 f2 nv p1 p2).2.2.1), (hb2, eA cy g2), (ho, eO (o_L_narrowKnown a2 f2 nv p1 p2).2.2.2 sv)]) hP hD [0, 1, 2, 3, 4, 5, 6, 7, 8, 9] [10, 11, 12, 13, 14] rfl rfl (by decide +kernel) (by decide +kernel) hk hFc hP1 hD1
  have hP := hP.sub (ws' := [(h0, eE h1 h2 kn), (h1, eR hw1 hc1 hb1 a1 r1), (hw1, eW true), (hc1, eA cy f1), (hb1, eA cy g1), (h2, eR hw2 hc2 hb2 (o_L_narrowKnown a2 f2 nv p1 p2).2.1 r2), (hw2, eW false), (hc2, eA cy (o_L_narrowKnown a2 f2 nv p1 p2).2.2.1), (hb2, eA cy g2), (ho, eO (o_L_narrowKnown a2 f2 nv p1 p2).2.2.2 sv), (m0, eM m1 m2 th (r1 + r2) kn), (m1, eMR true mc1 a1), (mc1, eA cy f1), (m2, eMR false mc2 a2), (mc2, eA cy f2)]) [5, 6, 7, 8, 9, 10, 11, 12, 13, 14, 0, 1, 2, 3, 4] rfl
  have hD := hD.sub (ws' := [(h0, eE h1 h2 kn), (h1, eR hw1 hc1 hb1 a1 r1), (hw1, eW true), (hc1, eA cy f1), (hb1, eA cy g1), (h2, eR hw2 hc2 hb2 (o_L_narrowKnown a2 f2 nv p1 p2).2.1 r2), (hw2, eW false), (hc2, eA cy (o_L_narrowKnown a2 f2 nv p1 p2).2.2.1), (hb2, eA cy g2), (ho, eO (o_L_narrowKnown a2 f2 nv p1 p2).2.2.2 sv), (m0, eM m1 m2 th (r1 + r2) kn), (m1, eMR true mc1 a1), (mc1, eA cy f1), (m2, eMR false mc2 a2), (mc2, eA cy f2)]) [5, 6, 7, 8, 9, 10, 11, 12, 13, 14, 0, 1, 2, 3, 4] (by decide +kernel) rfl
  refine lv_istore (lv' := [(5, .int ((o_L_narrowKnown a2 f2 nv p1 p2).1)), (0, .ref b), (1, .ref h0), (2, .ref m0), (3, .ref ho), (4, .int (nI i))]) hx hb dL_law_1329 hl (by decide +kernel) rfl (fun ls hl => ?_)
  refine lv_aload_n hx hb dL_law_1331 rfl (lv_at hl 3 rfl) ?_
  refine lv_aload_n hx hb dL_law_1332 rfl (lv_at hl 1 rfl) ?_
  refine lv_iload hx hb dL_law_1333 (lv_at hl 5 rfl) ?_
  refine lv_iconst (v := 1) hx hb dL_law_1335 (by decide +kernel) ?_
  refine lv_iadd hx hb dL_law_1336 ?_
  rw [nI_1 i]
  refine xa_sld hx hb hX hbl hbA hS (k := i + 1) (by omega) hL hp1 dL_law_1337 ?_
  refine lv_aload_n hx hb dL_law_1338 rfl (lv_at hl 1 rfl) ?_
  refine lv_iload hx hb dL_law_1339 (lv_at hl 5 rfl) ?_
  refine lv_iconst (v := 2) hx hb dL_law_1341 (by decide +kernel) ?_
  refine lv_iadd hx hb dL_law_1342 ?_
  rw [nI_p2 i]
  refine xa_sld hx hb hX hbl hbA hS (k := i + 2) (by omega) hL hp2 dL_law_1343 ?_
  have hPc := hP.sub (ws' := [(m0, eM m1 m2 th (r1 + r2) kn), (m1, eMR true mc1 a1), (mc1, eA cy f1), (m2, eMR false mc2 a2), (mc2, eA cy f2)]) [10, 11, 12, 13, 14] rfl
  have hDc := hD.sub (ws' := [(m0, eM m1 m2 th (r1 + r2) kn), (m1, eMR true mc1 a1), (mc1, eA cy f1), (m2, eMR false mc2 a2), (mc2, eA cy f2)]) [10, 11, 12, 13, 14] (by decide +kernel) rfl
  have hKc := hK.sub (tys' := [(cy, .long)]) [0] rfl
  have hFc := va_free (wc := [(m0, eM m1 m2 th (r1 + r2) kn), (m1, eMR true mc1 a1), (mc1, eA cy f1), (m2, eMR false mc2 a2), (mc2, eA cy f2)]) hD hS hA [10, 11, 12, 13, 14] rfl
  refine va_calli (va_runV (As := [.int p1, .int p2]) (rest := []) ⟨hx, hb, hml, hown, hts⟩ (k_X5_narrowKnown l dC dI cy m0 m1 mc1 m2 mc2 a1 f1 a2 f2 th (r1 + r2) kn H.size N p1 p2) (cwV 2 hts gL_law_X5_narrowKnown rfl rfl rfl (by decide +kernel) ⟨Nat.le_of_ble_eq_true rfl, Nat.le_of_ble_eq_true rfl⟩) (xM.preV hKc hPc hDc hAN (Nat.le_trans hN hS.1) (hG.kept hS hAN) (ci := 7) (q0 := 0) rfl rfl) rfl rfl hl.1 rfl (lv_room (Nat.le_of_ble_eq_true rfl)) dL_law_1344 ⟨(show _ ≤ 989448 by omega), (show _ ≤ 6127760 by omega)⟩) hS (fun q _ h => hFc q h) hFc (fun r_2 u t H locs ht hvm hw hB hz hk hS => ?_)
  replace hw : r_2 = (o_X5_narrowKnown a2 f2 p1 p2).1 := hw
  subst r_2
  obtain ⟨hP1, hD1⟩ := hB
  rw [ht] at hP1
  obtain ⟨hP, hD⟩ := va_join (wr := [(h0, eE h1 h2 kn), (h1, eR hw1 hc1 hb1 a1 r1), (hw1, eW true), (hc1, eA cy f1), (hb1, eA cy g1), (h2, eR hw2 hc2 hb2 (o_L_narrowKnown a2 f2 nv p1 p2).2.1 r2), (hw2, eW false), (hc2, eA cy (o_L_narrowKnown a2 f2 nv p1 p2).2.2.1), (hb2, eA cy g2), (ho, eO (o_L_narrowKnown a2 f2 nv p1 p2).2.2.2 sv)]) (w1 := [(m0, eM m1 m2 (o_X5_narrowKnown a2 f2 p1 p2).2.2.2 (r1 + r2) kn), (m1, eMR true mc1 a1), (mc1, eA cy f1), (m2, eMR false mc2 (o_X5_narrowKnown a2 f2 p1 p2).2.1), (mc2, eA cy (o_X5_narrowKnown a2 f2 p1 p2).2.2.1)]) hP hD [10, 11, 12, 13, 14] [0, 1, 2, 3, 4, 5, 6, 7, 8, 9] rfl rfl (by decide +kernel) (by decide +kernel) hk hFc hP1 hD1
  have hP := hP.sub (ws' := [(h0, eE h1 h2 kn), (h1, eR hw1 hc1 hb1 a1 r1), (hw1, eW true), (hc1, eA cy f1), (hb1, eA cy g1), (h2, eR hw2 hc2 hb2 (o_L_narrowKnown a2 f2 nv p1 p2).2.1 r2), (hw2, eW false), (hc2, eA cy (o_L_narrowKnown a2 f2 nv p1 p2).2.2.1), (hb2, eA cy g2), (ho, eO (o_L_narrowKnown a2 f2 nv p1 p2).2.2.2 sv), (m0, eM m1 m2 (o_X5_narrowKnown a2 f2 p1 p2).2.2.2 (r1 + r2) kn), (m1, eMR true mc1 a1), (mc1, eA cy f1), (m2, eMR false mc2 (o_X5_narrowKnown a2 f2 p1 p2).2.1), (mc2, eA cy (o_X5_narrowKnown a2 f2 p1 p2).2.2.1)]) [0, 1, 2, 3, 4, 5, 6, 7, 8, 9, 10, 11, 12, 13, 14] rfl
  have hD := hD.sub (ws' := [(h0, eE h1 h2 kn), (h1, eR hw1 hc1 hb1 a1 r1), (hw1, eW true), (hc1, eA cy f1), (hb1, eA cy g1), (h2, eR hw2 hc2 hb2 (o_L_narrowKnown a2 f2 nv p1 p2).2.1 r2), (hw2, eW false), (hc2, eA cy (o_L_narrowKnown a2 f2 nv p1 p2).2.2.1), (hb2, eA cy g2), (ho, eO (o_L_narrowKnown a2 f2 nv p1 p2).2.2.2 sv), (m0, eM m1 m2 (o_X5_narrowKnown a2 f2 p1 p2).2.2.2 (r1 + r2) kn), (m1, eMR true mc1 a1), (mc1, eA cy f1), (m2, eMR false mc2 (o_X5_narrowKnown a2 f2 p1 p2).2.1), (mc2, eA cy (o_X5_narrowKnown a2 f2 p1 p2).2.2.1)]) [0, 1, 2, 3, 4, 5, 6, 7, 8, 9, 10, 11, 12, 13, 14] (by decide +kernel) rfl
  refine lv_istore (lv' := [(6, .int ((o_X5_narrowKnown a2 f2 p1 p2).1)), (5, .int ((o_L_narrowKnown a2 f2 nv p1 p2).1)), (0, .ref b), (1, .ref h0), (2, .ref m0), (3, .ref ho), (4, .int (nI i))]) hx hb dL_law_1347 hl (by decide +kernel) rfl (fun ls hl => ?_)
  refine lv_goto (tgt := 2240) hx hb dL_law_1349 (by decide +kernel) ?_
  refine W.widen (k := cells + 760) (n := slots + 4500) (by omega) (by omega) ?_
  have qe_b2 : (o_X5_narrowKnown a2 f2 p1 p2).2.1 = (o_L_narrowKnown a2 f2 nv p1 p2).2.1 := (by have hm := ml_narrowKnown a2 nv p1 p2 hka2; rw [hm.1] <;> rfl)
  have qe_e2 : (o_X5_narrowKnown a2 f2 p1 p2).2.2.1 = (o_L_narrowKnown a2 f2 nv p1 p2).2.2.1 := (by have hm := ml_narrowKnown a2 nv p1 p2 hka2; rw [hm.1] <;> rfl)
  have qk_2 : okA false ((o_L_narrowKnown a2 f2 nv p1 p2).2.2.1) := (by have hm := ml_narrowKnown a2 nv p1 p2 hka2; rw [hm.1]; exact hm.2)
  exact K a1 r1 f1 g1 ((o_L_narrowKnown a2 f2 nv p1 p2).2.1) r2 ((o_L_narrowKnown a2 f2 nv p1 p2).2.2.1) g2 kn ((o_L_narrowKnown a2 f2 nv p1 p2).2.2.2) sv ((o_X5_narrowKnown a2 f2 p1 p2).2.2.2) a1 f1 ((o_X5_narrowKnown a2 f2 p1 p2).2.1) ((o_X5_narrowKnown a2 f2 p1 p2).2.2.1) (r1 + r2) kn _ _ _ rfl rfl qe_b2 qe_e2 rfl rfl hka1 qk_2 hP hD hS (lv_sub hl [2, 3, 4, 5, 6] rfl)
set_option maxHeartbeats 4000000 in
set_option maxRecDepth 100000 in
theorem st_26 (l : Launch) (p : Program) (e : Env) (s : State) (m : MethodId) (below : List Frame) (meth : Method) (c : Code) (b L N : Nat) (xs : Nat → Int32) (A : Nat → Prop) (dC : Nat → ClassId) (dI : Nat → Nat → Nat) (cy cB : ClassId) (h0 h1 hw1 hc1 hb1 h2 hw2 hc2 hb2 ho m0 m1 mc1 m2 mc2 : Nat) (C0 : lw_C l p e s m below meth c b L N xs A dC dI cy cB) (i : Nat) (hi : i + 4 ≤ L) (p1 p2 p3 : Int32) (hp1 : xs (i + 1) = p1) (hp2 : xs (i + 2) = p2) (hp3 : xs (i + 3) = p3) (cells slots : Nat) (hcs : cells + 760 ≤ 989448) (hss : slots + 4500 ≤ 6127760) (K : lw_K l p e s m below meth c b L N xs A dC dI cy cB h0 h1 hw1 hc1 hb1 h2 hw2 hc2 hb2 ho m0 m1 mc1 m2 mc2 i (cells + 760) (slots + 4500) 2240) (a1 : Int32) (r1 : Int32) (f1 : Nat → Int64) (g1 : Nat → Int64) (a2 : Int32) (r2 : Int32) (f2 : Nat → Int64) (g2 : Nat → Int64) (kn : Int32) (nv : Int64) (sv : Value) (th : Int32) (H : Heap) (locs : List Loc) (ls : Array Slot) (hka1 : okA true f1) (hka2 : okA false f2) (hP : va_P (dC, dI) xCl [(h0, eE h1 h2 kn), (h1, eR hw1 hc1 hb1 a1 r1), (hw1, eW true), (hc1, eA cy f1), (hb1, eA cy g1), (h2, eR hw2 hc2 hb2 a2 r2), (hw2, eW false), (hc2, eA cy f2), (hb2, eA cy g2), (ho, eO nv sv), (m0, eM m1 m2 th (r1 + r2) kn), (m1, eMR true mc1 a1), (mc1, eA cy f1), (m2, eMR false mc2 a2), (mc2, eA cy f2)] H) (hD : va_D A [(h0, eE h1 h2 kn), (h1, eR hw1 hc1 hb1 a1 r1), (hw1, eW true), (hc1, eA cy f1), (hb1, eA cy g1), (h2, eR hw2 hc2 hb2 a2 r2), (hw2, eW false), (hc2, eA cy f2), (hb2, eA cy g2), (ho, eO nv sv), (m0, eM m1 m2 th (r1 + r2) kn), (m1, eMR true mc1 a1), (mc1, eA cy f1), (m2, eMR false mc2 a2), (mc2, eA cy f2)]) (hS : va_S A s.heap H locs) (hl : lv_has ls 7 [(0, .ref b), (1, .ref h0), (2, .ref m0), (3, .ref ho), (4, .int (nI i))]) : W p l e room_1 s m #[Value.ref b] below meth c H locs cells slots (lw_Z below #[Value.ref b] s) (F0 m 1352 ls []) := by
  obtain ⟨hfl, hx, hb, hr, hml, hown, hts, hX, hbl, hbA, hlocks, hK, hG, hnc, hA, hAN, hN, hL, hT, hNs⟩ := id C0
  have hok2 := me_okF hka2
  have hsp1 : ∀ k, k < 8 → o_X1_isSpoiled true (f1 k) = false := fun k hk => (hka1 k hk).2
  have hsp2 : ∀ k, k < 8 → o_X1_isSpoiled false (f2 k) = false := fun k hk => (hka2 k hk).2
  refine lv_aload_n hx hb dL_law_1352 rfl (lv_at hl 1 rfl) ?_
  refine lv_aload_n hx hb dL_law_1353 rfl (lv_at hl 0 rfl) ?_
  refine lv_iload hx hb dL_law_1354 (lv_at hl 4 rfl) ?_
  refine lv_iconst (v := 1) hx hb dL_law_1356 (by decide +kernel) ?_
  refine lv_iadd hx hb dL_law_1357 ?_
  rw [nI_1 i]
  refine xa_sld hx hb hX hbl hbA hS (k := i + 1) (by omega) hL hp1 dL_law_1358 ?_
  refine lv_aload_n hx hb dL_law_1359 rfl (lv_at hl 0 rfl) ?_
  refine lv_iload hx hb dL_law_1360 (lv_at hl 4 rfl) ?_
  refine lv_iconst (v := 2) hx hb dL_law_1362 (by decide +kernel) ?_
  refine lv_iadd hx hb dL_law_1363 ?_
  rw [nI_p2 i]
  refine xa_sld hx hb hX hbl hbA hS (k := i + 2) (by omega) hL hp2 dL_law_1364 ?_
  refine lv_aload_n hx hb dL_law_1365 rfl (lv_at hl 3 rfl) ?_
  have hPc := hP.sub (ws' := [(h0, eE h1 h2 kn), (h1, eR hw1 hc1 hb1 a1 r1), (hw1, eW true), (hc1, eA cy f1), (hb1, eA cy g1), (h2, eR hw2 hc2 hb2 a2 r2), (hw2, eW false), (hc2, eA cy f2), (hb2, eA cy g2), (ho, eO nv sv)]) [0, 1, 2, 3, 4, 5, 6, 7, 8, 9] rfl
  have hDc := hD.sub (ws' := [(h0, eE h1 h2 kn), (h1, eR hw1 hc1 hb1 a1 r1), (hw1, eW true), (hc1, eA cy f1), (hb1, eA cy g1), (h2, eR hw2 hc2 hb2 a2 r2), (hw2, eW false), (hc2, eA cy f2), (hb2, eA cy g2), (ho, eO nv sv)]) [0, 1, 2, 3, 4, 5, 6, 7, 8, 9] (by decide +kernel) rfl
  have hKc := hK.sub (tys' := [(cy, .long)]) [0] rfl
  have hFc := va_free (wc := [(h0, eE h1 h2 kn), (h1, eR hw1 hc1 hb1 a1 r1), (hw1, eW true), (hc1, eA cy f1), (hb1, eA cy g1), (h2, eR hw2 hc2 hb2 a2 r2), (hw2, eW false), (hc2, eA cy f2), (hb2, eA cy g2), (ho, eO nv sv)]) hD hS hA [0, 1, 2, 3, 4, 5, 6, 7, 8, 9] rfl
  refine va_calli (vx_runSW (As := [.ref h0, .int p1, .int p2, .ref ho]) (rest := []) ⟨hx, hb, hml, hown, hts⟩ (k_L_narrowCopy l hfl dC dI cy h0 h1 hw1 hc1 hb1 h2 hw2 hc2 hb2 a1 r1 f1 g1 a2 r2 f2 g2 kn ho nv sv H.size N p1 p2) (vx_cwSW 4 hts gL_law_L_narrowCopy rfl rfl rfl (by decide +kernel) ⟨Nat.le_of_ble_eq_true rfl, Nat.le_of_ble_eq_true rfl⟩) (xL.preS hKc hPc hDc hAN (Nat.le_trans hN hS.1) (hG.kept hS hAN) hnc) rfl rfl hl.1 rfl (lv_room (Nat.le_of_ble_eq_true rfl)) dL_law_1366 ⟨(show _ ≤ 989448 by omega), (show _ ≤ 6127760 by omega)⟩) hS (fun q _ h => hFc q h) hFc (fun r_1 u t H locs ht hvm hw hB hz hk hS => ?_)
  replace hw : r_1 = (o_L_narrowCopy a2 f2 nv p1 p2).1 := hw
  subst r_1
  obtain ⟨hP1, hD1⟩ := hB
  rw [ht] at hP1
  obtain ⟨hP, hD⟩ := va_join (wr := [(m0, eM m1 m2 th (r1 + r2) kn), (m1, eMR true mc1 a1), (mc1, eA cy f1), (m2, eMR false mc2 a2), (mc2, eA cy f2)]) (w1 := [(h0, eE h1 h2 kn), (h1, eR hw1 hc1 hb1 a1 r1), (hw1, eW true), (hc1, eA cy f1), (hb1, eA cy g1), (h2, eR hw2 hc2 hb2 (o_L_narrowCopy a2 f2 nv p1 p2).2.1 r2), (hw2, eW false), (hc2, eA cy (o_L_narrowCopy a2 f2 nv p1 p2).2.2.1), (hb2, eA cy g2), (ho, eO (o_L_narrowCopy a2 f2 nv p1 p2).2.2.2 sv)]) hP hD [0, 1, 2, 3, 4, 5, 6, 7, 8, 9] [10, 11, 12, 13, 14] rfl rfl (by decide +kernel) (by decide +kernel) hk hFc hP1 hD1
  have hP := hP.sub (ws' := [(h0, eE h1 h2 kn), (h1, eR hw1 hc1 hb1 a1 r1), (hw1, eW true), (hc1, eA cy f1), (hb1, eA cy g1), (h2, eR hw2 hc2 hb2 (o_L_narrowCopy a2 f2 nv p1 p2).2.1 r2), (hw2, eW false), (hc2, eA cy (o_L_narrowCopy a2 f2 nv p1 p2).2.2.1), (hb2, eA cy g2), (ho, eO (o_L_narrowCopy a2 f2 nv p1 p2).2.2.2 sv), (m0, eM m1 m2 th (r1 + r2) kn), (m1, eMR true mc1 a1), (mc1, eA cy f1), (m2, eMR false mc2 a2), (mc2, eA cy f2)]) [5, 6, 7, 8, 9, 10, 11, 12, 13, 14, 0, 1, 2, 3, 4] rfl
  have hD := hD.sub (ws' := [(h0, eE h1 h2 kn), (h1, eR hw1 hc1 hb1 a1 r1), (hw1, eW true), (hc1, eA cy f1), (hb1, eA cy g1), (h2, eR hw2 hc2 hb2 (o_L_narrowCopy a2 f2 nv p1 p2).2.1 r2), (hw2, eW false), (hc2, eA cy (o_L_narrowCopy a2 f2 nv p1 p2).2.2.1), (hb2, eA cy g2), (ho, eO (o_L_narrowCopy a2 f2 nv p1 p2).2.2.2 sv), (m0, eM m1 m2 th (r1 + r2) kn), (m1, eMR true mc1 a1), (mc1, eA cy f1), (m2, eMR false mc2 a2), (mc2, eA cy f2)]) [5, 6, 7, 8, 9, 10, 11, 12, 13, 14, 0, 1, 2, 3, 4] (by decide +kernel) rfl
  refine lv_istore (lv' := [(5, .int ((o_L_narrowCopy a2 f2 nv p1 p2).1)), (0, .ref b), (1, .ref h0), (2, .ref m0), (3, .ref ho), (4, .int (nI i))]) hx hb dL_law_1369 hl (by decide +kernel) rfl (fun ls hl => ?_)
  refine lv_aload_n hx hb dL_law_1371 rfl (lv_at hl 3 rfl) ?_
  refine lv_aload_n hx hb dL_law_1372 rfl (lv_at hl 1 rfl) ?_
  refine lv_iload hx hb dL_law_1373 (lv_at hl 5 rfl) ?_
  refine lv_iconst (v := 1) hx hb dL_law_1375 (by decide +kernel) ?_
  refine lv_iadd hx hb dL_law_1376 ?_
  rw [nI_1 i]
  refine xa_sld hx hb hX hbl hbA hS (k := i + 1) (by omega) hL hp1 dL_law_1377 ?_
  refine lv_aload_n hx hb dL_law_1378 rfl (lv_at hl 1 rfl) ?_
  refine lv_iload hx hb dL_law_1379 (lv_at hl 5 rfl) ?_
  refine lv_iconst (v := 2) hx hb dL_law_1381 (by decide +kernel) ?_
  refine lv_iadd hx hb dL_law_1382 ?_
  rw [nI_p2 i]
  refine xa_sld hx hb hX hbl hbA hS (k := i + 2) (by omega) hL hp2 dL_law_1383 ?_
  have hPc := hP.sub (ws' := [(m0, eM m1 m2 th (r1 + r2) kn), (m1, eMR true mc1 a1), (mc1, eA cy f1), (m2, eMR false mc2 a2), (mc2, eA cy f2)]) [10, 11, 12, 13, 14] rfl
  have hDc := hD.sub (ws' := [(m0, eM m1 m2 th (r1 + r2) kn), (m1, eMR true mc1 a1), (mc1, eA cy f1), (m2, eMR false mc2 a2), (mc2, eA cy f2)]) [10, 11, 12, 13, 14] (by decide +kernel) rfl
  have hKc := hK.sub (tys' := [(cy, .long)]) [0] rfl
  have hFc := va_free (wc := [(m0, eM m1 m2 th (r1 + r2) kn), (m1, eMR true mc1 a1), (mc1, eA cy f1), (m2, eMR false mc2 a2), (mc2, eA cy f2)]) hD hS hA [10, 11, 12, 13, 14] rfl
  refine va_calli (va_runV (As := [.int p1, .int p2]) (rest := []) ⟨hx, hb, hml, hown, hts⟩ (k_X5_narrowCopy l dC dI cy m0 m1 mc1 m2 mc2 a1 f1 a2 f2 th (r1 + r2) kn H.size N p1 p2) (cwV 2 hts gL_law_X5_narrowCopy rfl rfl rfl (by decide +kernel) ⟨Nat.le_of_ble_eq_true rfl, Nat.le_of_ble_eq_true rfl⟩) (xM.preV hKc hPc hDc hAN (Nat.le_trans hN hS.1) (hG.kept hS hAN) (ci := 7) (q0 := 0) rfl rfl) rfl rfl hl.1 rfl (lv_room (Nat.le_of_ble_eq_true rfl)) dL_law_1384 ⟨(show _ ≤ 989448 by omega), (show _ ≤ 6127760 by omega)⟩) hS (fun q _ h => hFc q h) hFc (fun r_2 u t H locs ht hvm hw hB hz hk hS => ?_)
  replace hw : r_2 = (o_X5_narrowCopy a2 f2 p1 p2).1 := hw
  subst r_2
  obtain ⟨hP1, hD1⟩ := hB
  rw [ht] at hP1
  obtain ⟨hP, hD⟩ := va_join (wr := [(h0, eE h1 h2 kn), (h1, eR hw1 hc1 hb1 a1 r1), (hw1, eW true), (hc1, eA cy f1), (hb1, eA cy g1), (h2, eR hw2 hc2 hb2 (o_L_narrowCopy a2 f2 nv p1 p2).2.1 r2), (hw2, eW false), (hc2, eA cy (o_L_narrowCopy a2 f2 nv p1 p2).2.2.1), (hb2, eA cy g2), (ho, eO (o_L_narrowCopy a2 f2 nv p1 p2).2.2.2 sv)]) (w1 := [(m0, eM m1 m2 (o_X5_narrowCopy a2 f2 p1 p2).2.2.2 (r1 + r2) kn), (m1, eMR true mc1 a1), (mc1, eA cy f1), (m2, eMR false mc2 (o_X5_narrowCopy a2 f2 p1 p2).2.1), (mc2, eA cy (o_X5_narrowCopy a2 f2 p1 p2).2.2.1)]) hP hD [10, 11, 12, 13, 14] [0, 1, 2, 3, 4, 5, 6, 7, 8, 9] rfl rfl (by decide +kernel) (by decide +kernel) hk hFc hP1 hD1
  have hP := hP.sub (ws' := [(h0, eE h1 h2 kn), (h1, eR hw1 hc1 hb1 a1 r1), (hw1, eW true), (hc1, eA cy f1), (hb1, eA cy g1), (h2, eR hw2 hc2 hb2 (o_L_narrowCopy a2 f2 nv p1 p2).2.1 r2), (hw2, eW false), (hc2, eA cy (o_L_narrowCopy a2 f2 nv p1 p2).2.2.1), (hb2, eA cy g2), (ho, eO (o_L_narrowCopy a2 f2 nv p1 p2).2.2.2 sv), (m0, eM m1 m2 (o_X5_narrowCopy a2 f2 p1 p2).2.2.2 (r1 + r2) kn), (m1, eMR true mc1 a1), (mc1, eA cy f1), (m2, eMR false mc2 (o_X5_narrowCopy a2 f2 p1 p2).2.1), (mc2, eA cy (o_X5_narrowCopy a2 f2 p1 p2).2.2.1)]) [0, 1, 2, 3, 4, 5, 6, 7, 8, 9, 10, 11, 12, 13, 14] rfl
  have hD := hD.sub (ws' := [(h0, eE h1 h2 kn), (h1, eR hw1 hc1 hb1 a1 r1), (hw1, eW true), (hc1, eA cy f1), (hb1, eA cy g1), (h2, eR hw2 hc2 hb2 (o_L_narrowCopy a2 f2 nv p1 p2).2.1 r2), (hw2, eW false), (hc2, eA cy (o_L_narrowCopy a2 f2 nv p1 p2).2.2.1), (hb2, eA cy g2), (ho, eO (o_L_narrowCopy a2 f2 nv p1 p2).2.2.2 sv), (m0, eM m1 m2 (o_X5_narrowCopy a2 f2 p1 p2).2.2.2 (r1 + r2) kn), (m1, eMR true mc1 a1), (mc1, eA cy f1), (m2, eMR false mc2 (o_X5_narrowCopy a2 f2 p1 p2).2.1), (mc2, eA cy (o_X5_narrowCopy a2 f2 p1 p2).2.2.1)]) [0, 1, 2, 3, 4, 5, 6, 7, 8, 9, 10, 11, 12, 13, 14] (by decide +kernel) rfl
  refine lv_istore (lv' := [(6, .int ((o_X5_narrowCopy a2 f2 p1 p2).1)), (5, .int ((o_L_narrowCopy a2 f2 nv p1 p2).1)), (0, .ref b), (1, .ref h0), (2, .ref m0), (3, .ref ho), (4, .int (nI i))]) hx hb dL_law_1387 hl (by decide +kernel) rfl (fun ls hl => ?_)
  refine lv_goto (tgt := 2240) hx hb dL_law_1389 (by decide +kernel) ?_
  refine W.widen (k := cells + 760) (n := slots + 4500) (by omega) (by omega) ?_
  have qe_b2 : (o_X5_narrowCopy a2 f2 p1 p2).2.1 = (o_L_narrowCopy a2 f2 nv p1 p2).2.1 := (by have hm := ml_narrowCopy a2 nv p1 p2 hka2; rw [hm.1] <;> rfl)
  have qe_e2 : (o_X5_narrowCopy a2 f2 p1 p2).2.2.1 = (o_L_narrowCopy a2 f2 nv p1 p2).2.2.1 := (by have hm := ml_narrowCopy a2 nv p1 p2 hka2; rw [hm.1] <;> rfl)
  have qk_2 : okA false ((o_L_narrowCopy a2 f2 nv p1 p2).2.2.1) := (by have hm := ml_narrowCopy a2 nv p1 p2 hka2; rw [hm.1]; exact hm.2)
  exact K a1 r1 f1 g1 ((o_L_narrowCopy a2 f2 nv p1 p2).2.1) r2 ((o_L_narrowCopy a2 f2 nv p1 p2).2.2.1) g2 kn ((o_L_narrowCopy a2 f2 nv p1 p2).2.2.2) sv ((o_X5_narrowCopy a2 f2 p1 p2).2.2.2) a1 f1 ((o_X5_narrowCopy a2 f2 p1 p2).2.1) ((o_X5_narrowCopy a2 f2 p1 p2).2.2.1) (r1 + r2) kn _ _ _ rfl rfl qe_b2 qe_e2 rfl rfl hka1 qk_2 hP hD hS (lv_sub hl [2, 3, 4, 5, 6] rfl)
set_option maxHeartbeats 4000000 in
set_option maxRecDepth 100000 in
theorem st_27 (l : Launch) (p : Program) (e : Env) (s : State) (m : MethodId) (below : List Frame) (meth : Method) (c : Code) (b L N : Nat) (xs : Nat → Int32) (A : Nat → Prop) (dC : Nat → ClassId) (dI : Nat → Nat → Nat) (cy cB : ClassId) (h0 h1 hw1 hc1 hb1 h2 hw2 hc2 hb2 ho m0 m1 mc1 m2 mc2 : Nat) (C0 : lw_C l p e s m below meth c b L N xs A dC dI cy cB) (i : Nat) (hi : i + 4 ≤ L) (p1 p2 p3 : Int32) (hp1 : xs (i + 1) = p1) (hp2 : xs (i + 2) = p2) (hp3 : xs (i + 3) = p3) (cells slots : Nat) (hcs : cells + 760 ≤ 989448) (hss : slots + 4500 ≤ 6127760) (K : lw_K l p e s m below meth c b L N xs A dC dI cy cB h0 h1 hw1 hc1 hb1 h2 hw2 hc2 hb2 ho m0 m1 mc1 m2 mc2 i (cells + 760) (slots + 4500) 2240) (a1 : Int32) (r1 : Int32) (f1 : Nat → Int64) (g1 : Nat → Int64) (a2 : Int32) (r2 : Int32) (f2 : Nat → Int64) (g2 : Nat → Int64) (kn : Int32) (nv : Int64) (sv : Value) (th : Int32) (H : Heap) (locs : List Loc) (ls : Array Slot) (hka1 : okA true f1) (hka2 : okA false f2) (hP : va_P (dC, dI) xCl [(h0, eE h1 h2 kn), (h1, eR hw1 hc1 hb1 a1 r1), (hw1, eW true), (hc1, eA cy f1), (hb1, eA cy g1), (h2, eR hw2 hc2 hb2 a2 r2), (hw2, eW false), (hc2, eA cy f2), (hb2, eA cy g2), (ho, eO nv sv), (m0, eM m1 m2 th (r1 + r2) kn), (m1, eMR true mc1 a1), (mc1, eA cy f1), (m2, eMR false mc2 a2), (mc2, eA cy f2)] H) (hD : va_D A [(h0, eE h1 h2 kn), (h1, eR hw1 hc1 hb1 a1 r1), (hw1, eW true), (hc1, eA cy f1), (hb1, eA cy g1), (h2, eR hw2 hc2 hb2 a2 r2), (hw2, eW false), (hc2, eA cy f2), (hb2, eA cy g2), (ho, eO nv sv), (m0, eM m1 m2 th (r1 + r2) kn), (m1, eMR true mc1 a1), (mc1, eA cy f1), (m2, eMR false mc2 a2), (mc2, eA cy f2)]) (hS : va_S A s.heap H locs) (hl : lv_has ls 7 [(0, .ref b), (1, .ref h0), (2, .ref m0), (3, .ref ho), (4, .int (nI i))]) : W p l e room_1 s m #[Value.ref b] below meth c H locs cells slots (lw_Z below #[Value.ref b] s) (F0 m 1392 ls []) := by
  obtain ⟨hfl, hx, hb, hr, hml, hown, hts, hX, hbl, hbA, hlocks, hK, hG, hnc, hA, hAN, hN, hL, hT, hNs⟩ := id C0
  have hok2 := me_okF hka2
  have hsp1 : ∀ k, k < 8 → o_X1_isSpoiled true (f1 k) = false := fun k hk => (hka1 k hk).2
  have hsp2 : ∀ k, k < 8 → o_X1_isSpoiled false (f2 k) = false := fun k hk => (hka2 k hk).2
  refine lv_aload_n hx hb dL_law_1392 rfl (lv_at hl 1 rfl) ?_
  refine lv_aload_n hx hb dL_law_1393 rfl (lv_at hl 0 rfl) ?_
  refine lv_iload hx hb dL_law_1394 (lv_at hl 4 rfl) ?_
  refine lv_iconst (v := 1) hx hb dL_law_1396 (by decide +kernel) ?_
  refine lv_iadd hx hb dL_law_1397 ?_
  rw [nI_1 i]
  refine xa_sld hx hb hX hbl hbA hS (k := i + 1) (by omega) hL hp1 dL_law_1398 ?_
  refine lv_aload_n hx hb dL_law_1399 rfl (lv_at hl 0 rfl) ?_
  refine lv_iload hx hb dL_law_1400 (lv_at hl 4 rfl) ?_
  refine lv_iconst (v := 2) hx hb dL_law_1402 (by decide +kernel) ?_
  refine lv_iadd hx hb dL_law_1403 ?_
  rw [nI_p2 i]
  refine xa_sld hx hb hX hbl hbA hS (k := i + 2) (by omega) hL hp2 dL_law_1404 ?_
  refine lv_aload_n hx hb dL_law_1405 rfl (lv_at hl 3 rfl) ?_
  have hPc := hP.sub (ws' := [(h0, eE h1 h2 kn), (h1, eR hw1 hc1 hb1 a1 r1), (hw1, eW true), (hc1, eA cy f1), (hb1, eA cy g1), (h2, eR hw2 hc2 hb2 a2 r2), (hw2, eW false), (hc2, eA cy f2), (hb2, eA cy g2), (ho, eO nv sv)]) [0, 1, 2, 3, 4, 5, 6, 7, 8, 9] rfl
  have hDc := hD.sub (ws' := [(h0, eE h1 h2 kn), (h1, eR hw1 hc1 hb1 a1 r1), (hw1, eW true), (hc1, eA cy f1), (hb1, eA cy g1), (h2, eR hw2 hc2 hb2 a2 r2), (hw2, eW false), (hc2, eA cy f2), (hb2, eA cy g2), (ho, eO nv sv)]) [0, 1, 2, 3, 4, 5, 6, 7, 8, 9] (by decide +kernel) rfl
  have hKc := hK.sub (tys' := [(cy, .long)]) [0] rfl
  have hFc := va_free (wc := [(h0, eE h1 h2 kn), (h1, eR hw1 hc1 hb1 a1 r1), (hw1, eW true), (hc1, eA cy f1), (hb1, eA cy g1), (h2, eR hw2 hc2 hb2 a2 r2), (hw2, eW false), (hc2, eA cy f2), (hb2, eA cy g2), (ho, eO nv sv)]) hD hS hA [0, 1, 2, 3, 4, 5, 6, 7, 8, 9] rfl
  refine va_calli (vx_runSW (As := [.ref h0, .int p1, .int p2, .ref ho]) (rest := []) ⟨hx, hb, hml, hown, hts⟩ (k_L_narrowSwap l hfl dC dI cy h0 h1 hw1 hc1 hb1 h2 hw2 hc2 hb2 a1 r1 f1 g1 a2 r2 f2 g2 kn ho nv sv H.size N p1 p2) (vx_cwSW 4 hts gL_law_L_narrowSwap rfl rfl rfl (by decide +kernel) ⟨Nat.le_of_ble_eq_true rfl, Nat.le_of_ble_eq_true rfl⟩) (xL.preS hKc hPc hDc hAN (Nat.le_trans hN hS.1) (hG.kept hS hAN) hnc) rfl rfl hl.1 rfl (lv_room (Nat.le_of_ble_eq_true rfl)) dL_law_1406 ⟨(show _ ≤ 989448 by omega), (show _ ≤ 6127760 by omega)⟩) hS (fun q _ h => hFc q h) hFc (fun r_1 u t H locs ht hvm hw hB hz hk hS => ?_)
  replace hw : r_1 = (o_L_narrowSwap a2 f2 nv p1 p2).1 := hw
  subst r_1
  obtain ⟨hP1, hD1⟩ := hB
  rw [ht] at hP1
  obtain ⟨hP, hD⟩ := va_join (wr := [(m0, eM m1 m2 th (r1 + r2) kn), (m1, eMR true mc1 a1), (mc1, eA cy f1), (m2, eMR false mc2 a2), (mc2, eA cy f2)]) (w1 := [(h0, eE h1 h2 kn), (h1, eR hw1 hc1 hb1 a1 r1), (hw1, eW true), (hc1, eA cy f1), (hb1, eA cy g1), (h2, eR hw2 hc2 hb2 (o_L_narrowSwap a2 f2 nv p1 p2).2.1 r2), (hw2, eW false), (hc2, eA cy (o_L_narrowSwap a2 f2 nv p1 p2).2.2.1), (hb2, eA cy g2), (ho, eO (o_L_narrowSwap a2 f2 nv p1 p2).2.2.2 sv)]) hP hD [0, 1, 2, 3, 4, 5, 6, 7, 8, 9] [10, 11, 12, 13, 14] rfl rfl (by decide +kernel) (by decide +kernel) hk hFc hP1 hD1
  have hP := hP.sub (ws' := [(h0, eE h1 h2 kn), (h1, eR hw1 hc1 hb1 a1 r1), (hw1, eW true), (hc1, eA cy f1), (hb1, eA cy g1), (h2, eR hw2 hc2 hb2 (o_L_narrowSwap a2 f2 nv p1 p2).2.1 r2), (hw2, eW false), (hc2, eA cy (o_L_narrowSwap a2 f2 nv p1 p2).2.2.1), (hb2, eA cy g2), (ho, eO (o_L_narrowSwap a2 f2 nv p1 p2).2.2.2 sv), (m0, eM m1 m2 th (r1 + r2) kn), (m1, eMR true mc1 a1), (mc1, eA cy f1), (m2, eMR false mc2 a2), (mc2, eA cy f2)]) [5, 6, 7, 8, 9, 10, 11, 12, 13, 14, 0, 1, 2, 3, 4] rfl
  have hD := hD.sub (ws' := [(h0, eE h1 h2 kn), (h1, eR hw1 hc1 hb1 a1 r1), (hw1, eW true), (hc1, eA cy f1), (hb1, eA cy g1), (h2, eR hw2 hc2 hb2 (o_L_narrowSwap a2 f2 nv p1 p2).2.1 r2), (hw2, eW false), (hc2, eA cy (o_L_narrowSwap a2 f2 nv p1 p2).2.2.1), (hb2, eA cy g2), (ho, eO (o_L_narrowSwap a2 f2 nv p1 p2).2.2.2 sv), (m0, eM m1 m2 th (r1 + r2) kn), (m1, eMR true mc1 a1), (mc1, eA cy f1), (m2, eMR false mc2 a2), (mc2, eA cy f2)]) [5, 6, 7, 8, 9, 10, 11, 12, 13, 14, 0, 1, 2, 3, 4] (by decide +kernel) rfl
  refine lv_istore (lv' := [(5, .int ((o_L_narrowSwap a2 f2 nv p1 p2).1)), (0, .ref b), (1, .ref h0), (2, .ref m0), (3, .ref ho), (4, .int (nI i))]) hx hb dL_law_1409 hl (by decide +kernel) rfl (fun ls hl => ?_)
  refine lv_aload_n hx hb dL_law_1411 rfl (lv_at hl 3 rfl) ?_
  refine lv_aload_n hx hb dL_law_1412 rfl (lv_at hl 1 rfl) ?_
  refine lv_iload hx hb dL_law_1413 (lv_at hl 5 rfl) ?_
  refine lv_iconst (v := 1) hx hb dL_law_1415 (by decide +kernel) ?_
  refine lv_iadd hx hb dL_law_1416 ?_
  rw [nI_1 i]
  refine xa_sld hx hb hX hbl hbA hS (k := i + 1) (by omega) hL hp1 dL_law_1417 ?_
  refine lv_aload_n hx hb dL_law_1418 rfl (lv_at hl 1 rfl) ?_
  refine lv_iload hx hb dL_law_1419 (lv_at hl 5 rfl) ?_
  refine lv_iconst (v := 2) hx hb dL_law_1421 (by decide +kernel) ?_
  refine lv_iadd hx hb dL_law_1422 ?_
  rw [nI_p2 i]
  refine xa_sld hx hb hX hbl hbA hS (k := i + 2) (by omega) hL hp2 dL_law_1423 ?_
  have hPc := hP.sub (ws' := [(m0, eM m1 m2 th (r1 + r2) kn), (m1, eMR true mc1 a1), (mc1, eA cy f1), (m2, eMR false mc2 a2), (mc2, eA cy f2)]) [10, 11, 12, 13, 14] rfl
  have hDc := hD.sub (ws' := [(m0, eM m1 m2 th (r1 + r2) kn), (m1, eMR true mc1 a1), (mc1, eA cy f1), (m2, eMR false mc2 a2), (mc2, eA cy f2)]) [10, 11, 12, 13, 14] (by decide +kernel) rfl
  have hKc := hK.sub (tys' := [(cy, .long)]) [0] rfl
  have hFc := va_free (wc := [(m0, eM m1 m2 th (r1 + r2) kn), (m1, eMR true mc1 a1), (mc1, eA cy f1), (m2, eMR false mc2 a2), (mc2, eA cy f2)]) hD hS hA [10, 11, 12, 13, 14] rfl
  refine va_calli (va_runV (As := [.int p1, .int p2]) (rest := []) ⟨hx, hb, hml, hown, hts⟩ (k_X5_narrowSwap l dC dI cy m0 m1 mc1 m2 mc2 a1 f1 a2 f2 th (r1 + r2) kn H.size N p1 p2) (cwV 2 hts gL_law_X5_narrowSwap rfl rfl rfl (by decide +kernel) ⟨Nat.le_of_ble_eq_true rfl, Nat.le_of_ble_eq_true rfl⟩) (xM.preV hKc hPc hDc hAN (Nat.le_trans hN hS.1) (hG.kept hS hAN) (ci := 7) (q0 := 0) rfl rfl) rfl rfl hl.1 rfl (lv_room (Nat.le_of_ble_eq_true rfl)) dL_law_1424 ⟨(show _ ≤ 989448 by omega), (show _ ≤ 6127760 by omega)⟩) hS (fun q _ h => hFc q h) hFc (fun r_2 u t H locs ht hvm hw hB hz hk hS => ?_)
  replace hw : r_2 = (o_X5_narrowSwap a2 f2 p1 p2).1 := hw
  subst r_2
  obtain ⟨hP1, hD1⟩ := hB
  rw [ht] at hP1
  obtain ⟨hP, hD⟩ := va_join (wr := [(h0, eE h1 h2 kn), (h1, eR hw1 hc1 hb1 a1 r1), (hw1, eW true), (hc1, eA cy f1), (hb1, eA cy g1), (h2, eR hw2 hc2 hb2 (o_L_narrowSwap a2 f2 nv p1 p2).2.1 r2), (hw2, eW false), (hc2, eA cy (o_L_narrowSwap a2 f2 nv p1 p2).2.2.1), (hb2, eA cy g2), (ho, eO (o_L_narrowSwap a2 f2 nv p1 p2).2.2.2 sv)]) (w1 := [(m0, eM m1 m2 (o_X5_narrowSwap a2 f2 p1 p2).2.2.2 (r1 + r2) kn), (m1, eMR true mc1 a1), (mc1, eA cy f1), (m2, eMR false mc2 (o_X5_narrowSwap a2 f2 p1 p2).2.1), (mc2, eA cy (o_X5_narrowSwap a2 f2 p1 p2).2.2.1)]) hP hD [10, 11, 12, 13, 14] [0, 1, 2, 3, 4, 5, 6, 7, 8, 9] rfl rfl (by decide +kernel) (by decide +kernel) hk hFc hP1 hD1
  have hP := hP.sub (ws' := [(h0, eE h1 h2 kn), (h1, eR hw1 hc1 hb1 a1 r1), (hw1, eW true), (hc1, eA cy f1), (hb1, eA cy g1), (h2, eR hw2 hc2 hb2 (o_L_narrowSwap a2 f2 nv p1 p2).2.1 r2), (hw2, eW false), (hc2, eA cy (o_L_narrowSwap a2 f2 nv p1 p2).2.2.1), (hb2, eA cy g2), (ho, eO (o_L_narrowSwap a2 f2 nv p1 p2).2.2.2 sv), (m0, eM m1 m2 (o_X5_narrowSwap a2 f2 p1 p2).2.2.2 (r1 + r2) kn), (m1, eMR true mc1 a1), (mc1, eA cy f1), (m2, eMR false mc2 (o_X5_narrowSwap a2 f2 p1 p2).2.1), (mc2, eA cy (o_X5_narrowSwap a2 f2 p1 p2).2.2.1)]) [0, 1, 2, 3, 4, 5, 6, 7, 8, 9, 10, 11, 12, 13, 14] rfl
  have hD := hD.sub (ws' := [(h0, eE h1 h2 kn), (h1, eR hw1 hc1 hb1 a1 r1), (hw1, eW true), (hc1, eA cy f1), (hb1, eA cy g1), (h2, eR hw2 hc2 hb2 (o_L_narrowSwap a2 f2 nv p1 p2).2.1 r2), (hw2, eW false), (hc2, eA cy (o_L_narrowSwap a2 f2 nv p1 p2).2.2.1), (hb2, eA cy g2), (ho, eO (o_L_narrowSwap a2 f2 nv p1 p2).2.2.2 sv), (m0, eM m1 m2 (o_X5_narrowSwap a2 f2 p1 p2).2.2.2 (r1 + r2) kn), (m1, eMR true mc1 a1), (mc1, eA cy f1), (m2, eMR false mc2 (o_X5_narrowSwap a2 f2 p1 p2).2.1), (mc2, eA cy (o_X5_narrowSwap a2 f2 p1 p2).2.2.1)]) [0, 1, 2, 3, 4, 5, 6, 7, 8, 9, 10, 11, 12, 13, 14] (by decide +kernel) rfl
  refine lv_istore (lv' := [(6, .int ((o_X5_narrowSwap a2 f2 p1 p2).1)), (5, .int ((o_L_narrowSwap a2 f2 nv p1 p2).1)), (0, .ref b), (1, .ref h0), (2, .ref m0), (3, .ref ho), (4, .int (nI i))]) hx hb dL_law_1427 hl (by decide +kernel) rfl (fun ls hl => ?_)
  refine lv_goto (tgt := 2240) hx hb dL_law_1429 (by decide +kernel) ?_
  refine W.widen (k := cells + 760) (n := slots + 4500) (by omega) (by omega) ?_
  have qe_b2 : (o_X5_narrowSwap a2 f2 p1 p2).2.1 = (o_L_narrowSwap a2 f2 nv p1 p2).2.1 := (by have hm := ml_narrowSwap a2 nv p1 p2 hka2; rw [hm.1] <;> rfl)
  have qe_e2 : (o_X5_narrowSwap a2 f2 p1 p2).2.2.1 = (o_L_narrowSwap a2 f2 nv p1 p2).2.2.1 := (by have hm := ml_narrowSwap a2 nv p1 p2 hka2; rw [hm.1] <;> rfl)
  have qk_2 : okA false ((o_L_narrowSwap a2 f2 nv p1 p2).2.2.1) := (by have hm := ml_narrowSwap a2 nv p1 p2 hka2; rw [hm.1]; exact hm.2)
  exact K a1 r1 f1 g1 ((o_L_narrowSwap a2 f2 nv p1 p2).2.1) r2 ((o_L_narrowSwap a2 f2 nv p1 p2).2.2.1) g2 kn ((o_L_narrowSwap a2 f2 nv p1 p2).2.2.2) sv ((o_X5_narrowSwap a2 f2 p1 p2).2.2.2) a1 f1 ((o_X5_narrowSwap a2 f2 p1 p2).2.1) ((o_X5_narrowSwap a2 f2 p1 p2).2.2.1) (r1 + r2) kn _ _ _ rfl rfl qe_b2 qe_e2 rfl rfl hka1 qk_2 hP hD hS (lv_sub hl [2, 3, 4, 5, 6] rfl)
set_option maxHeartbeats 4000000 in
set_option maxRecDepth 100000 in
theorem st_28 (l : Launch) (p : Program) (e : Env) (s : State) (m : MethodId) (below : List Frame) (meth : Method) (c : Code) (b L N : Nat) (xs : Nat → Int32) (A : Nat → Prop) (dC : Nat → ClassId) (dI : Nat → Nat → Nat) (cy cB : ClassId) (h0 h1 hw1 hc1 hb1 h2 hw2 hc2 hb2 ho m0 m1 mc1 m2 mc2 : Nat) (C0 : lw_C l p e s m below meth c b L N xs A dC dI cy cB) (i : Nat) (hi : i + 4 ≤ L) (p1 p2 p3 : Int32) (hp1 : xs (i + 1) = p1) (hp2 : xs (i + 2) = p2) (hp3 : xs (i + 3) = p3) (cells slots : Nat) (hcs : cells + 760 ≤ 989448) (hss : slots + 4500 ≤ 6127760) (K : lw_K l p e s m below meth c b L N xs A dC dI cy cB h0 h1 hw1 hc1 hb1 h2 hw2 hc2 hb2 ho m0 m1 mc1 m2 mc2 i (cells + 760) (slots + 4500) 2240) (a1 : Int32) (r1 : Int32) (f1 : Nat → Int64) (g1 : Nat → Int64) (a2 : Int32) (r2 : Int32) (f2 : Nat → Int64) (g2 : Nat → Int64) (kn : Int32) (nv : Int64) (sv : Value) (th : Int32) (H : Heap) (locs : List Loc) (ls : Array Slot) (hka1 : okA true f1) (hka2 : okA false f2) (hP : va_P (dC, dI) xCl [(h0, eE h1 h2 kn), (h1, eR hw1 hc1 hb1 a1 r1), (hw1, eW true), (hc1, eA cy f1), (hb1, eA cy g1), (h2, eR hw2 hc2 hb2 a2 r2), (hw2, eW false), (hc2, eA cy f2), (hb2, eA cy g2), (ho, eO nv sv), (m0, eM m1 m2 th (r1 + r2) kn), (m1, eMR true mc1 a1), (mc1, eA cy f1), (m2, eMR false mc2 a2), (mc2, eA cy f2)] H) (hD : va_D A [(h0, eE h1 h2 kn), (h1, eR hw1 hc1 hb1 a1 r1), (hw1, eW true), (hc1, eA cy f1), (hb1, eA cy g1), (h2, eR hw2 hc2 hb2 a2 r2), (hw2, eW false), (hc2, eA cy f2), (hb2, eA cy g2), (ho, eO nv sv), (m0, eM m1 m2 th (r1 + r2) kn), (m1, eMR true mc1 a1), (mc1, eA cy f1), (m2, eMR false mc2 a2), (mc2, eA cy f2)]) (hS : va_S A s.heap H locs) (hl : lv_has ls 7 [(0, .ref b), (1, .ref h0), (2, .ref m0), (3, .ref ho), (4, .int (nI i))]) : W p l e room_1 s m #[Value.ref b] below meth c H locs cells slots (lw_Z below #[Value.ref b] s) (F0 m 1432 ls []) := by
  obtain ⟨hfl, hx, hb, hr, hml, hown, hts, hX, hbl, hbA, hlocks, hK, hG, hnc, hA, hAN, hN, hL, hT, hNs⟩ := id C0
  have hok2 := me_okF hka2
  have hsp1 : ∀ k, k < 8 → o_X1_isSpoiled true (f1 k) = false := fun k hk => (hka1 k hk).2
  have hsp2 : ∀ k, k < 8 → o_X1_isSpoiled false (f2 k) = false := fun k hk => (hka2 k hk).2
  refine lv_aload_n hx hb dL_law_1432 rfl (lv_at hl 1 rfl) ?_
  refine lv_aload_n hx hb dL_law_1433 rfl (lv_at hl 0 rfl) ?_
  refine lv_iload hx hb dL_law_1434 (lv_at hl 4 rfl) ?_
  refine lv_iconst (v := 1) hx hb dL_law_1436 (by decide +kernel) ?_
  refine lv_iadd hx hb dL_law_1437 ?_
  rw [nI_1 i]
  refine xa_sld hx hb hX hbl hbA hS (k := i + 1) (by omega) hL hp1 dL_law_1438 ?_
  refine lv_aload_n hx hb dL_law_1439 rfl (lv_at hl 0 rfl) ?_
  refine lv_iload hx hb dL_law_1440 (lv_at hl 4 rfl) ?_
  refine lv_iconst (v := 2) hx hb dL_law_1442 (by decide +kernel) ?_
  refine lv_iadd hx hb dL_law_1443 ?_
  rw [nI_p2 i]
  refine xa_sld hx hb hX hbl hbA hS (k := i + 2) (by omega) hL hp2 dL_law_1444 ?_
  refine lv_aload_n hx hb dL_law_1445 rfl (lv_at hl 0 rfl) ?_
  refine lv_iload hx hb dL_law_1446 (lv_at hl 4 rfl) ?_
  refine lv_iconst (v := 3) hx hb dL_law_1448 (by decide +kernel) ?_
  refine lv_iadd hx hb dL_law_1449 ?_
  rw [nI_p3 i]
  refine xa_sld hx hb hX hbl hbA hS (k := i + 3) (by omega) hL hp3 dL_law_1450 ?_
  refine lv_aload_n hx hb dL_law_1451 rfl (lv_at hl 3 rfl) ?_
  have hPc := hP.sub (ws' := [(h0, eE h1 h2 kn), (h1, eR hw1 hc1 hb1 a1 r1), (hw1, eW true), (hc1, eA cy f1), (hb1, eA cy g1), (h2, eR hw2 hc2 hb2 a2 r2), (hw2, eW false), (hc2, eA cy f2), (hb2, eA cy g2), (ho, eO nv sv)]) [0, 1, 2, 3, 4, 5, 6, 7, 8, 9] rfl
  have hDc := hD.sub (ws' := [(h0, eE h1 h2 kn), (h1, eR hw1 hc1 hb1 a1 r1), (hw1, eW true), (hc1, eA cy f1), (hb1, eA cy g1), (h2, eR hw2 hc2 hb2 a2 r2), (hw2, eW false), (hc2, eA cy f2), (hb2, eA cy g2), (ho, eO nv sv)]) [0, 1, 2, 3, 4, 5, 6, 7, 8, 9] (by decide +kernel) rfl
  have hKc := hK.sub (tys' := [(cy, .long)]) [0] rfl
  have hFc := va_free (wc := [(h0, eE h1 h2 kn), (h1, eR hw1 hc1 hb1 a1 r1), (hw1, eW true), (hc1, eA cy f1), (hb1, eA cy g1), (h2, eR hw2 hc2 hb2 a2 r2), (hw2, eW false), (hc2, eA cy f2), (hb2, eA cy g2), (ho, eO nv sv)]) hD hS hA [0, 1, 2, 3, 4, 5, 6, 7, 8, 9] rfl
  refine va_calli (vx_runSW (As := [.ref h0, .int p1, .int p2, .int p3, .ref ho]) (rest := []) ⟨hx, hb, hml, hown, hts⟩ (k_L_narrowMax l hfl dC dI cy h0 h1 hw1 hc1 hb1 h2 hw2 hc2 hb2 a1 r1 f1 g1 a2 r2 f2 g2 kn ho nv sv H.size N p1 p2 p3) (vx_cwSW 5 hts gL_law_L_narrowMax rfl rfl rfl (by decide +kernel) ⟨Nat.le_of_ble_eq_true rfl, Nat.le_of_ble_eq_true rfl⟩) (xL.preS hKc hPc hDc hAN (Nat.le_trans hN hS.1) (hG.kept hS hAN) hnc) rfl rfl hl.1 rfl (lv_room (Nat.le_of_ble_eq_true rfl)) dL_law_1452 ⟨(show _ ≤ 989448 by omega), (show _ ≤ 6127760 by omega)⟩) hS (fun q _ h => hFc q h) hFc (fun r_1 u t H locs ht hvm hw hB hz hk hS => ?_)
  replace hw : r_1 = (o_L_narrowMax a2 f2 nv p1 p2 p3).1 := hw
  subst r_1
  obtain ⟨hP1, hD1⟩ := hB
  rw [ht] at hP1
  obtain ⟨hP, hD⟩ := va_join (wr := [(m0, eM m1 m2 th (r1 + r2) kn), (m1, eMR true mc1 a1), (mc1, eA cy f1), (m2, eMR false mc2 a2), (mc2, eA cy f2)]) (w1 := [(h0, eE h1 h2 kn), (h1, eR hw1 hc1 hb1 a1 r1), (hw1, eW true), (hc1, eA cy f1), (hb1, eA cy g1), (h2, eR hw2 hc2 hb2 (o_L_narrowMax a2 f2 nv p1 p2 p3).2.1 r2), (hw2, eW false), (hc2, eA cy (o_L_narrowMax a2 f2 nv p1 p2 p3).2.2.1), (hb2, eA cy g2), (ho, eO (o_L_narrowMax a2 f2 nv p1 p2 p3).2.2.2 sv)]) hP hD [0, 1, 2, 3, 4, 5, 6, 7, 8, 9] [10, 11, 12, 13, 14] rfl rfl (by decide +kernel) (by decide +kernel) hk hFc hP1 hD1
  have hP := hP.sub (ws' := [(h0, eE h1 h2 kn), (h1, eR hw1 hc1 hb1 a1 r1), (hw1, eW true), (hc1, eA cy f1), (hb1, eA cy g1), (h2, eR hw2 hc2 hb2 (o_L_narrowMax a2 f2 nv p1 p2 p3).2.1 r2), (hw2, eW false), (hc2, eA cy (o_L_narrowMax a2 f2 nv p1 p2 p3).2.2.1), (hb2, eA cy g2), (ho, eO (o_L_narrowMax a2 f2 nv p1 p2 p3).2.2.2 sv), (m0, eM m1 m2 th (r1 + r2) kn), (m1, eMR true mc1 a1), (mc1, eA cy f1), (m2, eMR false mc2 a2), (mc2, eA cy f2)]) [5, 6, 7, 8, 9, 10, 11, 12, 13, 14, 0, 1, 2, 3, 4] rfl
  have hD := hD.sub (ws' := [(h0, eE h1 h2 kn), (h1, eR hw1 hc1 hb1 a1 r1), (hw1, eW true), (hc1, eA cy f1), (hb1, eA cy g1), (h2, eR hw2 hc2 hb2 (o_L_narrowMax a2 f2 nv p1 p2 p3).2.1 r2), (hw2, eW false), (hc2, eA cy (o_L_narrowMax a2 f2 nv p1 p2 p3).2.2.1), (hb2, eA cy g2), (ho, eO (o_L_narrowMax a2 f2 nv p1 p2 p3).2.2.2 sv), (m0, eM m1 m2 th (r1 + r2) kn), (m1, eMR true mc1 a1), (mc1, eA cy f1), (m2, eMR false mc2 a2), (mc2, eA cy f2)]) [5, 6, 7, 8, 9, 10, 11, 12, 13, 14, 0, 1, 2, 3, 4] (by decide +kernel) rfl
  refine lv_istore (lv' := [(5, .int ((o_L_narrowMax a2 f2 nv p1 p2 p3).1)), (0, .ref b), (1, .ref h0), (2, .ref m0), (3, .ref ho), (4, .int (nI i))]) hx hb dL_law_1455 hl (by decide +kernel) rfl (fun ls hl => ?_)
  refine lv_aload_n hx hb dL_law_1457 rfl (lv_at hl 3 rfl) ?_
  refine lv_aload_n hx hb dL_law_1458 rfl (lv_at hl 1 rfl) ?_
  refine lv_iload hx hb dL_law_1459 (lv_at hl 5 rfl) ?_
  refine lv_iconst (v := 1) hx hb dL_law_1461 (by decide +kernel) ?_
  refine lv_iadd hx hb dL_law_1462 ?_
  rw [nI_1 i]
  refine xa_sld hx hb hX hbl hbA hS (k := i + 1) (by omega) hL hp1 dL_law_1463 ?_
  refine lv_aload_n hx hb dL_law_1464 rfl (lv_at hl 1 rfl) ?_
  refine lv_iload hx hb dL_law_1465 (lv_at hl 5 rfl) ?_
  refine lv_iconst (v := 2) hx hb dL_law_1467 (by decide +kernel) ?_
  refine lv_iadd hx hb dL_law_1468 ?_
  rw [nI_p2 i]
  refine xa_sld hx hb hX hbl hbA hS (k := i + 2) (by omega) hL hp2 dL_law_1469 ?_
  refine lv_aload_n hx hb dL_law_1470 rfl (lv_at hl 1 rfl) ?_
  refine lv_iload hx hb dL_law_1471 (lv_at hl 5 rfl) ?_
  refine lv_iconst (v := 3) hx hb dL_law_1473 (by decide +kernel) ?_
  refine lv_iadd hx hb dL_law_1474 ?_
  rw [nI_p3 i]
  refine xa_sld hx hb hX hbl hbA hS (k := i + 3) (by omega) hL hp3 dL_law_1475 ?_
  have hPc := hP.sub (ws' := [(m0, eM m1 m2 th (r1 + r2) kn), (m1, eMR true mc1 a1), (mc1, eA cy f1), (m2, eMR false mc2 a2), (mc2, eA cy f2)]) [10, 11, 12, 13, 14] rfl
  have hDc := hD.sub (ws' := [(m0, eM m1 m2 th (r1 + r2) kn), (m1, eMR true mc1 a1), (mc1, eA cy f1), (m2, eMR false mc2 a2), (mc2, eA cy f2)]) [10, 11, 12, 13, 14] (by decide +kernel) rfl
  have hKc := hK.sub (tys' := [(cy, .long)]) [0] rfl
  have hFc := va_free (wc := [(m0, eM m1 m2 th (r1 + r2) kn), (m1, eMR true mc1 a1), (mc1, eA cy f1), (m2, eMR false mc2 a2), (mc2, eA cy f2)]) hD hS hA [10, 11, 12, 13, 14] rfl
  refine va_calli (va_runV (As := [.int p1, .int p2, .int p3]) (rest := []) ⟨hx, hb, hml, hown, hts⟩ (k_X5_narrowMax l dC dI cy m0 m1 mc1 m2 mc2 a1 f1 a2 f2 th (r1 + r2) kn H.size N p1 p2 p3) (cwV 3 hts gL_law_X5_narrowMax rfl rfl rfl (by decide +kernel) ⟨Nat.le_of_ble_eq_true rfl, Nat.le_of_ble_eq_true rfl⟩) (xM.preV hKc hPc hDc hAN (Nat.le_trans hN hS.1) (hG.kept hS hAN) (ci := 7) (q0 := 0) rfl rfl) rfl rfl hl.1 rfl (lv_room (Nat.le_of_ble_eq_true rfl)) dL_law_1476 ⟨(show _ ≤ 989448 by omega), (show _ ≤ 6127760 by omega)⟩) hS (fun q _ h => hFc q h) hFc (fun r_2 u t H locs ht hvm hw hB hz hk hS => ?_)
  replace hw : r_2 = (o_X5_narrowMax a2 f2 p1 p2 p3).1 := hw
  subst r_2
  obtain ⟨hP1, hD1⟩ := hB
  rw [ht] at hP1
  obtain ⟨hP, hD⟩ := va_join (wr := [(h0, eE h1 h2 kn), (h1, eR hw1 hc1 hb1 a1 r1), (hw1, eW true), (hc1, eA cy f1), (hb1, eA cy g1), (h2, eR hw2 hc2 hb2 (o_L_narrowMax a2 f2 nv p1 p2 p3).2.1 r2), (hw2, eW false), (hc2, eA cy (o_L_narrowMax a2 f2 nv p1 p2 p3).2.2.1), (hb2, eA cy g2), (ho, eO (o_L_narrowMax a2 f2 nv p1 p2 p3).2.2.2 sv)]) (w1 := [(m0, eM m1 m2 (o_X5_narrowMax a2 f2 p1 p2 p3).2.2.2 (r1 + r2) kn), (m1, eMR true mc1 a1), (mc1, eA cy f1), (m2, eMR false mc2 (o_X5_narrowMax a2 f2 p1 p2 p3).2.1), (mc2, eA cy (o_X5_narrowMax a2 f2 p1 p2 p3).2.2.1)]) hP hD [10, 11, 12, 13, 14] [0, 1, 2, 3, 4, 5, 6, 7, 8, 9] rfl rfl (by decide +kernel) (by decide +kernel) hk hFc hP1 hD1
  have hP := hP.sub (ws' := [(h0, eE h1 h2 kn), (h1, eR hw1 hc1 hb1 a1 r1), (hw1, eW true), (hc1, eA cy f1), (hb1, eA cy g1), (h2, eR hw2 hc2 hb2 (o_L_narrowMax a2 f2 nv p1 p2 p3).2.1 r2), (hw2, eW false), (hc2, eA cy (o_L_narrowMax a2 f2 nv p1 p2 p3).2.2.1), (hb2, eA cy g2), (ho, eO (o_L_narrowMax a2 f2 nv p1 p2 p3).2.2.2 sv), (m0, eM m1 m2 (o_X5_narrowMax a2 f2 p1 p2 p3).2.2.2 (r1 + r2) kn), (m1, eMR true mc1 a1), (mc1, eA cy f1), (m2, eMR false mc2 (o_X5_narrowMax a2 f2 p1 p2 p3).2.1), (mc2, eA cy (o_X5_narrowMax a2 f2 p1 p2 p3).2.2.1)]) [0, 1, 2, 3, 4, 5, 6, 7, 8, 9, 10, 11, 12, 13, 14] rfl
  have hD := hD.sub (ws' := [(h0, eE h1 h2 kn), (h1, eR hw1 hc1 hb1 a1 r1), (hw1, eW true), (hc1, eA cy f1), (hb1, eA cy g1), (h2, eR hw2 hc2 hb2 (o_L_narrowMax a2 f2 nv p1 p2 p3).2.1 r2), (hw2, eW false), (hc2, eA cy (o_L_narrowMax a2 f2 nv p1 p2 p3).2.2.1), (hb2, eA cy g2), (ho, eO (o_L_narrowMax a2 f2 nv p1 p2 p3).2.2.2 sv), (m0, eM m1 m2 (o_X5_narrowMax a2 f2 p1 p2 p3).2.2.2 (r1 + r2) kn), (m1, eMR true mc1 a1), (mc1, eA cy f1), (m2, eMR false mc2 (o_X5_narrowMax a2 f2 p1 p2 p3).2.1), (mc2, eA cy (o_X5_narrowMax a2 f2 p1 p2 p3).2.2.1)]) [0, 1, 2, 3, 4, 5, 6, 7, 8, 9, 10, 11, 12, 13, 14] (by decide +kernel) rfl
  refine lv_istore (lv' := [(6, .int ((o_X5_narrowMax a2 f2 p1 p2 p3).1)), (5, .int ((o_L_narrowMax a2 f2 nv p1 p2 p3).1)), (0, .ref b), (1, .ref h0), (2, .ref m0), (3, .ref ho), (4, .int (nI i))]) hx hb dL_law_1479 hl (by decide +kernel) rfl (fun ls hl => ?_)
  refine lv_goto (tgt := 2240) hx hb dL_law_1481 (by decide +kernel) ?_
  refine W.widen (k := cells + 760) (n := slots + 4500) (by omega) (by omega) ?_
  have qe_b2 : (o_X5_narrowMax a2 f2 p1 p2 p3).2.1 = (o_L_narrowMax a2 f2 nv p1 p2 p3).2.1 := (by have hm := ml_narrowMax a2 nv p1 p2 p3 hka2; rw [hm.1] <;> rfl)
  have qe_e2 : (o_X5_narrowMax a2 f2 p1 p2 p3).2.2.1 = (o_L_narrowMax a2 f2 nv p1 p2 p3).2.2.1 := (by have hm := ml_narrowMax a2 nv p1 p2 p3 hka2; rw [hm.1] <;> rfl)
  have qk_2 : okA false ((o_L_narrowMax a2 f2 nv p1 p2 p3).2.2.1) := (by have hm := ml_narrowMax a2 nv p1 p2 p3 hka2; rw [hm.1]; exact hm.2)
  exact K a1 r1 f1 g1 ((o_L_narrowMax a2 f2 nv p1 p2 p3).2.1) r2 ((o_L_narrowMax a2 f2 nv p1 p2 p3).2.2.1) g2 kn ((o_L_narrowMax a2 f2 nv p1 p2 p3).2.2.2) sv ((o_X5_narrowMax a2 f2 p1 p2 p3).2.2.2) a1 f1 ((o_X5_narrowMax a2 f2 p1 p2 p3).2.1) ((o_X5_narrowMax a2 f2 p1 p2 p3).2.2.1) (r1 + r2) kn _ _ _ rfl rfl qe_b2 qe_e2 rfl rfl hka1 qk_2 hP hD hS (lv_sub hl [2, 3, 4, 5, 6] rfl)
set_option maxHeartbeats 4000000 in
set_option maxRecDepth 100000 in
theorem st_29 (l : Launch) (p : Program) (e : Env) (s : State) (m : MethodId) (below : List Frame) (meth : Method) (c : Code) (b L N : Nat) (xs : Nat → Int32) (A : Nat → Prop) (dC : Nat → ClassId) (dI : Nat → Nat → Nat) (cy cB : ClassId) (h0 h1 hw1 hc1 hb1 h2 hw2 hc2 hb2 ho m0 m1 mc1 m2 mc2 : Nat) (C0 : lw_C l p e s m below meth c b L N xs A dC dI cy cB) (i : Nat) (hi : i + 4 ≤ L) (p1 p2 p3 : Int32) (hp1 : xs (i + 1) = p1) (hp2 : xs (i + 2) = p2) (hp3 : xs (i + 3) = p3) (cells slots : Nat) (hcs : cells + 760 ≤ 989448) (hss : slots + 4500 ≤ 6127760) (K : lw_K l p e s m below meth c b L N xs A dC dI cy cB h0 h1 hw1 hc1 hb1 h2 hw2 hc2 hb2 ho m0 m1 mc1 m2 mc2 i (cells + 760) (slots + 4500) 2240) (a1 : Int32) (r1 : Int32) (f1 : Nat → Int64) (g1 : Nat → Int64) (a2 : Int32) (r2 : Int32) (f2 : Nat → Int64) (g2 : Nat → Int64) (kn : Int32) (nv : Int64) (sv : Value) (th : Int32) (H : Heap) (locs : List Loc) (ls : Array Slot) (hka1 : okA true f1) (hka2 : okA false f2) (hP : va_P (dC, dI) xCl [(h0, eE h1 h2 kn), (h1, eR hw1 hc1 hb1 a1 r1), (hw1, eW true), (hc1, eA cy f1), (hb1, eA cy g1), (h2, eR hw2 hc2 hb2 a2 r2), (hw2, eW false), (hc2, eA cy f2), (hb2, eA cy g2), (ho, eO nv sv), (m0, eM m1 m2 th (r1 + r2) kn), (m1, eMR true mc1 a1), (mc1, eA cy f1), (m2, eMR false mc2 a2), (mc2, eA cy f2)] H) (hD : va_D A [(h0, eE h1 h2 kn), (h1, eR hw1 hc1 hb1 a1 r1), (hw1, eW true), (hc1, eA cy f1), (hb1, eA cy g1), (h2, eR hw2 hc2 hb2 a2 r2), (hw2, eW false), (hc2, eA cy f2), (hb2, eA cy g2), (ho, eO nv sv), (m0, eM m1 m2 th (r1 + r2) kn), (m1, eMR true mc1 a1), (mc1, eA cy f1), (m2, eMR false mc2 a2), (mc2, eA cy f2)]) (hS : va_S A s.heap H locs) (hl : lv_has ls 7 [(0, .ref b), (1, .ref h0), (2, .ref m0), (3, .ref ho), (4, .int (nI i))]) : W p l e room_1 s m #[Value.ref b] below meth c H locs cells slots (lw_Z below #[Value.ref b] s) (F0 m 1484 ls []) := by
  obtain ⟨hfl, hx, hb, hr, hml, hown, hts, hX, hbl, hbA, hlocks, hK, hG, hnc, hA, hAN, hN, hL, hT, hNs⟩ := id C0
  have hok2 := me_okF hka2
  have hsp1 : ∀ k, k < 8 → o_X1_isSpoiled true (f1 k) = false := fun k hk => (hka1 k hk).2
  have hsp2 : ∀ k, k < 8 → o_X1_isSpoiled false (f2 k) = false := fun k hk => (hka2 k hk).2
  refine lv_aload_n hx hb dL_law_1484 rfl (lv_at hl 1 rfl) ?_
  refine lv_aload_n hx hb dL_law_1485 rfl (lv_at hl 0 rfl) ?_
  refine lv_iload hx hb dL_law_1486 (lv_at hl 4 rfl) ?_
  refine lv_iconst (v := 1) hx hb dL_law_1488 (by decide +kernel) ?_
  refine lv_iadd hx hb dL_law_1489 ?_
  rw [nI_1 i]
  refine xa_sld hx hb hX hbl hbA hS (k := i + 1) (by omega) hL hp1 dL_law_1490 ?_
  refine lv_aload_n hx hb dL_law_1491 rfl (lv_at hl 0 rfl) ?_
  refine lv_iload hx hb dL_law_1492 (lv_at hl 4 rfl) ?_
  refine lv_iconst (v := 2) hx hb dL_law_1494 (by decide +kernel) ?_
  refine lv_iadd hx hb dL_law_1495 ?_
  rw [nI_p2 i]
  refine xa_sld hx hb hX hbl hbA hS (k := i + 2) (by omega) hL hp2 dL_law_1496 ?_
  refine lv_aload_n hx hb dL_law_1497 rfl (lv_at hl 0 rfl) ?_
  refine lv_iload hx hb dL_law_1498 (lv_at hl 4 rfl) ?_
  refine lv_iconst (v := 3) hx hb dL_law_1500 (by decide +kernel) ?_
  refine lv_iadd hx hb dL_law_1501 ?_
  rw [nI_p3 i]
  refine xa_sld hx hb hX hbl hbA hS (k := i + 3) (by omega) hL hp3 dL_law_1502 ?_
  refine lv_aload_n hx hb dL_law_1503 rfl (lv_at hl 3 rfl) ?_
  have hPc := hP.sub (ws' := [(h0, eE h1 h2 kn), (h1, eR hw1 hc1 hb1 a1 r1), (hw1, eW true), (hc1, eA cy f1), (hb1, eA cy g1), (h2, eR hw2 hc2 hb2 a2 r2), (hw2, eW false), (hc2, eA cy f2), (hb2, eA cy g2), (ho, eO nv sv)]) [0, 1, 2, 3, 4, 5, 6, 7, 8, 9] rfl
  have hDc := hD.sub (ws' := [(h0, eE h1 h2 kn), (h1, eR hw1 hc1 hb1 a1 r1), (hw1, eW true), (hc1, eA cy f1), (hb1, eA cy g1), (h2, eR hw2 hc2 hb2 a2 r2), (hw2, eW false), (hc2, eA cy f2), (hb2, eA cy g2), (ho, eO nv sv)]) [0, 1, 2, 3, 4, 5, 6, 7, 8, 9] (by decide +kernel) rfl
  have hKc := hK.sub (tys' := [(cy, .long)]) [0] rfl
  have hFc := va_free (wc := [(h0, eE h1 h2 kn), (h1, eR hw1 hc1 hb1 a1 r1), (hw1, eW true), (hc1, eA cy f1), (hb1, eA cy g1), (h2, eR hw2 hc2 hb2 a2 r2), (hw2, eW false), (hc2, eA cy f2), (hb2, eA cy g2), (ho, eO nv sv)]) hD hS hA [0, 1, 2, 3, 4, 5, 6, 7, 8, 9] rfl
  refine va_calli (vx_runSW (As := [.ref h0, .int p1, .int p2, .int p3, .ref ho]) (rest := []) ⟨hx, hb, hml, hown, hts⟩ (k_L_narrowMin l hfl dC dI cy h0 h1 hw1 hc1 hb1 h2 hw2 hc2 hb2 a1 r1 f1 g1 a2 r2 f2 g2 kn ho nv sv H.size N p1 p2 p3) (vx_cwSW 5 hts gL_law_L_narrowMin rfl rfl rfl (by decide +kernel) ⟨Nat.le_of_ble_eq_true rfl, Nat.le_of_ble_eq_true rfl⟩) (xL.preS hKc hPc hDc hAN (Nat.le_trans hN hS.1) (hG.kept hS hAN) hnc) rfl rfl hl.1 rfl (lv_room (Nat.le_of_ble_eq_true rfl)) dL_law_1504 ⟨(show _ ≤ 989448 by omega), (show _ ≤ 6127760 by omega)⟩) hS (fun q _ h => hFc q h) hFc (fun r_1 u t H locs ht hvm hw hB hz hk hS => ?_)
  replace hw : r_1 = (o_L_narrowMin a2 f2 nv p1 p2 p3).1 := hw
  subst r_1
  obtain ⟨hP1, hD1⟩ := hB
  rw [ht] at hP1
  obtain ⟨hP, hD⟩ := va_join (wr := [(m0, eM m1 m2 th (r1 + r2) kn), (m1, eMR true mc1 a1), (mc1, eA cy f1), (m2, eMR false mc2 a2), (mc2, eA cy f2)]) (w1 := [(h0, eE h1 h2 kn), (h1, eR hw1 hc1 hb1 a1 r1), (hw1, eW true), (hc1, eA cy f1), (hb1, eA cy g1), (h2, eR hw2 hc2 hb2 (o_L_narrowMin a2 f2 nv p1 p2 p3).2.1 r2), (hw2, eW false), (hc2, eA cy (o_L_narrowMin a2 f2 nv p1 p2 p3).2.2.1), (hb2, eA cy g2), (ho, eO (o_L_narrowMin a2 f2 nv p1 p2 p3).2.2.2 sv)]) hP hD [0, 1, 2, 3, 4, 5, 6, 7, 8, 9] [10, 11, 12, 13, 14] rfl rfl (by decide +kernel) (by decide +kernel) hk hFc hP1 hD1
  have hP := hP.sub (ws' := [(h0, eE h1 h2 kn), (h1, eR hw1 hc1 hb1 a1 r1), (hw1, eW true), (hc1, eA cy f1), (hb1, eA cy g1), (h2, eR hw2 hc2 hb2 (o_L_narrowMin a2 f2 nv p1 p2 p3).2.1 r2), (hw2, eW false), (hc2, eA cy (o_L_narrowMin a2 f2 nv p1 p2 p3).2.2.1), (hb2, eA cy g2), (ho, eO (o_L_narrowMin a2 f2 nv p1 p2 p3).2.2.2 sv), (m0, eM m1 m2 th (r1 + r2) kn), (m1, eMR true mc1 a1), (mc1, eA cy f1), (m2, eMR false mc2 a2), (mc2, eA cy f2)]) [5, 6, 7, 8, 9, 10, 11, 12, 13, 14, 0, 1, 2, 3, 4] rfl
  have hD := hD.sub (ws' := [(h0, eE h1 h2 kn), (h1, eR hw1 hc1 hb1 a1 r1), (hw1, eW true), (hc1, eA cy f1), (hb1, eA cy g1), (h2, eR hw2 hc2 hb2 (o_L_narrowMin a2 f2 nv p1 p2 p3).2.1 r2), (hw2, eW false), (hc2, eA cy (o_L_narrowMin a2 f2 nv p1 p2 p3).2.2.1), (hb2, eA cy g2), (ho, eO (o_L_narrowMin a2 f2 nv p1 p2 p3).2.2.2 sv), (m0, eM m1 m2 th (r1 + r2) kn), (m1, eMR true mc1 a1), (mc1, eA cy f1), (m2, eMR false mc2 a2), (mc2, eA cy f2)]) [5, 6, 7, 8, 9, 10, 11, 12, 13, 14, 0, 1, 2, 3, 4] (by decide +kernel) rfl
  refine lv_istore (lv' := [(5, .int ((o_L_narrowMin a2 f2 nv p1 p2 p3).1)), (0, .ref b), (1, .ref h0), (2, .ref m0), (3, .ref ho), (4, .int (nI i))]) hx hb dL_law_1507 hl (by decide +kernel) rfl (fun ls hl => ?_)
  refine lv_aload_n hx hb dL_law_1509 rfl (lv_at hl 3 rfl) ?_
  refine lv_aload_n hx hb dL_law_1510 rfl (lv_at hl 1 rfl) ?_
  refine lv_iload hx hb dL_law_1511 (lv_at hl 5 rfl) ?_
  refine lv_iconst (v := 1) hx hb dL_law_1513 (by decide +kernel) ?_
  refine lv_iadd hx hb dL_law_1514 ?_
  rw [nI_1 i]
  refine xa_sld hx hb hX hbl hbA hS (k := i + 1) (by omega) hL hp1 dL_law_1515 ?_
  refine lv_aload_n hx hb dL_law_1516 rfl (lv_at hl 1 rfl) ?_
  refine lv_iload hx hb dL_law_1517 (lv_at hl 5 rfl) ?_
  refine lv_iconst (v := 2) hx hb dL_law_1519 (by decide +kernel) ?_
  refine lv_iadd hx hb dL_law_1520 ?_
  rw [nI_p2 i]
  refine xa_sld hx hb hX hbl hbA hS (k := i + 2) (by omega) hL hp2 dL_law_1521 ?_
  refine lv_aload_n hx hb dL_law_1522 rfl (lv_at hl 1 rfl) ?_
  refine lv_iload hx hb dL_law_1523 (lv_at hl 5 rfl) ?_
  refine lv_iconst (v := 3) hx hb dL_law_1525 (by decide +kernel) ?_
  refine lv_iadd hx hb dL_law_1526 ?_
  rw [nI_p3 i]
  refine xa_sld hx hb hX hbl hbA hS (k := i + 3) (by omega) hL hp3 dL_law_1527 ?_
  have hPc := hP.sub (ws' := [(m0, eM m1 m2 th (r1 + r2) kn), (m1, eMR true mc1 a1), (mc1, eA cy f1), (m2, eMR false mc2 a2), (mc2, eA cy f2)]) [10, 11, 12, 13, 14] rfl
  have hDc := hD.sub (ws' := [(m0, eM m1 m2 th (r1 + r2) kn), (m1, eMR true mc1 a1), (mc1, eA cy f1), (m2, eMR false mc2 a2), (mc2, eA cy f2)]) [10, 11, 12, 13, 14] (by decide +kernel) rfl
  have hKc := hK.sub (tys' := [(cy, .long)]) [0] rfl
  have hFc := va_free (wc := [(m0, eM m1 m2 th (r1 + r2) kn), (m1, eMR true mc1 a1), (mc1, eA cy f1), (m2, eMR false mc2 a2), (mc2, eA cy f2)]) hD hS hA [10, 11, 12, 13, 14] rfl
  refine va_calli (va_runV (As := [.int p1, .int p2, .int p3]) (rest := []) ⟨hx, hb, hml, hown, hts⟩ (k_X5_narrowMin l dC dI cy m0 m1 mc1 m2 mc2 a1 f1 a2 f2 th (r1 + r2) kn H.size N p1 p2 p3) (cwV 3 hts gL_law_X5_narrowMin rfl rfl rfl (by decide +kernel) ⟨Nat.le_of_ble_eq_true rfl, Nat.le_of_ble_eq_true rfl⟩) (xM.preV hKc hPc hDc hAN (Nat.le_trans hN hS.1) (hG.kept hS hAN) (ci := 7) (q0 := 0) rfl rfl) rfl rfl hl.1 rfl (lv_room (Nat.le_of_ble_eq_true rfl)) dL_law_1528 ⟨(show _ ≤ 989448 by omega), (show _ ≤ 6127760 by omega)⟩) hS (fun q _ h => hFc q h) hFc (fun r_2 u t H locs ht hvm hw hB hz hk hS => ?_)
  replace hw : r_2 = (o_X5_narrowMin a2 f2 p1 p2 p3).1 := hw
  subst r_2
  obtain ⟨hP1, hD1⟩ := hB
  rw [ht] at hP1
  obtain ⟨hP, hD⟩ := va_join (wr := [(h0, eE h1 h2 kn), (h1, eR hw1 hc1 hb1 a1 r1), (hw1, eW true), (hc1, eA cy f1), (hb1, eA cy g1), (h2, eR hw2 hc2 hb2 (o_L_narrowMin a2 f2 nv p1 p2 p3).2.1 r2), (hw2, eW false), (hc2, eA cy (o_L_narrowMin a2 f2 nv p1 p2 p3).2.2.1), (hb2, eA cy g2), (ho, eO (o_L_narrowMin a2 f2 nv p1 p2 p3).2.2.2 sv)]) (w1 := [(m0, eM m1 m2 (o_X5_narrowMin a2 f2 p1 p2 p3).2.2.2 (r1 + r2) kn), (m1, eMR true mc1 a1), (mc1, eA cy f1), (m2, eMR false mc2 (o_X5_narrowMin a2 f2 p1 p2 p3).2.1), (mc2, eA cy (o_X5_narrowMin a2 f2 p1 p2 p3).2.2.1)]) hP hD [10, 11, 12, 13, 14] [0, 1, 2, 3, 4, 5, 6, 7, 8, 9] rfl rfl (by decide +kernel) (by decide +kernel) hk hFc hP1 hD1
  have hP := hP.sub (ws' := [(h0, eE h1 h2 kn), (h1, eR hw1 hc1 hb1 a1 r1), (hw1, eW true), (hc1, eA cy f1), (hb1, eA cy g1), (h2, eR hw2 hc2 hb2 (o_L_narrowMin a2 f2 nv p1 p2 p3).2.1 r2), (hw2, eW false), (hc2, eA cy (o_L_narrowMin a2 f2 nv p1 p2 p3).2.2.1), (hb2, eA cy g2), (ho, eO (o_L_narrowMin a2 f2 nv p1 p2 p3).2.2.2 sv), (m0, eM m1 m2 (o_X5_narrowMin a2 f2 p1 p2 p3).2.2.2 (r1 + r2) kn), (m1, eMR true mc1 a1), (mc1, eA cy f1), (m2, eMR false mc2 (o_X5_narrowMin a2 f2 p1 p2 p3).2.1), (mc2, eA cy (o_X5_narrowMin a2 f2 p1 p2 p3).2.2.1)]) [0, 1, 2, 3, 4, 5, 6, 7, 8, 9, 10, 11, 12, 13, 14] rfl
  have hD := hD.sub (ws' := [(h0, eE h1 h2 kn), (h1, eR hw1 hc1 hb1 a1 r1), (hw1, eW true), (hc1, eA cy f1), (hb1, eA cy g1), (h2, eR hw2 hc2 hb2 (o_L_narrowMin a2 f2 nv p1 p2 p3).2.1 r2), (hw2, eW false), (hc2, eA cy (o_L_narrowMin a2 f2 nv p1 p2 p3).2.2.1), (hb2, eA cy g2), (ho, eO (o_L_narrowMin a2 f2 nv p1 p2 p3).2.2.2 sv), (m0, eM m1 m2 (o_X5_narrowMin a2 f2 p1 p2 p3).2.2.2 (r1 + r2) kn), (m1, eMR true mc1 a1), (mc1, eA cy f1), (m2, eMR false mc2 (o_X5_narrowMin a2 f2 p1 p2 p3).2.1), (mc2, eA cy (o_X5_narrowMin a2 f2 p1 p2 p3).2.2.1)]) [0, 1, 2, 3, 4, 5, 6, 7, 8, 9, 10, 11, 12, 13, 14] (by decide +kernel) rfl
  refine lv_istore (lv' := [(6, .int ((o_X5_narrowMin a2 f2 p1 p2 p3).1)), (5, .int ((o_L_narrowMin a2 f2 nv p1 p2 p3).1)), (0, .ref b), (1, .ref h0), (2, .ref m0), (3, .ref ho), (4, .int (nI i))]) hx hb dL_law_1531 hl (by decide +kernel) rfl (fun ls hl => ?_)
  refine lv_goto (tgt := 2240) hx hb dL_law_1533 (by decide +kernel) ?_
  refine W.widen (k := cells + 760) (n := slots + 4500) (by omega) (by omega) ?_
  have qe_b2 : (o_X5_narrowMin a2 f2 p1 p2 p3).2.1 = (o_L_narrowMin a2 f2 nv p1 p2 p3).2.1 := (by have hm := ml_narrowMin a2 nv p1 p2 p3 hka2; rw [hm.1] <;> rfl)
  have qe_e2 : (o_X5_narrowMin a2 f2 p1 p2 p3).2.2.1 = (o_L_narrowMin a2 f2 nv p1 p2 p3).2.2.1 := (by have hm := ml_narrowMin a2 nv p1 p2 p3 hka2; rw [hm.1] <;> rfl)
  have qk_2 : okA false ((o_L_narrowMin a2 f2 nv p1 p2 p3).2.2.1) := (by have hm := ml_narrowMin a2 nv p1 p2 p3 hka2; rw [hm.1]; exact hm.2)
  exact K a1 r1 f1 g1 ((o_L_narrowMin a2 f2 nv p1 p2 p3).2.1) r2 ((o_L_narrowMin a2 f2 nv p1 p2 p3).2.2.1) g2 kn ((o_L_narrowMin a2 f2 nv p1 p2 p3).2.2.2) sv ((o_X5_narrowMin a2 f2 p1 p2 p3).2.2.2) a1 f1 ((o_X5_narrowMin a2 f2 p1 p2 p3).2.1) ((o_X5_narrowMin a2 f2 p1 p2 p3).2.2.1) (r1 + r2) kn _ _ _ rfl rfl qe_b2 qe_e2 rfl rfl hka1 qk_2 hP hD hS (lv_sub hl [2, 3, 4, 5, 6] rfl)
set_option maxHeartbeats 4000000 in
set_option maxRecDepth 100000 in
theorem st_30 (l : Launch) (p : Program) (e : Env) (s : State) (m : MethodId) (below : List Frame) (meth : Method) (c : Code) (b L N : Nat) (xs : Nat → Int32) (A : Nat → Prop) (dC : Nat → ClassId) (dI : Nat → Nat → Nat) (cy cB : ClassId) (h0 h1 hw1 hc1 hb1 h2 hw2 hc2 hb2 ho m0 m1 mc1 m2 mc2 : Nat) (C0 : lw_C l p e s m below meth c b L N xs A dC dI cy cB) (i : Nat) (hi : i + 4 ≤ L) (p1 p2 p3 : Int32) (hp1 : xs (i + 1) = p1) (hp2 : xs (i + 2) = p2) (hp3 : xs (i + 3) = p3) (cells slots : Nat) (hcs : cells + 760 ≤ 989448) (hss : slots + 4500 ≤ 6127760) (K : lw_K l p e s m below meth c b L N xs A dC dI cy cB h0 h1 hw1 hc1 hb1 h2 hw2 hc2 hb2 ho m0 m1 mc1 m2 mc2 i (cells + 760) (slots + 4500) 2240) (a1 : Int32) (r1 : Int32) (f1 : Nat → Int64) (g1 : Nat → Int64) (a2 : Int32) (r2 : Int32) (f2 : Nat → Int64) (g2 : Nat → Int64) (kn : Int32) (nv : Int64) (sv : Value) (th : Int32) (H : Heap) (locs : List Loc) (ls : Array Slot) (hka1 : okA true f1) (hka2 : okA false f2) (hP : va_P (dC, dI) xCl [(h0, eE h1 h2 kn), (h1, eR hw1 hc1 hb1 a1 r1), (hw1, eW true), (hc1, eA cy f1), (hb1, eA cy g1), (h2, eR hw2 hc2 hb2 a2 r2), (hw2, eW false), (hc2, eA cy f2), (hb2, eA cy g2), (ho, eO nv sv), (m0, eM m1 m2 th (r1 + r2) kn), (m1, eMR true mc1 a1), (mc1, eA cy f1), (m2, eMR false mc2 a2), (mc2, eA cy f2)] H) (hD : va_D A [(h0, eE h1 h2 kn), (h1, eR hw1 hc1 hb1 a1 r1), (hw1, eW true), (hc1, eA cy f1), (hb1, eA cy g1), (h2, eR hw2 hc2 hb2 a2 r2), (hw2, eW false), (hc2, eA cy f2), (hb2, eA cy g2), (ho, eO nv sv), (m0, eM m1 m2 th (r1 + r2) kn), (m1, eMR true mc1 a1), (mc1, eA cy f1), (m2, eMR false mc2 a2), (mc2, eA cy f2)]) (hS : va_S A s.heap H locs) (hl : lv_has ls 7 [(0, .ref b), (1, .ref h0), (2, .ref m0), (3, .ref ho), (4, .int (nI i))]) : W p l e room_1 s m #[Value.ref b] below meth c H locs cells slots (lw_Z below #[Value.ref b] s) (F0 m 1536 ls []) := by
  obtain ⟨hfl, hx, hb, hr, hml, hown, hts, hX, hbl, hbA, hlocks, hK, hG, hnc, hA, hAN, hN, hL, hT, hNs⟩ := id C0
  have hok2 := me_okF hka2
  have hsp1 : ∀ k, k < 8 → o_X1_isSpoiled true (f1 k) = false := fun k hk => (hka1 k hk).2
  have hsp2 : ∀ k, k < 8 → o_X1_isSpoiled false (f2 k) = false := fun k hk => (hka2 k hk).2
  refine lv_aload_n hx hb dL_law_1536 rfl (lv_at hl 1 rfl) ?_
  refine lv_aload_n hx hb dL_law_1537 rfl (lv_at hl 0 rfl) ?_
  refine lv_iload hx hb dL_law_1538 (lv_at hl 4 rfl) ?_
  refine lv_iconst (v := 1) hx hb dL_law_1540 (by decide +kernel) ?_
  refine lv_iadd hx hb dL_law_1541 ?_
  rw [nI_1 i]
  refine xa_sld hx hb hX hbl hbA hS (k := i + 1) (by omega) hL hp1 dL_law_1542 ?_
  refine lv_aload_n hx hb dL_law_1543 rfl (lv_at hl 0 rfl) ?_
  refine lv_iload hx hb dL_law_1544 (lv_at hl 4 rfl) ?_
  refine lv_iconst (v := 2) hx hb dL_law_1546 (by decide +kernel) ?_
  refine lv_iadd hx hb dL_law_1547 ?_
  rw [nI_p2 i]
  refine xa_sld hx hb hX hbl hbA hS (k := i + 2) (by omega) hL hp2 dL_law_1548 ?_
  refine lv_aload_n hx hb dL_law_1549 rfl (lv_at hl 0 rfl) ?_
  refine lv_iload hx hb dL_law_1550 (lv_at hl 4 rfl) ?_
  refine lv_iconst (v := 3) hx hb dL_law_1552 (by decide +kernel) ?_
  refine lv_iadd hx hb dL_law_1553 ?_
  rw [nI_p3 i]
  refine xa_sld hx hb hX hbl hbA hS (k := i + 3) (by omega) hL hp3 dL_law_1554 ?_
  refine lv_aload_n hx hb dL_law_1555 rfl (lv_at hl 3 rfl) ?_
  have hPc := hP.sub (ws' := [(h0, eE h1 h2 kn), (h1, eR hw1 hc1 hb1 a1 r1), (hw1, eW true), (hc1, eA cy f1), (hb1, eA cy g1), (h2, eR hw2 hc2 hb2 a2 r2), (hw2, eW false), (hc2, eA cy f2), (hb2, eA cy g2), (ho, eO nv sv)]) [0, 1, 2, 3, 4, 5, 6, 7, 8, 9] rfl
  have hDc := hD.sub (ws' := [(h0, eE h1 h2 kn), (h1, eR hw1 hc1 hb1 a1 r1), (hw1, eW true), (hc1, eA cy f1), (hb1, eA cy g1), (h2, eR hw2 hc2 hb2 a2 r2), (hw2, eW false), (hc2, eA cy f2), (hb2, eA cy g2), (ho, eO nv sv)]) [0, 1, 2, 3, 4, 5, 6, 7, 8, 9] (by decide +kernel) rfl
  have hKc := hK.sub (tys' := [(cy, .long)]) [0] rfl
  have hFc := va_free (wc := [(h0, eE h1 h2 kn), (h1, eR hw1 hc1 hb1 a1 r1), (hw1, eW true), (hc1, eA cy f1), (hb1, eA cy g1), (h2, eR hw2 hc2 hb2 a2 r2), (hw2, eW false), (hc2, eA cy f2), (hb2, eA cy g2), (ho, eO nv sv)]) hD hS hA [0, 1, 2, 3, 4, 5, 6, 7, 8, 9] rfl
  refine va_calli (vx_runSW (As := [.ref h0, .int p1, .int p2, .int p3, .ref ho]) (rest := []) ⟨hx, hb, hml, hown, hts⟩ (k_L_narrowSum l hfl dC dI cy h0 h1 hw1 hc1 hb1 h2 hw2 hc2 hb2 a1 r1 f1 g1 a2 r2 f2 g2 kn ho nv sv H.size N p1 p2 p3) (vx_cwSW 5 hts gL_law_L_narrowSum rfl rfl rfl (by decide +kernel) ⟨Nat.le_of_ble_eq_true rfl, Nat.le_of_ble_eq_true rfl⟩) (xL.preS hKc hPc hDc hAN (Nat.le_trans hN hS.1) (hG.kept hS hAN) hnc) rfl rfl hl.1 rfl (lv_room (Nat.le_of_ble_eq_true rfl)) dL_law_1556 ⟨(show _ ≤ 989448 by omega), (show _ ≤ 6127760 by omega)⟩) hS (fun q _ h => hFc q h) hFc (fun r_1 u t H locs ht hvm hw hB hz hk hS => ?_)
  replace hw : r_1 = (o_L_narrowSum a2 r2 f2 nv p1 p2 p3).1 := hw
  subst r_1
  obtain ⟨hP1, hD1⟩ := hB
  rw [ht] at hP1
  obtain ⟨hP, hD⟩ := va_join (wr := [(m0, eM m1 m2 th (r1 + r2) kn), (m1, eMR true mc1 a1), (mc1, eA cy f1), (m2, eMR false mc2 a2), (mc2, eA cy f2)]) (w1 := [(h0, eE h1 h2 kn), (h1, eR hw1 hc1 hb1 a1 r1), (hw1, eW true), (hc1, eA cy f1), (hb1, eA cy g1), (h2, eR hw2 hc2 hb2 (o_L_narrowSum a2 r2 f2 nv p1 p2 p3).2.1 (o_L_narrowSum a2 r2 f2 nv p1 p2 p3).2.2.1), (hw2, eW false), (hc2, eA cy (o_L_narrowSum a2 r2 f2 nv p1 p2 p3).2.2.2.1), (hb2, eA cy g2), (ho, eO (o_L_narrowSum a2 r2 f2 nv p1 p2 p3).2.2.2.2 sv)]) hP hD [0, 1, 2, 3, 4, 5, 6, 7, 8, 9] [10, 11, 12, 13, 14] rfl rfl (by decide +kernel) (by decide +kernel) hk hFc hP1 hD1
  have hP := hP.sub (ws' := [(h0, eE h1 h2 kn), (h1, eR hw1 hc1 hb1 a1 r1), (hw1, eW true), (hc1, eA cy f1), (hb1, eA cy g1), (h2, eR hw2 hc2 hb2 (o_L_narrowSum a2 r2 f2 nv p1 p2 p3).2.1 (o_L_narrowSum a2 r2 f2 nv p1 p2 p3).2.2.1), (hw2, eW false), (hc2, eA cy (o_L_narrowSum a2 r2 f2 nv p1 p2 p3).2.2.2.1), (hb2, eA cy g2), (ho, eO (o_L_narrowSum a2 r2 f2 nv p1 p2 p3).2.2.2.2 sv), (m0, eM m1 m2 th (r1 + r2) kn), (m1, eMR true mc1 a1), (mc1, eA cy f1), (m2, eMR false mc2 a2), (mc2, eA cy f2)]) [5, 6, 7, 8, 9, 10, 11, 12, 13, 14, 0, 1, 2, 3, 4] rfl
  have hD := hD.sub (ws' := [(h0, eE h1 h2 kn), (h1, eR hw1 hc1 hb1 a1 r1), (hw1, eW true), (hc1, eA cy f1), (hb1, eA cy g1), (h2, eR hw2 hc2 hb2 (o_L_narrowSum a2 r2 f2 nv p1 p2 p3).2.1 (o_L_narrowSum a2 r2 f2 nv p1 p2 p3).2.2.1), (hw2, eW false), (hc2, eA cy (o_L_narrowSum a2 r2 f2 nv p1 p2 p3).2.2.2.1), (hb2, eA cy g2), (ho, eO (o_L_narrowSum a2 r2 f2 nv p1 p2 p3).2.2.2.2 sv), (m0, eM m1 m2 th (r1 + r2) kn), (m1, eMR true mc1 a1), (mc1, eA cy f1), (m2, eMR false mc2 a2), (mc2, eA cy f2)]) [5, 6, 7, 8, 9, 10, 11, 12, 13, 14, 0, 1, 2, 3, 4] (by decide +kernel) rfl
  refine lv_istore (lv' := [(5, .int ((o_L_narrowSum a2 r2 f2 nv p1 p2 p3).1)), (0, .ref b), (1, .ref h0), (2, .ref m0), (3, .ref ho), (4, .int (nI i))]) hx hb dL_law_1559 hl (by decide +kernel) rfl (fun ls hl => ?_)
  refine lv_aload_n hx hb dL_law_1561 rfl (lv_at hl 3 rfl) ?_
  refine lv_aload_n hx hb dL_law_1562 rfl (lv_at hl 1 rfl) ?_
  refine lv_iload hx hb dL_law_1563 (lv_at hl 5 rfl) ?_
  refine lv_iconst (v := 1) hx hb dL_law_1565 (by decide +kernel) ?_
  refine lv_iadd hx hb dL_law_1566 ?_
  rw [nI_1 i]
  refine xa_sld hx hb hX hbl hbA hS (k := i + 1) (by omega) hL hp1 dL_law_1567 ?_
  refine lv_aload_n hx hb dL_law_1568 rfl (lv_at hl 1 rfl) ?_
  refine lv_iload hx hb dL_law_1569 (lv_at hl 5 rfl) ?_
  refine lv_iconst (v := 2) hx hb dL_law_1571 (by decide +kernel) ?_
  refine lv_iadd hx hb dL_law_1572 ?_
  rw [nI_p2 i]
  refine xa_sld hx hb hX hbl hbA hS (k := i + 2) (by omega) hL hp2 dL_law_1573 ?_
  refine lv_aload_n hx hb dL_law_1574 rfl (lv_at hl 1 rfl) ?_
  refine lv_iload hx hb dL_law_1575 (lv_at hl 5 rfl) ?_
  refine lv_iconst (v := 3) hx hb dL_law_1577 (by decide +kernel) ?_
  refine lv_iadd hx hb dL_law_1578 ?_
  rw [nI_p3 i]
  refine xa_sld hx hb hX hbl hbA hS (k := i + 3) (by omega) hL hp3 dL_law_1579 ?_
  have hPc := hP.sub (ws' := [(m0, eM m1 m2 th (r1 + r2) kn), (m1, eMR true mc1 a1), (mc1, eA cy f1), (m2, eMR false mc2 a2), (mc2, eA cy f2)]) [10, 11, 12, 13, 14] rfl
  have hDc := hD.sub (ws' := [(m0, eM m1 m2 th (r1 + r2) kn), (m1, eMR true mc1 a1), (mc1, eA cy f1), (m2, eMR false mc2 a2), (mc2, eA cy f2)]) [10, 11, 12, 13, 14] (by decide +kernel) rfl
  have hKc := hK.sub (tys' := [(cy, .long)]) [0] rfl
  have hFc := va_free (wc := [(m0, eM m1 m2 th (r1 + r2) kn), (m1, eMR true mc1 a1), (mc1, eA cy f1), (m2, eMR false mc2 a2), (mc2, eA cy f2)]) hD hS hA [10, 11, 12, 13, 14] rfl
  refine va_calli (va_runV (As := [.int p1, .int p2, .int p3]) (rest := []) ⟨hx, hb, hml, hown, hts⟩ (k_X5_narrowSum l dC dI cy m0 m1 mc1 m2 mc2 a1 f1 a2 f2 th (r1 + r2) kn H.size N p1 p2 p3 hok2) (cwV 3 hts gL_law_X5_narrowSum rfl rfl rfl (by decide +kernel) ⟨Nat.le_of_ble_eq_true rfl, Nat.le_of_ble_eq_true rfl⟩) (xM.preV hKc hPc hDc hAN (Nat.le_trans hN hS.1) (hG.kept hS hAN) (ci := 7) (q0 := 0) rfl rfl) rfl rfl hl.1 rfl (lv_room (Nat.le_of_ble_eq_true rfl)) dL_law_1580 ⟨(show _ ≤ 989448 by omega), (show _ ≤ 6127760 by omega)⟩) hS (fun q _ h => hFc q h) hFc (fun r_2 u t H locs ht hvm hw hB hz hk hS => ?_)
  replace hw : r_2 = (o_X5_narrowSum a2 f2 (r1 + r2) p1 p2 p3).1 := hw
  subst r_2
  obtain ⟨hP1, hD1⟩ := hB
  rw [ht] at hP1
  obtain ⟨hP, hD⟩ := va_join (wr := [(h0, eE h1 h2 kn), (h1, eR hw1 hc1 hb1 a1 r1), (hw1, eW true), (hc1, eA cy f1), (hb1, eA cy g1), (h2, eR hw2 hc2 hb2 (o_L_narrowSum a2 r2 f2 nv p1 p2 p3).2.1 (o_L_narrowSum a2 r2 f2 nv p1 p2 p3).2.2.1), (hw2, eW false), (hc2, eA cy (o_L_narrowSum a2 r2 f2 nv p1 p2 p3).2.2.2.1), (hb2, eA cy g2), (ho, eO (o_L_narrowSum a2 r2 f2 nv p1 p2 p3).2.2.2.2 sv)]) (w1 := [(m0, eM m1 m2 (o_X5_narrowSum a2 f2 (r1 + r2) p1 p2 p3).2.2.2.1 (o_X5_narrowSum a2 f2 (r1 + r2) p1 p2 p3).2.2.2.2 kn), (m1, eMR true mc1 a1), (mc1, eA cy f1), (m2, eMR false mc2 (o_X5_narrowSum a2 f2 (r1 + r2) p1 p2 p3).2.1), (mc2, eA cy (o_X5_narrowSum a2 f2 (r1 + r2) p1 p2 p3).2.2.1)]) hP hD [10, 11, 12, 13, 14] [0, 1, 2, 3, 4, 5, 6, 7, 8, 9] rfl rfl (by decide +kernel) (by decide +kernel) hk hFc hP1 hD1
  have hP := hP.sub (ws' := [(h0, eE h1 h2 kn), (h1, eR hw1 hc1 hb1 a1 r1), (hw1, eW true), (hc1, eA cy f1), (hb1, eA cy g1), (h2, eR hw2 hc2 hb2 (o_L_narrowSum a2 r2 f2 nv p1 p2 p3).2.1 (o_L_narrowSum a2 r2 f2 nv p1 p2 p3).2.2.1), (hw2, eW false), (hc2, eA cy (o_L_narrowSum a2 r2 f2 nv p1 p2 p3).2.2.2.1), (hb2, eA cy g2), (ho, eO (o_L_narrowSum a2 r2 f2 nv p1 p2 p3).2.2.2.2 sv), (m0, eM m1 m2 (o_X5_narrowSum a2 f2 (r1 + r2) p1 p2 p3).2.2.2.1 (o_X5_narrowSum a2 f2 (r1 + r2) p1 p2 p3).2.2.2.2 kn), (m1, eMR true mc1 a1), (mc1, eA cy f1), (m2, eMR false mc2 (o_X5_narrowSum a2 f2 (r1 + r2) p1 p2 p3).2.1), (mc2, eA cy (o_X5_narrowSum a2 f2 (r1 + r2) p1 p2 p3).2.2.1)]) [0, 1, 2, 3, 4, 5, 6, 7, 8, 9, 10, 11, 12, 13, 14] rfl
  have hD := hD.sub (ws' := [(h0, eE h1 h2 kn), (h1, eR hw1 hc1 hb1 a1 r1), (hw1, eW true), (hc1, eA cy f1), (hb1, eA cy g1), (h2, eR hw2 hc2 hb2 (o_L_narrowSum a2 r2 f2 nv p1 p2 p3).2.1 (o_L_narrowSum a2 r2 f2 nv p1 p2 p3).2.2.1), (hw2, eW false), (hc2, eA cy (o_L_narrowSum a2 r2 f2 nv p1 p2 p3).2.2.2.1), (hb2, eA cy g2), (ho, eO (o_L_narrowSum a2 r2 f2 nv p1 p2 p3).2.2.2.2 sv), (m0, eM m1 m2 (o_X5_narrowSum a2 f2 (r1 + r2) p1 p2 p3).2.2.2.1 (o_X5_narrowSum a2 f2 (r1 + r2) p1 p2 p3).2.2.2.2 kn), (m1, eMR true mc1 a1), (mc1, eA cy f1), (m2, eMR false mc2 (o_X5_narrowSum a2 f2 (r1 + r2) p1 p2 p3).2.1), (mc2, eA cy (o_X5_narrowSum a2 f2 (r1 + r2) p1 p2 p3).2.2.1)]) [0, 1, 2, 3, 4, 5, 6, 7, 8, 9, 10, 11, 12, 13, 14] (by decide +kernel) rfl
  refine lv_istore (lv' := [(6, .int ((o_X5_narrowSum a2 f2 (r1 + r2) p1 p2 p3).1)), (5, .int ((o_L_narrowSum a2 r2 f2 nv p1 p2 p3).1)), (0, .ref b), (1, .ref h0), (2, .ref m0), (3, .ref ho), (4, .int (nI i))]) hx hb dL_law_1583 hl (by decide +kernel) rfl (fun ls hl => ?_)
  refine lv_goto (tgt := 2240) hx hb dL_law_1585 (by decide +kernel) ?_
  refine W.widen (k := cells + 760) (n := slots + 4500) (by omega) (by omega) ?_
  have qe_b2 : (o_X5_narrowSum a2 f2 (r1 + r2) p1 p2 p3).2.1 = (o_L_narrowSum a2 r2 f2 nv p1 p2 p3).2.1 := (by have hm := ml_narrowSum a2 r2 r1 nv p1 p2 p3 hka2; rw [Int32.add_comm r2 r1] at hm; exact hm.2.1.symm)
  have qe_e2 : (o_X5_narrowSum a2 f2 (r1 + r2) p1 p2 p3).2.2.1 = (o_L_narrowSum a2 r2 f2 nv p1 p2 p3).2.2.2.1 := (by have hm := ml_narrowSum a2 r2 r1 nv p1 p2 p3 hka2; rw [Int32.add_comm r2 r1] at hm; exact hm.2.2.2.1.symm)
  have qe_rf : (o_X5_narrowSum a2 f2 (r1 + r2) p1 p2 p3).2.2.2.2 = r1 + (o_L_narrowSum a2 r2 f2 nv p1 p2 p3).2.2.1 := (by have hm := ml_narrowSum a2 r2 r1 nv p1 p2 p3 hka2; rw [Int32.add_comm r2 r1] at hm; exact hm.2.2.1.symm.trans (Int32.add_comm _ _))
  have qk_2 : okA false ((o_L_narrowSum a2 r2 f2 nv p1 p2 p3).2.2.2.1) := (by have hm := ml_narrowSum a2 r2 r1 nv p1 p2 p3 hka2; rw [Int32.add_comm r2 r1] at hm; rw [hm.2.2.2.1]; exact hm.2.2.2.2.2)
  exact K a1 r1 f1 g1 ((o_L_narrowSum a2 r2 f2 nv p1 p2 p3).2.1) ((o_L_narrowSum a2 r2 f2 nv p1 p2 p3).2.2.1) ((o_L_narrowSum a2 r2 f2 nv p1 p2 p3).2.2.2.1) g2 kn ((o_L_narrowSum a2 r2 f2 nv p1 p2 p3).2.2.2.2) sv ((o_X5_narrowSum a2 f2 (r1 + r2) p1 p2 p3).2.2.2.1) a1 f1 ((o_X5_narrowSum a2 f2 (r1 + r2) p1 p2 p3).2.1) ((o_X5_narrowSum a2 f2 (r1 + r2) p1 p2 p3).2.2.1) ((o_X5_narrowSum a2 f2 (r1 + r2) p1 p2 p3).2.2.2.2) kn _ _ _ rfl rfl qe_b2 qe_e2 qe_rf rfl hka1 qk_2 hP hD hS (lv_sub hl [2, 3, 4, 5, 6] rfl)
set_option maxHeartbeats 4000000 in
set_option maxRecDepth 100000 in
theorem st_31 (l : Launch) (p : Program) (e : Env) (s : State) (m : MethodId) (below : List Frame) (meth : Method) (c : Code) (b L N : Nat) (xs : Nat → Int32) (A : Nat → Prop) (dC : Nat → ClassId) (dI : Nat → Nat → Nat) (cy cB : ClassId) (h0 h1 hw1 hc1 hb1 h2 hw2 hc2 hb2 ho m0 m1 mc1 m2 mc2 : Nat) (C0 : lw_C l p e s m below meth c b L N xs A dC dI cy cB) (i : Nat) (hi : i + 4 ≤ L) (p1 p2 p3 : Int32) (hp1 : xs (i + 1) = p1) (hp2 : xs (i + 2) = p2) (hp3 : xs (i + 3) = p3) (cells slots : Nat) (hcs : cells + 760 ≤ 989448) (hss : slots + 4500 ≤ 6127760) (K : lw_K l p e s m below meth c b L N xs A dC dI cy cB h0 h1 hw1 hc1 hb1 h2 hw2 hc2 hb2 ho m0 m1 mc1 m2 mc2 i (cells + 760) (slots + 4500) 2240) (a1 : Int32) (r1 : Int32) (f1 : Nat → Int64) (g1 : Nat → Int64) (a2 : Int32) (r2 : Int32) (f2 : Nat → Int64) (g2 : Nat → Int64) (kn : Int32) (nv : Int64) (sv : Value) (th : Int32) (H : Heap) (locs : List Loc) (ls : Array Slot) (hka1 : okA true f1) (hka2 : okA false f2) (hP : va_P (dC, dI) xCl [(h0, eE h1 h2 kn), (h1, eR hw1 hc1 hb1 a1 r1), (hw1, eW true), (hc1, eA cy f1), (hb1, eA cy g1), (h2, eR hw2 hc2 hb2 a2 r2), (hw2, eW false), (hc2, eA cy f2), (hb2, eA cy g2), (ho, eO nv sv), (m0, eM m1 m2 th (r1 + r2) kn), (m1, eMR true mc1 a1), (mc1, eA cy f1), (m2, eMR false mc2 a2), (mc2, eA cy f2)] H) (hD : va_D A [(h0, eE h1 h2 kn), (h1, eR hw1 hc1 hb1 a1 r1), (hw1, eW true), (hc1, eA cy f1), (hb1, eA cy g1), (h2, eR hw2 hc2 hb2 a2 r2), (hw2, eW false), (hc2, eA cy f2), (hb2, eA cy g2), (ho, eO nv sv), (m0, eM m1 m2 th (r1 + r2) kn), (m1, eMR true mc1 a1), (mc1, eA cy f1), (m2, eMR false mc2 a2), (mc2, eA cy f2)]) (hS : va_S A s.heap H locs) (hl : lv_has ls 7 [(0, .ref b), (1, .ref h0), (2, .ref m0), (3, .ref ho), (4, .int (nI i))]) : W p l e room_1 s m #[Value.ref b] below meth c H locs cells slots (lw_Z below #[Value.ref b] s) (F0 m 1588 ls []) := by
  obtain ⟨hfl, hx, hb, hr, hml, hown, hts, hX, hbl, hbA, hlocks, hK, hG, hnc, hA, hAN, hN, hL, hT, hNs⟩ := id C0
  have hok2 := me_okF hka2
  have hsp1 : ∀ k, k < 8 → o_X1_isSpoiled true (f1 k) = false := fun k hk => (hka1 k hk).2
  have hsp2 : ∀ k, k < 8 → o_X1_isSpoiled false (f2 k) = false := fun k hk => (hka2 k hk).2
  refine lv_aload_n hx hb dL_law_1588 rfl (lv_at hl 1 rfl) ?_
  refine lv_aload_n hx hb dL_law_1589 rfl (lv_at hl 0 rfl) ?_
  refine lv_iload hx hb dL_law_1590 (lv_at hl 4 rfl) ?_
  refine lv_iconst (v := 1) hx hb dL_law_1592 (by decide +kernel) ?_
  refine lv_iadd hx hb dL_law_1593 ?_
  rw [nI_1 i]
  refine xa_sld hx hb hX hbl hbA hS (k := i + 1) (by omega) hL hp1 dL_law_1594 ?_
  refine lv_aload_n hx hb dL_law_1595 rfl (lv_at hl 3 rfl) ?_
  have hPc := hP.sub (ws' := [(h0, eE h1 h2 kn), (h1, eR hw1 hc1 hb1 a1 r1), (hw1, eW true), (hc1, eA cy f1), (hb1, eA cy g1), (h2, eR hw2 hc2 hb2 a2 r2), (hw2, eW false), (hc2, eA cy f2), (hb2, eA cy g2), (ho, eO nv sv)]) [0, 1, 2, 3, 4, 5, 6, 7, 8, 9] rfl
  have hDc := hD.sub (ws' := [(h0, eE h1 h2 kn), (h1, eR hw1 hc1 hb1 a1 r1), (hw1, eW true), (hc1, eA cy f1), (hb1, eA cy g1), (h2, eR hw2 hc2 hb2 a2 r2), (hw2, eW false), (hc2, eA cy f2), (hb2, eA cy g2), (ho, eO nv sv)]) [0, 1, 2, 3, 4, 5, 6, 7, 8, 9] (by decide +kernel) rfl
  have hKc := hK.sub (tys' := [(cy, .long)]) [0] rfl
  have hFc := va_free (wc := [(h0, eE h1 h2 kn), (h1, eR hw1 hc1 hb1 a1 r1), (hw1, eW true), (hc1, eA cy f1), (hb1, eA cy g1), (h2, eR hw2 hc2 hb2 a2 r2), (hw2, eW false), (hc2, eA cy f2), (hb2, eA cy g2), (ho, eO nv sv)]) hD hS hA [0, 1, 2, 3, 4, 5, 6, 7, 8, 9] rfl
  refine va_calli (vx_runSW (As := [.ref h0, .int p1, .ref ho]) (rest := []) ⟨hx, hb, hml, hown, hts⟩ (k_L_narrowSort l hfl dC dI cy h0 h1 hw1 hc1 hb1 h2 hw2 hc2 hb2 a1 r1 f1 g1 a2 r2 f2 g2 kn ho nv sv H.size N p1) (vx_cwSW 3 hts gL_law_L_narrowSort rfl rfl rfl (by decide +kernel) ⟨Nat.le_of_ble_eq_true rfl, Nat.le_of_ble_eq_true rfl⟩) (xL.preS hKc hPc hDc hAN (Nat.le_trans hN hS.1) (hG.kept hS hAN) hnc) rfl rfl hl.1 rfl (lv_room (Nat.le_of_ble_eq_true rfl)) dL_law_1596 ⟨(show _ ≤ 989448 by omega), (show _ ≤ 6127760 by omega)⟩) hS (fun q _ h => hFc q h) hFc (fun r_1 u t H locs ht hvm hw hB hz hk hS => ?_)
  replace hw : r_1 = (o_L_narrowSort a2 f2 g2 nv p1).1 := hw
  subst r_1
  obtain ⟨hP1, hD1⟩ := hB
  rw [ht] at hP1
  obtain ⟨hP, hD⟩ := va_join (wr := [(m0, eM m1 m2 th (r1 + r2) kn), (m1, eMR true mc1 a1), (mc1, eA cy f1), (m2, eMR false mc2 a2), (mc2, eA cy f2)]) (w1 := [(h0, eE h1 h2 kn), (h1, eR hw1 hc1 hb1 a1 r1), (hw1, eW true), (hc1, eA cy f1), (hb1, eA cy g1), (h2, eR hw2 hc2 hb2 (o_L_narrowSort a2 f2 g2 nv p1).2.1 r2), (hw2, eW false), (hc2, eA cy (o_L_narrowSort a2 f2 g2 nv p1).2.2.1), (hb2, eA cy (o_L_narrowSort a2 f2 g2 nv p1).2.2.2.1), (ho, eO (o_L_narrowSort a2 f2 g2 nv p1).2.2.2.2 sv)]) hP hD [0, 1, 2, 3, 4, 5, 6, 7, 8, 9] [10, 11, 12, 13, 14] rfl rfl (by decide +kernel) (by decide +kernel) hk hFc hP1 hD1
  have hP := hP.sub (ws' := [(h0, eE h1 h2 kn), (h1, eR hw1 hc1 hb1 a1 r1), (hw1, eW true), (hc1, eA cy f1), (hb1, eA cy g1), (h2, eR hw2 hc2 hb2 (o_L_narrowSort a2 f2 g2 nv p1).2.1 r2), (hw2, eW false), (hc2, eA cy (o_L_narrowSort a2 f2 g2 nv p1).2.2.1), (hb2, eA cy (o_L_narrowSort a2 f2 g2 nv p1).2.2.2.1), (ho, eO (o_L_narrowSort a2 f2 g2 nv p1).2.2.2.2 sv), (m0, eM m1 m2 th (r1 + r2) kn), (m1, eMR true mc1 a1), (mc1, eA cy f1), (m2, eMR false mc2 a2), (mc2, eA cy f2)]) [5, 6, 7, 8, 9, 10, 11, 12, 13, 14, 0, 1, 2, 3, 4] rfl
  have hD := hD.sub (ws' := [(h0, eE h1 h2 kn), (h1, eR hw1 hc1 hb1 a1 r1), (hw1, eW true), (hc1, eA cy f1), (hb1, eA cy g1), (h2, eR hw2 hc2 hb2 (o_L_narrowSort a2 f2 g2 nv p1).2.1 r2), (hw2, eW false), (hc2, eA cy (o_L_narrowSort a2 f2 g2 nv p1).2.2.1), (hb2, eA cy (o_L_narrowSort a2 f2 g2 nv p1).2.2.2.1), (ho, eO (o_L_narrowSort a2 f2 g2 nv p1).2.2.2.2 sv), (m0, eM m1 m2 th (r1 + r2) kn), (m1, eMR true mc1 a1), (mc1, eA cy f1), (m2, eMR false mc2 a2), (mc2, eA cy f2)]) [5, 6, 7, 8, 9, 10, 11, 12, 13, 14, 0, 1, 2, 3, 4] (by decide +kernel) rfl
  refine lv_istore (lv' := [(5, .int ((o_L_narrowSort a2 f2 g2 nv p1).1)), (0, .ref b), (1, .ref h0), (2, .ref m0), (3, .ref ho), (4, .int (nI i))]) hx hb dL_law_1599 hl (by decide +kernel) rfl (fun ls hl => ?_)
  refine lv_aload_n hx hb dL_law_1601 rfl (lv_at hl 3 rfl) ?_
  refine lv_aload_n hx hb dL_law_1602 rfl (lv_at hl 1 rfl) ?_
  refine lv_iload hx hb dL_law_1603 (lv_at hl 5 rfl) ?_
  refine lv_iconst (v := 1) hx hb dL_law_1605 (by decide +kernel) ?_
  refine lv_iadd hx hb dL_law_1606 ?_
  rw [nI_1 i]
  refine xa_sld hx hb hX hbl hbA hS (k := i + 1) (by omega) hL hp1 dL_law_1607 ?_
  have hPc := hP.sub (ws' := [(m0, eM m1 m2 th (r1 + r2) kn), (m1, eMR true mc1 a1), (mc1, eA cy f1), (m2, eMR false mc2 a2), (mc2, eA cy f2)]) [10, 11, 12, 13, 14] rfl
  have hDc := hD.sub (ws' := [(m0, eM m1 m2 th (r1 + r2) kn), (m1, eMR true mc1 a1), (mc1, eA cy f1), (m2, eMR false mc2 a2), (mc2, eA cy f2)]) [10, 11, 12, 13, 14] (by decide +kernel) rfl
  have hKc := hK.sub (tys' := [(cy, .long)]) [0] rfl
  have hFc := va_free (wc := [(m0, eM m1 m2 th (r1 + r2) kn), (m1, eMR true mc1 a1), (mc1, eA cy f1), (m2, eMR false mc2 a2), (mc2, eA cy f2)]) hD hS hA [10, 11, 12, 13, 14] rfl
  refine va_calli (va_runV (As := [.int p1]) (rest := []) ⟨hx, hb, hml, hown, hts⟩ (k_X5_narrowSort l dC dI cy m0 m1 mc1 m2 mc2 a1 f1 a2 f2 th (r1 + r2) kn H.size N p1) (cwV 1 hts gL_law_X5_narrowSort rfl rfl rfl (by decide +kernel) ⟨Nat.le_of_ble_eq_true rfl, Nat.le_of_ble_eq_true rfl⟩) (xM.preV hKc hPc hDc hAN (Nat.le_trans hN hS.1) (hG.kept hS hAN) (ci := 7) (q0 := 0) rfl rfl) rfl rfl hl.1 rfl (lv_room (Nat.le_of_ble_eq_true rfl)) dL_law_1608 ⟨(show _ ≤ 989448 by omega), (show _ ≤ 6127760 by omega)⟩) hS (fun q _ h => hFc q h) hFc (fun r_2 u t H locs ht hvm hw hB hz hk hS => ?_)
  replace hw : r_2 = (o_X5_narrowSort a2 f2 p1).1 := hw
  subst r_2
  obtain ⟨hP1, hD1⟩ := hB
  rw [ht] at hP1
  obtain ⟨hP, hD⟩ := va_join (wr := [(h0, eE h1 h2 kn), (h1, eR hw1 hc1 hb1 a1 r1), (hw1, eW true), (hc1, eA cy f1), (hb1, eA cy g1), (h2, eR hw2 hc2 hb2 (o_L_narrowSort a2 f2 g2 nv p1).2.1 r2), (hw2, eW false), (hc2, eA cy (o_L_narrowSort a2 f2 g2 nv p1).2.2.1), (hb2, eA cy (o_L_narrowSort a2 f2 g2 nv p1).2.2.2.1), (ho, eO (o_L_narrowSort a2 f2 g2 nv p1).2.2.2.2 sv)]) (w1 := [(m0, eM m1 m2 (o_X5_narrowSort a2 f2 p1).2.2.2 (r1 + r2) kn), (m1, eMR true mc1 a1), (mc1, eA cy f1), (m2, eMR false mc2 (o_X5_narrowSort a2 f2 p1).2.1), (mc2, eA cy (o_X5_narrowSort a2 f2 p1).2.2.1)]) hP hD [10, 11, 12, 13, 14] [0, 1, 2, 3, 4, 5, 6, 7, 8, 9] rfl rfl (by decide +kernel) (by decide +kernel) hk hFc hP1 hD1
  have hP := hP.sub (ws' := [(h0, eE h1 h2 kn), (h1, eR hw1 hc1 hb1 a1 r1), (hw1, eW true), (hc1, eA cy f1), (hb1, eA cy g1), (h2, eR hw2 hc2 hb2 (o_L_narrowSort a2 f2 g2 nv p1).2.1 r2), (hw2, eW false), (hc2, eA cy (o_L_narrowSort a2 f2 g2 nv p1).2.2.1), (hb2, eA cy (o_L_narrowSort a2 f2 g2 nv p1).2.2.2.1), (ho, eO (o_L_narrowSort a2 f2 g2 nv p1).2.2.2.2 sv), (m0, eM m1 m2 (o_X5_narrowSort a2 f2 p1).2.2.2 (r1 + r2) kn), (m1, eMR true mc1 a1), (mc1, eA cy f1), (m2, eMR false mc2 (o_X5_narrowSort a2 f2 p1).2.1), (mc2, eA cy (o_X5_narrowSort a2 f2 p1).2.2.1)]) [0, 1, 2, 3, 4, 5, 6, 7, 8, 9, 10, 11, 12, 13, 14] rfl
  have hD := hD.sub (ws' := [(h0, eE h1 h2 kn), (h1, eR hw1 hc1 hb1 a1 r1), (hw1, eW true), (hc1, eA cy f1), (hb1, eA cy g1), (h2, eR hw2 hc2 hb2 (o_L_narrowSort a2 f2 g2 nv p1).2.1 r2), (hw2, eW false), (hc2, eA cy (o_L_narrowSort a2 f2 g2 nv p1).2.2.1), (hb2, eA cy (o_L_narrowSort a2 f2 g2 nv p1).2.2.2.1), (ho, eO (o_L_narrowSort a2 f2 g2 nv p1).2.2.2.2 sv), (m0, eM m1 m2 (o_X5_narrowSort a2 f2 p1).2.2.2 (r1 + r2) kn), (m1, eMR true mc1 a1), (mc1, eA cy f1), (m2, eMR false mc2 (o_X5_narrowSort a2 f2 p1).2.1), (mc2, eA cy (o_X5_narrowSort a2 f2 p1).2.2.1)]) [0, 1, 2, 3, 4, 5, 6, 7, 8, 9, 10, 11, 12, 13, 14] (by decide +kernel) rfl
  refine lv_istore (lv' := [(6, .int ((o_X5_narrowSort a2 f2 p1).1)), (5, .int ((o_L_narrowSort a2 f2 g2 nv p1).1)), (0, .ref b), (1, .ref h0), (2, .ref m0), (3, .ref ho), (4, .int (nI i))]) hx hb dL_law_1611 hl (by decide +kernel) rfl (fun ls hl => ?_)
  refine lv_goto (tgt := 2240) hx hb dL_law_1613 (by decide +kernel) ?_
  refine W.widen (k := cells + 760) (n := slots + 4500) (by omega) (by omega) ?_
  have qe_b2 : (o_X5_narrowSort a2 f2 p1).2.1 = (o_L_narrowSort a2 f2 g2 nv p1).2.1 := (by have hm := ml_narrowSort a2 g2 nv p1 hka2; exact hm.2.1.symm)
  have qe_e2 : (o_X5_narrowSort a2 f2 p1).2.2.1 = (o_L_narrowSort a2 f2 g2 nv p1).2.2.1 := (by have hm := ml_narrowSort a2 g2 nv p1 hka2; exact hm.2.2.1.symm)
  have qk_2 : okA false ((o_L_narrowSort a2 f2 g2 nv p1).2.2.1) := (by have hm := ml_narrowSort a2 g2 nv p1 hka2; rw [hm.2.2.1]; exact hm.2.2.2.2)
  exact K a1 r1 f1 g1 ((o_L_narrowSort a2 f2 g2 nv p1).2.1) r2 ((o_L_narrowSort a2 f2 g2 nv p1).2.2.1) ((o_L_narrowSort a2 f2 g2 nv p1).2.2.2.1) kn ((o_L_narrowSort a2 f2 g2 nv p1).2.2.2.2) sv ((o_X5_narrowSort a2 f2 p1).2.2.2) a1 f1 ((o_X5_narrowSort a2 f2 p1).2.1) ((o_X5_narrowSort a2 f2 p1).2.2.1) (r1 + r2) kn _ _ _ rfl rfl qe_b2 qe_e2 rfl rfl hka1 qk_2 hP hD hS (lv_sub hl [2, 3, 4, 5, 6] rfl)
set_option maxHeartbeats 4000000 in
set_option maxRecDepth 100000 in
theorem st_32 (l : Launch) (p : Program) (e : Env) (s : State) (m : MethodId) (below : List Frame) (meth : Method) (c : Code) (b L N : Nat) (xs : Nat → Int32) (A : Nat → Prop) (dC : Nat → ClassId) (dI : Nat → Nat → Nat) (cy cB : ClassId) (h0 h1 hw1 hc1 hb1 h2 hw2 hc2 hb2 ho m0 m1 mc1 m2 mc2 : Nat) (C0 : lw_C l p e s m below meth c b L N xs A dC dI cy cB) (i : Nat) (hi : i + 4 ≤ L) (p1 p2 p3 : Int32) (hp1 : xs (i + 1) = p1) (hp2 : xs (i + 2) = p2) (hp3 : xs (i + 3) = p3) (cells slots : Nat) (hcs : cells + 760 ≤ 989448) (hss : slots + 4500 ≤ 6127760) (K : lw_K l p e s m below meth c b L N xs A dC dI cy cB h0 h1 hw1 hc1 hb1 h2 hw2 hc2 hb2 ho m0 m1 mc1 m2 mc2 i (cells + 760) (slots + 4500) 2240) (a1 : Int32) (r1 : Int32) (f1 : Nat → Int64) (g1 : Nat → Int64) (a2 : Int32) (r2 : Int32) (f2 : Nat → Int64) (g2 : Nat → Int64) (kn : Int32) (nv : Int64) (sv : Value) (th : Int32) (H : Heap) (locs : List Loc) (ls : Array Slot) (hka1 : okA true f1) (hka2 : okA false f2) (hP : va_P (dC, dI) xCl [(h0, eE h1 h2 kn), (h1, eR hw1 hc1 hb1 a1 r1), (hw1, eW true), (hc1, eA cy f1), (hb1, eA cy g1), (h2, eR hw2 hc2 hb2 a2 r2), (hw2, eW false), (hc2, eA cy f2), (hb2, eA cy g2), (ho, eO nv sv), (m0, eM m1 m2 th (r1 + r2) kn), (m1, eMR true mc1 a1), (mc1, eA cy f1), (m2, eMR false mc2 a2), (mc2, eA cy f2)] H) (hD : va_D A [(h0, eE h1 h2 kn), (h1, eR hw1 hc1 hb1 a1 r1), (hw1, eW true), (hc1, eA cy f1), (hb1, eA cy g1), (h2, eR hw2 hc2 hb2 a2 r2), (hw2, eW false), (hc2, eA cy f2), (hb2, eA cy g2), (ho, eO nv sv), (m0, eM m1 m2 th (r1 + r2) kn), (m1, eMR true mc1 a1), (mc1, eA cy f1), (m2, eMR false mc2 a2), (mc2, eA cy f2)]) (hS : va_S A s.heap H locs) (hl : lv_has ls 7 [(0, .ref b), (1, .ref h0), (2, .ref m0), (3, .ref ho), (4, .int (nI i))]) : W p l e room_1 s m #[Value.ref b] below meth c H locs cells slots (lw_Z below #[Value.ref b] s) (F0 m 1616 ls []) := by
  obtain ⟨hfl, hx, hb, hr, hml, hown, hts, hX, hbl, hbA, hlocks, hK, hG, hnc, hA, hAN, hN, hL, hT, hNs⟩ := id C0
  have hok2 := me_okF hka2
  have hsp1 : ∀ k, k < 8 → o_X1_isSpoiled true (f1 k) = false := fun k hk => (hka1 k hk).2
  have hsp2 : ∀ k, k < 8 → o_X1_isSpoiled false (f2 k) = false := fun k hk => (hka2 k hk).2
  refine lv_aload_n hx hb dL_law_1616 rfl (lv_at hl 1 rfl) ?_
  refine lv_aload_n hx hb dL_law_1617 rfl (lv_at hl 0 rfl) ?_
  refine lv_iload hx hb dL_law_1618 (lv_at hl 4 rfl) ?_
  refine lv_iconst (v := 1) hx hb dL_law_1620 (by decide +kernel) ?_
  refine lv_iadd hx hb dL_law_1621 ?_
  rw [nI_1 i]
  refine xa_sld hx hb hX hbl hbA hS (k := i + 1) (by omega) hL hp1 dL_law_1622 ?_
  refine lv_if_eq (tgt := 1630) hx hb dL_law_1623 (by decide +kernel) (fun c_1 => ?_) (fun c_1 => ?_)
  · skip
    refine lv_iconst (v := 0) hx hb dL_law_1630 (by decide +kernel) ?_
    refine lv_aload_n hx hb dL_law_1631 rfl (lv_at hl 0 rfl) ?_
    refine lv_iload hx hb dL_law_1632 (lv_at hl 4 rfl) ?_
    refine lv_iconst (v := 2) hx hb dL_law_1634 (by decide +kernel) ?_
    refine lv_iadd hx hb dL_law_1635 ?_
    rw [nI_p2 i]
    refine xa_sld hx hb hX hbl hbA hS (k := i + 2) (by omega) hL hp2 dL_law_1636 ?_
    refine lv_aload_n hx hb dL_law_1637 rfl (lv_at hl 3 rfl) ?_
    have hPc := hP.sub (ws' := [(h0, eE h1 h2 kn), (h1, eR hw1 hc1 hb1 a1 r1), (hw1, eW true), (hc1, eA cy f1), (hb1, eA cy g1), (h2, eR hw2 hc2 hb2 a2 r2), (hw2, eW false), (hc2, eA cy f2), (hb2, eA cy g2), (ho, eO nv sv)]) [0, 1, 2, 3, 4, 5, 6, 7, 8, 9] rfl
    have hDc := hD.sub (ws' := [(h0, eE h1 h2 kn), (h1, eR hw1 hc1 hb1 a1 r1), (hw1, eW true), (hc1, eA cy f1), (hb1, eA cy g1), (h2, eR hw2 hc2 hb2 a2 r2), (hw2, eW false), (hc2, eA cy f2), (hb2, eA cy g2), (ho, eO nv sv)]) [0, 1, 2, 3, 4, 5, 6, 7, 8, 9] (by decide +kernel) rfl
    have hKc := hK.sub (tys' := [(cy, .long)]) [0] rfl
    have hFc := va_free (wc := [(h0, eE h1 h2 kn), (h1, eR hw1 hc1 hb1 a1 r1), (hw1, eW true), (hc1, eA cy f1), (hb1, eA cy g1), (h2, eR hw2 hc2 hb2 a2 r2), (hw2, eW false), (hc2, eA cy f2), (hb2, eA cy g2), (ho, eO nv sv)]) hD hS hA [0, 1, 2, 3, 4, 5, 6, 7, 8, 9] rfl
    refine va_calli (vx_runSW (As := [.ref h0, .int 0, .int p2, .ref ho]) (rest := []) ⟨hx, hb, hml, hown, hts⟩ (k_L_narrowEnd l hfl dC dI cy h0 h1 hw1 hc1 hb1 h2 hw2 hc2 hb2 a1 r1 f1 g1 a2 r2 f2 g2 kn ho nv sv H.size N false p2) (vx_cwSW 4 hts gL_law_L_narrowEnd rfl rfl rfl (by decide +kernel) ⟨Nat.le_of_ble_eq_true rfl, Nat.le_of_ble_eq_true rfl⟩) (xL.preS hKc hPc hDc hAN (Nat.le_trans hN hS.1) (hG.kept hS hAN) hnc) rfl rfl hl.1 rfl (lv_room (Nat.le_of_ble_eq_true rfl)) dL_law_1638 ⟨(show _ ≤ 989448 by omega), (show _ ≤ 6127760 by omega)⟩) hS (fun q _ h => hFc q h) hFc (fun r_2 u t H locs ht hvm hw hB hz hk hS => ?_)
    replace hw : r_2 = (o_L_narrowEnd a2 f2 nv false p2).1 := hw
    subst r_2
    obtain ⟨hP1, hD1⟩ := hB
    rw [ht] at hP1
    obtain ⟨hP, hD⟩ := va_join (wr := [(m0, eM m1 m2 th (r1 + r2) kn), (m1, eMR true mc1 a1), (mc1, eA cy f1), (m2, eMR false mc2 a2), (mc2, eA cy f2)]) (w1 := [(h0, eE h1 h2 kn), (h1, eR hw1 hc1 hb1 a1 r1), (hw1, eW true), (hc1, eA cy f1), (hb1, eA cy g1), (h2, eR hw2 hc2 hb2 (o_L_narrowEnd a2 f2 nv false p2).2.1 r2), (hw2, eW false), (hc2, eA cy (o_L_narrowEnd a2 f2 nv false p2).2.2.1), (hb2, eA cy g2), (ho, eO (o_L_narrowEnd a2 f2 nv false p2).2.2.2 sv)]) hP hD [0, 1, 2, 3, 4, 5, 6, 7, 8, 9] [10, 11, 12, 13, 14] rfl rfl (by decide +kernel) (by decide +kernel) hk hFc hP1 hD1
    have hP := hP.sub (ws' := [(h0, eE h1 h2 kn), (h1, eR hw1 hc1 hb1 a1 r1), (hw1, eW true), (hc1, eA cy f1), (hb1, eA cy g1), (h2, eR hw2 hc2 hb2 (o_L_narrowEnd a2 f2 nv false p2).2.1 r2), (hw2, eW false), (hc2, eA cy (o_L_narrowEnd a2 f2 nv false p2).2.2.1), (hb2, eA cy g2), (ho, eO (o_L_narrowEnd a2 f2 nv false p2).2.2.2 sv), (m0, eM m1 m2 th (r1 + r2) kn), (m1, eMR true mc1 a1), (mc1, eA cy f1), (m2, eMR false mc2 a2), (mc2, eA cy f2)]) [5, 6, 7, 8, 9, 10, 11, 12, 13, 14, 0, 1, 2, 3, 4] rfl
    have hD := hD.sub (ws' := [(h0, eE h1 h2 kn), (h1, eR hw1 hc1 hb1 a1 r1), (hw1, eW true), (hc1, eA cy f1), (hb1, eA cy g1), (h2, eR hw2 hc2 hb2 (o_L_narrowEnd a2 f2 nv false p2).2.1 r2), (hw2, eW false), (hc2, eA cy (o_L_narrowEnd a2 f2 nv false p2).2.2.1), (hb2, eA cy g2), (ho, eO (o_L_narrowEnd a2 f2 nv false p2).2.2.2 sv), (m0, eM m1 m2 th (r1 + r2) kn), (m1, eMR true mc1 a1), (mc1, eA cy f1), (m2, eMR false mc2 a2), (mc2, eA cy f2)]) [5, 6, 7, 8, 9, 10, 11, 12, 13, 14, 0, 1, 2, 3, 4] (by decide +kernel) rfl
    refine lv_istore (lv' := [(5, .int ((o_L_narrowEnd a2 f2 nv false p2).1)), (0, .ref b), (1, .ref h0), (2, .ref m0), (3, .ref ho), (4, .int (nI i))]) hx hb dL_law_1641 hl (by decide +kernel) rfl (fun ls hl => ?_)
    refine lv_aload_n hx hb dL_law_1643 rfl (lv_at hl 3 rfl) ?_
    refine lv_aload_n hx hb dL_law_1644 rfl (lv_at hl 1 rfl) ?_
    refine lv_iload hx hb dL_law_1645 (lv_at hl 5 rfl) ?_
    refine lv_iconst (v := 1) hx hb dL_law_1647 (by decide +kernel) ?_
    refine lv_iadd hx hb dL_law_1648 ?_
    rw [nI_1 i]
    refine xa_sld hx hb hX hbl hbA hS (k := i + 1) (by omega) hL hp1 dL_law_1649 ?_
    refine lv_if_eq (tgt := 1657) hx hb dL_law_1650 (by decide +kernel) (fun c9 => ?_) (fun c9 => absurd c_1 c9)
    refine lv_iconst (v := 0) hx hb dL_law_1657 (by decide +kernel) ?_
    refine lv_aload_n hx hb dL_law_1658 rfl (lv_at hl 1 rfl) ?_
    refine lv_iload hx hb dL_law_1659 (lv_at hl 5 rfl) ?_
    refine lv_iconst (v := 2) hx hb dL_law_1661 (by decide +kernel) ?_
    refine lv_iadd hx hb dL_law_1662 ?_
    rw [nI_p2 i]
    refine xa_sld hx hb hX hbl hbA hS (k := i + 2) (by omega) hL hp2 dL_law_1663 ?_
    have hPc := hP.sub (ws' := [(m0, eM m1 m2 th (r1 + r2) kn), (m1, eMR true mc1 a1), (mc1, eA cy f1), (m2, eMR false mc2 a2), (mc2, eA cy f2)]) [10, 11, 12, 13, 14] rfl
    have hDc := hD.sub (ws' := [(m0, eM m1 m2 th (r1 + r2) kn), (m1, eMR true mc1 a1), (mc1, eA cy f1), (m2, eMR false mc2 a2), (mc2, eA cy f2)]) [10, 11, 12, 13, 14] (by decide +kernel) rfl
    have hKc := hK.sub (tys' := [(cy, .long)]) [0] rfl
    have hFc := va_free (wc := [(m0, eM m1 m2 th (r1 + r2) kn), (m1, eMR true mc1 a1), (mc1, eA cy f1), (m2, eMR false mc2 a2), (mc2, eA cy f2)]) hD hS hA [10, 11, 12, 13, 14] rfl
    refine va_calli (va_runV (As := [.int 0, .int p2]) (rest := []) ⟨hx, hb, hml, hown, hts⟩ (k_X5_narrowEnd l dC dI cy m0 m1 mc1 m2 mc2 a1 f1 a2 f2 th (r1 + r2) kn H.size N false p2) (cwV 2 hts gL_law_X5_narrowEnd rfl rfl rfl (by decide +kernel) ⟨Nat.le_of_ble_eq_true rfl, Nat.le_of_ble_eq_true rfl⟩) (xM.preV hKc hPc hDc hAN (Nat.le_trans hN hS.1) (hG.kept hS hAN) (ci := 7) (q0 := 0) rfl rfl) rfl rfl hl.1 rfl (lv_room (Nat.le_of_ble_eq_true rfl)) dL_law_1664 ⟨(show _ ≤ 989448 by omega), (show _ ≤ 6127760 by omega)⟩) hS (fun q _ h => hFc q h) hFc (fun r_3 u t H locs ht hvm hw hB hz hk hS => ?_)
    replace hw : r_3 = (o_X5_narrowEnd a2 f2 false p2).1 := hw
    subst r_3
    obtain ⟨hP1, hD1⟩ := hB
    rw [ht] at hP1
    obtain ⟨hP, hD⟩ := va_join (wr := [(h0, eE h1 h2 kn), (h1, eR hw1 hc1 hb1 a1 r1), (hw1, eW true), (hc1, eA cy f1), (hb1, eA cy g1), (h2, eR hw2 hc2 hb2 (o_L_narrowEnd a2 f2 nv false p2).2.1 r2), (hw2, eW false), (hc2, eA cy (o_L_narrowEnd a2 f2 nv false p2).2.2.1), (hb2, eA cy g2), (ho, eO (o_L_narrowEnd a2 f2 nv false p2).2.2.2 sv)]) (w1 := [(m0, eM m1 m2 (o_X5_narrowEnd a2 f2 false p2).2.2.2 (r1 + r2) kn), (m1, eMR true mc1 a1), (mc1, eA cy f1), (m2, eMR false mc2 (o_X5_narrowEnd a2 f2 false p2).2.1), (mc2, eA cy (o_X5_narrowEnd a2 f2 false p2).2.2.1)]) hP hD [10, 11, 12, 13, 14] [0, 1, 2, 3, 4, 5, 6, 7, 8, 9] rfl rfl (by decide +kernel) (by decide +kernel) hk hFc hP1 hD1
    have hP := hP.sub (ws' := [(h0, eE h1 h2 kn), (h1, eR hw1 hc1 hb1 a1 r1), (hw1, eW true), (hc1, eA cy f1), (hb1, eA cy g1), (h2, eR hw2 hc2 hb2 (o_L_narrowEnd a2 f2 nv false p2).2.1 r2), (hw2, eW false), (hc2, eA cy (o_L_narrowEnd a2 f2 nv false p2).2.2.1), (hb2, eA cy g2), (ho, eO (o_L_narrowEnd a2 f2 nv false p2).2.2.2 sv), (m0, eM m1 m2 (o_X5_narrowEnd a2 f2 false p2).2.2.2 (r1 + r2) kn), (m1, eMR true mc1 a1), (mc1, eA cy f1), (m2, eMR false mc2 (o_X5_narrowEnd a2 f2 false p2).2.1), (mc2, eA cy (o_X5_narrowEnd a2 f2 false p2).2.2.1)]) [0, 1, 2, 3, 4, 5, 6, 7, 8, 9, 10, 11, 12, 13, 14] rfl
    have hD := hD.sub (ws' := [(h0, eE h1 h2 kn), (h1, eR hw1 hc1 hb1 a1 r1), (hw1, eW true), (hc1, eA cy f1), (hb1, eA cy g1), (h2, eR hw2 hc2 hb2 (o_L_narrowEnd a2 f2 nv false p2).2.1 r2), (hw2, eW false), (hc2, eA cy (o_L_narrowEnd a2 f2 nv false p2).2.2.1), (hb2, eA cy g2), (ho, eO (o_L_narrowEnd a2 f2 nv false p2).2.2.2 sv), (m0, eM m1 m2 (o_X5_narrowEnd a2 f2 false p2).2.2.2 (r1 + r2) kn), (m1, eMR true mc1 a1), (mc1, eA cy f1), (m2, eMR false mc2 (o_X5_narrowEnd a2 f2 false p2).2.1), (mc2, eA cy (o_X5_narrowEnd a2 f2 false p2).2.2.1)]) [0, 1, 2, 3, 4, 5, 6, 7, 8, 9, 10, 11, 12, 13, 14] (by decide +kernel) rfl
    refine lv_istore (lv' := [(6, .int ((o_X5_narrowEnd a2 f2 false p2).1)), (5, .int ((o_L_narrowEnd a2 f2 nv false p2).1)), (0, .ref b), (1, .ref h0), (2, .ref m0), (3, .ref ho), (4, .int (nI i))]) hx hb dL_law_1667 hl (by decide +kernel) rfl (fun ls hl => ?_)
    refine lv_goto (tgt := 2240) hx hb dL_law_1669 (by decide +kernel) ?_
    refine W.widen (k := cells + 760) (n := slots + 4500) (by omega) (by omega) ?_
    have qe_b2 : (o_X5_narrowEnd a2 f2 false p2).2.1 = (o_L_narrowEnd a2 f2 nv false p2).2.1 := (by have hm := ml_narrowEnd a2 nv false p2 hka2; rw [hm.1] <;> rfl)
    have qe_e2 : (o_X5_narrowEnd a2 f2 false p2).2.2.1 = (o_L_narrowEnd a2 f2 nv false p2).2.2.1 := (by have hm := ml_narrowEnd a2 nv false p2 hka2; rw [hm.1] <;> rfl)
    have qk_2 : okA false ((o_L_narrowEnd a2 f2 nv false p2).2.2.1) := (by have hm := ml_narrowEnd a2 nv false p2 hka2; rw [hm.1]; exact hm.2)
    exact K a1 r1 f1 g1 ((o_L_narrowEnd a2 f2 nv false p2).2.1) r2 ((o_L_narrowEnd a2 f2 nv false p2).2.2.1) g2 kn ((o_L_narrowEnd a2 f2 nv false p2).2.2.2) sv ((o_X5_narrowEnd a2 f2 false p2).2.2.2) a1 f1 ((o_X5_narrowEnd a2 f2 false p2).2.1) ((o_X5_narrowEnd a2 f2 false p2).2.2.1) (r1 + r2) kn _ _ _ rfl rfl qe_b2 qe_e2 rfl rfl hka1 qk_2 hP hD hS (lv_sub hl [2, 3, 4, 5, 6] rfl)
  · skip
    refine lv_iconst (v := 1) hx hb dL_law_1626 (by decide +kernel) ?_
    refine lv_goto (tgt := 1631) hx hb dL_law_1627 (by decide +kernel) ?_
    refine lv_aload_n hx hb dL_law_1631 rfl (lv_at hl 0 rfl) ?_
    refine lv_iload hx hb dL_law_1632 (lv_at hl 4 rfl) ?_
    refine lv_iconst (v := 2) hx hb dL_law_1634 (by decide +kernel) ?_
    refine lv_iadd hx hb dL_law_1635 ?_
    rw [nI_p2 i]
    refine xa_sld hx hb hX hbl hbA hS (k := i + 2) (by omega) hL hp2 dL_law_1636 ?_
    refine lv_aload_n hx hb dL_law_1637 rfl (lv_at hl 3 rfl) ?_
    have hPc := hP.sub (ws' := [(h0, eE h1 h2 kn), (h1, eR hw1 hc1 hb1 a1 r1), (hw1, eW true), (hc1, eA cy f1), (hb1, eA cy g1), (h2, eR hw2 hc2 hb2 a2 r2), (hw2, eW false), (hc2, eA cy f2), (hb2, eA cy g2), (ho, eO nv sv)]) [0, 1, 2, 3, 4, 5, 6, 7, 8, 9] rfl
    have hDc := hD.sub (ws' := [(h0, eE h1 h2 kn), (h1, eR hw1 hc1 hb1 a1 r1), (hw1, eW true), (hc1, eA cy f1), (hb1, eA cy g1), (h2, eR hw2 hc2 hb2 a2 r2), (hw2, eW false), (hc2, eA cy f2), (hb2, eA cy g2), (ho, eO nv sv)]) [0, 1, 2, 3, 4, 5, 6, 7, 8, 9] (by decide +kernel) rfl
    have hKc := hK.sub (tys' := [(cy, .long)]) [0] rfl
    have hFc := va_free (wc := [(h0, eE h1 h2 kn), (h1, eR hw1 hc1 hb1 a1 r1), (hw1, eW true), (hc1, eA cy f1), (hb1, eA cy g1), (h2, eR hw2 hc2 hb2 a2 r2), (hw2, eW false), (hc2, eA cy f2), (hb2, eA cy g2), (ho, eO nv sv)]) hD hS hA [0, 1, 2, 3, 4, 5, 6, 7, 8, 9] rfl
    refine va_calli (vx_runSW (As := [.ref h0, .int 1, .int p2, .ref ho]) (rest := []) ⟨hx, hb, hml, hown, hts⟩ (k_L_narrowEnd l hfl dC dI cy h0 h1 hw1 hc1 hb1 h2 hw2 hc2 hb2 a1 r1 f1 g1 a2 r2 f2 g2 kn ho nv sv H.size N true p2) (vx_cwSW 4 hts gL_law_L_narrowEnd rfl rfl rfl (by decide +kernel) ⟨Nat.le_of_ble_eq_true rfl, Nat.le_of_ble_eq_true rfl⟩) (xL.preS hKc hPc hDc hAN (Nat.le_trans hN hS.1) (hG.kept hS hAN) hnc) rfl rfl hl.1 rfl (lv_room (Nat.le_of_ble_eq_true rfl)) dL_law_1638 ⟨(show _ ≤ 989448 by omega), (show _ ≤ 6127760 by omega)⟩) hS (fun q _ h => hFc q h) hFc (fun r_4 u t H locs ht hvm hw hB hz hk hS => ?_)
    replace hw : r_4 = (o_L_narrowEnd a2 f2 nv true p2).1 := hw
    subst r_4
    obtain ⟨hP1, hD1⟩ := hB
    rw [ht] at hP1
    obtain ⟨hP, hD⟩ := va_join (wr := [(m0, eM m1 m2 th (r1 + r2) kn), (m1, eMR true mc1 a1), (mc1, eA cy f1), (m2, eMR false mc2 a2), (mc2, eA cy f2)]) (w1 := [(h0, eE h1 h2 kn), (h1, eR hw1 hc1 hb1 a1 r1), (hw1, eW true), (hc1, eA cy f1), (hb1, eA cy g1), (h2, eR hw2 hc2 hb2 (o_L_narrowEnd a2 f2 nv true p2).2.1 r2), (hw2, eW false), (hc2, eA cy (o_L_narrowEnd a2 f2 nv true p2).2.2.1), (hb2, eA cy g2), (ho, eO (o_L_narrowEnd a2 f2 nv true p2).2.2.2 sv)]) hP hD [0, 1, 2, 3, 4, 5, 6, 7, 8, 9] [10, 11, 12, 13, 14] rfl rfl (by decide +kernel) (by decide +kernel) hk hFc hP1 hD1
    have hP := hP.sub (ws' := [(h0, eE h1 h2 kn), (h1, eR hw1 hc1 hb1 a1 r1), (hw1, eW true), (hc1, eA cy f1), (hb1, eA cy g1), (h2, eR hw2 hc2 hb2 (o_L_narrowEnd a2 f2 nv true p2).2.1 r2), (hw2, eW false), (hc2, eA cy (o_L_narrowEnd a2 f2 nv true p2).2.2.1), (hb2, eA cy g2), (ho, eO (o_L_narrowEnd a2 f2 nv true p2).2.2.2 sv), (m0, eM m1 m2 th (r1 + r2) kn), (m1, eMR true mc1 a1), (mc1, eA cy f1), (m2, eMR false mc2 a2), (mc2, eA cy f2)]) [5, 6, 7, 8, 9, 10, 11, 12, 13, 14, 0, 1, 2, 3, 4] rfl
    have hD := hD.sub (ws' := [(h0, eE h1 h2 kn), (h1, eR hw1 hc1 hb1 a1 r1), (hw1, eW true), (hc1, eA cy f1), (hb1, eA cy g1), (h2, eR hw2 hc2 hb2 (o_L_narrowEnd a2 f2 nv true p2).2.1 r2), (hw2, eW false), (hc2, eA cy (o_L_narrowEnd a2 f2 nv true p2).2.2.1), (hb2, eA cy g2), (ho, eO (o_L_narrowEnd a2 f2 nv true p2).2.2.2 sv), (m0, eM m1 m2 th (r1 + r2) kn), (m1, eMR true mc1 a1), (mc1, eA cy f1), (m2, eMR false mc2 a2), (mc2, eA cy f2)]) [5, 6, 7, 8, 9, 10, 11, 12, 13, 14, 0, 1, 2, 3, 4] (by decide +kernel) rfl
    refine lv_istore (lv' := [(5, .int ((o_L_narrowEnd a2 f2 nv true p2).1)), (0, .ref b), (1, .ref h0), (2, .ref m0), (3, .ref ho), (4, .int (nI i))]) hx hb dL_law_1641 hl (by decide +kernel) rfl (fun ls hl => ?_)
    refine lv_aload_n hx hb dL_law_1643 rfl (lv_at hl 3 rfl) ?_
    refine lv_aload_n hx hb dL_law_1644 rfl (lv_at hl 1 rfl) ?_
    refine lv_iload hx hb dL_law_1645 (lv_at hl 5 rfl) ?_
    refine lv_iconst (v := 1) hx hb dL_law_1647 (by decide +kernel) ?_
    refine lv_iadd hx hb dL_law_1648 ?_
    rw [nI_1 i]
    refine xa_sld hx hb hX hbl hbA hS (k := i + 1) (by omega) hL hp1 dL_law_1649 ?_
    refine lv_if_eq (tgt := 1657) hx hb dL_law_1650 (by decide +kernel) (fun c9 => absurd c9 c_1) (fun c9 => ?_)
    refine lv_iconst (v := 1) hx hb dL_law_1653 (by decide +kernel) ?_
    refine lv_goto (tgt := 1658) hx hb dL_law_1654 (by decide +kernel) ?_
    refine lv_aload_n hx hb dL_law_1658 rfl (lv_at hl 1 rfl) ?_
    refine lv_iload hx hb dL_law_1659 (lv_at hl 5 rfl) ?_
    refine lv_iconst (v := 2) hx hb dL_law_1661 (by decide +kernel) ?_
    refine lv_iadd hx hb dL_law_1662 ?_
    rw [nI_p2 i]
    refine xa_sld hx hb hX hbl hbA hS (k := i + 2) (by omega) hL hp2 dL_law_1663 ?_
    have hPc := hP.sub (ws' := [(m0, eM m1 m2 th (r1 + r2) kn), (m1, eMR true mc1 a1), (mc1, eA cy f1), (m2, eMR false mc2 a2), (mc2, eA cy f2)]) [10, 11, 12, 13, 14] rfl
    have hDc := hD.sub (ws' := [(m0, eM m1 m2 th (r1 + r2) kn), (m1, eMR true mc1 a1), (mc1, eA cy f1), (m2, eMR false mc2 a2), (mc2, eA cy f2)]) [10, 11, 12, 13, 14] (by decide +kernel) rfl
    have hKc := hK.sub (tys' := [(cy, .long)]) [0] rfl
    have hFc := va_free (wc := [(m0, eM m1 m2 th (r1 + r2) kn), (m1, eMR true mc1 a1), (mc1, eA cy f1), (m2, eMR false mc2 a2), (mc2, eA cy f2)]) hD hS hA [10, 11, 12, 13, 14] rfl
    refine va_calli (va_runV (As := [.int 1, .int p2]) (rest := []) ⟨hx, hb, hml, hown, hts⟩ (k_X5_narrowEnd l dC dI cy m0 m1 mc1 m2 mc2 a1 f1 a2 f2 th (r1 + r2) kn H.size N true p2) (cwV 2 hts gL_law_X5_narrowEnd rfl rfl rfl (by decide +kernel) ⟨Nat.le_of_ble_eq_true rfl, Nat.le_of_ble_eq_true rfl⟩) (xM.preV hKc hPc hDc hAN (Nat.le_trans hN hS.1) (hG.kept hS hAN) (ci := 7) (q0 := 0) rfl rfl) rfl rfl hl.1 rfl (lv_room (Nat.le_of_ble_eq_true rfl)) dL_law_1664 ⟨(show _ ≤ 989448 by omega), (show _ ≤ 6127760 by omega)⟩) hS (fun q _ h => hFc q h) hFc (fun r_5 u t H locs ht hvm hw hB hz hk hS => ?_)
    replace hw : r_5 = (o_X5_narrowEnd a2 f2 true p2).1 := hw
    subst r_5
    obtain ⟨hP1, hD1⟩ := hB
    rw [ht] at hP1
    obtain ⟨hP, hD⟩ := va_join (wr := [(h0, eE h1 h2 kn), (h1, eR hw1 hc1 hb1 a1 r1), (hw1, eW true), (hc1, eA cy f1), (hb1, eA cy g1), (h2, eR hw2 hc2 hb2 (o_L_narrowEnd a2 f2 nv true p2).2.1 r2), (hw2, eW false), (hc2, eA cy (o_L_narrowEnd a2 f2 nv true p2).2.2.1), (hb2, eA cy g2), (ho, eO (o_L_narrowEnd a2 f2 nv true p2).2.2.2 sv)]) (w1 := [(m0, eM m1 m2 (o_X5_narrowEnd a2 f2 true p2).2.2.2 (r1 + r2) kn), (m1, eMR true mc1 a1), (mc1, eA cy f1), (m2, eMR false mc2 (o_X5_narrowEnd a2 f2 true p2).2.1), (mc2, eA cy (o_X5_narrowEnd a2 f2 true p2).2.2.1)]) hP hD [10, 11, 12, 13, 14] [0, 1, 2, 3, 4, 5, 6, 7, 8, 9] rfl rfl (by decide +kernel) (by decide +kernel) hk hFc hP1 hD1
    have hP := hP.sub (ws' := [(h0, eE h1 h2 kn), (h1, eR hw1 hc1 hb1 a1 r1), (hw1, eW true), (hc1, eA cy f1), (hb1, eA cy g1), (h2, eR hw2 hc2 hb2 (o_L_narrowEnd a2 f2 nv true p2).2.1 r2), (hw2, eW false), (hc2, eA cy (o_L_narrowEnd a2 f2 nv true p2).2.2.1), (hb2, eA cy g2), (ho, eO (o_L_narrowEnd a2 f2 nv true p2).2.2.2 sv), (m0, eM m1 m2 (o_X5_narrowEnd a2 f2 true p2).2.2.2 (r1 + r2) kn), (m1, eMR true mc1 a1), (mc1, eA cy f1), (m2, eMR false mc2 (o_X5_narrowEnd a2 f2 true p2).2.1), (mc2, eA cy (o_X5_narrowEnd a2 f2 true p2).2.2.1)]) [0, 1, 2, 3, 4, 5, 6, 7, 8, 9, 10, 11, 12, 13, 14] rfl
    have hD := hD.sub (ws' := [(h0, eE h1 h2 kn), (h1, eR hw1 hc1 hb1 a1 r1), (hw1, eW true), (hc1, eA cy f1), (hb1, eA cy g1), (h2, eR hw2 hc2 hb2 (o_L_narrowEnd a2 f2 nv true p2).2.1 r2), (hw2, eW false), (hc2, eA cy (o_L_narrowEnd a2 f2 nv true p2).2.2.1), (hb2, eA cy g2), (ho, eO (o_L_narrowEnd a2 f2 nv true p2).2.2.2 sv), (m0, eM m1 m2 (o_X5_narrowEnd a2 f2 true p2).2.2.2 (r1 + r2) kn), (m1, eMR true mc1 a1), (mc1, eA cy f1), (m2, eMR false mc2 (o_X5_narrowEnd a2 f2 true p2).2.1), (mc2, eA cy (o_X5_narrowEnd a2 f2 true p2).2.2.1)]) [0, 1, 2, 3, 4, 5, 6, 7, 8, 9, 10, 11, 12, 13, 14] (by decide +kernel) rfl
    refine lv_istore (lv' := [(6, .int ((o_X5_narrowEnd a2 f2 true p2).1)), (5, .int ((o_L_narrowEnd a2 f2 nv true p2).1)), (0, .ref b), (1, .ref h0), (2, .ref m0), (3, .ref ho), (4, .int (nI i))]) hx hb dL_law_1667 hl (by decide +kernel) rfl (fun ls hl => ?_)
    refine lv_goto (tgt := 2240) hx hb dL_law_1669 (by decide +kernel) ?_
    refine W.widen (k := cells + 760) (n := slots + 4500) (by omega) (by omega) ?_
    have qe_b2 : (o_X5_narrowEnd a2 f2 true p2).2.1 = (o_L_narrowEnd a2 f2 nv true p2).2.1 := (by have hm := ml_narrowEnd a2 nv true p2 hka2; rw [hm.1] <;> rfl)
    have qe_e2 : (o_X5_narrowEnd a2 f2 true p2).2.2.1 = (o_L_narrowEnd a2 f2 nv true p2).2.2.1 := (by have hm := ml_narrowEnd a2 nv true p2 hka2; rw [hm.1] <;> rfl)
    have qk_2 : okA false ((o_L_narrowEnd a2 f2 nv true p2).2.2.1) := (by have hm := ml_narrowEnd a2 nv true p2 hka2; rw [hm.1]; exact hm.2)
    exact K a1 r1 f1 g1 ((o_L_narrowEnd a2 f2 nv true p2).2.1) r2 ((o_L_narrowEnd a2 f2 nv true p2).2.2.1) g2 kn ((o_L_narrowEnd a2 f2 nv true p2).2.2.2) sv ((o_X5_narrowEnd a2 f2 true p2).2.2.2) a1 f1 ((o_X5_narrowEnd a2 f2 true p2).2.1) ((o_X5_narrowEnd a2 f2 true p2).2.2.1) (r1 + r2) kn _ _ _ rfl rfl qe_b2 qe_e2 rfl rfl hka1 qk_2 hP hD hS (lv_sub hl [2, 3, 4, 5, 6] rfl)
set_option maxHeartbeats 4000000 in
set_option maxRecDepth 100000 in
theorem st_33 (l : Launch) (p : Program) (e : Env) (s : State) (m : MethodId) (below : List Frame) (meth : Method) (c : Code) (b L N : Nat) (xs : Nat → Int32) (A : Nat → Prop) (dC : Nat → ClassId) (dI : Nat → Nat → Nat) (cy cB : ClassId) (h0 h1 hw1 hc1 hb1 h2 hw2 hc2 hb2 ho m0 m1 mc1 m2 mc2 : Nat) (C0 : lw_C l p e s m below meth c b L N xs A dC dI cy cB) (i : Nat) (hi : i + 4 ≤ L) (p1 p2 p3 : Int32) (hp1 : xs (i + 1) = p1) (hp2 : xs (i + 2) = p2) (hp3 : xs (i + 3) = p3) (cells slots : Nat) (hcs : cells + 760 ≤ 989448) (hss : slots + 4500 ≤ 6127760) (K : lw_K l p e s m below meth c b L N xs A dC dI cy cB h0 h1 hw1 hc1 hb1 h2 hw2 hc2 hb2 ho m0 m1 mc1 m2 mc2 i (cells + 760) (slots + 4500) 2240) (a1 : Int32) (r1 : Int32) (f1 : Nat → Int64) (g1 : Nat → Int64) (a2 : Int32) (r2 : Int32) (f2 : Nat → Int64) (g2 : Nat → Int64) (kn : Int32) (nv : Int64) (sv : Value) (th : Int32) (H : Heap) (locs : List Loc) (ls : Array Slot) (hka1 : okA true f1) (hka2 : okA false f2) (hP : va_P (dC, dI) xCl [(h0, eE h1 h2 kn), (h1, eR hw1 hc1 hb1 a1 r1), (hw1, eW true), (hc1, eA cy f1), (hb1, eA cy g1), (h2, eR hw2 hc2 hb2 a2 r2), (hw2, eW false), (hc2, eA cy f2), (hb2, eA cy g2), (ho, eO nv sv), (m0, eM m1 m2 th (r1 + r2) kn), (m1, eMR true mc1 a1), (mc1, eA cy f1), (m2, eMR false mc2 a2), (mc2, eA cy f2)] H) (hD : va_D A [(h0, eE h1 h2 kn), (h1, eR hw1 hc1 hb1 a1 r1), (hw1, eW true), (hc1, eA cy f1), (hb1, eA cy g1), (h2, eR hw2 hc2 hb2 a2 r2), (hw2, eW false), (hc2, eA cy f2), (hb2, eA cy g2), (ho, eO nv sv), (m0, eM m1 m2 th (r1 + r2) kn), (m1, eMR true mc1 a1), (mc1, eA cy f1), (m2, eMR false mc2 a2), (mc2, eA cy f2)]) (hS : va_S A s.heap H locs) (hl : lv_has ls 7 [(0, .ref b), (1, .ref h0), (2, .ref m0), (3, .ref ho), (4, .int (nI i))]) : W p l e room_1 s m #[Value.ref b] below meth c H locs cells slots (lw_Z below #[Value.ref b] s) (F0 m 1672 ls []) := by
  obtain ⟨hfl, hx, hb, hr, hml, hown, hts, hX, hbl, hbA, hlocks, hK, hG, hnc, hA, hAN, hN, hL, hT, hNs⟩ := id C0
  have hok2 := me_okF hka2
  have hsp1 : ∀ k, k < 8 → o_X1_isSpoiled true (f1 k) = false := fun k hk => (hka1 k hk).2
  have hsp2 : ∀ k, k < 8 → o_X1_isSpoiled false (f2 k) = false := fun k hk => (hka2 k hk).2
  refine lv_aload_n hx hb dL_law_1672 rfl (lv_at hl 1 rfl) ?_
  refine lv_aload_n hx hb dL_law_1673 rfl (lv_at hl 0 rfl) ?_
  refine lv_iload hx hb dL_law_1674 (lv_at hl 4 rfl) ?_
  refine lv_iconst (v := 1) hx hb dL_law_1676 (by decide +kernel) ?_
  refine lv_iadd hx hb dL_law_1677 ?_
  rw [nI_1 i]
  refine xa_sld hx hb hX hbl hbA hS (k := i + 1) (by omega) hL hp1 dL_law_1678 ?_
  refine lv_aload_n hx hb dL_law_1679 rfl (lv_at hl 3 rfl) ?_
  have hPc := hP.sub (ws' := [(h0, eE h1 h2 kn), (h1, eR hw1 hc1 hb1 a1 r1), (hw1, eW true), (hc1, eA cy f1), (hb1, eA cy g1), (h2, eR hw2 hc2 hb2 a2 r2), (hw2, eW false), (hc2, eA cy f2), (hb2, eA cy g2), (ho, eO nv sv)]) [0, 1, 2, 3, 4, 5, 6, 7, 8, 9] rfl
  have hDc := hD.sub (ws' := [(h0, eE h1 h2 kn), (h1, eR hw1 hc1 hb1 a1 r1), (hw1, eW true), (hc1, eA cy f1), (hb1, eA cy g1), (h2, eR hw2 hc2 hb2 a2 r2), (hw2, eW false), (hc2, eA cy f2), (hb2, eA cy g2), (ho, eO nv sv)]) [0, 1, 2, 3, 4, 5, 6, 7, 8, 9] (by decide +kernel) rfl
  have hKc := hK.sub (tys' := [(cy, .long)]) [0] rfl
  have hFc := va_free (wc := [(h0, eE h1 h2 kn), (h1, eR hw1 hc1 hb1 a1 r1), (hw1, eW true), (hc1, eA cy f1), (hb1, eA cy g1), (h2, eR hw2 hc2 hb2 a2 r2), (hw2, eW false), (hc2, eA cy f2), (hb2, eA cy g2), (ho, eO nv sv)]) hD hS hA [0, 1, 2, 3, 4, 5, 6, 7, 8, 9] rfl
  refine va_calli (vx_runSW (As := [.ref h0, .int p1, .ref ho]) (rest := []) ⟨hx, hb, hml, hown, hts⟩ (k_L_digits l hfl dC dI cy h0 h1 hw1 hc1 hb1 h2 hw2 hc2 hb2 a1 r1 f1 g1 a2 r2 f2 g2 kn ho nv sv H.size N p1) (vx_cwSW 3 hts gL_law_L_digits rfl rfl rfl (by decide +kernel) ⟨Nat.le_of_ble_eq_true rfl, Nat.le_of_ble_eq_true rfl⟩) (xL.preS hKc hPc hDc hAN (Nat.le_trans hN hS.1) (hG.kept hS hAN) hnc) rfl rfl hl.1 rfl (lv_room (Nat.le_of_ble_eq_true rfl)) dL_law_1680 ⟨(show _ ≤ 989448 by omega), (show _ ≤ 6127760 by omega)⟩) hS (fun q _ h => hFc q h) hFc (fun r_1 u t H locs ht hvm hw hB hz hk hS => ?_)
  replace hw : r_1 = (o_L_digits f2 nv p1).1 := hw
  subst r_1
  obtain ⟨hP1, hD1⟩ := hB
  rw [ht] at hP1
  obtain ⟨hP, hD⟩ := va_join (wr := [(m0, eM m1 m2 th (r1 + r2) kn), (m1, eMR true mc1 a1), (mc1, eA cy f1), (m2, eMR false mc2 a2), (mc2, eA cy f2)]) (w1 := [(h0, eE h1 h2 kn), (h1, eR hw1 hc1 hb1 a1 r1), (hw1, eW true), (hc1, eA cy f1), (hb1, eA cy g1), (h2, eR hw2 hc2 hb2 a2 r2), (hw2, eW false), (hc2, eA cy f2), (hb2, eA cy g2), (ho, eO (o_L_digits f2 nv p1).2 sv)]) hP hD [0, 1, 2, 3, 4, 5, 6, 7, 8, 9] [10, 11, 12, 13, 14] rfl rfl (by decide +kernel) (by decide +kernel) hk hFc hP1 hD1
  have hP := hP.sub (ws' := [(h0, eE h1 h2 kn), (h1, eR hw1 hc1 hb1 a1 r1), (hw1, eW true), (hc1, eA cy f1), (hb1, eA cy g1), (h2, eR hw2 hc2 hb2 a2 r2), (hw2, eW false), (hc2, eA cy f2), (hb2, eA cy g2), (ho, eO (o_L_digits f2 nv p1).2 sv), (m0, eM m1 m2 th (r1 + r2) kn), (m1, eMR true mc1 a1), (mc1, eA cy f1), (m2, eMR false mc2 a2), (mc2, eA cy f2)]) [5, 6, 7, 8, 9, 10, 11, 12, 13, 14, 0, 1, 2, 3, 4] rfl
  have hD := hD.sub (ws' := [(h0, eE h1 h2 kn), (h1, eR hw1 hc1 hb1 a1 r1), (hw1, eW true), (hc1, eA cy f1), (hb1, eA cy g1), (h2, eR hw2 hc2 hb2 a2 r2), (hw2, eW false), (hc2, eA cy f2), (hb2, eA cy g2), (ho, eO (o_L_digits f2 nv p1).2 sv), (m0, eM m1 m2 th (r1 + r2) kn), (m1, eMR true mc1 a1), (mc1, eA cy f1), (m2, eMR false mc2 a2), (mc2, eA cy f2)]) [5, 6, 7, 8, 9, 10, 11, 12, 13, 14, 0, 1, 2, 3, 4] (by decide +kernel) rfl
  refine lv_istore (lv' := [(5, .int ((o_L_digits f2 nv p1).1)), (0, .ref b), (1, .ref h0), (2, .ref m0), (3, .ref ho), (4, .int (nI i))]) hx hb dL_law_1683 hl (by decide +kernel) rfl (fun ls hl => ?_)
  refine lv_aload_n hx hb dL_law_1685 rfl (lv_at hl 3 rfl) ?_
  refine lv_aload_n hx hb dL_law_1686 rfl (lv_at hl 1 rfl) ?_
  refine lv_iload hx hb dL_law_1687 (lv_at hl 5 rfl) ?_
  refine lv_iconst (v := 1) hx hb dL_law_1689 (by decide +kernel) ?_
  refine lv_iadd hx hb dL_law_1690 ?_
  rw [nI_1 i]
  refine xa_sld hx hb hX hbl hbA hS (k := i + 1) (by omega) hL hp1 dL_law_1691 ?_
  have hPc := hP.sub (ws' := [(m0, eM m1 m2 th (r1 + r2) kn), (m1, eMR true mc1 a1), (mc1, eA cy f1), (m2, eMR false mc2 a2), (mc2, eA cy f2)]) [10, 11, 12, 13, 14] rfl
  have hDc := hD.sub (ws' := [(m0, eM m1 m2 th (r1 + r2) kn), (m1, eMR true mc1 a1), (mc1, eA cy f1), (m2, eMR false mc2 a2), (mc2, eA cy f2)]) [10, 11, 12, 13, 14] (by decide +kernel) rfl
  have hKc := hK.sub (tys' := [(cy, .long)]) [0] rfl
  have hFc := va_free (wc := [(m0, eM m1 m2 th (r1 + r2) kn), (m1, eMR true mc1 a1), (mc1, eA cy f1), (m2, eMR false mc2 a2), (mc2, eA cy f2)]) hD hS hA [10, 11, 12, 13, 14] rfl
  refine va_calli (va_runV (As := [.int p1]) (rest := []) ⟨hx, hb, hml, hown, hts⟩ (k_X5_digits l dC dI cy m0 m1 mc1 m2 mc2 a1 f1 a2 f2 th (r1 + r2) kn H.size N p1) (cwV 1 hts gL_law_X5_digits rfl rfl rfl (by decide +kernel) ⟨Nat.le_of_ble_eq_true rfl, Nat.le_of_ble_eq_true rfl⟩) (xM.preV hKc hPc hDc hAN (Nat.le_trans hN hS.1) (hG.kept hS hAN) (ci := 7) (q0 := 0) rfl rfl) rfl rfl hl.1 rfl (lv_room (Nat.le_of_ble_eq_true rfl)) dL_law_1692 ⟨(show _ ≤ 989448 by omega), (show _ ≤ 6127760 by omega)⟩) hS (fun q _ h => hFc q h) hFc (fun r_2 u t H locs ht hvm hw hB hz hk hS => ?_)
  replace hw : r_2 = (o_X5_digits f2 p1).1 := hw
  subst r_2
  obtain ⟨hP1, hD1⟩ := hB
  rw [ht] at hP1
  obtain ⟨hP, hD⟩ := va_join (wr := [(h0, eE h1 h2 kn), (h1, eR hw1 hc1 hb1 a1 r1), (hw1, eW true), (hc1, eA cy f1), (hb1, eA cy g1), (h2, eR hw2 hc2 hb2 a2 r2), (hw2, eW false), (hc2, eA cy f2), (hb2, eA cy g2), (ho, eO (o_L_digits f2 nv p1).2 sv)]) (w1 := [(m0, eM m1 m2 (o_X5_digits f2 p1).2 (r1 + r2) kn), (m1, eMR true mc1 a1), (mc1, eA cy f1), (m2, eMR false mc2 a2), (mc2, eA cy f2)]) hP hD [10, 11, 12, 13, 14] [0, 1, 2, 3, 4, 5, 6, 7, 8, 9] rfl rfl (by decide +kernel) (by decide +kernel) hk hFc hP1 hD1
  have hP := hP.sub (ws' := [(h0, eE h1 h2 kn), (h1, eR hw1 hc1 hb1 a1 r1), (hw1, eW true), (hc1, eA cy f1), (hb1, eA cy g1), (h2, eR hw2 hc2 hb2 a2 r2), (hw2, eW false), (hc2, eA cy f2), (hb2, eA cy g2), (ho, eO (o_L_digits f2 nv p1).2 sv), (m0, eM m1 m2 (o_X5_digits f2 p1).2 (r1 + r2) kn), (m1, eMR true mc1 a1), (mc1, eA cy f1), (m2, eMR false mc2 a2), (mc2, eA cy f2)]) [0, 1, 2, 3, 4, 5, 6, 7, 8, 9, 10, 11, 12, 13, 14] rfl
  have hD := hD.sub (ws' := [(h0, eE h1 h2 kn), (h1, eR hw1 hc1 hb1 a1 r1), (hw1, eW true), (hc1, eA cy f1), (hb1, eA cy g1), (h2, eR hw2 hc2 hb2 a2 r2), (hw2, eW false), (hc2, eA cy f2), (hb2, eA cy g2), (ho, eO (o_L_digits f2 nv p1).2 sv), (m0, eM m1 m2 (o_X5_digits f2 p1).2 (r1 + r2) kn), (m1, eMR true mc1 a1), (mc1, eA cy f1), (m2, eMR false mc2 a2), (mc2, eA cy f2)]) [0, 1, 2, 3, 4, 5, 6, 7, 8, 9, 10, 11, 12, 13, 14] (by decide +kernel) rfl
  refine lv_istore (lv' := [(6, .int ((o_X5_digits f2 p1).1)), (5, .int ((o_L_digits f2 nv p1).1)), (0, .ref b), (1, .ref h0), (2, .ref m0), (3, .ref ho), (4, .int (nI i))]) hx hb dL_law_1695 hl (by decide +kernel) rfl (fun ls hl => ?_)
  refine lv_goto (tgt := 2240) hx hb dL_law_1697 (by decide +kernel) ?_
  refine W.widen (k := cells + 760) (n := slots + 4500) (by omega) (by omega) ?_
  exact K a1 r1 f1 g1 a2 r2 f2 g2 kn ((o_L_digits f2 nv p1).2) sv ((o_X5_digits f2 p1).2) a1 f1 a2 f2 (r1 + r2) kn _ _ _ rfl rfl rfl rfl rfl rfl hka1 hka2 hP hD hS (lv_sub hl [2, 3, 4, 5, 6] rfl)
set_option maxHeartbeats 4000000 in
set_option maxRecDepth 100000 in
theorem st_34 (l : Launch) (p : Program) (e : Env) (s : State) (m : MethodId) (below : List Frame) (meth : Method) (c : Code) (b L N : Nat) (xs : Nat → Int32) (A : Nat → Prop) (dC : Nat → ClassId) (dI : Nat → Nat → Nat) (cy cB : ClassId) (h0 h1 hw1 hc1 hb1 h2 hw2 hc2 hb2 ho m0 m1 mc1 m2 mc2 : Nat) (C0 : lw_C l p e s m below meth c b L N xs A dC dI cy cB) (i : Nat) (hi : i + 4 ≤ L) (p1 p2 p3 : Int32) (hp1 : xs (i + 1) = p1) (hp2 : xs (i + 2) = p2) (hp3 : xs (i + 3) = p3) (cells slots : Nat) (hcs : cells + 760 ≤ 989448) (hss : slots + 4500 ≤ 6127760) (K : lw_K l p e s m below meth c b L N xs A dC dI cy cB h0 h1 hw1 hc1 hb1 h2 hw2 hc2 hb2 ho m0 m1 mc1 m2 mc2 i (cells + 760) (slots + 4500) 2240) (a1 : Int32) (r1 : Int32) (f1 : Nat → Int64) (g1 : Nat → Int64) (a2 : Int32) (r2 : Int32) (f2 : Nat → Int64) (g2 : Nat → Int64) (kn : Int32) (nv : Int64) (sv : Value) (th : Int32) (H : Heap) (locs : List Loc) (ls : Array Slot) (hka1 : okA true f1) (hka2 : okA false f2) (hP : va_P (dC, dI) xCl [(h0, eE h1 h2 kn), (h1, eR hw1 hc1 hb1 a1 r1), (hw1, eW true), (hc1, eA cy f1), (hb1, eA cy g1), (h2, eR hw2 hc2 hb2 a2 r2), (hw2, eW false), (hc2, eA cy f2), (hb2, eA cy g2), (ho, eO nv sv), (m0, eM m1 m2 th (r1 + r2) kn), (m1, eMR true mc1 a1), (mc1, eA cy f1), (m2, eMR false mc2 a2), (mc2, eA cy f2)] H) (hD : va_D A [(h0, eE h1 h2 kn), (h1, eR hw1 hc1 hb1 a1 r1), (hw1, eW true), (hc1, eA cy f1), (hb1, eA cy g1), (h2, eR hw2 hc2 hb2 a2 r2), (hw2, eW false), (hc2, eA cy f2), (hb2, eA cy g2), (ho, eO nv sv), (m0, eM m1 m2 th (r1 + r2) kn), (m1, eMR true mc1 a1), (mc1, eA cy f1), (m2, eMR false mc2 a2), (mc2, eA cy f2)]) (hS : va_S A s.heap H locs) (hl : lv_has ls 7 [(0, .ref b), (1, .ref h0), (2, .ref m0), (3, .ref ho), (4, .int (nI i))]) : W p l e room_1 s m #[Value.ref b] below meth c H locs cells slots (lw_Z below #[Value.ref b] s) (F0 m 1700 ls []) := by
  obtain ⟨hfl, hx, hb, hr, hml, hown, hts, hX, hbl, hbA, hlocks, hK, hG, hnc, hA, hAN, hN, hL, hT, hNs⟩ := id C0
  have hok2 := me_okF hka2
  have hsp1 : ∀ k, k < 8 → o_X1_isSpoiled true (f1 k) = false := fun k hk => (hka1 k hk).2
  have hsp2 : ∀ k, k < 8 → o_X1_isSpoiled false (f2 k) = false := fun k hk => (hka2 k hk).2
  refine lv_aload_n hx hb dL_law_1700 rfl (lv_at hl 1 rfl) ?_
  refine lv_aload_n hx hb dL_law_1701 rfl (lv_at hl 0 rfl) ?_
  refine lv_iload hx hb dL_law_1702 (lv_at hl 4 rfl) ?_
  refine lv_iconst (v := 1) hx hb dL_law_1704 (by decide +kernel) ?_
  refine lv_iadd hx hb dL_law_1705 ?_
  rw [nI_1 i]
  refine xa_sld hx hb hX hbl hbA hS (k := i + 1) (by omega) hL hp1 dL_law_1706 ?_
  refine lv_aload_n hx hb dL_law_1707 rfl (lv_at hl 3 rfl) ?_
  have hPc := hP.sub (ws' := [(h0, eE h1 h2 kn), (h1, eR hw1 hc1 hb1 a1 r1), (hw1, eW true), (hc1, eA cy f1), (hb1, eA cy g1), (h2, eR hw2 hc2 hb2 a2 r2), (hw2, eW false), (hc2, eA cy f2), (hb2, eA cy g2), (ho, eO nv sv)]) [0, 1, 2, 3, 4, 5, 6, 7, 8, 9] rfl
  have hDc := hD.sub (ws' := [(h0, eE h1 h2 kn), (h1, eR hw1 hc1 hb1 a1 r1), (hw1, eW true), (hc1, eA cy f1), (hb1, eA cy g1), (h2, eR hw2 hc2 hb2 a2 r2), (hw2, eW false), (hc2, eA cy f2), (hb2, eA cy g2), (ho, eO nv sv)]) [0, 1, 2, 3, 4, 5, 6, 7, 8, 9] (by decide +kernel) rfl
  have hKc := hK.sub (tys' := [(cy, .long), (cB, .byte)]) [0, 1] rfl
  have hFc := va_free (wc := [(h0, eE h1 h2 kn), (h1, eR hw1 hc1 hb1 a1 r1), (hw1, eW true), (hc1, eA cy f1), (hb1, eA cy g1), (h2, eR hw2 hc2 hb2 a2 r2), (hw2, eW false), (hc2, eA cy f2), (hb2, eA cy g2), (ho, eO nv sv)]) hD hS hA [0, 1, 2, 3, 4, 5, 6, 7, 8, 9] rfl
  refine va_calli (vx_runSW (As := [.ref h0, .int p1, .ref ho]) (rest := []) ⟨hx, hb, hml, hown, hts⟩ (k_L_narrowText l hfl dC dI cy cB h0 h1 hw1 hc1 hb1 h2 hw2 hc2 hb2 a1 r1 f1 g1 a2 r2 f2 g2 kn ho nv sv H.size N p1 hok2) (vx_cwSW 3 hts gL_law_L_narrowText rfl rfl rfl (by decide +kernel) ⟨Nat.le_of_ble_eq_true rfl, Nat.le_of_ble_eq_true rfl⟩) (xU.preS hKc hPc hDc hAN (Nat.le_trans hN hS.1) (hG.kept hS hAN) (hT.kept hS hAN) hnc) rfl rfl hl.1 rfl (lv_room (Nat.le_of_ble_eq_true rfl)) dL_law_1708 ⟨(show _ ≤ 989448 by omega), (show _ ≤ 6127760 by omega)⟩) hS (fun q _ h => hFc q h) hFc (fun r_1 sv_2 t H locs ht hvm hw hB hz hk hS => ?_)
  obtain ⟨hP1, hD1⟩ := hB
  rw [ht] at hP1
  obtain ⟨hP, hD⟩ := va_join (wr := [(m0, eM m1 m2 th (r1 + r2) kn), (m1, eMR true mc1 a1), (mc1, eA cy f1), (m2, eMR false mc2 a2), (mc2, eA cy f2)]) (w1 := [(h0, eE h1 h2 kn), (h1, eR hw1 hc1 hb1 a1 r1), (hw1, eW true), (hc1, eA cy f1), (hb1, eA cy g1), (h2, eR hw2 hc2 hb2 a2 r2), (hw2, eW false), (hc2, eA cy f2), (hb2, eA cy g2), (ho, eO nv sv_2)]) hP hD [0, 1, 2, 3, 4, 5, 6, 7, 8, 9] [10, 11, 12, 13, 14] rfl rfl (by decide +kernel) (by decide +kernel) hk hFc hP1 hD1
  have hP := hP.sub (ws' := [(h0, eE h1 h2 kn), (h1, eR hw1 hc1 hb1 a1 r1), (hw1, eW true), (hc1, eA cy f1), (hb1, eA cy g1), (h2, eR hw2 hc2 hb2 a2 r2), (hw2, eW false), (hc2, eA cy f2), (hb2, eA cy g2), (ho, eO nv sv_2), (m0, eM m1 m2 th (r1 + r2) kn), (m1, eMR true mc1 a1), (mc1, eA cy f1), (m2, eMR false mc2 a2), (mc2, eA cy f2)]) [5, 6, 7, 8, 9, 10, 11, 12, 13, 14, 0, 1, 2, 3, 4] rfl
  have hD := hD.sub (ws' := [(h0, eE h1 h2 kn), (h1, eR hw1 hc1 hb1 a1 r1), (hw1, eW true), (hc1, eA cy f1), (hb1, eA cy g1), (h2, eR hw2 hc2 hb2 a2 r2), (hw2, eW false), (hc2, eA cy f2), (hb2, eA cy g2), (ho, eO nv sv_2), (m0, eM m1 m2 th (r1 + r2) kn), (m1, eMR true mc1 a1), (mc1, eA cy f1), (m2, eMR false mc2 a2), (mc2, eA cy f2)]) [5, 6, 7, 8, 9, 10, 11, 12, 13, 14, 0, 1, 2, 3, 4] (by decide +kernel) rfl
  refine lv_istore (lv' := [(5, .int r_1), (0, .ref b), (1, .ref h0), (2, .ref m0), (3, .ref ho), (4, .int (nI i))]) hx hb dL_law_1711 hl (by decide +kernel) rfl (fun ls hl => ?_)
  refine lv_aload_n hx hb dL_law_1713 rfl (lv_at hl 3 rfl) ?_
  refine lv_aload_n hx hb dL_law_1714 rfl (lv_at hl 1 rfl) ?_
  refine lv_iload hx hb dL_law_1715 (lv_at hl 5 rfl) ?_
  refine lv_iconst (v := 1) hx hb dL_law_1717 (by decide +kernel) ?_
  refine lv_iadd hx hb dL_law_1718 ?_
  rw [nI_1 i]
  refine xa_sld hx hb hX hbl hbA hS (k := i + 1) (by omega) hL hp1 dL_law_1719 ?_
  have hPc := hP.sub (ws' := [(m0, eM m1 m2 th (r1 + r2) kn), (m1, eMR true mc1 a1), (mc1, eA cy f1), (m2, eMR false mc2 a2), (mc2, eA cy f2)]) [10, 11, 12, 13, 14] rfl
  have hDc := hD.sub (ws' := [(m0, eM m1 m2 th (r1 + r2) kn), (m1, eMR true mc1 a1), (mc1, eA cy f1), (m2, eMR false mc2 a2), (mc2, eA cy f2)]) [10, 11, 12, 13, 14] (by decide +kernel) rfl
  have hKc := hK.sub (tys' := [(cy, .long), (cB, .byte)]) [0, 1] rfl
  have hFc := va_free (wc := [(m0, eM m1 m2 th (r1 + r2) kn), (m1, eMR true mc1 a1), (mc1, eA cy f1), (m2, eMR false mc2 a2), (mc2, eA cy f2)]) hD hS hA [10, 11, 12, 13, 14] rfl
  refine va_callr (va_runV (As := [.int p1]) (rest := []) ⟨hx, hb, hml, hown, hts⟩ (k_X5_narrowText l dC dI cy cB m0 m1 mc1 m2 mc2 a1 f1 a2 f2 th (r1 + r2) kn p1 H.size N hok2) (cwV 1 hts gL_law_X5_narrowText rfl rfl rfl (by decide +kernel) ⟨Nat.le_of_ble_eq_true rfl, Nat.le_of_ble_eq_true rfl⟩) (xT.preV (ci := 7) (q0 := 0) hKc hPc hDc hAN (Nat.le_trans hN hS.1) (hG.kept hS hAN) (hT.kept hS hAN) rfl rfl) rfl rfl hl.1 rfl (lv_room (Nat.le_of_ble_eq_true rfl)) dL_law_1720 ⟨(show _ ≤ 989448 by omega), (show _ ≤ 6127760 by omega)⟩) hS (fun q _ h => hFc q h) hFc (fun th_4 r_3 t H locs ht hvm hw hB hz hk hS => ?_)
  obtain ⟨hP1, hD1⟩ := hB
  rw [ht] at hP1
  obtain ⟨hP, hD⟩ := va_join (wr := [(h0, eE h1 h2 kn), (h1, eR hw1 hc1 hb1 a1 r1), (hw1, eW true), (hc1, eA cy f1), (hb1, eA cy g1), (h2, eR hw2 hc2 hb2 a2 r2), (hw2, eW false), (hc2, eA cy f2), (hb2, eA cy g2), (ho, eO nv sv_2)]) (w1 := [(m0, eM m1 m2 th_4 (r1 + r2) kn), (m1, eMR true mc1 a1), (mc1, eA cy f1), (m2, eMR false mc2 a2), (mc2, eA cy f2)]) hP hD [10, 11, 12, 13, 14] [0, 1, 2, 3, 4, 5, 6, 7, 8, 9] rfl rfl (by decide +kernel) (by decide +kernel) hk hFc hP1 hD1
  have hP := hP.sub (ws' := [(h0, eE h1 h2 kn), (h1, eR hw1 hc1 hb1 a1 r1), (hw1, eW true), (hc1, eA cy f1), (hb1, eA cy g1), (h2, eR hw2 hc2 hb2 a2 r2), (hw2, eW false), (hc2, eA cy f2), (hb2, eA cy g2), (ho, eO nv sv_2), (m0, eM m1 m2 th_4 (r1 + r2) kn), (m1, eMR true mc1 a1), (mc1, eA cy f1), (m2, eMR false mc2 a2), (mc2, eA cy f2)]) [0, 1, 2, 3, 4, 5, 6, 7, 8, 9, 10, 11, 12, 13, 14] rfl
  have hD := hD.sub (ws' := [(h0, eE h1 h2 kn), (h1, eR hw1 hc1 hb1 a1 r1), (hw1, eW true), (hc1, eA cy f1), (hb1, eA cy g1), (h2, eR hw2 hc2 hb2 a2 r2), (hw2, eW false), (hc2, eA cy f2), (hb2, eA cy g2), (ho, eO nv sv_2), (m0, eM m1 m2 th_4 (r1 + r2) kn), (m1, eMR true mc1 a1), (mc1, eA cy f1), (m2, eMR false mc2 a2), (mc2, eA cy f2)]) [0, 1, 2, 3, 4, 5, 6, 7, 8, 9, 10, 11, 12, 13, 14] (by decide +kernel) rfl
  refine lv_astore (lv' := [(6, .ref r_3), (5, .int r_1), (0, .ref b), (1, .ref h0), (2, .ref m0), (3, .ref ho), (4, .int (nI i))]) hx hb dL_law_1723 hl (by decide +kernel) rfl (fun ls hl => ?_)
  refine lv_goto (tgt := 2240) hx hb dL_law_1725 (by decide +kernel) ?_
  refine W.widen (k := cells + 760) (n := slots + 4500) (by omega) (by omega) ?_
  exact K a1 r1 f1 g1 a2 r2 f2 g2 kn nv sv_2 th_4 a1 f1 a2 f2 (r1 + r2) kn _ _ _ rfl rfl rfl rfl rfl rfl hka1 hka2 hP hD hS (lv_sub hl [2, 3, 4, 5, 6] rfl)
set_option maxHeartbeats 4000000 in
set_option maxRecDepth 100000 in
theorem st_35 (l : Launch) (p : Program) (e : Env) (s : State) (m : MethodId) (below : List Frame) (meth : Method) (c : Code) (b L N : Nat) (xs : Nat → Int32) (A : Nat → Prop) (dC : Nat → ClassId) (dI : Nat → Nat → Nat) (cy cB : ClassId) (h0 h1 hw1 hc1 hb1 h2 hw2 hc2 hb2 ho m0 m1 mc1 m2 mc2 : Nat) (C0 : lw_C l p e s m below meth c b L N xs A dC dI cy cB) (i : Nat) (hi : i + 4 ≤ L) (p1 p2 p3 : Int32) (hp1 : xs (i + 1) = p1) (hp2 : xs (i + 2) = p2) (hp3 : xs (i + 3) = p3) (cells slots : Nat) (hcs : cells + 760 ≤ 989448) (hss : slots + 4500 ≤ 6127760) (K : lw_K l p e s m below meth c b L N xs A dC dI cy cB h0 h1 hw1 hc1 hb1 h2 hw2 hc2 hb2 ho m0 m1 mc1 m2 mc2 i (cells + 760) (slots + 4500) 2240) (a1 : Int32) (r1 : Int32) (f1 : Nat → Int64) (g1 : Nat → Int64) (a2 : Int32) (r2 : Int32) (f2 : Nat → Int64) (g2 : Nat → Int64) (kn : Int32) (nv : Int64) (sv : Value) (th : Int32) (H : Heap) (locs : List Loc) (ls : Array Slot) (hka1 : okA true f1) (hka2 : okA false f2) (hP : va_P (dC, dI) xCl [(h0, eE h1 h2 kn), (h1, eR hw1 hc1 hb1 a1 r1), (hw1, eW true), (hc1, eA cy f1), (hb1, eA cy g1), (h2, eR hw2 hc2 hb2 a2 r2), (hw2, eW false), (hc2, eA cy f2), (hb2, eA cy g2), (ho, eO nv sv), (m0, eM m1 m2 th (r1 + r2) kn), (m1, eMR true mc1 a1), (mc1, eA cy f1), (m2, eMR false mc2 a2), (mc2, eA cy f2)] H) (hD : va_D A [(h0, eE h1 h2 kn), (h1, eR hw1 hc1 hb1 a1 r1), (hw1, eW true), (hc1, eA cy f1), (hb1, eA cy g1), (h2, eR hw2 hc2 hb2 a2 r2), (hw2, eW false), (hc2, eA cy f2), (hb2, eA cy g2), (ho, eO nv sv), (m0, eM m1 m2 th (r1 + r2) kn), (m1, eMR true mc1 a1), (mc1, eA cy f1), (m2, eMR false mc2 a2), (mc2, eA cy f2)]) (hS : va_S A s.heap H locs) (hl : lv_has ls 7 [(0, .ref b), (1, .ref h0), (2, .ref m0), (3, .ref ho), (4, .int (nI i))]) : W p l e room_1 s m #[Value.ref b] below meth c H locs cells slots (lw_Z below #[Value.ref b] s) (F0 m 1728 ls []) := by
  obtain ⟨hfl, hx, hb, hr, hml, hown, hts, hX, hbl, hbA, hlocks, hK, hG, hnc, hA, hAN, hN, hL, hT, hNs⟩ := id C0
  have hok2 := me_okF hka2
  have hsp1 : ∀ k, k < 8 → o_X1_isSpoiled true (f1 k) = false := fun k hk => (hka1 k hk).2
  have hsp2 : ∀ k, k < 8 → o_X1_isSpoiled false (f2 k) = false := fun k hk => (hka2 k hk).2
  refine lv_aload_n hx hb dL_law_1728 rfl (lv_at hl 1 rfl) ?_
  refine lv_aload_n hx hb dL_law_1729 rfl (lv_at hl 0 rfl) ?_
  refine lv_iload hx hb dL_law_1730 (lv_at hl 4 rfl) ?_
  refine lv_iconst (v := 1) hx hb dL_law_1732 (by decide +kernel) ?_
  refine lv_iadd hx hb dL_law_1733 ?_
  rw [nI_1 i]
  refine xa_sld hx hb hX hbl hbA hS (k := i + 1) (by omega) hL hp1 dL_law_1734 ?_
  refine lv_aload_n hx hb dL_law_1735 rfl (lv_at hl 0 rfl) ?_
  refine lv_iload hx hb dL_law_1736 (lv_at hl 4 rfl) ?_
  refine lv_iconst (v := 2) hx hb dL_law_1738 (by decide +kernel) ?_
  refine lv_iadd hx hb dL_law_1739 ?_
  rw [nI_p2 i]
  refine xa_sld hx hb hX hbl hbA hS (k := i + 2) (by omega) hL hp2 dL_law_1740 ?_
  refine lv_aload_n hx hb dL_law_1741 rfl (lv_at hl 0 rfl) ?_
  refine lv_iload hx hb dL_law_1742 (lv_at hl 4 rfl) ?_
  refine lv_iconst (v := 3) hx hb dL_law_1744 (by decide +kernel) ?_
  refine lv_iadd hx hb dL_law_1745 ?_
  rw [nI_p3 i]
  refine xa_sld hx hb hX hbl hbA hS (k := i + 3) (by omega) hL hp3 dL_law_1746 ?_
  refine lv_aload_n hx hb dL_law_1747 rfl (lv_at hl 3 rfl) ?_
  have hPc := hP.sub (ws' := [(h0, eE h1 h2 kn), (h1, eR hw1 hc1 hb1 a1 r1), (hw1, eW true), (hc1, eA cy f1), (hb1, eA cy g1), (h2, eR hw2 hc2 hb2 a2 r2), (hw2, eW false), (hc2, eA cy f2), (hb2, eA cy g2), (ho, eO nv sv)]) [0, 1, 2, 3, 4, 5, 6, 7, 8, 9] rfl
  have hDc := hD.sub (ws' := [(h0, eE h1 h2 kn), (h1, eR hw1 hc1 hb1 a1 r1), (hw1, eW true), (hc1, eA cy f1), (hb1, eA cy g1), (h2, eR hw2 hc2 hb2 a2 r2), (hw2, eW false), (hc2, eA cy f2), (hb2, eA cy g2), (ho, eO nv sv)]) [0, 1, 2, 3, 4, 5, 6, 7, 8, 9] (by decide +kernel) rfl
  have hKc := hK.sub (tys' := [(cy, .long)]) [0] rfl
  have hFc := va_free (wc := [(h0, eE h1 h2 kn), (h1, eR hw1 hc1 hb1 a1 r1), (hw1, eW true), (hc1, eA cy f1), (hb1, eA cy g1), (h2, eR hw2 hc2 hb2 a2 r2), (hw2, eW false), (hc2, eA cy f2), (hb2, eA cy g2), (ho, eO nv sv)]) hD hS hA [0, 1, 2, 3, 4, 5, 6, 7, 8, 9] rfl
  refine va_calli (vx_runSW (As := [.ref h0, .int p1, .int p2, .int p3, .ref ho]) (rest := []) ⟨hx, hb, hml, hown, hts⟩ (k_L_narrowOrder l hfl dC dI cy h0 h1 hw1 hc1 hb1 h2 hw2 hc2 hb2 a1 r1 f1 g1 a2 r2 f2 g2 kn ho nv sv H.size N p1 p2 p3) (vx_cwSW 5 hts gL_law_L_narrowOrder rfl rfl rfl (by decide +kernel) ⟨Nat.le_of_ble_eq_true rfl, Nat.le_of_ble_eq_true rfl⟩) (xL.preS hKc hPc hDc hAN (Nat.le_trans hN hS.1) (hG.kept hS hAN) hnc) rfl rfl hl.1 rfl (lv_room (Nat.le_of_ble_eq_true rfl)) dL_law_1748 ⟨(show _ ≤ 989448 by omega), (show _ ≤ 6127760 by omega)⟩) hS (fun q _ h => hFc q h) hFc (fun r_1 u t H locs ht hvm hw hB hz hk hS => ?_)
  replace hw : r_1 = (o_L_narrowOrder f2 nv p1 p2 p3).1 := hw
  subst r_1
  obtain ⟨hP1, hD1⟩ := hB
  rw [ht] at hP1
  obtain ⟨hP, hD⟩ := va_join (wr := [(m0, eM m1 m2 th (r1 + r2) kn), (m1, eMR true mc1 a1), (mc1, eA cy f1), (m2, eMR false mc2 a2), (mc2, eA cy f2)]) (w1 := [(h0, eE h1 h2 kn), (h1, eR hw1 hc1 hb1 a1 r1), (hw1, eW true), (hc1, eA cy f1), (hb1, eA cy g1), (h2, eR hw2 hc2 hb2 a2 r2), (hw2, eW false), (hc2, eA cy f2), (hb2, eA cy g2), (ho, eO (o_L_narrowOrder f2 nv p1 p2 p3).2 sv)]) hP hD [0, 1, 2, 3, 4, 5, 6, 7, 8, 9] [10, 11, 12, 13, 14] rfl rfl (by decide +kernel) (by decide +kernel) hk hFc hP1 hD1
  have hP := hP.sub (ws' := [(h0, eE h1 h2 kn), (h1, eR hw1 hc1 hb1 a1 r1), (hw1, eW true), (hc1, eA cy f1), (hb1, eA cy g1), (h2, eR hw2 hc2 hb2 a2 r2), (hw2, eW false), (hc2, eA cy f2), (hb2, eA cy g2), (ho, eO (o_L_narrowOrder f2 nv p1 p2 p3).2 sv), (m0, eM m1 m2 th (r1 + r2) kn), (m1, eMR true mc1 a1), (mc1, eA cy f1), (m2, eMR false mc2 a2), (mc2, eA cy f2)]) [5, 6, 7, 8, 9, 10, 11, 12, 13, 14, 0, 1, 2, 3, 4] rfl
  have hD := hD.sub (ws' := [(h0, eE h1 h2 kn), (h1, eR hw1 hc1 hb1 a1 r1), (hw1, eW true), (hc1, eA cy f1), (hb1, eA cy g1), (h2, eR hw2 hc2 hb2 a2 r2), (hw2, eW false), (hc2, eA cy f2), (hb2, eA cy g2), (ho, eO (o_L_narrowOrder f2 nv p1 p2 p3).2 sv), (m0, eM m1 m2 th (r1 + r2) kn), (m1, eMR true mc1 a1), (mc1, eA cy f1), (m2, eMR false mc2 a2), (mc2, eA cy f2)]) [5, 6, 7, 8, 9, 10, 11, 12, 13, 14, 0, 1, 2, 3, 4] (by decide +kernel) rfl
  refine lv_istore (lv' := [(5, .int ((o_L_narrowOrder f2 nv p1 p2 p3).1)), (0, .ref b), (1, .ref h0), (2, .ref m0), (3, .ref ho), (4, .int (nI i))]) hx hb dL_law_1751 hl (by decide +kernel) rfl (fun ls hl => ?_)
  refine lv_aload_n hx hb dL_law_1753 rfl (lv_at hl 3 rfl) ?_
  refine lv_aload_n hx hb dL_law_1754 rfl (lv_at hl 1 rfl) ?_
  refine lv_iload hx hb dL_law_1755 (lv_at hl 5 rfl) ?_
  refine lv_iconst (v := 1) hx hb dL_law_1757 (by decide +kernel) ?_
  refine lv_iadd hx hb dL_law_1758 ?_
  rw [nI_1 i]
  refine xa_sld hx hb hX hbl hbA hS (k := i + 1) (by omega) hL hp1 dL_law_1759 ?_
  refine lv_aload_n hx hb dL_law_1760 rfl (lv_at hl 1 rfl) ?_
  refine lv_iload hx hb dL_law_1761 (lv_at hl 5 rfl) ?_
  refine lv_iconst (v := 2) hx hb dL_law_1763 (by decide +kernel) ?_
  refine lv_iadd hx hb dL_law_1764 ?_
  rw [nI_p2 i]
  refine xa_sld hx hb hX hbl hbA hS (k := i + 2) (by omega) hL hp2 dL_law_1765 ?_
  refine lv_aload_n hx hb dL_law_1766 rfl (lv_at hl 1 rfl) ?_
  refine lv_iload hx hb dL_law_1767 (lv_at hl 5 rfl) ?_
  refine lv_iconst (v := 3) hx hb dL_law_1769 (by decide +kernel) ?_
  refine lv_iadd hx hb dL_law_1770 ?_
  rw [nI_p3 i]
  refine xa_sld hx hb hX hbl hbA hS (k := i + 3) (by omega) hL hp3 dL_law_1771 ?_
  have hPc := hP.sub (ws' := [(m0, eM m1 m2 th (r1 + r2) kn), (m1, eMR true mc1 a1), (mc1, eA cy f1), (m2, eMR false mc2 a2), (mc2, eA cy f2)]) [10, 11, 12, 13, 14] rfl
  have hDc := hD.sub (ws' := [(m0, eM m1 m2 th (r1 + r2) kn), (m1, eMR true mc1 a1), (mc1, eA cy f1), (m2, eMR false mc2 a2), (mc2, eA cy f2)]) [10, 11, 12, 13, 14] (by decide +kernel) rfl
  have hKc := hK.sub (tys' := [(cy, .long)]) [0] rfl
  have hFc := va_free (wc := [(m0, eM m1 m2 th (r1 + r2) kn), (m1, eMR true mc1 a1), (mc1, eA cy f1), (m2, eMR false mc2 a2), (mc2, eA cy f2)]) hD hS hA [10, 11, 12, 13, 14] rfl
  refine va_calli (va_runV (As := [.int p1, .int p2, .int p3]) (rest := []) ⟨hx, hb, hml, hown, hts⟩ (k_X5_narrowOrder l dC dI cy m0 m1 mc1 m2 mc2 a1 f1 a2 f2 th (r1 + r2) kn H.size N p1 p2 p3) (cwV 3 hts gL_law_X5_narrowOrder rfl rfl rfl (by decide +kernel) ⟨Nat.le_of_ble_eq_true rfl, Nat.le_of_ble_eq_true rfl⟩) (xM.preV hKc hPc hDc hAN (Nat.le_trans hN hS.1) (hG.kept hS hAN) (ci := 7) (q0 := 0) rfl rfl) rfl rfl hl.1 rfl (lv_room (Nat.le_of_ble_eq_true rfl)) dL_law_1772 ⟨(show _ ≤ 989448 by omega), (show _ ≤ 6127760 by omega)⟩) hS (fun q _ h => hFc q h) hFc (fun r_2 u t H locs ht hvm hw hB hz hk hS => ?_)
  replace hw : r_2 = (o_X5_narrowOrder f2 p1 p2 p3).1 := hw
  subst r_2
  obtain ⟨hP1, hD1⟩ := hB
  rw [ht] at hP1
  obtain ⟨hP, hD⟩ := va_join (wr := [(h0, eE h1 h2 kn), (h1, eR hw1 hc1 hb1 a1 r1), (hw1, eW true), (hc1, eA cy f1), (hb1, eA cy g1), (h2, eR hw2 hc2 hb2 a2 r2), (hw2, eW false), (hc2, eA cy f2), (hb2, eA cy g2), (ho, eO (o_L_narrowOrder f2 nv p1 p2 p3).2 sv)]) (w1 := [(m0, eM m1 m2 (o_X5_narrowOrder f2 p1 p2 p3).2 (r1 + r2) kn), (m1, eMR true mc1 a1), (mc1, eA cy f1), (m2, eMR false mc2 a2), (mc2, eA cy f2)]) hP hD [10, 11, 12, 13, 14] [0, 1, 2, 3, 4, 5, 6, 7, 8, 9] rfl rfl (by decide +kernel) (by decide +kernel) hk hFc hP1 hD1
  have hP := hP.sub (ws' := [(h0, eE h1 h2 kn), (h1, eR hw1 hc1 hb1 a1 r1), (hw1, eW true), (hc1, eA cy f1), (hb1, eA cy g1), (h2, eR hw2 hc2 hb2 a2 r2), (hw2, eW false), (hc2, eA cy f2), (hb2, eA cy g2), (ho, eO (o_L_narrowOrder f2 nv p1 p2 p3).2 sv), (m0, eM m1 m2 (o_X5_narrowOrder f2 p1 p2 p3).2 (r1 + r2) kn), (m1, eMR true mc1 a1), (mc1, eA cy f1), (m2, eMR false mc2 a2), (mc2, eA cy f2)]) [0, 1, 2, 3, 4, 5, 6, 7, 8, 9, 10, 11, 12, 13, 14] rfl
  have hD := hD.sub (ws' := [(h0, eE h1 h2 kn), (h1, eR hw1 hc1 hb1 a1 r1), (hw1, eW true), (hc1, eA cy f1), (hb1, eA cy g1), (h2, eR hw2 hc2 hb2 a2 r2), (hw2, eW false), (hc2, eA cy f2), (hb2, eA cy g2), (ho, eO (o_L_narrowOrder f2 nv p1 p2 p3).2 sv), (m0, eM m1 m2 (o_X5_narrowOrder f2 p1 p2 p3).2 (r1 + r2) kn), (m1, eMR true mc1 a1), (mc1, eA cy f1), (m2, eMR false mc2 a2), (mc2, eA cy f2)]) [0, 1, 2, 3, 4, 5, 6, 7, 8, 9, 10, 11, 12, 13, 14] (by decide +kernel) rfl
  refine lv_istore (lv' := [(6, .int ((o_X5_narrowOrder f2 p1 p2 p3).1)), (5, .int ((o_L_narrowOrder f2 nv p1 p2 p3).1)), (0, .ref b), (1, .ref h0), (2, .ref m0), (3, .ref ho), (4, .int (nI i))]) hx hb dL_law_1775 hl (by decide +kernel) rfl (fun ls hl => ?_)
  refine lv_goto (tgt := 2240) hx hb dL_law_1777 (by decide +kernel) ?_
  refine W.widen (k := cells + 760) (n := slots + 4500) (by omega) (by omega) ?_
  exact K a1 r1 f1 g1 a2 r2 f2 g2 kn ((o_L_narrowOrder f2 nv p1 p2 p3).2) sv ((o_X5_narrowOrder f2 p1 p2 p3).2) a1 f1 a2 f2 (r1 + r2) kn _ _ _ rfl rfl rfl rfl rfl rfl hka1 hka2 hP hD hS (lv_sub hl [2, 3, 4, 5, 6] rfl)
set_option maxHeartbeats 4000000 in
set_option maxRecDepth 100000 in
theorem st_36 (l : Launch) (p : Program) (e : Env) (s : State) (m : MethodId) (below : List Frame) (meth : Method) (c : Code) (b L N : Nat) (xs : Nat → Int32) (A : Nat → Prop) (dC : Nat → ClassId) (dI : Nat → Nat → Nat) (cy cB : ClassId) (h0 h1 hw1 hc1 hb1 h2 hw2 hc2 hb2 ho m0 m1 mc1 m2 mc2 : Nat) (C0 : lw_C l p e s m below meth c b L N xs A dC dI cy cB) (i : Nat) (hi : i + 4 ≤ L) (p1 p2 p3 : Int32) (hp1 : xs (i + 1) = p1) (hp2 : xs (i + 2) = p2) (hp3 : xs (i + 3) = p3) (cells slots : Nat) (hcs : cells + 760 ≤ 989448) (hss : slots + 4500 ≤ 6127760) (K : lw_K l p e s m below meth c b L N xs A dC dI cy cB h0 h1 hw1 hc1 hb1 h2 hw2 hc2 hb2 ho m0 m1 mc1 m2 mc2 i (cells + 760) (slots + 4500) 2240) (a1 : Int32) (r1 : Int32) (f1 : Nat → Int64) (g1 : Nat → Int64) (a2 : Int32) (r2 : Int32) (f2 : Nat → Int64) (g2 : Nat → Int64) (kn : Int32) (nv : Int64) (sv : Value) (th : Int32) (H : Heap) (locs : List Loc) (ls : Array Slot) (hka1 : okA true f1) (hka2 : okA false f2) (hP : va_P (dC, dI) xCl [(h0, eE h1 h2 kn), (h1, eR hw1 hc1 hb1 a1 r1), (hw1, eW true), (hc1, eA cy f1), (hb1, eA cy g1), (h2, eR hw2 hc2 hb2 a2 r2), (hw2, eW false), (hc2, eA cy f2), (hb2, eA cy g2), (ho, eO nv sv), (m0, eM m1 m2 th (r1 + r2) kn), (m1, eMR true mc1 a1), (mc1, eA cy f1), (m2, eMR false mc2 a2), (mc2, eA cy f2)] H) (hD : va_D A [(h0, eE h1 h2 kn), (h1, eR hw1 hc1 hb1 a1 r1), (hw1, eW true), (hc1, eA cy f1), (hb1, eA cy g1), (h2, eR hw2 hc2 hb2 a2 r2), (hw2, eW false), (hc2, eA cy f2), (hb2, eA cy g2), (ho, eO nv sv), (m0, eM m1 m2 th (r1 + r2) kn), (m1, eMR true mc1 a1), (mc1, eA cy f1), (m2, eMR false mc2 a2), (mc2, eA cy f2)]) (hS : va_S A s.heap H locs) (hl : lv_has ls 7 [(0, .ref b), (1, .ref h0), (2, .ref m0), (3, .ref ho), (4, .int (nI i))]) : W p l e room_1 s m #[Value.ref b] below meth c H locs cells slots (lw_Z below #[Value.ref b] s) (F0 m 1780 ls []) := by
  obtain ⟨hfl, hx, hb, hr, hml, hown, hts, hX, hbl, hbA, hlocks, hK, hG, hnc, hA, hAN, hN, hL, hT, hNs⟩ := id C0
  have hok2 := me_okF hka2
  have hsp1 : ∀ k, k < 8 → o_X1_isSpoiled true (f1 k) = false := fun k hk => (hka1 k hk).2
  have hsp2 : ∀ k, k < 8 → o_X1_isSpoiled false (f2 k) = false := fun k hk => (hka2 k hk).2
  refine lv_aload_n hx hb dL_law_1780 rfl (lv_at hl 1 rfl) ?_
  refine lv_aload_n hx hb dL_law_1781 rfl (lv_at hl 0 rfl) ?_
  refine lv_iload hx hb dL_law_1782 (lv_at hl 4 rfl) ?_
  refine lv_iconst (v := 1) hx hb dL_law_1784 (by decide +kernel) ?_
  refine lv_iadd hx hb dL_law_1785 ?_
  rw [nI_1 i]
  refine xa_sld hx hb hX hbl hbA hS (k := i + 1) (by omega) hL hp1 dL_law_1786 ?_
  refine lv_aload_n hx hb dL_law_1787 rfl (lv_at hl 0 rfl) ?_
  refine lv_iload hx hb dL_law_1788 (lv_at hl 4 rfl) ?_
  refine lv_iconst (v := 2) hx hb dL_law_1790 (by decide +kernel) ?_
  refine lv_iadd hx hb dL_law_1791 ?_
  rw [nI_p2 i]
  refine xa_sld hx hb hX hbl hbA hS (k := i + 2) (by omega) hL hp2 dL_law_1792 ?_
  refine lv_aload_n hx hb dL_law_1793 rfl (lv_at hl 0 rfl) ?_
  refine lv_iload hx hb dL_law_1794 (lv_at hl 4 rfl) ?_
  refine lv_iconst (v := 3) hx hb dL_law_1796 (by decide +kernel) ?_
  refine lv_iadd hx hb dL_law_1797 ?_
  rw [nI_p3 i]
  refine xa_sld hx hb hX hbl hbA hS (k := i + 3) (by omega) hL hp3 dL_law_1798 ?_
  refine lv_aload_n hx hb dL_law_1799 rfl (lv_at hl 3 rfl) ?_
  have hPc := hP.sub (ws' := [(h0, eE h1 h2 kn), (h1, eR hw1 hc1 hb1 a1 r1), (hw1, eW true), (hc1, eA cy f1), (hb1, eA cy g1), (h2, eR hw2 hc2 hb2 a2 r2), (hw2, eW false), (hc2, eA cy f2), (hb2, eA cy g2), (ho, eO nv sv)]) [0, 1, 2, 3, 4, 5, 6, 7, 8, 9] rfl
  have hDc := hD.sub (ws' := [(h0, eE h1 h2 kn), (h1, eR hw1 hc1 hb1 a1 r1), (hw1, eW true), (hc1, eA cy f1), (hb1, eA cy g1), (h2, eR hw2 hc2 hb2 a2 r2), (hw2, eW false), (hc2, eA cy f2), (hb2, eA cy g2), (ho, eO nv sv)]) [0, 1, 2, 3, 4, 5, 6, 7, 8, 9] (by decide +kernel) rfl
  have hKc := hK.sub (tys' := [(cy, .long)]) [0] rfl
  have hFc := va_free (wc := [(h0, eE h1 h2 kn), (h1, eR hw1 hc1 hb1 a1 r1), (hw1, eW true), (hc1, eA cy f1), (hb1, eA cy g1), (h2, eR hw2 hc2 hb2 a2 r2), (hw2, eW false), (hc2, eA cy f2), (hb2, eA cy g2), (ho, eO nv sv)]) hD hS hA [0, 1, 2, 3, 4, 5, 6, 7, 8, 9] rfl
  refine va_calli (vx_runSW (As := [.ref h0, .int p1, .int p2, .int p3, .ref ho]) (rest := []) ⟨hx, hb, hml, hown, hts⟩ (k_L_narrowSame l hfl dC dI cy h0 h1 hw1 hc1 hb1 h2 hw2 hc2 hb2 a1 r1 f1 g1 a2 r2 f2 g2 kn ho nv sv H.size N p1 p2 p3) (vx_cwSW 5 hts gL_law_L_narrowSame rfl rfl rfl (by decide +kernel) ⟨Nat.le_of_ble_eq_true rfl, Nat.le_of_ble_eq_true rfl⟩) (xL.preS hKc hPc hDc hAN (Nat.le_trans hN hS.1) (hG.kept hS hAN) hnc) rfl rfl hl.1 rfl (lv_room (Nat.le_of_ble_eq_true rfl)) dL_law_1800 ⟨(show _ ≤ 989448 by omega), (show _ ≤ 6127760 by omega)⟩) hS (fun q _ h => hFc q h) hFc (fun r_1 u t H locs ht hvm hw hB hz hk hS => ?_)
  replace hw : r_1 = (o_L_narrowSame f2 nv p1 p2 p3).1 := hw
  subst r_1
  obtain ⟨hP1, hD1⟩ := hB
  rw [ht] at hP1
  obtain ⟨hP, hD⟩ := va_join (wr := [(m0, eM m1 m2 th (r1 + r2) kn), (m1, eMR true mc1 a1), (mc1, eA cy f1), (m2, eMR false mc2 a2), (mc2, eA cy f2)]) (w1 := [(h0, eE h1 h2 kn), (h1, eR hw1 hc1 hb1 a1 r1), (hw1, eW true), (hc1, eA cy f1), (hb1, eA cy g1), (h2, eR hw2 hc2 hb2 a2 r2), (hw2, eW false), (hc2, eA cy f2), (hb2, eA cy g2), (ho, eO (o_L_narrowSame f2 nv p1 p2 p3).2 sv)]) hP hD [0, 1, 2, 3, 4, 5, 6, 7, 8, 9] [10, 11, 12, 13, 14] rfl rfl (by decide +kernel) (by decide +kernel) hk hFc hP1 hD1
  have hP := hP.sub (ws' := [(h0, eE h1 h2 kn), (h1, eR hw1 hc1 hb1 a1 r1), (hw1, eW true), (hc1, eA cy f1), (hb1, eA cy g1), (h2, eR hw2 hc2 hb2 a2 r2), (hw2, eW false), (hc2, eA cy f2), (hb2, eA cy g2), (ho, eO (o_L_narrowSame f2 nv p1 p2 p3).2 sv), (m0, eM m1 m2 th (r1 + r2) kn), (m1, eMR true mc1 a1), (mc1, eA cy f1), (m2, eMR false mc2 a2), (mc2, eA cy f2)]) [5, 6, 7, 8, 9, 10, 11, 12, 13, 14, 0, 1, 2, 3, 4] rfl
  have hD := hD.sub (ws' := [(h0, eE h1 h2 kn), (h1, eR hw1 hc1 hb1 a1 r1), (hw1, eW true), (hc1, eA cy f1), (hb1, eA cy g1), (h2, eR hw2 hc2 hb2 a2 r2), (hw2, eW false), (hc2, eA cy f2), (hb2, eA cy g2), (ho, eO (o_L_narrowSame f2 nv p1 p2 p3).2 sv), (m0, eM m1 m2 th (r1 + r2) kn), (m1, eMR true mc1 a1), (mc1, eA cy f1), (m2, eMR false mc2 a2), (mc2, eA cy f2)]) [5, 6, 7, 8, 9, 10, 11, 12, 13, 14, 0, 1, 2, 3, 4] (by decide +kernel) rfl
  refine lv_istore (lv' := [(5, .int ((o_L_narrowSame f2 nv p1 p2 p3).1)), (0, .ref b), (1, .ref h0), (2, .ref m0), (3, .ref ho), (4, .int (nI i))]) hx hb dL_law_1803 hl (by decide +kernel) rfl (fun ls hl => ?_)
  refine lv_aload_n hx hb dL_law_1805 rfl (lv_at hl 3 rfl) ?_
  refine lv_aload_n hx hb dL_law_1806 rfl (lv_at hl 1 rfl) ?_
  refine lv_iload hx hb dL_law_1807 (lv_at hl 5 rfl) ?_
  refine lv_iconst (v := 1) hx hb dL_law_1809 (by decide +kernel) ?_
  refine lv_iadd hx hb dL_law_1810 ?_
  rw [nI_1 i]
  refine xa_sld hx hb hX hbl hbA hS (k := i + 1) (by omega) hL hp1 dL_law_1811 ?_
  refine lv_aload_n hx hb dL_law_1812 rfl (lv_at hl 1 rfl) ?_
  refine lv_iload hx hb dL_law_1813 (lv_at hl 5 rfl) ?_
  refine lv_iconst (v := 2) hx hb dL_law_1815 (by decide +kernel) ?_
  refine lv_iadd hx hb dL_law_1816 ?_
  rw [nI_p2 i]
  refine xa_sld hx hb hX hbl hbA hS (k := i + 2) (by omega) hL hp2 dL_law_1817 ?_
  refine lv_aload_n hx hb dL_law_1818 rfl (lv_at hl 1 rfl) ?_
  refine lv_iload hx hb dL_law_1819 (lv_at hl 5 rfl) ?_
  refine lv_iconst (v := 3) hx hb dL_law_1821 (by decide +kernel) ?_
  refine lv_iadd hx hb dL_law_1822 ?_
  rw [nI_p3 i]
  refine xa_sld hx hb hX hbl hbA hS (k := i + 3) (by omega) hL hp3 dL_law_1823 ?_
  have hPc := hP.sub (ws' := [(m0, eM m1 m2 th (r1 + r2) kn), (m1, eMR true mc1 a1), (mc1, eA cy f1), (m2, eMR false mc2 a2), (mc2, eA cy f2)]) [10, 11, 12, 13, 14] rfl
  have hDc := hD.sub (ws' := [(m0, eM m1 m2 th (r1 + r2) kn), (m1, eMR true mc1 a1), (mc1, eA cy f1), (m2, eMR false mc2 a2), (mc2, eA cy f2)]) [10, 11, 12, 13, 14] (by decide +kernel) rfl
  have hKc := hK.sub (tys' := [(cy, .long)]) [0] rfl
  have hFc := va_free (wc := [(m0, eM m1 m2 th (r1 + r2) kn), (m1, eMR true mc1 a1), (mc1, eA cy f1), (m2, eMR false mc2 a2), (mc2, eA cy f2)]) hD hS hA [10, 11, 12, 13, 14] rfl
  refine va_calli (va_runV (As := [.int p1, .int p2, .int p3]) (rest := []) ⟨hx, hb, hml, hown, hts⟩ (k_X5_narrowSame l dC dI cy m0 m1 mc1 m2 mc2 a1 f1 a2 f2 th (r1 + r2) kn H.size N p1 p2 p3) (cwV 3 hts gL_law_X5_narrowSame rfl rfl rfl (by decide +kernel) ⟨Nat.le_of_ble_eq_true rfl, Nat.le_of_ble_eq_true rfl⟩) (xM.preV hKc hPc hDc hAN (Nat.le_trans hN hS.1) (hG.kept hS hAN) (ci := 7) (q0 := 0) rfl rfl) rfl rfl hl.1 rfl (lv_room (Nat.le_of_ble_eq_true rfl)) dL_law_1824 ⟨(show _ ≤ 989448 by omega), (show _ ≤ 6127760 by omega)⟩) hS (fun q _ h => hFc q h) hFc (fun r_2 u t H locs ht hvm hw hB hz hk hS => ?_)
  replace hw : r_2 = b2i ((o_X5_narrowSame f2 p1 p2 p3).1) := hw
  subst r_2
  obtain ⟨hP1, hD1⟩ := hB
  rw [ht] at hP1
  obtain ⟨hP, hD⟩ := va_join (wr := [(h0, eE h1 h2 kn), (h1, eR hw1 hc1 hb1 a1 r1), (hw1, eW true), (hc1, eA cy f1), (hb1, eA cy g1), (h2, eR hw2 hc2 hb2 a2 r2), (hw2, eW false), (hc2, eA cy f2), (hb2, eA cy g2), (ho, eO (o_L_narrowSame f2 nv p1 p2 p3).2 sv)]) (w1 := [(m0, eM m1 m2 (o_X5_narrowSame f2 p1 p2 p3).2 (r1 + r2) kn), (m1, eMR true mc1 a1), (mc1, eA cy f1), (m2, eMR false mc2 a2), (mc2, eA cy f2)]) hP hD [10, 11, 12, 13, 14] [0, 1, 2, 3, 4, 5, 6, 7, 8, 9] rfl rfl (by decide +kernel) (by decide +kernel) hk hFc hP1 hD1
  have hP := hP.sub (ws' := [(h0, eE h1 h2 kn), (h1, eR hw1 hc1 hb1 a1 r1), (hw1, eW true), (hc1, eA cy f1), (hb1, eA cy g1), (h2, eR hw2 hc2 hb2 a2 r2), (hw2, eW false), (hc2, eA cy f2), (hb2, eA cy g2), (ho, eO (o_L_narrowSame f2 nv p1 p2 p3).2 sv), (m0, eM m1 m2 (o_X5_narrowSame f2 p1 p2 p3).2 (r1 + r2) kn), (m1, eMR true mc1 a1), (mc1, eA cy f1), (m2, eMR false mc2 a2), (mc2, eA cy f2)]) [0, 1, 2, 3, 4, 5, 6, 7, 8, 9, 10, 11, 12, 13, 14] rfl
  have hD := hD.sub (ws' := [(h0, eE h1 h2 kn), (h1, eR hw1 hc1 hb1 a1 r1), (hw1, eW true), (hc1, eA cy f1), (hb1, eA cy g1), (h2, eR hw2 hc2 hb2 a2 r2), (hw2, eW false), (hc2, eA cy f2), (hb2, eA cy g2), (ho, eO (o_L_narrowSame f2 nv p1 p2 p3).2 sv), (m0, eM m1 m2 (o_X5_narrowSame f2 p1 p2 p3).2 (r1 + r2) kn), (m1, eMR true mc1 a1), (mc1, eA cy f1), (m2, eMR false mc2 a2), (mc2, eA cy f2)]) [0, 1, 2, 3, 4, 5, 6, 7, 8, 9, 10, 11, 12, 13, 14] (by decide +kernel) rfl
  refine lv_istore (lv' := [(6, .int (b2i ((o_X5_narrowSame f2 p1 p2 p3).1))), (5, .int ((o_L_narrowSame f2 nv p1 p2 p3).1)), (0, .ref b), (1, .ref h0), (2, .ref m0), (3, .ref ho), (4, .int (nI i))]) hx hb dL_law_1827 hl (by decide +kernel) rfl (fun ls hl => ?_)
  refine lv_goto (tgt := 2240) hx hb dL_law_1829 (by decide +kernel) ?_
  refine W.widen (k := cells + 760) (n := slots + 4500) (by omega) (by omega) ?_
  exact K a1 r1 f1 g1 a2 r2 f2 g2 kn ((o_L_narrowSame f2 nv p1 p2 p3).2) sv ((o_X5_narrowSame f2 p1 p2 p3).2) a1 f1 a2 f2 (r1 + r2) kn _ _ _ rfl rfl rfl rfl rfl rfl hka1 hka2 hP hD hS (lv_sub hl [2, 3, 4, 5, 6] rfl)
set_option maxHeartbeats 4000000 in
set_option maxRecDepth 100000 in
theorem st_37 (l : Launch) (p : Program) (e : Env) (s : State) (m : MethodId) (below : List Frame) (meth : Method) (c : Code) (b L N : Nat) (xs : Nat → Int32) (A : Nat → Prop) (dC : Nat → ClassId) (dI : Nat → Nat → Nat) (cy cB : ClassId) (h0 h1 hw1 hc1 hb1 h2 hw2 hc2 hb2 ho m0 m1 mc1 m2 mc2 : Nat) (C0 : lw_C l p e s m below meth c b L N xs A dC dI cy cB) (i : Nat) (hi : i + 4 ≤ L) (p1 p2 p3 : Int32) (hp1 : xs (i + 1) = p1) (hp2 : xs (i + 2) = p2) (hp3 : xs (i + 3) = p3) (cells slots : Nat) (hcs : cells + 760 ≤ 989448) (hss : slots + 4500 ≤ 6127760) (K : lw_K l p e s m below meth c b L N xs A dC dI cy cB h0 h1 hw1 hc1 hb1 h2 hw2 hc2 hb2 ho m0 m1 mc1 m2 mc2 i (cells + 760) (slots + 4500) 2240) (a1 : Int32) (r1 : Int32) (f1 : Nat → Int64) (g1 : Nat → Int64) (a2 : Int32) (r2 : Int32) (f2 : Nat → Int64) (g2 : Nat → Int64) (kn : Int32) (nv : Int64) (sv : Value) (th : Int32) (H : Heap) (locs : List Loc) (ls : Array Slot) (hka1 : okA true f1) (hka2 : okA false f2) (hP : va_P (dC, dI) xCl [(h0, eE h1 h2 kn), (h1, eR hw1 hc1 hb1 a1 r1), (hw1, eW true), (hc1, eA cy f1), (hb1, eA cy g1), (h2, eR hw2 hc2 hb2 a2 r2), (hw2, eW false), (hc2, eA cy f2), (hb2, eA cy g2), (ho, eO nv sv), (m0, eM m1 m2 th (r1 + r2) kn), (m1, eMR true mc1 a1), (mc1, eA cy f1), (m2, eMR false mc2 a2), (mc2, eA cy f2)] H) (hD : va_D A [(h0, eE h1 h2 kn), (h1, eR hw1 hc1 hb1 a1 r1), (hw1, eW true), (hc1, eA cy f1), (hb1, eA cy g1), (h2, eR hw2 hc2 hb2 a2 r2), (hw2, eW false), (hc2, eA cy f2), (hb2, eA cy g2), (ho, eO nv sv), (m0, eM m1 m2 th (r1 + r2) kn), (m1, eMR true mc1 a1), (mc1, eA cy f1), (m2, eMR false mc2 a2), (mc2, eA cy f2)]) (hS : va_S A s.heap H locs) (hl : lv_has ls 7 [(0, .ref b), (1, .ref h0), (2, .ref m0), (3, .ref ho), (4, .int (nI i))]) : W p l e room_1 s m #[Value.ref b] below meth c H locs cells slots (lw_Z below #[Value.ref b] s) (F0 m 1832 ls []) := by
  obtain ⟨hfl, hx, hb, hr, hml, hown, hts, hX, hbl, hbA, hlocks, hK, hG, hnc, hA, hAN, hN, hL, hT, hNs⟩ := id C0
  have hok2 := me_okF hka2
  have hsp1 : ∀ k, k < 8 → o_X1_isSpoiled true (f1 k) = false := fun k hk => (hka1 k hk).2
  have hsp2 : ∀ k, k < 8 → o_X1_isSpoiled false (f2 k) = false := fun k hk => (hka2 k hk).2
  refine lv_aload_n hx hb dL_law_1832 rfl (lv_at hl 1 rfl) ?_
  refine lv_aload_n hx hb dL_law_1833 rfl (lv_at hl 0 rfl) ?_
  refine lv_iload hx hb dL_law_1834 (lv_at hl 4 rfl) ?_
  refine lv_iconst (v := 1) hx hb dL_law_1836 (by decide +kernel) ?_
  refine lv_iadd hx hb dL_law_1837 ?_
  rw [nI_1 i]
  refine xa_sld hx hb hX hbl hbA hS (k := i + 1) (by omega) hL hp1 dL_law_1838 ?_
  refine lv_aload_n hx hb dL_law_1839 rfl (lv_at hl 0 rfl) ?_
  refine lv_iload hx hb dL_law_1840 (lv_at hl 4 rfl) ?_
  refine lv_iconst (v := 2) hx hb dL_law_1842 (by decide +kernel) ?_
  refine lv_iadd hx hb dL_law_1843 ?_
  rw [nI_p2 i]
  refine xa_sld hx hb hX hbl hbA hS (k := i + 2) (by omega) hL hp2 dL_law_1844 ?_
  refine lv_aload_n hx hb dL_law_1845 rfl (lv_at hl 3 rfl) ?_
  have hPc := hP.sub (ws' := [(h0, eE h1 h2 kn), (h1, eR hw1 hc1 hb1 a1 r1), (hw1, eW true), (hc1, eA cy f1), (hb1, eA cy g1), (h2, eR hw2 hc2 hb2 a2 r2), (hw2, eW false), (hc2, eA cy f2), (hb2, eA cy g2), (ho, eO nv sv)]) [0, 1, 2, 3, 4, 5, 6, 7, 8, 9] rfl
  have hDc := hD.sub (ws' := [(h0, eE h1 h2 kn), (h1, eR hw1 hc1 hb1 a1 r1), (hw1, eW true), (hc1, eA cy f1), (hb1, eA cy g1), (h2, eR hw2 hc2 hb2 a2 r2), (hw2, eW false), (hc2, eA cy f2), (hb2, eA cy g2), (ho, eO nv sv)]) [0, 1, 2, 3, 4, 5, 6, 7, 8, 9] (by decide +kernel) rfl
  have hKc := hK.sub (tys' := [(cy, .long)]) [0] rfl
  have hFc := va_free (wc := [(h0, eE h1 h2 kn), (h1, eR hw1 hc1 hb1 a1 r1), (hw1, eW true), (hc1, eA cy f1), (hb1, eA cy g1), (h2, eR hw2 hc2 hb2 a2 r2), (hw2, eW false), (hc2, eA cy f2), (hb2, eA cy g2), (ho, eO nv sv)]) hD hS hA [0, 1, 2, 3, 4, 5, 6, 7, 8, 9] rfl
  refine va_calli (vx_runSW (As := [.ref h0, .int p1, .int p2, .ref ho]) (rest := []) ⟨hx, hb, hml, hown, hts⟩ (k_L_narrowOther l hfl dC dI cy h0 h1 hw1 hc1 hb1 h2 hw2 hc2 hb2 a1 r1 f1 g1 a2 r2 f2 g2 kn ho nv sv H.size N p1 p2) (vx_cwSW 4 hts gL_law_L_narrowOther rfl rfl rfl (by decide +kernel) ⟨Nat.le_of_ble_eq_true rfl, Nat.le_of_ble_eq_true rfl⟩) (xL.preS hKc hPc hDc hAN (Nat.le_trans hN hS.1) (hG.kept hS hAN) hnc) rfl rfl hl.1 rfl (lv_room (Nat.le_of_ble_eq_true rfl)) dL_law_1846 ⟨(show _ ≤ 989448 by omega), (show _ ≤ 6127760 by omega)⟩) hS (fun q _ h => hFc q h) hFc (fun r_1 u t H locs ht hvm hw hB hz hk hS => ?_)
  replace hw : r_1 = (o_L_narrowOther nv p1 p2).1 := hw
  subst r_1
  obtain ⟨hP1, hD1⟩ := hB
  rw [ht] at hP1
  obtain ⟨hP, hD⟩ := va_join (wr := [(m0, eM m1 m2 th (r1 + r2) kn), (m1, eMR true mc1 a1), (mc1, eA cy f1), (m2, eMR false mc2 a2), (mc2, eA cy f2)]) (w1 := [(h0, eE h1 h2 kn), (h1, eR hw1 hc1 hb1 a1 r1), (hw1, eW true), (hc1, eA cy f1), (hb1, eA cy g1), (h2, eR hw2 hc2 hb2 a2 r2), (hw2, eW false), (hc2, eA cy f2), (hb2, eA cy g2), (ho, eO (o_L_narrowOther nv p1 p2).2 sv)]) hP hD [0, 1, 2, 3, 4, 5, 6, 7, 8, 9] [10, 11, 12, 13, 14] rfl rfl (by decide +kernel) (by decide +kernel) hk hFc hP1 hD1
  have hP := hP.sub (ws' := [(h0, eE h1 h2 kn), (h1, eR hw1 hc1 hb1 a1 r1), (hw1, eW true), (hc1, eA cy f1), (hb1, eA cy g1), (h2, eR hw2 hc2 hb2 a2 r2), (hw2, eW false), (hc2, eA cy f2), (hb2, eA cy g2), (ho, eO (o_L_narrowOther nv p1 p2).2 sv), (m0, eM m1 m2 th (r1 + r2) kn), (m1, eMR true mc1 a1), (mc1, eA cy f1), (m2, eMR false mc2 a2), (mc2, eA cy f2)]) [5, 6, 7, 8, 9, 10, 11, 12, 13, 14, 0, 1, 2, 3, 4] rfl
  have hD := hD.sub (ws' := [(h0, eE h1 h2 kn), (h1, eR hw1 hc1 hb1 a1 r1), (hw1, eW true), (hc1, eA cy f1), (hb1, eA cy g1), (h2, eR hw2 hc2 hb2 a2 r2), (hw2, eW false), (hc2, eA cy f2), (hb2, eA cy g2), (ho, eO (o_L_narrowOther nv p1 p2).2 sv), (m0, eM m1 m2 th (r1 + r2) kn), (m1, eMR true mc1 a1), (mc1, eA cy f1), (m2, eMR false mc2 a2), (mc2, eA cy f2)]) [5, 6, 7, 8, 9, 10, 11, 12, 13, 14, 0, 1, 2, 3, 4] (by decide +kernel) rfl
  refine lv_istore (lv' := [(5, .int ((o_L_narrowOther nv p1 p2).1)), (0, .ref b), (1, .ref h0), (2, .ref m0), (3, .ref ho), (4, .int (nI i))]) hx hb dL_law_1849 hl (by decide +kernel) rfl (fun ls hl => ?_)
  refine lv_aload_n hx hb dL_law_1851 rfl (lv_at hl 3 rfl) ?_
  refine lv_aload_n hx hb dL_law_1852 rfl (lv_at hl 1 rfl) ?_
  refine lv_iload hx hb dL_law_1853 (lv_at hl 5 rfl) ?_
  refine lv_iconst (v := 1) hx hb dL_law_1855 (by decide +kernel) ?_
  refine lv_iadd hx hb dL_law_1856 ?_
  rw [nI_1 i]
  refine xa_sld hx hb hX hbl hbA hS (k := i + 1) (by omega) hL hp1 dL_law_1857 ?_
  refine lv_aload_n hx hb dL_law_1858 rfl (lv_at hl 1 rfl) ?_
  refine lv_iload hx hb dL_law_1859 (lv_at hl 5 rfl) ?_
  refine lv_iconst (v := 2) hx hb dL_law_1861 (by decide +kernel) ?_
  refine lv_iadd hx hb dL_law_1862 ?_
  rw [nI_p2 i]
  refine xa_sld hx hb hX hbl hbA hS (k := i + 2) (by omega) hL hp2 dL_law_1863 ?_
  have hPc := hP.sub (ws' := [(m0, eM m1 m2 th (r1 + r2) kn), (m1, eMR true mc1 a1), (mc1, eA cy f1), (m2, eMR false mc2 a2), (mc2, eA cy f2)]) [10, 11, 12, 13, 14] rfl
  have hDc := hD.sub (ws' := [(m0, eM m1 m2 th (r1 + r2) kn), (m1, eMR true mc1 a1), (mc1, eA cy f1), (m2, eMR false mc2 a2), (mc2, eA cy f2)]) [10, 11, 12, 13, 14] (by decide +kernel) rfl
  have hKc := hK.sub (tys' := [(cy, .long)]) [0] rfl
  have hFc := va_free (wc := [(m0, eM m1 m2 th (r1 + r2) kn), (m1, eMR true mc1 a1), (mc1, eA cy f1), (m2, eMR false mc2 a2), (mc2, eA cy f2)]) hD hS hA [10, 11, 12, 13, 14] rfl
  refine va_calli (va_runV (As := [.int p1, .int p2]) (rest := []) ⟨hx, hb, hml, hown, hts⟩ (k_X5_narrowOther l dC dI cy m0 m1 mc1 m2 mc2 a1 f1 a2 f2 th (r1 + r2) kn H.size N p1 p2) (cwV 2 hts gL_law_X5_narrowOther rfl rfl rfl (by decide +kernel) ⟨Nat.le_of_ble_eq_true rfl, Nat.le_of_ble_eq_true rfl⟩) (xM.preV hKc hPc hDc hAN (Nat.le_trans hN hS.1) (hG.kept hS hAN) (ci := 7) (q0 := 0) rfl rfl) rfl rfl hl.1 rfl (lv_room (Nat.le_of_ble_eq_true rfl)) dL_law_1864 ⟨(show _ ≤ 989448 by omega), (show _ ≤ 6127760 by omega)⟩) hS (fun q _ h => hFc q h) hFc (fun r_2 u t H locs ht hvm hw hB hz hk hS => ?_)
  replace hw : r_2 = b2i ((o_X5_narrowOther p1 p2).1) := hw
  subst r_2
  obtain ⟨hP1, hD1⟩ := hB
  rw [ht] at hP1
  obtain ⟨hP, hD⟩ := va_join (wr := [(h0, eE h1 h2 kn), (h1, eR hw1 hc1 hb1 a1 r1), (hw1, eW true), (hc1, eA cy f1), (hb1, eA cy g1), (h2, eR hw2 hc2 hb2 a2 r2), (hw2, eW false), (hc2, eA cy f2), (hb2, eA cy g2), (ho, eO (o_L_narrowOther nv p1 p2).2 sv)]) (w1 := [(m0, eM m1 m2 (o_X5_narrowOther p1 p2).2 (r1 + r2) kn), (m1, eMR true mc1 a1), (mc1, eA cy f1), (m2, eMR false mc2 a2), (mc2, eA cy f2)]) hP hD [10, 11, 12, 13, 14] [0, 1, 2, 3, 4, 5, 6, 7, 8, 9] rfl rfl (by decide +kernel) (by decide +kernel) hk hFc hP1 hD1
  have hP := hP.sub (ws' := [(h0, eE h1 h2 kn), (h1, eR hw1 hc1 hb1 a1 r1), (hw1, eW true), (hc1, eA cy f1), (hb1, eA cy g1), (h2, eR hw2 hc2 hb2 a2 r2), (hw2, eW false), (hc2, eA cy f2), (hb2, eA cy g2), (ho, eO (o_L_narrowOther nv p1 p2).2 sv), (m0, eM m1 m2 (o_X5_narrowOther p1 p2).2 (r1 + r2) kn), (m1, eMR true mc1 a1), (mc1, eA cy f1), (m2, eMR false mc2 a2), (mc2, eA cy f2)]) [0, 1, 2, 3, 4, 5, 6, 7, 8, 9, 10, 11, 12, 13, 14] rfl
  have hD := hD.sub (ws' := [(h0, eE h1 h2 kn), (h1, eR hw1 hc1 hb1 a1 r1), (hw1, eW true), (hc1, eA cy f1), (hb1, eA cy g1), (h2, eR hw2 hc2 hb2 a2 r2), (hw2, eW false), (hc2, eA cy f2), (hb2, eA cy g2), (ho, eO (o_L_narrowOther nv p1 p2).2 sv), (m0, eM m1 m2 (o_X5_narrowOther p1 p2).2 (r1 + r2) kn), (m1, eMR true mc1 a1), (mc1, eA cy f1), (m2, eMR false mc2 a2), (mc2, eA cy f2)]) [0, 1, 2, 3, 4, 5, 6, 7, 8, 9, 10, 11, 12, 13, 14] (by decide +kernel) rfl
  refine lv_istore (lv' := [(6, .int (b2i ((o_X5_narrowOther p1 p2).1))), (5, .int ((o_L_narrowOther nv p1 p2).1)), (0, .ref b), (1, .ref h0), (2, .ref m0), (3, .ref ho), (4, .int (nI i))]) hx hb dL_law_1867 hl (by decide +kernel) rfl (fun ls hl => ?_)
  refine lv_goto (tgt := 2240) hx hb dL_law_1869 (by decide +kernel) ?_
  refine W.widen (k := cells + 760) (n := slots + 4500) (by omega) (by omega) ?_
  exact K a1 r1 f1 g1 a2 r2 f2 g2 kn ((o_L_narrowOther nv p1 p2).2) sv ((o_X5_narrowOther p1 p2).2) a1 f1 a2 f2 (r1 + r2) kn _ _ _ rfl rfl rfl rfl rfl rfl hka1 hka2 hP hD hS (lv_sub hl [2, 3, 4, 5, 6] rfl)
set_option maxHeartbeats 4000000 in
set_option maxRecDepth 100000 in
theorem st_38 (l : Launch) (p : Program) (e : Env) (s : State) (m : MethodId) (below : List Frame) (meth : Method) (c : Code) (b L N : Nat) (xs : Nat → Int32) (A : Nat → Prop) (dC : Nat → ClassId) (dI : Nat → Nat → Nat) (cy cB : ClassId) (h0 h1 hw1 hc1 hb1 h2 hw2 hc2 hb2 ho m0 m1 mc1 m2 mc2 : Nat) (C0 : lw_C l p e s m below meth c b L N xs A dC dI cy cB) (i : Nat) (hi : i + 4 ≤ L) (p1 p2 p3 : Int32) (hp1 : xs (i + 1) = p1) (hp2 : xs (i + 2) = p2) (hp3 : xs (i + 3) = p3) (cells slots : Nat) (hcs : cells + 760 ≤ 989448) (hss : slots + 4500 ≤ 6127760) (K : lw_K l p e s m below meth c b L N xs A dC dI cy cB h0 h1 hw1 hc1 hb1 h2 hw2 hc2 hb2 ho m0 m1 mc1 m2 mc2 i (cells + 760) (slots + 4500) 2240) (a1 : Int32) (r1 : Int32) (f1 : Nat → Int64) (g1 : Nat → Int64) (a2 : Int32) (r2 : Int32) (f2 : Nat → Int64) (g2 : Nat → Int64) (kn : Int32) (nv : Int64) (sv : Value) (th : Int32) (H : Heap) (locs : List Loc) (ls : Array Slot) (hka1 : okA true f1) (hka2 : okA false f2) (hP : va_P (dC, dI) xCl [(h0, eE h1 h2 kn), (h1, eR hw1 hc1 hb1 a1 r1), (hw1, eW true), (hc1, eA cy f1), (hb1, eA cy g1), (h2, eR hw2 hc2 hb2 a2 r2), (hw2, eW false), (hc2, eA cy f2), (hb2, eA cy g2), (ho, eO nv sv), (m0, eM m1 m2 th (r1 + r2) kn), (m1, eMR true mc1 a1), (mc1, eA cy f1), (m2, eMR false mc2 a2), (mc2, eA cy f2)] H) (hD : va_D A [(h0, eE h1 h2 kn), (h1, eR hw1 hc1 hb1 a1 r1), (hw1, eW true), (hc1, eA cy f1), (hb1, eA cy g1), (h2, eR hw2 hc2 hb2 a2 r2), (hw2, eW false), (hc2, eA cy f2), (hb2, eA cy g2), (ho, eO nv sv), (m0, eM m1 m2 th (r1 + r2) kn), (m1, eMR true mc1 a1), (mc1, eA cy f1), (m2, eMR false mc2 a2), (mc2, eA cy f2)]) (hS : va_S A s.heap H locs) (hl : lv_has ls 7 [(0, .ref b), (1, .ref h0), (2, .ref m0), (3, .ref ho), (4, .int (nI i))]) : W p l e room_1 s m #[Value.ref b] below meth c H locs cells slots (lw_Z below #[Value.ref b] s) (F0 m 1872 ls []) := by
  obtain ⟨hfl, hx, hb, hr, hml, hown, hts, hX, hbl, hbA, hlocks, hK, hG, hnc, hA, hAN, hN, hL, hT, hNs⟩ := id C0
  have hok2 := me_okF hka2
  have hsp1 : ∀ k, k < 8 → o_X1_isSpoiled true (f1 k) = false := fun k hk => (hka1 k hk).2
  have hsp2 : ∀ k, k < 8 → o_X1_isSpoiled false (f2 k) = false := fun k hk => (hka2 k hk).2
  refine lv_aload_n hx hb dL_law_1872 rfl (lv_at hl 1 rfl) ?_
  refine lv_aload_n hx hb dL_law_1873 rfl (lv_at hl 0 rfl) ?_
  refine lv_iload hx hb dL_law_1874 (lv_at hl 4 rfl) ?_
  refine lv_iconst (v := 1) hx hb dL_law_1876 (by decide +kernel) ?_
  refine lv_iadd hx hb dL_law_1877 ?_
  rw [nI_1 i]
  refine xa_sld hx hb hX hbl hbA hS (k := i + 1) (by omega) hL hp1 dL_law_1878 ?_
  refine lv_aload_n hx hb dL_law_1879 rfl (lv_at hl 0 rfl) ?_
  refine lv_iload hx hb dL_law_1880 (lv_at hl 4 rfl) ?_
  refine lv_iconst (v := 2) hx hb dL_law_1882 (by decide +kernel) ?_
  refine lv_iadd hx hb dL_law_1883 ?_
  rw [nI_p2 i]
  refine xa_sld hx hb hX hbl hbA hS (k := i + 2) (by omega) hL hp2 dL_law_1884 ?_
  refine lv_aload_n hx hb dL_law_1885 rfl (lv_at hl 3 rfl) ?_
  have hPc := hP.sub (ws' := [(h0, eE h1 h2 kn), (h1, eR hw1 hc1 hb1 a1 r1), (hw1, eW true), (hc1, eA cy f1), (hb1, eA cy g1), (h2, eR hw2 hc2 hb2 a2 r2), (hw2, eW false), (hc2, eA cy f2), (hb2, eA cy g2), (ho, eO nv sv)]) [0, 1, 2, 3, 4, 5, 6, 7, 8, 9] rfl
  have hDc := hD.sub (ws' := [(h0, eE h1 h2 kn), (h1, eR hw1 hc1 hb1 a1 r1), (hw1, eW true), (hc1, eA cy f1), (hb1, eA cy g1), (h2, eR hw2 hc2 hb2 a2 r2), (hw2, eW false), (hc2, eA cy f2), (hb2, eA cy g2), (ho, eO nv sv)]) [0, 1, 2, 3, 4, 5, 6, 7, 8, 9] (by decide +kernel) rfl
  have hKc := hK.sub (tys' := [(cy, .long)]) [0] rfl
  have hFc := va_free (wc := [(h0, eE h1 h2 kn), (h1, eR hw1 hc1 hb1 a1 r1), (hw1, eW true), (hc1, eA cy f1), (hb1, eA cy g1), (h2, eR hw2 hc2 hb2 a2 r2), (hw2, eW false), (hc2, eA cy f2), (hb2, eA cy g2), (ho, eO nv sv)]) hD hS hA [0, 1, 2, 3, 4, 5, 6, 7, 8, 9] rfl
  refine va_calli (vx_runSW (As := [.ref h0, .int p1, .int p2, .ref ho]) (rest := []) ⟨hx, hb, hml, hown, hts⟩ (k_L_narrowLike l hfl dC dI cy h0 h1 hw1 hc1 hb1 h2 hw2 hc2 hb2 a1 r1 f1 g1 a2 r2 f2 g2 kn ho nv sv H.size N p1 p2) (vx_cwSW 4 hts gL_law_L_narrowLike rfl rfl rfl (by decide +kernel) ⟨Nat.le_of_ble_eq_true rfl, Nat.le_of_ble_eq_true rfl⟩) (xL.preS hKc hPc hDc hAN (Nat.le_trans hN hS.1) (hG.kept hS hAN) hnc) rfl rfl hl.1 rfl (lv_room (Nat.le_of_ble_eq_true rfl)) dL_law_1886 ⟨(show _ ≤ 989448 by omega), (show _ ≤ 6127760 by omega)⟩) hS (fun q _ h => hFc q h) hFc (fun r_1 u t H locs ht hvm hw hB hz hk hS => ?_)
  replace hw : r_1 = (o_L_narrowLike f2 nv p1 p2).1 := hw
  subst r_1
  obtain ⟨hP1, hD1⟩ := hB
  rw [ht] at hP1
  obtain ⟨hP, hD⟩ := va_join (wr := [(m0, eM m1 m2 th (r1 + r2) kn), (m1, eMR true mc1 a1), (mc1, eA cy f1), (m2, eMR false mc2 a2), (mc2, eA cy f2)]) (w1 := [(h0, eE h1 h2 kn), (h1, eR hw1 hc1 hb1 a1 r1), (hw1, eW true), (hc1, eA cy f1), (hb1, eA cy g1), (h2, eR hw2 hc2 hb2 a2 r2), (hw2, eW false), (hc2, eA cy f2), (hb2, eA cy g2), (ho, eO (o_L_narrowLike f2 nv p1 p2).2 sv)]) hP hD [0, 1, 2, 3, 4, 5, 6, 7, 8, 9] [10, 11, 12, 13, 14] rfl rfl (by decide +kernel) (by decide +kernel) hk hFc hP1 hD1
  have hP := hP.sub (ws' := [(h0, eE h1 h2 kn), (h1, eR hw1 hc1 hb1 a1 r1), (hw1, eW true), (hc1, eA cy f1), (hb1, eA cy g1), (h2, eR hw2 hc2 hb2 a2 r2), (hw2, eW false), (hc2, eA cy f2), (hb2, eA cy g2), (ho, eO (o_L_narrowLike f2 nv p1 p2).2 sv), (m0, eM m1 m2 th (r1 + r2) kn), (m1, eMR true mc1 a1), (mc1, eA cy f1), (m2, eMR false mc2 a2), (mc2, eA cy f2)]) [5, 6, 7, 8, 9, 10, 11, 12, 13, 14, 0, 1, 2, 3, 4] rfl
  have hD := hD.sub (ws' := [(h0, eE h1 h2 kn), (h1, eR hw1 hc1 hb1 a1 r1), (hw1, eW true), (hc1, eA cy f1), (hb1, eA cy g1), (h2, eR hw2 hc2 hb2 a2 r2), (hw2, eW false), (hc2, eA cy f2), (hb2, eA cy g2), (ho, eO (o_L_narrowLike f2 nv p1 p2).2 sv), (m0, eM m1 m2 th (r1 + r2) kn), (m1, eMR true mc1 a1), (mc1, eA cy f1), (m2, eMR false mc2 a2), (mc2, eA cy f2)]) [5, 6, 7, 8, 9, 10, 11, 12, 13, 14, 0, 1, 2, 3, 4] (by decide +kernel) rfl
  refine lv_istore (lv' := [(5, .int ((o_L_narrowLike f2 nv p1 p2).1)), (0, .ref b), (1, .ref h0), (2, .ref m0), (3, .ref ho), (4, .int (nI i))]) hx hb dL_law_1889 hl (by decide +kernel) rfl (fun ls hl => ?_)
  refine lv_aload_n hx hb dL_law_1891 rfl (lv_at hl 3 rfl) ?_
  refine lv_aload_n hx hb dL_law_1892 rfl (lv_at hl 1 rfl) ?_
  refine lv_iload hx hb dL_law_1893 (lv_at hl 5 rfl) ?_
  refine lv_iconst (v := 1) hx hb dL_law_1895 (by decide +kernel) ?_
  refine lv_iadd hx hb dL_law_1896 ?_
  rw [nI_1 i]
  refine xa_sld hx hb hX hbl hbA hS (k := i + 1) (by omega) hL hp1 dL_law_1897 ?_
  refine lv_aload_n hx hb dL_law_1898 rfl (lv_at hl 1 rfl) ?_
  refine lv_iload hx hb dL_law_1899 (lv_at hl 5 rfl) ?_
  refine lv_iconst (v := 2) hx hb dL_law_1901 (by decide +kernel) ?_
  refine lv_iadd hx hb dL_law_1902 ?_
  rw [nI_p2 i]
  refine xa_sld hx hb hX hbl hbA hS (k := i + 2) (by omega) hL hp2 dL_law_1903 ?_
  have hPc := hP.sub (ws' := [(m0, eM m1 m2 th (r1 + r2) kn), (m1, eMR true mc1 a1), (mc1, eA cy f1), (m2, eMR false mc2 a2), (mc2, eA cy f2)]) [10, 11, 12, 13, 14] rfl
  have hDc := hD.sub (ws' := [(m0, eM m1 m2 th (r1 + r2) kn), (m1, eMR true mc1 a1), (mc1, eA cy f1), (m2, eMR false mc2 a2), (mc2, eA cy f2)]) [10, 11, 12, 13, 14] (by decide +kernel) rfl
  have hKc := hK.sub (tys' := [(cy, .long)]) [0] rfl
  have hFc := va_free (wc := [(m0, eM m1 m2 th (r1 + r2) kn), (m1, eMR true mc1 a1), (mc1, eA cy f1), (m2, eMR false mc2 a2), (mc2, eA cy f2)]) hD hS hA [10, 11, 12, 13, 14] rfl
  refine va_calli (va_runV (As := [.int p1, .int p2]) (rest := []) ⟨hx, hb, hml, hown, hts⟩ (k_X5_narrowLike l dC dI cy m0 m1 mc1 m2 mc2 a1 f1 a2 f2 th (r1 + r2) kn H.size N p1 p2) (cwV 2 hts gL_law_X5_narrowLike rfl rfl rfl (by decide +kernel) ⟨Nat.le_of_ble_eq_true rfl, Nat.le_of_ble_eq_true rfl⟩) (xM.preV hKc hPc hDc hAN (Nat.le_trans hN hS.1) (hG.kept hS hAN) (ci := 7) (q0 := 0) rfl rfl) rfl rfl hl.1 rfl (lv_room (Nat.le_of_ble_eq_true rfl)) dL_law_1904 ⟨(show _ ≤ 989448 by omega), (show _ ≤ 6127760 by omega)⟩) hS (fun q _ h => hFc q h) hFc (fun r_2 u t H locs ht hvm hw hB hz hk hS => ?_)
  replace hw : r_2 = b2i ((o_X5_narrowLike f2 p1 p2).1) := hw
  subst r_2
  obtain ⟨hP1, hD1⟩ := hB
  rw [ht] at hP1
  obtain ⟨hP, hD⟩ := va_join (wr := [(h0, eE h1 h2 kn), (h1, eR hw1 hc1 hb1 a1 r1), (hw1, eW true), (hc1, eA cy f1), (hb1, eA cy g1), (h2, eR hw2 hc2 hb2 a2 r2), (hw2, eW false), (hc2, eA cy f2), (hb2, eA cy g2), (ho, eO (o_L_narrowLike f2 nv p1 p2).2 sv)]) (w1 := [(m0, eM m1 m2 (o_X5_narrowLike f2 p1 p2).2 (r1 + r2) kn), (m1, eMR true mc1 a1), (mc1, eA cy f1), (m2, eMR false mc2 a2), (mc2, eA cy f2)]) hP hD [10, 11, 12, 13, 14] [0, 1, 2, 3, 4, 5, 6, 7, 8, 9] rfl rfl (by decide +kernel) (by decide +kernel) hk hFc hP1 hD1
  have hP := hP.sub (ws' := [(h0, eE h1 h2 kn), (h1, eR hw1 hc1 hb1 a1 r1), (hw1, eW true), (hc1, eA cy f1), (hb1, eA cy g1), (h2, eR hw2 hc2 hb2 a2 r2), (hw2, eW false), (hc2, eA cy f2), (hb2, eA cy g2), (ho, eO (o_L_narrowLike f2 nv p1 p2).2 sv), (m0, eM m1 m2 (o_X5_narrowLike f2 p1 p2).2 (r1 + r2) kn), (m1, eMR true mc1 a1), (mc1, eA cy f1), (m2, eMR false mc2 a2), (mc2, eA cy f2)]) [0, 1, 2, 3, 4, 5, 6, 7, 8, 9, 10, 11, 12, 13, 14] rfl
  have hD := hD.sub (ws' := [(h0, eE h1 h2 kn), (h1, eR hw1 hc1 hb1 a1 r1), (hw1, eW true), (hc1, eA cy f1), (hb1, eA cy g1), (h2, eR hw2 hc2 hb2 a2 r2), (hw2, eW false), (hc2, eA cy f2), (hb2, eA cy g2), (ho, eO (o_L_narrowLike f2 nv p1 p2).2 sv), (m0, eM m1 m2 (o_X5_narrowLike f2 p1 p2).2 (r1 + r2) kn), (m1, eMR true mc1 a1), (mc1, eA cy f1), (m2, eMR false mc2 a2), (mc2, eA cy f2)]) [0, 1, 2, 3, 4, 5, 6, 7, 8, 9, 10, 11, 12, 13, 14] (by decide +kernel) rfl
  refine lv_istore (lv' := [(6, .int (b2i ((o_X5_narrowLike f2 p1 p2).1))), (5, .int ((o_L_narrowLike f2 nv p1 p2).1)), (0, .ref b), (1, .ref h0), (2, .ref m0), (3, .ref ho), (4, .int (nI i))]) hx hb dL_law_1907 hl (by decide +kernel) rfl (fun ls hl => ?_)
  refine lv_goto (tgt := 2240) hx hb dL_law_1909 (by decide +kernel) ?_
  refine W.widen (k := cells + 760) (n := slots + 4500) (by omega) (by omega) ?_
  exact K a1 r1 f1 g1 a2 r2 f2 g2 kn ((o_L_narrowLike f2 nv p1 p2).2) sv ((o_X5_narrowLike f2 p1 p2).2) a1 f1 a2 f2 (r1 + r2) kn _ _ _ rfl rfl rfl rfl rfl rfl hka1 hka2 hP hD hS (lv_sub hl [2, 3, 4, 5, 6] rfl)
set_option maxHeartbeats 4000000 in
set_option maxRecDepth 100000 in
theorem st_39 (l : Launch) (p : Program) (e : Env) (s : State) (m : MethodId) (below : List Frame) (meth : Method) (c : Code) (b L N : Nat) (xs : Nat → Int32) (A : Nat → Prop) (dC : Nat → ClassId) (dI : Nat → Nat → Nat) (cy cB : ClassId) (h0 h1 hw1 hc1 hb1 h2 hw2 hc2 hb2 ho m0 m1 mc1 m2 mc2 : Nat) (C0 : lw_C l p e s m below meth c b L N xs A dC dI cy cB) (i : Nat) (hi : i + 4 ≤ L) (p1 p2 p3 : Int32) (hp1 : xs (i + 1) = p1) (hp2 : xs (i + 2) = p2) (hp3 : xs (i + 3) = p3) (cells slots : Nat) (hcs : cells + 760 ≤ 989448) (hss : slots + 4500 ≤ 6127760) (K : lw_K l p e s m below meth c b L N xs A dC dI cy cB h0 h1 hw1 hc1 hb1 h2 hw2 hc2 hb2 ho m0 m1 mc1 m2 mc2 i (cells + 760) (slots + 4500) 2240) (a1 : Int32) (r1 : Int32) (f1 : Nat → Int64) (g1 : Nat → Int64) (a2 : Int32) (r2 : Int32) (f2 : Nat → Int64) (g2 : Nat → Int64) (kn : Int32) (nv : Int64) (sv : Value) (th : Int32) (H : Heap) (locs : List Loc) (ls : Array Slot) (hka1 : okA true f1) (hka2 : okA false f2) (hP : va_P (dC, dI) xCl [(h0, eE h1 h2 kn), (h1, eR hw1 hc1 hb1 a1 r1), (hw1, eW true), (hc1, eA cy f1), (hb1, eA cy g1), (h2, eR hw2 hc2 hb2 a2 r2), (hw2, eW false), (hc2, eA cy f2), (hb2, eA cy g2), (ho, eO nv sv), (m0, eM m1 m2 th (r1 + r2) kn), (m1, eMR true mc1 a1), (mc1, eA cy f1), (m2, eMR false mc2 a2), (mc2, eA cy f2)] H) (hD : va_D A [(h0, eE h1 h2 kn), (h1, eR hw1 hc1 hb1 a1 r1), (hw1, eW true), (hc1, eA cy f1), (hb1, eA cy g1), (h2, eR hw2 hc2 hb2 a2 r2), (hw2, eW false), (hc2, eA cy f2), (hb2, eA cy g2), (ho, eO nv sv), (m0, eM m1 m2 th (r1 + r2) kn), (m1, eMR true mc1 a1), (mc1, eA cy f1), (m2, eMR false mc2 a2), (mc2, eA cy f2)]) (hS : va_S A s.heap H locs) (hl : lv_has ls 7 [(0, .ref b), (1, .ref h0), (2, .ref m0), (3, .ref ho), (4, .int (nI i))]) : W p l e room_1 s m #[Value.ref b] below meth c H locs cells slots (lw_Z below #[Value.ref b] s) (F0 m 1912 ls []) := by
  obtain ⟨hfl, hx, hb, hr, hml, hown, hts, hX, hbl, hbA, hlocks, hK, hG, hnc, hA, hAN, hN, hL, hT, hNs⟩ := id C0
  have hok2 := me_okF hka2
  have hsp1 : ∀ k, k < 8 → o_X1_isSpoiled true (f1 k) = false := fun k hk => (hka1 k hk).2
  have hsp2 : ∀ k, k < 8 → o_X1_isSpoiled false (f2 k) = false := fun k hk => (hka2 k hk).2
  refine lv_aload_n hx hb dL_law_1912 rfl (lv_at hl 1 rfl) ?_
  refine lv_aload_n hx hb dL_law_1913 rfl (lv_at hl 0 rfl) ?_
  refine lv_iload hx hb dL_law_1914 (lv_at hl 4 rfl) ?_
  refine lv_iconst (v := 1) hx hb dL_law_1916 (by decide +kernel) ?_
  refine lv_iadd hx hb dL_law_1917 ?_
  rw [nI_1 i]
  refine xa_sld hx hb hX hbl hbA hS (k := i + 1) (by omega) hL hp1 dL_law_1918 ?_
  refine lv_aload_n hx hb dL_law_1919 rfl (lv_at hl 0 rfl) ?_
  refine lv_iload hx hb dL_law_1920 (lv_at hl 4 rfl) ?_
  refine lv_iconst (v := 2) hx hb dL_law_1922 (by decide +kernel) ?_
  refine lv_iadd hx hb dL_law_1923 ?_
  rw [nI_p2 i]
  refine xa_sld hx hb hX hbl hbA hS (k := i + 2) (by omega) hL hp2 dL_law_1924 ?_
  refine lv_aload_n hx hb dL_law_1925 rfl (lv_at hl 0 rfl) ?_
  refine lv_iload hx hb dL_law_1926 (lv_at hl 4 rfl) ?_
  refine lv_iconst (v := 3) hx hb dL_law_1928 (by decide +kernel) ?_
  refine lv_iadd hx hb dL_law_1929 ?_
  rw [nI_p3 i]
  refine xa_sld hx hb hX hbl hbA hS (k := i + 3) (by omega) hL hp3 dL_law_1930 ?_
  refine lv_if_eq (tgt := 1938) hx hb dL_law_1931 (by decide +kernel) (fun c_1 => ?_) (fun c_1 => ?_)
  · skip
    refine lv_iconst (v := 0) hx hb dL_law_1938 (by decide +kernel) ?_
    refine lv_aload_n hx hb dL_law_1939 rfl (lv_at hl 3 rfl) ?_
    have hPc := hP.sub (ws' := [(h0, eE h1 h2 kn), (h1, eR hw1 hc1 hb1 a1 r1), (hw1, eW true), (hc1, eA cy f1), (hb1, eA cy g1), (h2, eR hw2 hc2 hb2 a2 r2), (hw2, eW false), (hc2, eA cy f2), (hb2, eA cy g2), (ho, eO nv sv)]) [0, 1, 2, 3, 4, 5, 6, 7, 8, 9] rfl
    have hDc := hD.sub (ws' := [(h0, eE h1 h2 kn), (h1, eR hw1 hc1 hb1 a1 r1), (hw1, eW true), (hc1, eA cy f1), (hb1, eA cy g1), (h2, eR hw2 hc2 hb2 a2 r2), (hw2, eW false), (hc2, eA cy f2), (hb2, eA cy g2), (ho, eO nv sv)]) [0, 1, 2, 3, 4, 5, 6, 7, 8, 9] (by decide +kernel) rfl
    have hKc := hK.sub (tys' := [(cy, .long)]) [0] rfl
    have hFc := va_free (wc := [(h0, eE h1 h2 kn), (h1, eR hw1 hc1 hb1 a1 r1), (hw1, eW true), (hc1, eA cy f1), (hb1, eA cy g1), (h2, eR hw2 hc2 hb2 a2 r2), (hw2, eW false), (hc2, eA cy f2), (hb2, eA cy g2), (ho, eO nv sv)]) hD hS hA [0, 1, 2, 3, 4, 5, 6, 7, 8, 9] rfl
    refine va_calli (vx_runSW (As := [.ref h0, .int p1, .int p2, .int 0, .ref ho]) (rest := []) ⟨hx, hb, hml, hown, hts⟩ (k_L_narrowBelow l hfl dC dI cy h0 h1 hw1 hc1 hb1 h2 hw2 hc2 hb2 a1 r1 f1 g1 a2 r2 f2 g2 kn ho nv sv H.size N p1 p2 false) (vx_cwSW 5 hts gL_law_L_narrowBelow rfl rfl rfl (by decide +kernel) ⟨Nat.le_of_ble_eq_true rfl, Nat.le_of_ble_eq_true rfl⟩) (xL.preS hKc hPc hDc hAN (Nat.le_trans hN hS.1) (hG.kept hS hAN) hnc) rfl rfl hl.1 rfl (lv_room (Nat.le_of_ble_eq_true rfl)) dL_law_1940 ⟨(show _ ≤ 989448 by omega), (show _ ≤ 6127760 by omega)⟩) hS (fun q _ h => hFc q h) hFc (fun r_2 u t H locs ht hvm hw hB hz hk hS => ?_)
    replace hw : r_2 = (o_L_narrowBelow f2 nv p1 p2 false).1 := hw
    subst r_2
    obtain ⟨hP1, hD1⟩ := hB
    rw [ht] at hP1
    obtain ⟨hP, hD⟩ := va_join (wr := [(m0, eM m1 m2 th (r1 + r2) kn), (m1, eMR true mc1 a1), (mc1, eA cy f1), (m2, eMR false mc2 a2), (mc2, eA cy f2)]) (w1 := [(h0, eE h1 h2 kn), (h1, eR hw1 hc1 hb1 a1 r1), (hw1, eW true), (hc1, eA cy f1), (hb1, eA cy g1), (h2, eR hw2 hc2 hb2 a2 r2), (hw2, eW false), (hc2, eA cy f2), (hb2, eA cy g2), (ho, eO (o_L_narrowBelow f2 nv p1 p2 false).2 sv)]) hP hD [0, 1, 2, 3, 4, 5, 6, 7, 8, 9] [10, 11, 12, 13, 14] rfl rfl (by decide +kernel) (by decide +kernel) hk hFc hP1 hD1
    have hP := hP.sub (ws' := [(h0, eE h1 h2 kn), (h1, eR hw1 hc1 hb1 a1 r1), (hw1, eW true), (hc1, eA cy f1), (hb1, eA cy g1), (h2, eR hw2 hc2 hb2 a2 r2), (hw2, eW false), (hc2, eA cy f2), (hb2, eA cy g2), (ho, eO (o_L_narrowBelow f2 nv p1 p2 false).2 sv), (m0, eM m1 m2 th (r1 + r2) kn), (m1, eMR true mc1 a1), (mc1, eA cy f1), (m2, eMR false mc2 a2), (mc2, eA cy f2)]) [5, 6, 7, 8, 9, 10, 11, 12, 13, 14, 0, 1, 2, 3, 4] rfl
    have hD := hD.sub (ws' := [(h0, eE h1 h2 kn), (h1, eR hw1 hc1 hb1 a1 r1), (hw1, eW true), (hc1, eA cy f1), (hb1, eA cy g1), (h2, eR hw2 hc2 hb2 a2 r2), (hw2, eW false), (hc2, eA cy f2), (hb2, eA cy g2), (ho, eO (o_L_narrowBelow f2 nv p1 p2 false).2 sv), (m0, eM m1 m2 th (r1 + r2) kn), (m1, eMR true mc1 a1), (mc1, eA cy f1), (m2, eMR false mc2 a2), (mc2, eA cy f2)]) [5, 6, 7, 8, 9, 10, 11, 12, 13, 14, 0, 1, 2, 3, 4] (by decide +kernel) rfl
    refine lv_istore (lv' := [(5, .int ((o_L_narrowBelow f2 nv p1 p2 false).1)), (0, .ref b), (1, .ref h0), (2, .ref m0), (3, .ref ho), (4, .int (nI i))]) hx hb dL_law_1943 hl (by decide +kernel) rfl (fun ls hl => ?_)
    refine lv_aload_n hx hb dL_law_1945 rfl (lv_at hl 3 rfl) ?_
    refine lv_aload_n hx hb dL_law_1946 rfl (lv_at hl 1 rfl) ?_
    refine lv_iload hx hb dL_law_1947 (lv_at hl 5 rfl) ?_
    refine lv_iconst (v := 1) hx hb dL_law_1949 (by decide +kernel) ?_
    refine lv_iadd hx hb dL_law_1950 ?_
    rw [nI_1 i]
    refine xa_sld hx hb hX hbl hbA hS (k := i + 1) (by omega) hL hp1 dL_law_1951 ?_
    refine lv_aload_n hx hb dL_law_1952 rfl (lv_at hl 1 rfl) ?_
    refine lv_iload hx hb dL_law_1953 (lv_at hl 5 rfl) ?_
    refine lv_iconst (v := 2) hx hb dL_law_1955 (by decide +kernel) ?_
    refine lv_iadd hx hb dL_law_1956 ?_
    rw [nI_p2 i]
    refine xa_sld hx hb hX hbl hbA hS (k := i + 2) (by omega) hL hp2 dL_law_1957 ?_
    refine lv_aload_n hx hb dL_law_1958 rfl (lv_at hl 1 rfl) ?_
    refine lv_iload hx hb dL_law_1959 (lv_at hl 5 rfl) ?_
    refine lv_iconst (v := 3) hx hb dL_law_1961 (by decide +kernel) ?_
    refine lv_iadd hx hb dL_law_1962 ?_
    rw [nI_p3 i]
    refine xa_sld hx hb hX hbl hbA hS (k := i + 3) (by omega) hL hp3 dL_law_1963 ?_
    refine lv_if_eq (tgt := 1971) hx hb dL_law_1964 (by decide +kernel) (fun c9 => ?_) (fun c9 => absurd c_1 c9)
    refine lv_iconst (v := 0) hx hb dL_law_1971 (by decide +kernel) ?_
    have hPc := hP.sub (ws' := [(m0, eM m1 m2 th (r1 + r2) kn), (m1, eMR true mc1 a1), (mc1, eA cy f1), (m2, eMR false mc2 a2), (mc2, eA cy f2)]) [10, 11, 12, 13, 14] rfl
    have hDc := hD.sub (ws' := [(m0, eM m1 m2 th (r1 + r2) kn), (m1, eMR true mc1 a1), (mc1, eA cy f1), (m2, eMR false mc2 a2), (mc2, eA cy f2)]) [10, 11, 12, 13, 14] (by decide +kernel) rfl
    have hKc := hK.sub (tys' := [(cy, .long)]) [0] rfl
    have hFc := va_free (wc := [(m0, eM m1 m2 th (r1 + r2) kn), (m1, eMR true mc1 a1), (mc1, eA cy f1), (m2, eMR false mc2 a2), (mc2, eA cy f2)]) hD hS hA [10, 11, 12, 13, 14] rfl
    refine va_calli (va_runV (As := [.int p1, .int p2, .int 0]) (rest := []) ⟨hx, hb, hml, hown, hts⟩ (k_X5_narrowBelow l dC dI cy m0 m1 mc1 m2 mc2 a1 f1 a2 f2 th (r1 + r2) kn H.size N p1 p2 false) (cwV 3 hts gL_law_X5_narrowBelow rfl rfl rfl (by decide +kernel) ⟨Nat.le_of_ble_eq_true rfl, Nat.le_of_ble_eq_true rfl⟩) (xM.preV hKc hPc hDc hAN (Nat.le_trans hN hS.1) (hG.kept hS hAN) (ci := 7) (q0 := 0) rfl rfl) rfl rfl hl.1 rfl (lv_room (Nat.le_of_ble_eq_true rfl)) dL_law_1972 ⟨(show _ ≤ 989448 by omega), (show _ ≤ 6127760 by omega)⟩) hS (fun q _ h => hFc q h) hFc (fun r_3 u t H locs ht hvm hw hB hz hk hS => ?_)
    replace hw : r_3 = b2i ((o_X5_narrowBelow f2 p1 p2 false).1) := hw
    subst r_3
    obtain ⟨hP1, hD1⟩ := hB
    rw [ht] at hP1
    obtain ⟨hP, hD⟩ := va_join (wr := [(h0, eE h1 h2 kn), (h1, eR hw1 hc1 hb1 a1 r1), (hw1, eW true), (hc1, eA cy f1), (hb1, eA cy g1), (h2, eR hw2 hc2 hb2 a2 r2), (hw2, eW false), (hc2, eA cy f2), (hb2, eA cy g2), (ho, eO (o_L_narrowBelow f2 nv p1 p2 false).2 sv)]) (w1 := [(m0, eM m1 m2 (o_X5_narrowBelow f2 p1 p2 false).2 (r1 + r2) kn), (m1, eMR true mc1 a1), (mc1, eA cy f1), (m2, eMR false mc2 a2), (mc2, eA cy f2)]) hP hD [10, 11, 12, 13, 14] [0, 1, 2, 3, 4, 5, 6, 7, 8, 9] rfl rfl (by decide +kernel) (by decide +kernel) hk hFc hP1 hD1
    have hP := hP.sub (ws' := [(h0, eE h1 h2 kn), (h1, eR hw1 hc1 hb1 a1 r1), (hw1, eW true), (hc1, eA cy f1), (hb1, eA cy g1), (h2, eR hw2 hc2 hb2 a2 r2), (hw2, eW false), (hc2, eA cy f2), (hb2, eA cy g2), (ho, eO (o_L_narrowBelow f2 nv p1 p2 false).2 sv), (m0, eM m1 m2 (o_X5_narrowBelow f2 p1 p2 false).2 (r1 + r2) kn), (m1, eMR true mc1 a1), (mc1, eA cy f1), (m2, eMR false mc2 a2), (mc2, eA cy f2)]) [0, 1, 2, 3, 4, 5, 6, 7, 8, 9, 10, 11, 12, 13, 14] rfl
    have hD := hD.sub (ws' := [(h0, eE h1 h2 kn), (h1, eR hw1 hc1 hb1 a1 r1), (hw1, eW true), (hc1, eA cy f1), (hb1, eA cy g1), (h2, eR hw2 hc2 hb2 a2 r2), (hw2, eW false), (hc2, eA cy f2), (hb2, eA cy g2), (ho, eO (o_L_narrowBelow f2 nv p1 p2 false).2 sv), (m0, eM m1 m2 (o_X5_narrowBelow f2 p1 p2 false).2 (r1 + r2) kn), (m1, eMR true mc1 a1), (mc1, eA cy f1), (m2, eMR false mc2 a2), (mc2, eA cy f2)]) [0, 1, 2, 3, 4, 5, 6, 7, 8, 9, 10, 11, 12, 13, 14] (by decide +kernel) rfl
    refine lv_istore (lv' := [(6, .int (b2i ((o_X5_narrowBelow f2 p1 p2 false).1))), (5, .int ((o_L_narrowBelow f2 nv p1 p2 false).1)), (0, .ref b), (1, .ref h0), (2, .ref m0), (3, .ref ho), (4, .int (nI i))]) hx hb dL_law_1975 hl (by decide +kernel) rfl (fun ls hl => ?_)
    refine lv_goto (tgt := 2240) hx hb dL_law_1977 (by decide +kernel) ?_
    refine W.widen (k := cells + 760) (n := slots + 4500) (by omega) (by omega) ?_
    exact K a1 r1 f1 g1 a2 r2 f2 g2 kn ((o_L_narrowBelow f2 nv p1 p2 false).2) sv ((o_X5_narrowBelow f2 p1 p2 false).2) a1 f1 a2 f2 (r1 + r2) kn _ _ _ rfl rfl rfl rfl rfl rfl hka1 hka2 hP hD hS (lv_sub hl [2, 3, 4, 5, 6] rfl)
  · skip
    refine lv_iconst (v := 1) hx hb dL_law_1934 (by decide +kernel) ?_
    refine lv_goto (tgt := 1939) hx hb dL_law_1935 (by decide +kernel) ?_
    refine lv_aload_n hx hb dL_law_1939 rfl (lv_at hl 3 rfl) ?_
    have hPc := hP.sub (ws' := [(h0, eE h1 h2 kn), (h1, eR hw1 hc1 hb1 a1 r1), (hw1, eW true), (hc1, eA cy f1), (hb1, eA cy g1), (h2, eR hw2 hc2 hb2 a2 r2), (hw2, eW false), (hc2, eA cy f2), (hb2, eA cy g2), (ho, eO nv sv)]) [0, 1, 2, 3, 4, 5, 6, 7, 8, 9] rfl
    have hDc := hD.sub (ws' := [(h0, eE h1 h2 kn), (h1, eR hw1 hc1 hb1 a1 r1), (hw1, eW true), (hc1, eA cy f1), (hb1, eA cy g1), (h2, eR hw2 hc2 hb2 a2 r2), (hw2, eW false), (hc2, eA cy f2), (hb2, eA cy g2), (ho, eO nv sv)]) [0, 1, 2, 3, 4, 5, 6, 7, 8, 9] (by decide +kernel) rfl
    have hKc := hK.sub (tys' := [(cy, .long)]) [0] rfl
    have hFc := va_free (wc := [(h0, eE h1 h2 kn), (h1, eR hw1 hc1 hb1 a1 r1), (hw1, eW true), (hc1, eA cy f1), (hb1, eA cy g1), (h2, eR hw2 hc2 hb2 a2 r2), (hw2, eW false), (hc2, eA cy f2), (hb2, eA cy g2), (ho, eO nv sv)]) hD hS hA [0, 1, 2, 3, 4, 5, 6, 7, 8, 9] rfl
    refine va_calli (vx_runSW (As := [.ref h0, .int p1, .int p2, .int 1, .ref ho]) (rest := []) ⟨hx, hb, hml, hown, hts⟩ (k_L_narrowBelow l hfl dC dI cy h0 h1 hw1 hc1 hb1 h2 hw2 hc2 hb2 a1 r1 f1 g1 a2 r2 f2 g2 kn ho nv sv H.size N p1 p2 true) (vx_cwSW 5 hts gL_law_L_narrowBelow rfl rfl rfl (by decide +kernel) ⟨Nat.le_of_ble_eq_true rfl, Nat.le_of_ble_eq_true rfl⟩) (xL.preS hKc hPc hDc hAN (Nat.le_trans hN hS.1) (hG.kept hS hAN) hnc) rfl rfl hl.1 rfl (lv_room (Nat.le_of_ble_eq_true rfl)) dL_law_1940 ⟨(show _ ≤ 989448 by omega), (show _ ≤ 6127760 by omega)⟩) hS (fun q _ h => hFc q h) hFc (fun r_4 u t H locs ht hvm hw hB hz hk hS => ?_)
    replace hw : r_4 = (o_L_narrowBelow f2 nv p1 p2 true).1 := hw
    subst r_4
    obtain ⟨hP1, hD1⟩ := hB
    rw [ht] at hP1
    obtain ⟨hP, hD⟩ := va_join (wr := [(m0, eM m1 m2 th (r1 + r2) kn), (m1, eMR true mc1 a1), (mc1, eA cy f1), (m2, eMR false mc2 a2), (mc2, eA cy f2)]) (w1 := [(h0, eE h1 h2 kn), (h1, eR hw1 hc1 hb1 a1 r1), (hw1, eW true), (hc1, eA cy f1), (hb1, eA cy g1), (h2, eR hw2 hc2 hb2 a2 r2), (hw2, eW false), (hc2, eA cy f2), (hb2, eA cy g2), (ho, eO (o_L_narrowBelow f2 nv p1 p2 true).2 sv)]) hP hD [0, 1, 2, 3, 4, 5, 6, 7, 8, 9] [10, 11, 12, 13, 14] rfl rfl (by decide +kernel) (by decide +kernel) hk hFc hP1 hD1
    have hP := hP.sub (ws' := [(h0, eE h1 h2 kn), (h1, eR hw1 hc1 hb1 a1 r1), (hw1, eW true), (hc1, eA cy f1), (hb1, eA cy g1), (h2, eR hw2 hc2 hb2 a2 r2), (hw2, eW false), (hc2, eA cy f2), (hb2, eA cy g2), (ho, eO (o_L_narrowBelow f2 nv p1 p2 true).2 sv), (m0, eM m1 m2 th (r1 + r2) kn), (m1, eMR true mc1 a1), (mc1, eA cy f1), (m2, eMR false mc2 a2), (mc2, eA cy f2)]) [5, 6, 7, 8, 9, 10, 11, 12, 13, 14, 0, 1, 2, 3, 4] rfl
    have hD := hD.sub (ws' := [(h0, eE h1 h2 kn), (h1, eR hw1 hc1 hb1 a1 r1), (hw1, eW true), (hc1, eA cy f1), (hb1, eA cy g1), (h2, eR hw2 hc2 hb2 a2 r2), (hw2, eW false), (hc2, eA cy f2), (hb2, eA cy g2), (ho, eO (o_L_narrowBelow f2 nv p1 p2 true).2 sv), (m0, eM m1 m2 th (r1 + r2) kn), (m1, eMR true mc1 a1), (mc1, eA cy f1), (m2, eMR false mc2 a2), (mc2, eA cy f2)]) [5, 6, 7, 8, 9, 10, 11, 12, 13, 14, 0, 1, 2, 3, 4] (by decide +kernel) rfl
    refine lv_istore (lv' := [(5, .int ((o_L_narrowBelow f2 nv p1 p2 true).1)), (0, .ref b), (1, .ref h0), (2, .ref m0), (3, .ref ho), (4, .int (nI i))]) hx hb dL_law_1943 hl (by decide +kernel) rfl (fun ls hl => ?_)
    refine lv_aload_n hx hb dL_law_1945 rfl (lv_at hl 3 rfl) ?_
    refine lv_aload_n hx hb dL_law_1946 rfl (lv_at hl 1 rfl) ?_
    refine lv_iload hx hb dL_law_1947 (lv_at hl 5 rfl) ?_
    refine lv_iconst (v := 1) hx hb dL_law_1949 (by decide +kernel) ?_
    refine lv_iadd hx hb dL_law_1950 ?_
    rw [nI_1 i]
    refine xa_sld hx hb hX hbl hbA hS (k := i + 1) (by omega) hL hp1 dL_law_1951 ?_
    refine lv_aload_n hx hb dL_law_1952 rfl (lv_at hl 1 rfl) ?_
    refine lv_iload hx hb dL_law_1953 (lv_at hl 5 rfl) ?_
    refine lv_iconst (v := 2) hx hb dL_law_1955 (by decide +kernel) ?_
    refine lv_iadd hx hb dL_law_1956 ?_
    rw [nI_p2 i]
    refine xa_sld hx hb hX hbl hbA hS (k := i + 2) (by omega) hL hp2 dL_law_1957 ?_
    refine lv_aload_n hx hb dL_law_1958 rfl (lv_at hl 1 rfl) ?_
    refine lv_iload hx hb dL_law_1959 (lv_at hl 5 rfl) ?_
    refine lv_iconst (v := 3) hx hb dL_law_1961 (by decide +kernel) ?_
    refine lv_iadd hx hb dL_law_1962 ?_
    rw [nI_p3 i]
    refine xa_sld hx hb hX hbl hbA hS (k := i + 3) (by omega) hL hp3 dL_law_1963 ?_
    refine lv_if_eq (tgt := 1971) hx hb dL_law_1964 (by decide +kernel) (fun c9 => absurd c9 c_1) (fun c9 => ?_)
    refine lv_iconst (v := 1) hx hb dL_law_1967 (by decide +kernel) ?_
    refine lv_goto (tgt := 1972) hx hb dL_law_1968 (by decide +kernel) ?_
    have hPc := hP.sub (ws' := [(m0, eM m1 m2 th (r1 + r2) kn), (m1, eMR true mc1 a1), (mc1, eA cy f1), (m2, eMR false mc2 a2), (mc2, eA cy f2)]) [10, 11, 12, 13, 14] rfl
    have hDc := hD.sub (ws' := [(m0, eM m1 m2 th (r1 + r2) kn), (m1, eMR true mc1 a1), (mc1, eA cy f1), (m2, eMR false mc2 a2), (mc2, eA cy f2)]) [10, 11, 12, 13, 14] (by decide +kernel) rfl
    have hKc := hK.sub (tys' := [(cy, .long)]) [0] rfl
    have hFc := va_free (wc := [(m0, eM m1 m2 th (r1 + r2) kn), (m1, eMR true mc1 a1), (mc1, eA cy f1), (m2, eMR false mc2 a2), (mc2, eA cy f2)]) hD hS hA [10, 11, 12, 13, 14] rfl
    refine va_calli (va_runV (As := [.int p1, .int p2, .int 1]) (rest := []) ⟨hx, hb, hml, hown, hts⟩ (k_X5_narrowBelow l dC dI cy m0 m1 mc1 m2 mc2 a1 f1 a2 f2 th (r1 + r2) kn H.size N p1 p2 true) (cwV 3 hts gL_law_X5_narrowBelow rfl rfl rfl (by decide +kernel) ⟨Nat.le_of_ble_eq_true rfl, Nat.le_of_ble_eq_true rfl⟩) (xM.preV hKc hPc hDc hAN (Nat.le_trans hN hS.1) (hG.kept hS hAN) (ci := 7) (q0 := 0) rfl rfl) rfl rfl hl.1 rfl (lv_room (Nat.le_of_ble_eq_true rfl)) dL_law_1972 ⟨(show _ ≤ 989448 by omega), (show _ ≤ 6127760 by omega)⟩) hS (fun q _ h => hFc q h) hFc (fun r_5 u t H locs ht hvm hw hB hz hk hS => ?_)
    replace hw : r_5 = b2i ((o_X5_narrowBelow f2 p1 p2 true).1) := hw
    subst r_5
    obtain ⟨hP1, hD1⟩ := hB
    rw [ht] at hP1
    obtain ⟨hP, hD⟩ := va_join (wr := [(h0, eE h1 h2 kn), (h1, eR hw1 hc1 hb1 a1 r1), (hw1, eW true), (hc1, eA cy f1), (hb1, eA cy g1), (h2, eR hw2 hc2 hb2 a2 r2), (hw2, eW false), (hc2, eA cy f2), (hb2, eA cy g2), (ho, eO (o_L_narrowBelow f2 nv p1 p2 true).2 sv)]) (w1 := [(m0, eM m1 m2 (o_X5_narrowBelow f2 p1 p2 true).2 (r1 + r2) kn), (m1, eMR true mc1 a1), (mc1, eA cy f1), (m2, eMR false mc2 a2), (mc2, eA cy f2)]) hP hD [10, 11, 12, 13, 14] [0, 1, 2, 3, 4, 5, 6, 7, 8, 9] rfl rfl (by decide +kernel) (by decide +kernel) hk hFc hP1 hD1
    have hP := hP.sub (ws' := [(h0, eE h1 h2 kn), (h1, eR hw1 hc1 hb1 a1 r1), (hw1, eW true), (hc1, eA cy f1), (hb1, eA cy g1), (h2, eR hw2 hc2 hb2 a2 r2), (hw2, eW false), (hc2, eA cy f2), (hb2, eA cy g2), (ho, eO (o_L_narrowBelow f2 nv p1 p2 true).2 sv), (m0, eM m1 m2 (o_X5_narrowBelow f2 p1 p2 true).2 (r1 + r2) kn), (m1, eMR true mc1 a1), (mc1, eA cy f1), (m2, eMR false mc2 a2), (mc2, eA cy f2)]) [0, 1, 2, 3, 4, 5, 6, 7, 8, 9, 10, 11, 12, 13, 14] rfl
    have hD := hD.sub (ws' := [(h0, eE h1 h2 kn), (h1, eR hw1 hc1 hb1 a1 r1), (hw1, eW true), (hc1, eA cy f1), (hb1, eA cy g1), (h2, eR hw2 hc2 hb2 a2 r2), (hw2, eW false), (hc2, eA cy f2), (hb2, eA cy g2), (ho, eO (o_L_narrowBelow f2 nv p1 p2 true).2 sv), (m0, eM m1 m2 (o_X5_narrowBelow f2 p1 p2 true).2 (r1 + r2) kn), (m1, eMR true mc1 a1), (mc1, eA cy f1), (m2, eMR false mc2 a2), (mc2, eA cy f2)]) [0, 1, 2, 3, 4, 5, 6, 7, 8, 9, 10, 11, 12, 13, 14] (by decide +kernel) rfl
    refine lv_istore (lv' := [(6, .int (b2i ((o_X5_narrowBelow f2 p1 p2 true).1))), (5, .int ((o_L_narrowBelow f2 nv p1 p2 true).1)), (0, .ref b), (1, .ref h0), (2, .ref m0), (3, .ref ho), (4, .int (nI i))]) hx hb dL_law_1975 hl (by decide +kernel) rfl (fun ls hl => ?_)
    refine lv_goto (tgt := 2240) hx hb dL_law_1977 (by decide +kernel) ?_
    refine W.widen (k := cells + 760) (n := slots + 4500) (by omega) (by omega) ?_
    exact K a1 r1 f1 g1 a2 r2 f2 g2 kn ((o_L_narrowBelow f2 nv p1 p2 true).2) sv ((o_X5_narrowBelow f2 p1 p2 true).2) a1 f1 a2 f2 (r1 + r2) kn _ _ _ rfl rfl rfl rfl rfl rfl hka1 hka2 hP hD hS (lv_sub hl [2, 3, 4, 5, 6] rfl)
set_option maxHeartbeats 4000000 in
set_option maxRecDepth 100000 in
theorem st_40 (l : Launch) (p : Program) (e : Env) (s : State) (m : MethodId) (below : List Frame) (meth : Method) (c : Code) (b L N : Nat) (xs : Nat → Int32) (A : Nat → Prop) (dC : Nat → ClassId) (dI : Nat → Nat → Nat) (cy cB : ClassId) (h0 h1 hw1 hc1 hb1 h2 hw2 hc2 hb2 ho m0 m1 mc1 m2 mc2 : Nat) (C0 : lw_C l p e s m below meth c b L N xs A dC dI cy cB) (i : Nat) (hi : i + 4 ≤ L) (p1 p2 p3 : Int32) (hp1 : xs (i + 1) = p1) (hp2 : xs (i + 2) = p2) (hp3 : xs (i + 3) = p3) (cells slots : Nat) (hcs : cells + 760 ≤ 989448) (hss : slots + 4500 ≤ 6127760) (K : lw_K l p e s m below meth c b L N xs A dC dI cy cB h0 h1 hw1 hc1 hb1 h2 hw2 hc2 hb2 ho m0 m1 mc1 m2 mc2 i (cells + 760) (slots + 4500) 2240) (a1 : Int32) (r1 : Int32) (f1 : Nat → Int64) (g1 : Nat → Int64) (a2 : Int32) (r2 : Int32) (f2 : Nat → Int64) (g2 : Nat → Int64) (kn : Int32) (nv : Int64) (sv : Value) (th : Int32) (H : Heap) (locs : List Loc) (ls : Array Slot) (hka1 : okA true f1) (hka2 : okA false f2) (hP : va_P (dC, dI) xCl [(h0, eE h1 h2 kn), (h1, eR hw1 hc1 hb1 a1 r1), (hw1, eW true), (hc1, eA cy f1), (hb1, eA cy g1), (h2, eR hw2 hc2 hb2 a2 r2), (hw2, eW false), (hc2, eA cy f2), (hb2, eA cy g2), (ho, eO nv sv), (m0, eM m1 m2 th (r1 + r2) kn), (m1, eMR true mc1 a1), (mc1, eA cy f1), (m2, eMR false mc2 a2), (mc2, eA cy f2)] H) (hD : va_D A [(h0, eE h1 h2 kn), (h1, eR hw1 hc1 hb1 a1 r1), (hw1, eW true), (hc1, eA cy f1), (hb1, eA cy g1), (h2, eR hw2 hc2 hb2 a2 r2), (hw2, eW false), (hc2, eA cy f2), (hb2, eA cy g2), (ho, eO nv sv), (m0, eM m1 m2 th (r1 + r2) kn), (m1, eMR true mc1 a1), (mc1, eA cy f1), (m2, eMR false mc2 a2), (mc2, eA cy f2)]) (hS : va_S A s.heap H locs) (hl : lv_has ls 7 [(0, .ref b), (1, .ref h0), (2, .ref m0), (3, .ref ho), (4, .int (nI i))]) : W p l e room_1 s m #[Value.ref b] below meth c H locs cells slots (lw_Z below #[Value.ref b] s) (F0 m 1980 ls []) := by
  obtain ⟨hfl, hx, hb, hr, hml, hown, hts, hX, hbl, hbA, hlocks, hK, hG, hnc, hA, hAN, hN, hL, hT, hNs⟩ := id C0
  have hok2 := me_okF hka2
  have hsp1 : ∀ k, k < 8 → o_X1_isSpoiled true (f1 k) = false := fun k hk => (hka1 k hk).2
  have hsp2 : ∀ k, k < 8 → o_X1_isSpoiled false (f2 k) = false := fun k hk => (hka2 k hk).2
  refine lv_aload_n hx hb dL_law_1980 rfl (lv_at hl 1 rfl) ?_
  refine lv_aload_n hx hb dL_law_1981 rfl (lv_at hl 0 rfl) ?_
  refine lv_iload hx hb dL_law_1982 (lv_at hl 4 rfl) ?_
  refine lv_iconst (v := 1) hx hb dL_law_1984 (by decide +kernel) ?_
  refine lv_iadd hx hb dL_law_1985 ?_
  rw [nI_1 i]
  refine xa_sld hx hb hX hbl hbA hS (k := i + 1) (by omega) hL hp1 dL_law_1986 ?_
  refine lv_aload_n hx hb dL_law_1987 rfl (lv_at hl 0 rfl) ?_
  refine lv_iload hx hb dL_law_1988 (lv_at hl 4 rfl) ?_
  refine lv_iconst (v := 2) hx hb dL_law_1990 (by decide +kernel) ?_
  refine lv_iadd hx hb dL_law_1991 ?_
  rw [nI_p2 i]
  refine xa_sld hx hb hX hbl hbA hS (k := i + 2) (by omega) hL hp2 dL_law_1992 ?_
  refine lv_aload_n hx hb dL_law_1993 rfl (lv_at hl 3 rfl) ?_
  have hPc := hP.sub (ws' := [(h0, eE h1 h2 kn), (h1, eR hw1 hc1 hb1 a1 r1), (hw1, eW true), (hc1, eA cy f1), (hb1, eA cy g1), (h2, eR hw2 hc2 hb2 a2 r2), (hw2, eW false), (hc2, eA cy f2), (hb2, eA cy g2), (ho, eO nv sv)]) [0, 1, 2, 3, 4, 5, 6, 7, 8, 9] rfl
  have hDc := hD.sub (ws' := [(h0, eE h1 h2 kn), (h1, eR hw1 hc1 hb1 a1 r1), (hw1, eW true), (hc1, eA cy f1), (hb1, eA cy g1), (h2, eR hw2 hc2 hb2 a2 r2), (hw2, eW false), (hc2, eA cy f2), (hb2, eA cy g2), (ho, eO nv sv)]) [0, 1, 2, 3, 4, 5, 6, 7, 8, 9] (by decide +kernel) rfl
  have hKc := hK.sub (tys' := [(cy, .long)]) [0] rfl
  have hFc := va_free (wc := [(h0, eE h1 h2 kn), (h1, eR hw1 hc1 hb1 a1 r1), (hw1, eW true), (hc1, eA cy f1), (hb1, eA cy g1), (h2, eR hw2 hc2 hb2 a2 r2), (hw2, eW false), (hc2, eA cy f2), (hb2, eA cy g2), (ho, eO nv sv)]) hD hS hA [0, 1, 2, 3, 4, 5, 6, 7, 8, 9] rfl
  refine va_calli (vx_runSW (As := [.ref h0, .int p1, .int p2, .ref ho]) (rest := []) ⟨hx, hb, hml, hown, hts⟩ (k_L_narrowHash l hfl dC dI cy h0 h1 hw1 hc1 hb1 h2 hw2 hc2 hb2 a1 r1 f1 g1 a2 r2 f2 g2 kn ho nv sv H.size N p1 p2) (vx_cwSW 4 hts gL_law_L_narrowHash rfl rfl rfl (by decide +kernel) ⟨Nat.le_of_ble_eq_true rfl, Nat.le_of_ble_eq_true rfl⟩) (xL.preS hKc hPc hDc hAN (Nat.le_trans hN hS.1) (hG.kept hS hAN) hnc) rfl rfl hl.1 rfl (lv_room (Nat.le_of_ble_eq_true rfl)) dL_law_1994 ⟨(show _ ≤ 989448 by omega), (show _ ≤ 6127760 by omega)⟩) hS (fun q _ h => hFc q h) hFc (fun r_1 u t H locs ht hvm hw hB hz hk hS => ?_)
  replace hw : r_1 = (o_L_narrowHash f2 nv p1 p2).1 := hw
  subst r_1
  obtain ⟨hP1, hD1⟩ := hB
  rw [ht] at hP1
  obtain ⟨hP, hD⟩ := va_join (wr := [(m0, eM m1 m2 th (r1 + r2) kn), (m1, eMR true mc1 a1), (mc1, eA cy f1), (m2, eMR false mc2 a2), (mc2, eA cy f2)]) (w1 := [(h0, eE h1 h2 kn), (h1, eR hw1 hc1 hb1 a1 r1), (hw1, eW true), (hc1, eA cy f1), (hb1, eA cy g1), (h2, eR hw2 hc2 hb2 a2 r2), (hw2, eW false), (hc2, eA cy f2), (hb2, eA cy g2), (ho, eO (o_L_narrowHash f2 nv p1 p2).2 sv)]) hP hD [0, 1, 2, 3, 4, 5, 6, 7, 8, 9] [10, 11, 12, 13, 14] rfl rfl (by decide +kernel) (by decide +kernel) hk hFc hP1 hD1
  have hP := hP.sub (ws' := [(h0, eE h1 h2 kn), (h1, eR hw1 hc1 hb1 a1 r1), (hw1, eW true), (hc1, eA cy f1), (hb1, eA cy g1), (h2, eR hw2 hc2 hb2 a2 r2), (hw2, eW false), (hc2, eA cy f2), (hb2, eA cy g2), (ho, eO (o_L_narrowHash f2 nv p1 p2).2 sv), (m0, eM m1 m2 th (r1 + r2) kn), (m1, eMR true mc1 a1), (mc1, eA cy f1), (m2, eMR false mc2 a2), (mc2, eA cy f2)]) [5, 6, 7, 8, 9, 10, 11, 12, 13, 14, 0, 1, 2, 3, 4] rfl
  have hD := hD.sub (ws' := [(h0, eE h1 h2 kn), (h1, eR hw1 hc1 hb1 a1 r1), (hw1, eW true), (hc1, eA cy f1), (hb1, eA cy g1), (h2, eR hw2 hc2 hb2 a2 r2), (hw2, eW false), (hc2, eA cy f2), (hb2, eA cy g2), (ho, eO (o_L_narrowHash f2 nv p1 p2).2 sv), (m0, eM m1 m2 th (r1 + r2) kn), (m1, eMR true mc1 a1), (mc1, eA cy f1), (m2, eMR false mc2 a2), (mc2, eA cy f2)]) [5, 6, 7, 8, 9, 10, 11, 12, 13, 14, 0, 1, 2, 3, 4] (by decide +kernel) rfl
  refine lv_istore (lv' := [(5, .int ((o_L_narrowHash f2 nv p1 p2).1)), (0, .ref b), (1, .ref h0), (2, .ref m0), (3, .ref ho), (4, .int (nI i))]) hx hb dL_law_1997 hl (by decide +kernel) rfl (fun ls hl => ?_)
  refine lv_aload_n hx hb dL_law_1999 rfl (lv_at hl 3 rfl) ?_
  refine lv_aload_n hx hb dL_law_2000 rfl (lv_at hl 1 rfl) ?_
  refine lv_iload hx hb dL_law_2001 (lv_at hl 5 rfl) ?_
  refine lv_iconst (v := 1) hx hb dL_law_2003 (by decide +kernel) ?_
  refine lv_iadd hx hb dL_law_2004 ?_
  rw [nI_1 i]
  refine xa_sld hx hb hX hbl hbA hS (k := i + 1) (by omega) hL hp1 dL_law_2005 ?_
  refine lv_aload_n hx hb dL_law_2006 rfl (lv_at hl 1 rfl) ?_
  refine lv_iload hx hb dL_law_2007 (lv_at hl 5 rfl) ?_
  refine lv_iconst (v := 2) hx hb dL_law_2009 (by decide +kernel) ?_
  refine lv_iadd hx hb dL_law_2010 ?_
  rw [nI_p2 i]
  refine xa_sld hx hb hX hbl hbA hS (k := i + 2) (by omega) hL hp2 dL_law_2011 ?_
  have hPc := hP.sub (ws' := [(m0, eM m1 m2 th (r1 + r2) kn), (m1, eMR true mc1 a1), (mc1, eA cy f1), (m2, eMR false mc2 a2), (mc2, eA cy f2)]) [10, 11, 12, 13, 14] rfl
  have hDc := hD.sub (ws' := [(m0, eM m1 m2 th (r1 + r2) kn), (m1, eMR true mc1 a1), (mc1, eA cy f1), (m2, eMR false mc2 a2), (mc2, eA cy f2)]) [10, 11, 12, 13, 14] (by decide +kernel) rfl
  have hKc := hK.sub (tys' := [(cy, .long)]) [0] rfl
  have hFc := va_free (wc := [(m0, eM m1 m2 th (r1 + r2) kn), (m1, eMR true mc1 a1), (mc1, eA cy f1), (m2, eMR false mc2 a2), (mc2, eA cy f2)]) hD hS hA [10, 11, 12, 13, 14] rfl
  refine va_calli (va_runV (As := [.int p1, .int p2]) (rest := []) ⟨hx, hb, hml, hown, hts⟩ (k_X5_narrowHash l dC dI cy m0 m1 mc1 m2 mc2 a1 f1 a2 f2 th (r1 + r2) kn H.size N p1 p2) (cwV 2 hts gL_law_X5_narrowHash rfl rfl rfl (by decide +kernel) ⟨Nat.le_of_ble_eq_true rfl, Nat.le_of_ble_eq_true rfl⟩) (xM.preV hKc hPc hDc hAN (Nat.le_trans hN hS.1) (hG.kept hS hAN) (ci := 7) (q0 := 0) rfl rfl) rfl rfl hl.1 rfl (lv_room (Nat.le_of_ble_eq_true rfl)) dL_law_2012 ⟨(show _ ≤ 989448 by omega), (show _ ≤ 6127760 by omega)⟩) hS (fun q _ h => hFc q h) hFc (fun r_2 u t H locs ht hvm hw hB hz hk hS => ?_)
  replace hw : r_2 = (o_X5_narrowHash f2 p1 p2).1 := hw
  subst r_2
  obtain ⟨hP1, hD1⟩ := hB
  rw [ht] at hP1
  obtain ⟨hP, hD⟩ := va_join (wr := [(h0, eE h1 h2 kn), (h1, eR hw1 hc1 hb1 a1 r1), (hw1, eW true), (hc1, eA cy f1), (hb1, eA cy g1), (h2, eR hw2 hc2 hb2 a2 r2), (hw2, eW false), (hc2, eA cy f2), (hb2, eA cy g2), (ho, eO (o_L_narrowHash f2 nv p1 p2).2 sv)]) (w1 := [(m0, eM m1 m2 (o_X5_narrowHash f2 p1 p2).2 (r1 + r2) kn), (m1, eMR true mc1 a1), (mc1, eA cy f1), (m2, eMR false mc2 a2), (mc2, eA cy f2)]) hP hD [10, 11, 12, 13, 14] [0, 1, 2, 3, 4, 5, 6, 7, 8, 9] rfl rfl (by decide +kernel) (by decide +kernel) hk hFc hP1 hD1
  have hP := hP.sub (ws' := [(h0, eE h1 h2 kn), (h1, eR hw1 hc1 hb1 a1 r1), (hw1, eW true), (hc1, eA cy f1), (hb1, eA cy g1), (h2, eR hw2 hc2 hb2 a2 r2), (hw2, eW false), (hc2, eA cy f2), (hb2, eA cy g2), (ho, eO (o_L_narrowHash f2 nv p1 p2).2 sv), (m0, eM m1 m2 (o_X5_narrowHash f2 p1 p2).2 (r1 + r2) kn), (m1, eMR true mc1 a1), (mc1, eA cy f1), (m2, eMR false mc2 a2), (mc2, eA cy f2)]) [0, 1, 2, 3, 4, 5, 6, 7, 8, 9, 10, 11, 12, 13, 14] rfl
  have hD := hD.sub (ws' := [(h0, eE h1 h2 kn), (h1, eR hw1 hc1 hb1 a1 r1), (hw1, eW true), (hc1, eA cy f1), (hb1, eA cy g1), (h2, eR hw2 hc2 hb2 a2 r2), (hw2, eW false), (hc2, eA cy f2), (hb2, eA cy g2), (ho, eO (o_L_narrowHash f2 nv p1 p2).2 sv), (m0, eM m1 m2 (o_X5_narrowHash f2 p1 p2).2 (r1 + r2) kn), (m1, eMR true mc1 a1), (mc1, eA cy f1), (m2, eMR false mc2 a2), (mc2, eA cy f2)]) [0, 1, 2, 3, 4, 5, 6, 7, 8, 9, 10, 11, 12, 13, 14] (by decide +kernel) rfl
  refine lv_istore (lv' := [(6, .int ((o_X5_narrowHash f2 p1 p2).1)), (5, .int ((o_L_narrowHash f2 nv p1 p2).1)), (0, .ref b), (1, .ref h0), (2, .ref m0), (3, .ref ho), (4, .int (nI i))]) hx hb dL_law_2015 hl (by decide +kernel) rfl (fun ls hl => ?_)
  refine lv_goto (tgt := 2240) hx hb dL_law_2017 (by decide +kernel) ?_
  refine W.widen (k := cells + 760) (n := slots + 4500) (by omega) (by omega) ?_
  exact K a1 r1 f1 g1 a2 r2 f2 g2 kn ((o_L_narrowHash f2 nv p1 p2).2) sv ((o_X5_narrowHash f2 p1 p2).2) a1 f1 a2 f2 (r1 + r2) kn _ _ _ rfl rfl rfl rfl rfl rfl hka1 hka2 hP hD hS (lv_sub hl [2, 3, 4, 5, 6] rfl)
set_option maxHeartbeats 4000000 in
set_option maxRecDepth 100000 in
theorem st_41 (l : Launch) (p : Program) (e : Env) (s : State) (m : MethodId) (below : List Frame) (meth : Method) (c : Code) (b L N : Nat) (xs : Nat → Int32) (A : Nat → Prop) (dC : Nat → ClassId) (dI : Nat → Nat → Nat) (cy cB : ClassId) (h0 h1 hw1 hc1 hb1 h2 hw2 hc2 hb2 ho m0 m1 mc1 m2 mc2 : Nat) (C0 : lw_C l p e s m below meth c b L N xs A dC dI cy cB) (i : Nat) (hi : i + 4 ≤ L) (p1 p2 p3 : Int32) (hp1 : xs (i + 1) = p1) (hp2 : xs (i + 2) = p2) (hp3 : xs (i + 3) = p3) (cells slots : Nat) (hcs : cells + 760 ≤ 989448) (hss : slots + 4500 ≤ 6127760) (K : lw_K l p e s m below meth c b L N xs A dC dI cy cB h0 h1 hw1 hc1 hb1 h2 hw2 hc2 hb2 ho m0 m1 mc1 m2 mc2 i (cells + 760) (slots + 4500) 2240) (a1 : Int32) (r1 : Int32) (f1 : Nat → Int64) (g1 : Nat → Int64) (a2 : Int32) (r2 : Int32) (f2 : Nat → Int64) (g2 : Nat → Int64) (kn : Int32) (nv : Int64) (sv : Value) (th : Int32) (H : Heap) (locs : List Loc) (ls : Array Slot) (hka1 : okA true f1) (hka2 : okA false f2) (hP : va_P (dC, dI) xCl [(h0, eE h1 h2 kn), (h1, eR hw1 hc1 hb1 a1 r1), (hw1, eW true), (hc1, eA cy f1), (hb1, eA cy g1), (h2, eR hw2 hc2 hb2 a2 r2), (hw2, eW false), (hc2, eA cy f2), (hb2, eA cy g2), (ho, eO nv sv), (m0, eM m1 m2 th (r1 + r2) kn), (m1, eMR true mc1 a1), (mc1, eA cy f1), (m2, eMR false mc2 a2), (mc2, eA cy f2)] H) (hD : va_D A [(h0, eE h1 h2 kn), (h1, eR hw1 hc1 hb1 a1 r1), (hw1, eW true), (hc1, eA cy f1), (hb1, eA cy g1), (h2, eR hw2 hc2 hb2 a2 r2), (hw2, eW false), (hc2, eA cy f2), (hb2, eA cy g2), (ho, eO nv sv), (m0, eM m1 m2 th (r1 + r2) kn), (m1, eMR true mc1 a1), (mc1, eA cy f1), (m2, eMR false mc2 a2), (mc2, eA cy f2)]) (hS : va_S A s.heap H locs) (hl : lv_has ls 7 [(0, .ref b), (1, .ref h0), (2, .ref m0), (3, .ref ho), (4, .int (nI i))]) : W p l e room_1 s m #[Value.ref b] below meth c H locs cells slots (lw_Z below #[Value.ref b] s) (F0 m 2020 ls []) := by
  obtain ⟨hfl, hx, hb, hr, hml, hown, hts, hX, hbl, hbA, hlocks, hK, hG, hnc, hA, hAN, hN, hL, hT, hNs⟩ := id C0
  have hok2 := me_okF hka2
  have hsp1 : ∀ k, k < 8 → o_X1_isSpoiled true (f1 k) = false := fun k hk => (hka1 k hk).2
  have hsp2 : ∀ k, k < 8 → o_X1_isSpoiled false (f2 k) = false := fun k hk => (hka2 k hk).2
  refine lv_aload_n hx hb dL_law_2020 rfl (lv_at hl 1 rfl) ?_
  refine lv_aload_n hx hb dL_law_2021 rfl (lv_at hl 0 rfl) ?_
  refine lv_iload hx hb dL_law_2022 (lv_at hl 4 rfl) ?_
  refine lv_iconst (v := 1) hx hb dL_law_2024 (by decide +kernel) ?_
  refine lv_iadd hx hb dL_law_2025 ?_
  rw [nI_1 i]
  refine xa_sld hx hb hX hbl hbA hS (k := i + 1) (by omega) hL hp1 dL_law_2026 ?_
  refine lv_aload_n hx hb dL_law_2027 rfl (lv_at hl 0 rfl) ?_
  refine lv_iload hx hb dL_law_2028 (lv_at hl 4 rfl) ?_
  refine lv_iconst (v := 2) hx hb dL_law_2030 (by decide +kernel) ?_
  refine lv_iadd hx hb dL_law_2031 ?_
  rw [nI_p2 i]
  refine xa_sld hx hb hX hbl hbA hS (k := i + 2) (by omega) hL hp2 dL_law_2032 ?_
  refine lv_aload_n hx hb dL_law_2033 rfl (lv_at hl 3 rfl) ?_
  have hPc := hP.sub (ws' := [(h0, eE h1 h2 kn), (h1, eR hw1 hc1 hb1 a1 r1), (hw1, eW true), (hc1, eA cy f1), (hb1, eA cy g1), (h2, eR hw2 hc2 hb2 a2 r2), (hw2, eW false), (hc2, eA cy f2), (hb2, eA cy g2), (ho, eO nv sv)]) [0, 1, 2, 3, 4, 5, 6, 7, 8, 9] rfl
  have hDc := hD.sub (ws' := [(h0, eE h1 h2 kn), (h1, eR hw1 hc1 hb1 a1 r1), (hw1, eW true), (hc1, eA cy f1), (hb1, eA cy g1), (h2, eR hw2 hc2 hb2 a2 r2), (hw2, eW false), (hc2, eA cy f2), (hb2, eA cy g2), (ho, eO nv sv)]) [0, 1, 2, 3, 4, 5, 6, 7, 8, 9] (by decide +kernel) rfl
  have hKc := hK.sub (tys' := [(cy, .long)]) [0] rfl
  have hFc := va_free (wc := [(h0, eE h1 h2 kn), (h1, eR hw1 hc1 hb1 a1 r1), (hw1, eW true), (hc1, eA cy f1), (hb1, eA cy g1), (h2, eR hw2 hc2 hb2 a2 r2), (hw2, eW false), (hc2, eA cy f2), (hb2, eA cy g2), (ho, eO nv sv)]) hD hS hA [0, 1, 2, 3, 4, 5, 6, 7, 8, 9] rfl
  refine va_calli (vx_runSW (As := [.ref h0, .int p1, .int p2, .ref ho]) (rest := []) ⟨hx, hb, hml, hown, hts⟩ (k_L_narrowEndless l hfl dC dI cy h0 h1 hw1 hc1 hb1 h2 hw2 hc2 hb2 a1 r1 f1 g1 a2 r2 f2 g2 kn ho nv sv H.size N p1 p2) (vx_cwSW 4 hts gL_law_L_narrowEndless rfl rfl rfl (by decide +kernel) ⟨Nat.le_of_ble_eq_true rfl, Nat.le_of_ble_eq_true rfl⟩) (xL.preS hKc hPc hDc hAN (Nat.le_trans hN hS.1) (hG.kept hS hAN) hnc) rfl rfl hl.1 rfl (lv_room (Nat.le_of_ble_eq_true rfl)) dL_law_2034 ⟨(show _ ≤ 989448 by omega), (show _ ≤ 6127760 by omega)⟩) hS (fun q _ h => hFc q h) hFc (fun r_1 u t H locs ht hvm hw hB hz hk hS => ?_)
  replace hw : r_1 = (o_L_narrowEndless f2 nv p1 p2).1 := hw
  subst r_1
  obtain ⟨hP1, hD1⟩ := hB
  rw [ht] at hP1
  obtain ⟨hP, hD⟩ := va_join (wr := [(m0, eM m1 m2 th (r1 + r2) kn), (m1, eMR true mc1 a1), (mc1, eA cy f1), (m2, eMR false mc2 a2), (mc2, eA cy f2)]) (w1 := [(h0, eE h1 h2 kn), (h1, eR hw1 hc1 hb1 a1 r1), (hw1, eW true), (hc1, eA cy f1), (hb1, eA cy g1), (h2, eR hw2 hc2 hb2 a2 r2), (hw2, eW false), (hc2, eA cy f2), (hb2, eA cy g2), (ho, eO (o_L_narrowEndless f2 nv p1 p2).2 sv)]) hP hD [0, 1, 2, 3, 4, 5, 6, 7, 8, 9] [10, 11, 12, 13, 14] rfl rfl (by decide +kernel) (by decide +kernel) hk hFc hP1 hD1
  have hP := hP.sub (ws' := [(h0, eE h1 h2 kn), (h1, eR hw1 hc1 hb1 a1 r1), (hw1, eW true), (hc1, eA cy f1), (hb1, eA cy g1), (h2, eR hw2 hc2 hb2 a2 r2), (hw2, eW false), (hc2, eA cy f2), (hb2, eA cy g2), (ho, eO (o_L_narrowEndless f2 nv p1 p2).2 sv), (m0, eM m1 m2 th (r1 + r2) kn), (m1, eMR true mc1 a1), (mc1, eA cy f1), (m2, eMR false mc2 a2), (mc2, eA cy f2)]) [5, 6, 7, 8, 9, 10, 11, 12, 13, 14, 0, 1, 2, 3, 4] rfl
  have hD := hD.sub (ws' := [(h0, eE h1 h2 kn), (h1, eR hw1 hc1 hb1 a1 r1), (hw1, eW true), (hc1, eA cy f1), (hb1, eA cy g1), (h2, eR hw2 hc2 hb2 a2 r2), (hw2, eW false), (hc2, eA cy f2), (hb2, eA cy g2), (ho, eO (o_L_narrowEndless f2 nv p1 p2).2 sv), (m0, eM m1 m2 th (r1 + r2) kn), (m1, eMR true mc1 a1), (mc1, eA cy f1), (m2, eMR false mc2 a2), (mc2, eA cy f2)]) [5, 6, 7, 8, 9, 10, 11, 12, 13, 14, 0, 1, 2, 3, 4] (by decide +kernel) rfl
  refine lv_istore (lv' := [(5, .int ((o_L_narrowEndless f2 nv p1 p2).1)), (0, .ref b), (1, .ref h0), (2, .ref m0), (3, .ref ho), (4, .int (nI i))]) hx hb dL_law_2037 hl (by decide +kernel) rfl (fun ls hl => ?_)
  refine lv_aload_n hx hb dL_law_2039 rfl (lv_at hl 3 rfl) ?_
  refine lv_aload_n hx hb dL_law_2040 rfl (lv_at hl 1 rfl) ?_
  refine lv_iload hx hb dL_law_2041 (lv_at hl 5 rfl) ?_
  refine lv_iconst (v := 1) hx hb dL_law_2043 (by decide +kernel) ?_
  refine lv_iadd hx hb dL_law_2044 ?_
  rw [nI_1 i]
  refine xa_sld hx hb hX hbl hbA hS (k := i + 1) (by omega) hL hp1 dL_law_2045 ?_
  refine lv_aload_n hx hb dL_law_2046 rfl (lv_at hl 1 rfl) ?_
  refine lv_iload hx hb dL_law_2047 (lv_at hl 5 rfl) ?_
  refine lv_iconst (v := 2) hx hb dL_law_2049 (by decide +kernel) ?_
  refine lv_iadd hx hb dL_law_2050 ?_
  rw [nI_p2 i]
  refine xa_sld hx hb hX hbl hbA hS (k := i + 2) (by omega) hL hp2 dL_law_2051 ?_
  have hPc := hP.sub (ws' := [(m0, eM m1 m2 th (r1 + r2) kn), (m1, eMR true mc1 a1), (mc1, eA cy f1), (m2, eMR false mc2 a2), (mc2, eA cy f2)]) [10, 11, 12, 13, 14] rfl
  have hDc := hD.sub (ws' := [(m0, eM m1 m2 th (r1 + r2) kn), (m1, eMR true mc1 a1), (mc1, eA cy f1), (m2, eMR false mc2 a2), (mc2, eA cy f2)]) [10, 11, 12, 13, 14] (by decide +kernel) rfl
  have hKc := hK.sub (tys' := [(cy, .long)]) [0] rfl
  have hFc := va_free (wc := [(m0, eM m1 m2 th (r1 + r2) kn), (m1, eMR true mc1 a1), (mc1, eA cy f1), (m2, eMR false mc2 a2), (mc2, eA cy f2)]) hD hS hA [10, 11, 12, 13, 14] rfl
  refine va_calli (va_runV (As := [.int p1, .int p2]) (rest := []) ⟨hx, hb, hml, hown, hts⟩ (k_X5_narrowEndless l dC dI cy m0 m1 mc1 m2 mc2 a1 f1 a2 f2 th (r1 + r2) kn H.size N p1 p2) (cwV 2 hts gL_law_X5_narrowEndless rfl rfl rfl (by decide +kernel) ⟨Nat.le_of_ble_eq_true rfl, Nat.le_of_ble_eq_true rfl⟩) (xM.preV hKc hPc hDc hAN (Nat.le_trans hN hS.1) (hG.kept hS hAN) (ci := 7) (q0 := 0) rfl rfl) rfl rfl hl.1 rfl (lv_room (Nat.le_of_ble_eq_true rfl)) dL_law_2052 ⟨(show _ ≤ 989448 by omega), (show _ ≤ 6127760 by omega)⟩) hS (fun q _ h => hFc q h) hFc (fun r_2 u t H locs ht hvm hw hB hz hk hS => ?_)
  replace hw : r_2 = b2i ((o_X5_narrowEndless f2 p1 p2).1) := hw
  subst r_2
  obtain ⟨hP1, hD1⟩ := hB
  rw [ht] at hP1
  obtain ⟨hP, hD⟩ := va_join (wr := [(h0, eE h1 h2 kn), (h1, eR hw1 hc1 hb1 a1 r1), (hw1, eW true), (hc1, eA cy f1), (hb1, eA cy g1), (h2, eR hw2 hc2 hb2 a2 r2), (hw2, eW false), (hc2, eA cy f2), (hb2, eA cy g2), (ho, eO (o_L_narrowEndless f2 nv p1 p2).2 sv)]) (w1 := [(m0, eM m1 m2 (o_X5_narrowEndless f2 p1 p2).2 (r1 + r2) kn), (m1, eMR true mc1 a1), (mc1, eA cy f1), (m2, eMR false mc2 a2), (mc2, eA cy f2)]) hP hD [10, 11, 12, 13, 14] [0, 1, 2, 3, 4, 5, 6, 7, 8, 9] rfl rfl (by decide +kernel) (by decide +kernel) hk hFc hP1 hD1
  have hP := hP.sub (ws' := [(h0, eE h1 h2 kn), (h1, eR hw1 hc1 hb1 a1 r1), (hw1, eW true), (hc1, eA cy f1), (hb1, eA cy g1), (h2, eR hw2 hc2 hb2 a2 r2), (hw2, eW false), (hc2, eA cy f2), (hb2, eA cy g2), (ho, eO (o_L_narrowEndless f2 nv p1 p2).2 sv), (m0, eM m1 m2 (o_X5_narrowEndless f2 p1 p2).2 (r1 + r2) kn), (m1, eMR true mc1 a1), (mc1, eA cy f1), (m2, eMR false mc2 a2), (mc2, eA cy f2)]) [0, 1, 2, 3, 4, 5, 6, 7, 8, 9, 10, 11, 12, 13, 14] rfl
  have hD := hD.sub (ws' := [(h0, eE h1 h2 kn), (h1, eR hw1 hc1 hb1 a1 r1), (hw1, eW true), (hc1, eA cy f1), (hb1, eA cy g1), (h2, eR hw2 hc2 hb2 a2 r2), (hw2, eW false), (hc2, eA cy f2), (hb2, eA cy g2), (ho, eO (o_L_narrowEndless f2 nv p1 p2).2 sv), (m0, eM m1 m2 (o_X5_narrowEndless f2 p1 p2).2 (r1 + r2) kn), (m1, eMR true mc1 a1), (mc1, eA cy f1), (m2, eMR false mc2 a2), (mc2, eA cy f2)]) [0, 1, 2, 3, 4, 5, 6, 7, 8, 9, 10, 11, 12, 13, 14] (by decide +kernel) rfl
  refine lv_istore (lv' := [(6, .int (b2i ((o_X5_narrowEndless f2 p1 p2).1))), (5, .int ((o_L_narrowEndless f2 nv p1 p2).1)), (0, .ref b), (1, .ref h0), (2, .ref m0), (3, .ref ho), (4, .int (nI i))]) hx hb dL_law_2055 hl (by decide +kernel) rfl (fun ls hl => ?_)
  refine lv_goto (tgt := 2240) hx hb dL_law_2057 (by decide +kernel) ?_
  refine W.widen (k := cells + 760) (n := slots + 4500) (by omega) (by omega) ?_
  exact K a1 r1 f1 g1 a2 r2 f2 g2 kn ((o_L_narrowEndless f2 nv p1 p2).2) sv ((o_X5_narrowEndless f2 p1 p2).2) a1 f1 a2 f2 (r1 + r2) kn _ _ _ rfl rfl rfl rfl rfl rfl hka1 hka2 hP hD hS (lv_sub hl [2, 3, 4, 5, 6] rfl)
set_option maxHeartbeats 4000000 in
set_option maxRecDepth 100000 in
theorem st_42 (l : Launch) (p : Program) (e : Env) (s : State) (m : MethodId) (below : List Frame) (meth : Method) (c : Code) (b L N : Nat) (xs : Nat → Int32) (A : Nat → Prop) (dC : Nat → ClassId) (dI : Nat → Nat → Nat) (cy cB : ClassId) (h0 h1 hw1 hc1 hb1 h2 hw2 hc2 hb2 ho m0 m1 mc1 m2 mc2 : Nat) (C0 : lw_C l p e s m below meth c b L N xs A dC dI cy cB) (i : Nat) (hi : i + 4 ≤ L) (p1 p2 p3 : Int32) (hp1 : xs (i + 1) = p1) (hp2 : xs (i + 2) = p2) (hp3 : xs (i + 3) = p3) (cells slots : Nat) (hcs : cells + 760 ≤ 989448) (hss : slots + 4500 ≤ 6127760) (K : lw_K l p e s m below meth c b L N xs A dC dI cy cB h0 h1 hw1 hc1 hb1 h2 hw2 hc2 hb2 ho m0 m1 mc1 m2 mc2 i (cells + 760) (slots + 4500) 2240) (a1 : Int32) (r1 : Int32) (f1 : Nat → Int64) (g1 : Nat → Int64) (a2 : Int32) (r2 : Int32) (f2 : Nat → Int64) (g2 : Nat → Int64) (kn : Int32) (nv : Int64) (sv : Value) (th : Int32) (H : Heap) (locs : List Loc) (ls : Array Slot) (hka1 : okA true f1) (hka2 : okA false f2) (hP : va_P (dC, dI) xCl [(h0, eE h1 h2 kn), (h1, eR hw1 hc1 hb1 a1 r1), (hw1, eW true), (hc1, eA cy f1), (hb1, eA cy g1), (h2, eR hw2 hc2 hb2 a2 r2), (hw2, eW false), (hc2, eA cy f2), (hb2, eA cy g2), (ho, eO nv sv), (m0, eM m1 m2 th (r1 + r2) kn), (m1, eMR true mc1 a1), (mc1, eA cy f1), (m2, eMR false mc2 a2), (mc2, eA cy f2)] H) (hD : va_D A [(h0, eE h1 h2 kn), (h1, eR hw1 hc1 hb1 a1 r1), (hw1, eW true), (hc1, eA cy f1), (hb1, eA cy g1), (h2, eR hw2 hc2 hb2 a2 r2), (hw2, eW false), (hc2, eA cy f2), (hb2, eA cy g2), (ho, eO nv sv), (m0, eM m1 m2 th (r1 + r2) kn), (m1, eMR true mc1 a1), (mc1, eA cy f1), (m2, eMR false mc2 a2), (mc2, eA cy f2)]) (hS : va_S A s.heap H locs) (hl : lv_has ls 7 [(0, .ref b), (1, .ref h0), (2, .ref m0), (3, .ref ho), (4, .int (nI i))]) : W p l e room_1 s m #[Value.ref b] below meth c H locs cells slots (lw_Z below #[Value.ref b] s) (F0 m 2060 ls []) := by
  obtain ⟨hfl, hx, hb, hr, hml, hown, hts, hX, hbl, hbA, hlocks, hK, hG, hnc, hA, hAN, hN, hL, hT, hNs⟩ := id C0
  have hok2 := me_okF hka2
  have hsp1 : ∀ k, k < 8 → o_X1_isSpoiled true (f1 k) = false := fun k hk => (hka1 k hk).2
  have hsp2 : ∀ k, k < 8 → o_X1_isSpoiled false (f2 k) = false := fun k hk => (hka2 k hk).2
  refine lv_aload_n hx hb dL_law_2060 rfl (lv_at hl 1 rfl) ?_
  refine lv_aload_n hx hb dL_law_2061 rfl (lv_at hl 0 rfl) ?_
  refine lv_iload hx hb dL_law_2062 (lv_at hl 4 rfl) ?_
  refine lv_iconst (v := 1) hx hb dL_law_2064 (by decide +kernel) ?_
  refine lv_iadd hx hb dL_law_2065 ?_
  rw [nI_1 i]
  refine xa_sld hx hb hX hbl hbA hS (k := i + 1) (by omega) hL hp1 dL_law_2066 ?_
  refine lv_aload_n hx hb dL_law_2067 rfl (lv_at hl 3 rfl) ?_
  have hPc := hP.sub (ws' := [(h0, eE h1 h2 kn), (h1, eR hw1 hc1 hb1 a1 r1), (hw1, eW true), (hc1, eA cy f1), (hb1, eA cy g1), (h2, eR hw2 hc2 hb2 a2 r2), (hw2, eW false), (hc2, eA cy f2), (hb2, eA cy g2), (ho, eO nv sv)]) [0, 1, 2, 3, 4, 5, 6, 7, 8, 9] rfl
  have hDc := hD.sub (ws' := [(h0, eE h1 h2 kn), (h1, eR hw1 hc1 hb1 a1 r1), (hw1, eW true), (hc1, eA cy f1), (hb1, eA cy g1), (h2, eR hw2 hc2 hb2 a2 r2), (hw2, eW false), (hc2, eA cy f2), (hb2, eA cy g2), (ho, eO nv sv)]) [0, 1, 2, 3, 4, 5, 6, 7, 8, 9] (by decide +kernel) rfl
  have hKc := hK.sub (tys' := [(cy, .long)]) [0] rfl
  have hFc := va_free (wc := [(h0, eE h1 h2 kn), (h1, eR hw1 hc1 hb1 a1 r1), (hw1, eW true), (hc1, eA cy f1), (hb1, eA cy g1), (h2, eR hw2 hc2 hb2 a2 r2), (hw2, eW false), (hc2, eA cy f2), (hb2, eA cy g2), (ho, eO nv sv)]) hD hS hA [0, 1, 2, 3, 4, 5, 6, 7, 8, 9] rfl
  refine va_calli (vx_runSW (As := [.ref h0, .int p1, .ref ho]) (rest := []) ⟨hx, hb, hml, hown, hts⟩ (k_L_narrowCount l hfl dC dI cy h0 h1 hw1 hc1 hb1 h2 hw2 hc2 hb2 a1 r1 f1 g1 a2 r2 f2 g2 kn ho nv sv H.size N p1) (vx_cwSW 3 hts gL_law_L_narrowCount rfl rfl rfl (by decide +kernel) ⟨Nat.le_of_ble_eq_true rfl, Nat.le_of_ble_eq_true rfl⟩) (xL.preS hKc hPc hDc hAN (Nat.le_trans hN hS.1) (hG.kept hS hAN) hnc) rfl rfl hl.1 rfl (lv_room (Nat.le_of_ble_eq_true rfl)) dL_law_2068 ⟨(show _ ≤ 989448 by omega), (show _ ≤ 6127760 by omega)⟩) hS (fun q _ h => hFc q h) hFc (fun r_1 u t H locs ht hvm hw hB hz hk hS => ?_)
  replace hw : r_1 = (o_L_narrowCount f2 nv p1).1 := hw
  subst r_1
  obtain ⟨hP1, hD1⟩ := hB
  rw [ht] at hP1
  obtain ⟨hP, hD⟩ := va_join (wr := [(m0, eM m1 m2 th (r1 + r2) kn), (m1, eMR true mc1 a1), (mc1, eA cy f1), (m2, eMR false mc2 a2), (mc2, eA cy f2)]) (w1 := [(h0, eE h1 h2 kn), (h1, eR hw1 hc1 hb1 a1 r1), (hw1, eW true), (hc1, eA cy f1), (hb1, eA cy g1), (h2, eR hw2 hc2 hb2 a2 r2), (hw2, eW false), (hc2, eA cy f2), (hb2, eA cy g2), (ho, eO (o_L_narrowCount f2 nv p1).2 sv)]) hP hD [0, 1, 2, 3, 4, 5, 6, 7, 8, 9] [10, 11, 12, 13, 14] rfl rfl (by decide +kernel) (by decide +kernel) hk hFc hP1 hD1
  have hP := hP.sub (ws' := [(h0, eE h1 h2 kn), (h1, eR hw1 hc1 hb1 a1 r1), (hw1, eW true), (hc1, eA cy f1), (hb1, eA cy g1), (h2, eR hw2 hc2 hb2 a2 r2), (hw2, eW false), (hc2, eA cy f2), (hb2, eA cy g2), (ho, eO (o_L_narrowCount f2 nv p1).2 sv), (m0, eM m1 m2 th (r1 + r2) kn), (m1, eMR true mc1 a1), (mc1, eA cy f1), (m2, eMR false mc2 a2), (mc2, eA cy f2)]) [5, 6, 7, 8, 9, 10, 11, 12, 13, 14, 0, 1, 2, 3, 4] rfl
  have hD := hD.sub (ws' := [(h0, eE h1 h2 kn), (h1, eR hw1 hc1 hb1 a1 r1), (hw1, eW true), (hc1, eA cy f1), (hb1, eA cy g1), (h2, eR hw2 hc2 hb2 a2 r2), (hw2, eW false), (hc2, eA cy f2), (hb2, eA cy g2), (ho, eO (o_L_narrowCount f2 nv p1).2 sv), (m0, eM m1 m2 th (r1 + r2) kn), (m1, eMR true mc1 a1), (mc1, eA cy f1), (m2, eMR false mc2 a2), (mc2, eA cy f2)]) [5, 6, 7, 8, 9, 10, 11, 12, 13, 14, 0, 1, 2, 3, 4] (by decide +kernel) rfl
  refine lv_istore (lv' := [(5, .int ((o_L_narrowCount f2 nv p1).1)), (0, .ref b), (1, .ref h0), (2, .ref m0), (3, .ref ho), (4, .int (nI i))]) hx hb dL_law_2071 hl (by decide +kernel) rfl (fun ls hl => ?_)
  refine lv_aload_n hx hb dL_law_2073 rfl (lv_at hl 3 rfl) ?_
  refine lv_aload_n hx hb dL_law_2074 rfl (lv_at hl 1 rfl) ?_
  refine lv_iload hx hb dL_law_2075 (lv_at hl 5 rfl) ?_
  refine lv_iconst (v := 1) hx hb dL_law_2077 (by decide +kernel) ?_
  refine lv_iadd hx hb dL_law_2078 ?_
  rw [nI_1 i]
  refine xa_sld hx hb hX hbl hbA hS (k := i + 1) (by omega) hL hp1 dL_law_2079 ?_
  have hPc := hP.sub (ws' := [(m0, eM m1 m2 th (r1 + r2) kn), (m1, eMR true mc1 a1), (mc1, eA cy f1), (m2, eMR false mc2 a2), (mc2, eA cy f2)]) [10, 11, 12, 13, 14] rfl
  have hDc := hD.sub (ws' := [(m0, eM m1 m2 th (r1 + r2) kn), (m1, eMR true mc1 a1), (mc1, eA cy f1), (m2, eMR false mc2 a2), (mc2, eA cy f2)]) [10, 11, 12, 13, 14] (by decide +kernel) rfl
  have hKc := hK.sub (tys' := [(cy, .long)]) [0] rfl
  have hFc := va_free (wc := [(m0, eM m1 m2 th (r1 + r2) kn), (m1, eMR true mc1 a1), (mc1, eA cy f1), (m2, eMR false mc2 a2), (mc2, eA cy f2)]) hD hS hA [10, 11, 12, 13, 14] rfl
  refine va_calli (va_runV (As := [.int p1]) (rest := []) ⟨hx, hb, hml, hown, hts⟩ (k_X5_narrowCount l dC dI cy m0 m1 mc1 m2 mc2 a1 f1 a2 f2 th (r1 + r2) kn H.size N p1 hok2) (cwV 1 hts gL_law_X5_narrowCount rfl rfl rfl (by decide +kernel) ⟨Nat.le_of_ble_eq_true rfl, Nat.le_of_ble_eq_true rfl⟩) (xM.preV hKc hPc hDc hAN (Nat.le_trans hN hS.1) (hG.kept hS hAN) (ci := 7) (q0 := 0) rfl rfl) rfl rfl hl.1 rfl (lv_room (Nat.le_of_ble_eq_true rfl)) dL_law_2080 ⟨(show _ ≤ 989448 by omega), (show _ ≤ 6127760 by omega)⟩) hS (fun q _ h => hFc q h) hFc (fun r_2 u t H locs ht hvm hw hB hz hk hS => ?_)
  replace hw : r_2 = (o_X5_narrowCount f2 p1).1 := hw
  subst r_2
  obtain ⟨hP1, hD1⟩ := hB
  rw [ht] at hP1
  obtain ⟨hP, hD⟩ := va_join (wr := [(h0, eE h1 h2 kn), (h1, eR hw1 hc1 hb1 a1 r1), (hw1, eW true), (hc1, eA cy f1), (hb1, eA cy g1), (h2, eR hw2 hc2 hb2 a2 r2), (hw2, eW false), (hc2, eA cy f2), (hb2, eA cy g2), (ho, eO (o_L_narrowCount f2 nv p1).2 sv)]) (w1 := [(m0, eM m1 m2 (o_X5_narrowCount f2 p1).2 (r1 + r2) kn), (m1, eMR true mc1 a1), (mc1, eA cy f1), (m2, eMR false mc2 a2), (mc2, eA cy f2)]) hP hD [10, 11, 12, 13, 14] [0, 1, 2, 3, 4, 5, 6, 7, 8, 9] rfl rfl (by decide +kernel) (by decide +kernel) hk hFc hP1 hD1
  have hP := hP.sub (ws' := [(h0, eE h1 h2 kn), (h1, eR hw1 hc1 hb1 a1 r1), (hw1, eW true), (hc1, eA cy f1), (hb1, eA cy g1), (h2, eR hw2 hc2 hb2 a2 r2), (hw2, eW false), (hc2, eA cy f2), (hb2, eA cy g2), (ho, eO (o_L_narrowCount f2 nv p1).2 sv), (m0, eM m1 m2 (o_X5_narrowCount f2 p1).2 (r1 + r2) kn), (m1, eMR true mc1 a1), (mc1, eA cy f1), (m2, eMR false mc2 a2), (mc2, eA cy f2)]) [0, 1, 2, 3, 4, 5, 6, 7, 8, 9, 10, 11, 12, 13, 14] rfl
  have hD := hD.sub (ws' := [(h0, eE h1 h2 kn), (h1, eR hw1 hc1 hb1 a1 r1), (hw1, eW true), (hc1, eA cy f1), (hb1, eA cy g1), (h2, eR hw2 hc2 hb2 a2 r2), (hw2, eW false), (hc2, eA cy f2), (hb2, eA cy g2), (ho, eO (o_L_narrowCount f2 nv p1).2 sv), (m0, eM m1 m2 (o_X5_narrowCount f2 p1).2 (r1 + r2) kn), (m1, eMR true mc1 a1), (mc1, eA cy f1), (m2, eMR false mc2 a2), (mc2, eA cy f2)]) [0, 1, 2, 3, 4, 5, 6, 7, 8, 9, 10, 11, 12, 13, 14] (by decide +kernel) rfl
  refine lv_istore (lv' := [(6, .int ((o_X5_narrowCount f2 p1).1)), (5, .int ((o_L_narrowCount f2 nv p1).1)), (0, .ref b), (1, .ref h0), (2, .ref m0), (3, .ref ho), (4, .int (nI i))]) hx hb dL_law_2083 hl (by decide +kernel) rfl (fun ls hl => ?_)
  refine lv_goto (tgt := 2240) hx hb dL_law_2085 (by decide +kernel) ?_
  refine W.widen (k := cells + 760) (n := slots + 4500) (by omega) (by omega) ?_
  exact K a1 r1 f1 g1 a2 r2 f2 g2 kn ((o_L_narrowCount f2 nv p1).2) sv ((o_X5_narrowCount f2 p1).2) a1 f1 a2 f2 (r1 + r2) kn _ _ _ rfl rfl rfl rfl rfl rfl hka1 hka2 hP hD hS (lv_sub hl [2, 3, 4, 5, 6] rfl)
set_option maxHeartbeats 4000000 in
set_option maxRecDepth 100000 in
theorem st_43 (l : Launch) (p : Program) (e : Env) (s : State) (m : MethodId) (below : List Frame) (meth : Method) (c : Code) (b L N : Nat) (xs : Nat → Int32) (A : Nat → Prop) (dC : Nat → ClassId) (dI : Nat → Nat → Nat) (cy cB : ClassId) (h0 h1 hw1 hc1 hb1 h2 hw2 hc2 hb2 ho m0 m1 mc1 m2 mc2 : Nat) (C0 : lw_C l p e s m below meth c b L N xs A dC dI cy cB) (i : Nat) (hi : i + 4 ≤ L) (p1 p2 p3 : Int32) (hp1 : xs (i + 1) = p1) (hp2 : xs (i + 2) = p2) (hp3 : xs (i + 3) = p3) (cells slots : Nat) (hcs : cells + 760 ≤ 989448) (hss : slots + 4500 ≤ 6127760) (K : lw_K l p e s m below meth c b L N xs A dC dI cy cB h0 h1 hw1 hc1 hb1 h2 hw2 hc2 hb2 ho m0 m1 mc1 m2 mc2 i (cells + 760) (slots + 4500) 2240) (a1 : Int32) (r1 : Int32) (f1 : Nat → Int64) (g1 : Nat → Int64) (a2 : Int32) (r2 : Int32) (f2 : Nat → Int64) (g2 : Nat → Int64) (kn : Int32) (nv : Int64) (sv : Value) (th : Int32) (H : Heap) (locs : List Loc) (ls : Array Slot) (hka1 : okA true f1) (hka2 : okA false f2) (hP : va_P (dC, dI) xCl [(h0, eE h1 h2 kn), (h1, eR hw1 hc1 hb1 a1 r1), (hw1, eW true), (hc1, eA cy f1), (hb1, eA cy g1), (h2, eR hw2 hc2 hb2 a2 r2), (hw2, eW false), (hc2, eA cy f2), (hb2, eA cy g2), (ho, eO nv sv), (m0, eM m1 m2 th (r1 + r2) kn), (m1, eMR true mc1 a1), (mc1, eA cy f1), (m2, eMR false mc2 a2), (mc2, eA cy f2)] H) (hD : va_D A [(h0, eE h1 h2 kn), (h1, eR hw1 hc1 hb1 a1 r1), (hw1, eW true), (hc1, eA cy f1), (hb1, eA cy g1), (h2, eR hw2 hc2 hb2 a2 r2), (hw2, eW false), (hc2, eA cy f2), (hb2, eA cy g2), (ho, eO nv sv), (m0, eM m1 m2 th (r1 + r2) kn), (m1, eMR true mc1 a1), (mc1, eA cy f1), (m2, eMR false mc2 a2), (mc2, eA cy f2)]) (hS : va_S A s.heap H locs) (hl : lv_has ls 7 [(0, .ref b), (1, .ref h0), (2, .ref m0), (3, .ref ho), (4, .int (nI i))]) : W p l e room_1 s m #[Value.ref b] below meth c H locs cells slots (lw_Z below #[Value.ref b] s) (F0 m 2088 ls []) := by
  obtain ⟨hfl, hx, hb, hr, hml, hown, hts, hX, hbl, hbA, hlocks, hK, hG, hnc, hA, hAN, hN, hL, hT, hNs⟩ := id C0
  have hok2 := me_okF hka2
  have hsp1 : ∀ k, k < 8 → o_X1_isSpoiled true (f1 k) = false := fun k hk => (hka1 k hk).2
  have hsp2 : ∀ k, k < 8 → o_X1_isSpoiled false (f2 k) = false := fun k hk => (hka2 k hk).2
  refine lv_aload_n hx hb dL_law_2088 rfl (lv_at hl 1 rfl) ?_
  refine lv_aload_n hx hb dL_law_2089 rfl (lv_at hl 0 rfl) ?_
  refine lv_iload hx hb dL_law_2090 (lv_at hl 4 rfl) ?_
  refine lv_iconst (v := 1) hx hb dL_law_2092 (by decide +kernel) ?_
  refine lv_iadd hx hb dL_law_2093 ?_
  rw [nI_1 i]
  refine xa_sld hx hb hX hbl hbA hS (k := i + 1) (by omega) hL hp1 dL_law_2094 ?_
  refine lv_aload_n hx hb dL_law_2095 rfl (lv_at hl 0 rfl) ?_
  refine lv_iload hx hb dL_law_2096 (lv_at hl 4 rfl) ?_
  refine lv_iconst (v := 2) hx hb dL_law_2098 (by decide +kernel) ?_
  refine lv_iadd hx hb dL_law_2099 ?_
  rw [nI_p2 i]
  refine xa_sld hx hb hX hbl hbA hS (k := i + 2) (by omega) hL hp2 dL_law_2100 ?_
  refine lv_if_eq (tgt := 2108) hx hb dL_law_2101 (by decide +kernel) (fun c_1 => ?_) (fun c_1 => ?_)
  · skip
    refine lv_iconst (v := 0) hx hb dL_law_2108 (by decide +kernel) ?_
    refine lv_aload_n hx hb dL_law_2109 rfl (lv_at hl 3 rfl) ?_
    have hPc := hP.sub (ws' := [(h0, eE h1 h2 kn), (h1, eR hw1 hc1 hb1 a1 r1), (hw1, eW true), (hc1, eA cy f1), (hb1, eA cy g1), (h2, eR hw2 hc2 hb2 a2 r2), (hw2, eW false), (hc2, eA cy f2), (hb2, eA cy g2), (ho, eO nv sv)]) [0, 1, 2, 3, 4, 5, 6, 7, 8, 9] rfl
    have hDc := hD.sub (ws' := [(h0, eE h1 h2 kn), (h1, eR hw1 hc1 hb1 a1 r1), (hw1, eW true), (hc1, eA cy f1), (hb1, eA cy g1), (h2, eR hw2 hc2 hb2 a2 r2), (hw2, eW false), (hc2, eA cy f2), (hb2, eA cy g2), (ho, eO nv sv)]) [0, 1, 2, 3, 4, 5, 6, 7, 8, 9] (by decide +kernel) rfl
    have hKc := hK.sub (tys' := [(cy, .long)]) [0] rfl
    have hFc := va_free (wc := [(h0, eE h1 h2 kn), (h1, eR hw1 hc1 hb1 a1 r1), (hw1, eW true), (hc1, eA cy f1), (hb1, eA cy g1), (h2, eR hw2 hc2 hb2 a2 r2), (hw2, eW false), (hc2, eA cy f2), (hb2, eA cy g2), (ho, eO nv sv)]) hD hS hA [0, 1, 2, 3, 4, 5, 6, 7, 8, 9] rfl
    refine va_calli (vx_runSW (As := [.ref h0, .int p1, .int 0, .ref ho]) (rest := []) ⟨hx, hb, hml, hown, hts⟩ (k_L_narrowFind l hfl dC dI cy h0 h1 hw1 hc1 hb1 h2 hw2 hc2 hb2 a1 r1 f1 g1 a2 r2 f2 g2 kn ho nv sv H.size N p1 false) (vx_cwSW 4 hts gL_law_L_narrowFind rfl rfl rfl (by decide +kernel) ⟨Nat.le_of_ble_eq_true rfl, Nat.le_of_ble_eq_true rfl⟩) (xL.preS hKc hPc hDc hAN (Nat.le_trans hN hS.1) (hG.kept hS hAN) hnc) rfl rfl hl.1 rfl (lv_room (Nat.le_of_ble_eq_true rfl)) dL_law_2110 ⟨(show _ ≤ 989448 by omega), (show _ ≤ 6127760 by omega)⟩) hS (fun q _ h => hFc q h) hFc (fun r_2 u t H locs ht hvm hw hB hz hk hS => ?_)
    replace hw : r_2 = (o_L_narrowFind f2 nv p1 false).1 := hw
    subst r_2
    obtain ⟨hP1, hD1⟩ := hB
    rw [ht] at hP1
    obtain ⟨hP, hD⟩ := va_join (wr := [(m0, eM m1 m2 th (r1 + r2) kn), (m1, eMR true mc1 a1), (mc1, eA cy f1), (m2, eMR false mc2 a2), (mc2, eA cy f2)]) (w1 := [(h0, eE h1 h2 kn), (h1, eR hw1 hc1 hb1 a1 r1), (hw1, eW true), (hc1, eA cy f1), (hb1, eA cy g1), (h2, eR hw2 hc2 hb2 a2 r2), (hw2, eW false), (hc2, eA cy f2), (hb2, eA cy g2), (ho, eO (o_L_narrowFind f2 nv p1 false).2 sv)]) hP hD [0, 1, 2, 3, 4, 5, 6, 7, 8, 9] [10, 11, 12, 13, 14] rfl rfl (by decide +kernel) (by decide +kernel) hk hFc hP1 hD1
    have hP := hP.sub (ws' := [(h0, eE h1 h2 kn), (h1, eR hw1 hc1 hb1 a1 r1), (hw1, eW true), (hc1, eA cy f1), (hb1, eA cy g1), (h2, eR hw2 hc2 hb2 a2 r2), (hw2, eW false), (hc2, eA cy f2), (hb2, eA cy g2), (ho, eO (o_L_narrowFind f2 nv p1 false).2 sv), (m0, eM m1 m2 th (r1 + r2) kn), (m1, eMR true mc1 a1), (mc1, eA cy f1), (m2, eMR false mc2 a2), (mc2, eA cy f2)]) [5, 6, 7, 8, 9, 10, 11, 12, 13, 14, 0, 1, 2, 3, 4] rfl
    have hD := hD.sub (ws' := [(h0, eE h1 h2 kn), (h1, eR hw1 hc1 hb1 a1 r1), (hw1, eW true), (hc1, eA cy f1), (hb1, eA cy g1), (h2, eR hw2 hc2 hb2 a2 r2), (hw2, eW false), (hc2, eA cy f2), (hb2, eA cy g2), (ho, eO (o_L_narrowFind f2 nv p1 false).2 sv), (m0, eM m1 m2 th (r1 + r2) kn), (m1, eMR true mc1 a1), (mc1, eA cy f1), (m2, eMR false mc2 a2), (mc2, eA cy f2)]) [5, 6, 7, 8, 9, 10, 11, 12, 13, 14, 0, 1, 2, 3, 4] (by decide +kernel) rfl
    refine lv_istore (lv' := [(5, .int ((o_L_narrowFind f2 nv p1 false).1)), (0, .ref b), (1, .ref h0), (2, .ref m0), (3, .ref ho), (4, .int (nI i))]) hx hb dL_law_2113 hl (by decide +kernel) rfl (fun ls hl => ?_)
    refine lv_aload_n hx hb dL_law_2115 rfl (lv_at hl 3 rfl) ?_
    refine lv_aload_n hx hb dL_law_2116 rfl (lv_at hl 1 rfl) ?_
    refine lv_iload hx hb dL_law_2117 (lv_at hl 5 rfl) ?_
    refine lv_iconst (v := 1) hx hb dL_law_2119 (by decide +kernel) ?_
    refine lv_iadd hx hb dL_law_2120 ?_
    rw [nI_1 i]
    refine xa_sld hx hb hX hbl hbA hS (k := i + 1) (by omega) hL hp1 dL_law_2121 ?_
    refine lv_aload_n hx hb dL_law_2122 rfl (lv_at hl 1 rfl) ?_
    refine lv_iload hx hb dL_law_2123 (lv_at hl 5 rfl) ?_
    refine lv_iconst (v := 2) hx hb dL_law_2125 (by decide +kernel) ?_
    refine lv_iadd hx hb dL_law_2126 ?_
    rw [nI_p2 i]
    refine xa_sld hx hb hX hbl hbA hS (k := i + 2) (by omega) hL hp2 dL_law_2127 ?_
    refine lv_if_eq (tgt := 2135) hx hb dL_law_2128 (by decide +kernel) (fun c9 => ?_) (fun c9 => absurd c_1 c9)
    refine lv_iconst (v := 0) hx hb dL_law_2135 (by decide +kernel) ?_
    have hPc := hP.sub (ws' := [(m0, eM m1 m2 th (r1 + r2) kn), (m1, eMR true mc1 a1), (mc1, eA cy f1), (m2, eMR false mc2 a2), (mc2, eA cy f2)]) [10, 11, 12, 13, 14] rfl
    have hDc := hD.sub (ws' := [(m0, eM m1 m2 th (r1 + r2) kn), (m1, eMR true mc1 a1), (mc1, eA cy f1), (m2, eMR false mc2 a2), (mc2, eA cy f2)]) [10, 11, 12, 13, 14] (by decide +kernel) rfl
    have hKc := hK.sub (tys' := [(cy, .long)]) [0] rfl
    have hFc := va_free (wc := [(m0, eM m1 m2 th (r1 + r2) kn), (m1, eMR true mc1 a1), (mc1, eA cy f1), (m2, eMR false mc2 a2), (mc2, eA cy f2)]) hD hS hA [10, 11, 12, 13, 14] rfl
    refine va_calli (va_runV (As := [.int p1, .int 0]) (rest := []) ⟨hx, hb, hml, hown, hts⟩ (k_X5_narrowFind l dC dI cy m0 m1 mc1 m2 mc2 a1 f1 a2 f2 th (r1 + r2) kn H.size N p1 false) (cwV 2 hts gL_law_X5_narrowFind rfl rfl rfl (by decide +kernel) ⟨Nat.le_of_ble_eq_true rfl, Nat.le_of_ble_eq_true rfl⟩) (xM.preV hKc hPc hDc hAN (Nat.le_trans hN hS.1) (hG.kept hS hAN) (ci := 7) (q0 := 0) rfl rfl) rfl rfl hl.1 rfl (lv_room (Nat.le_of_ble_eq_true rfl)) dL_law_2136 ⟨(show _ ≤ 989448 by omega), (show _ ≤ 6127760 by omega)⟩) hS (fun q _ h => hFc q h) hFc (fun r_3 u t H locs ht hvm hw hB hz hk hS => ?_)
    replace hw : r_3 = (o_X5_narrowFind f2 p1 false).1 := hw
    subst r_3
    obtain ⟨hP1, hD1⟩ := hB
    rw [ht] at hP1
    obtain ⟨hP, hD⟩ := va_join (wr := [(h0, eE h1 h2 kn), (h1, eR hw1 hc1 hb1 a1 r1), (hw1, eW true), (hc1, eA cy f1), (hb1, eA cy g1), (h2, eR hw2 hc2 hb2 a2 r2), (hw2, eW false), (hc2, eA cy f2), (hb2, eA cy g2), (ho, eO (o_L_narrowFind f2 nv p1 false).2 sv)]) (w1 := [(m0, eM m1 m2 (o_X5_narrowFind f2 p1 false).2 (r1 + r2) kn), (m1, eMR true mc1 a1), (mc1, eA cy f1), (m2, eMR false mc2 a2), (mc2, eA cy f2)]) hP hD [10, 11, 12, 13, 14] [0, 1, 2, 3, 4, 5, 6, 7, 8, 9] rfl rfl (by decide +kernel) (by decide +kernel) hk hFc hP1 hD1
    have hP := hP.sub (ws' := [(h0, eE h1 h2 kn), (h1, eR hw1 hc1 hb1 a1 r1), (hw1, eW true), (hc1, eA cy f1), (hb1, eA cy g1), (h2, eR hw2 hc2 hb2 a2 r2), (hw2, eW false), (hc2, eA cy f2), (hb2, eA cy g2), (ho, eO (o_L_narrowFind f2 nv p1 false).2 sv), (m0, eM m1 m2 (o_X5_narrowFind f2 p1 false).2 (r1 + r2) kn), (m1, eMR true mc1 a1), (mc1, eA cy f1), (m2, eMR false mc2 a2), (mc2, eA cy f2)]) [0, 1, 2, 3, 4, 5, 6, 7, 8, 9, 10, 11, 12, 13, 14] rfl
    have hD := hD.sub (ws' := [(h0, eE h1 h2 kn), (h1, eR hw1 hc1 hb1 a1 r1), (hw1, eW true), (hc1, eA cy f1), (hb1, eA cy g1), (h2, eR hw2 hc2 hb2 a2 r2), (hw2, eW false), (hc2, eA cy f2), (hb2, eA cy g2), (ho, eO (o_L_narrowFind f2 nv p1 false).2 sv), (m0, eM m1 m2 (o_X5_narrowFind f2 p1 false).2 (r1 + r2) kn), (m1, eMR true mc1 a1), (mc1, eA cy f1), (m2, eMR false mc2 a2), (mc2, eA cy f2)]) [0, 1, 2, 3, 4, 5, 6, 7, 8, 9, 10, 11, 12, 13, 14] (by decide +kernel) rfl
    refine lv_istore (lv' := [(6, .int ((o_X5_narrowFind f2 p1 false).1)), (5, .int ((o_L_narrowFind f2 nv p1 false).1)), (0, .ref b), (1, .ref h0), (2, .ref m0), (3, .ref ho), (4, .int (nI i))]) hx hb dL_law_2139 hl (by decide +kernel) rfl (fun ls hl => ?_)
    refine lv_goto (tgt := 2240) hx hb dL_law_2141 (by decide +kernel) ?_
    refine W.widen (k := cells + 760) (n := slots + 4500) (by omega) (by omega) ?_
    exact K a1 r1 f1 g1 a2 r2 f2 g2 kn ((o_L_narrowFind f2 nv p1 false).2) sv ((o_X5_narrowFind f2 p1 false).2) a1 f1 a2 f2 (r1 + r2) kn _ _ _ rfl rfl rfl rfl rfl rfl hka1 hka2 hP hD hS (lv_sub hl [2, 3, 4, 5, 6] rfl)
  · skip
    refine lv_iconst (v := 1) hx hb dL_law_2104 (by decide +kernel) ?_
    refine lv_goto (tgt := 2109) hx hb dL_law_2105 (by decide +kernel) ?_
    refine lv_aload_n hx hb dL_law_2109 rfl (lv_at hl 3 rfl) ?_
    have hPc := hP.sub (ws' := [(h0, eE h1 h2 kn), (h1, eR hw1 hc1 hb1 a1 r1), (hw1, eW true), (hc1, eA cy f1), (hb1, eA cy g1), (h2, eR hw2 hc2 hb2 a2 r2), (hw2, eW false), (hc2, eA cy f2), (hb2, eA cy g2), (ho, eO nv sv)]) [0, 1, 2, 3, 4, 5, 6, 7, 8, 9] rfl
    have hDc := hD.sub (ws' := [(h0, eE h1 h2 kn), (h1, eR hw1 hc1 hb1 a1 r1), (hw1, eW true), (hc1, eA cy f1), (hb1, eA cy g1), (h2, eR hw2 hc2 hb2 a2 r2), (hw2, eW false), (hc2, eA cy f2), (hb2, eA cy g2), (ho, eO nv sv)]) [0, 1, 2, 3, 4, 5, 6, 7, 8, 9] (by decide +kernel) rfl
    have hKc := hK.sub (tys' := [(cy, .long)]) [0] rfl
    have hFc := va_free (wc := [(h0, eE h1 h2 kn), (h1, eR hw1 hc1 hb1 a1 r1), (hw1, eW true), (hc1, eA cy f1), (hb1, eA cy g1), (h2, eR hw2 hc2 hb2 a2 r2), (hw2, eW false), (hc2, eA cy f2), (hb2, eA cy g2), (ho, eO nv sv)]) hD hS hA [0, 1, 2, 3, 4, 5, 6, 7, 8, 9] rfl
    refine va_calli (vx_runSW (As := [.ref h0, .int p1, .int 1, .ref ho]) (rest := []) ⟨hx, hb, hml, hown, hts⟩ (k_L_narrowFind l hfl dC dI cy h0 h1 hw1 hc1 hb1 h2 hw2 hc2 hb2 a1 r1 f1 g1 a2 r2 f2 g2 kn ho nv sv H.size N p1 true) (vx_cwSW 4 hts gL_law_L_narrowFind rfl rfl rfl (by decide +kernel) ⟨Nat.le_of_ble_eq_true rfl, Nat.le_of_ble_eq_true rfl⟩) (xL.preS hKc hPc hDc hAN (Nat.le_trans hN hS.1) (hG.kept hS hAN) hnc) rfl rfl hl.1 rfl (lv_room (Nat.le_of_ble_eq_true rfl)) dL_law_2110 ⟨(show _ ≤ 989448 by omega), (show _ ≤ 6127760 by omega)⟩) hS (fun q _ h => hFc q h) hFc (fun r_4 u t H locs ht hvm hw hB hz hk hS => ?_)
    replace hw : r_4 = (o_L_narrowFind f2 nv p1 true).1 := hw
    subst r_4
    obtain ⟨hP1, hD1⟩ := hB
    rw [ht] at hP1
    obtain ⟨hP, hD⟩ := va_join (wr := [(m0, eM m1 m2 th (r1 + r2) kn), (m1, eMR true mc1 a1), (mc1, eA cy f1), (m2, eMR false mc2 a2), (mc2, eA cy f2)]) (w1 := [(h0, eE h1 h2 kn), (h1, eR hw1 hc1 hb1 a1 r1), (hw1, eW true), (hc1, eA cy f1), (hb1, eA cy g1), (h2, eR hw2 hc2 hb2 a2 r2), (hw2, eW false), (hc2, eA cy f2), (hb2, eA cy g2), (ho, eO (o_L_narrowFind f2 nv p1 true).2 sv)]) hP hD [0, 1, 2, 3, 4, 5, 6, 7, 8, 9] [10, 11, 12, 13, 14] rfl rfl (by decide +kernel) (by decide +kernel) hk hFc hP1 hD1
    have hP := hP.sub (ws' := [(h0, eE h1 h2 kn), (h1, eR hw1 hc1 hb1 a1 r1), (hw1, eW true), (hc1, eA cy f1), (hb1, eA cy g1), (h2, eR hw2 hc2 hb2 a2 r2), (hw2, eW false), (hc2, eA cy f2), (hb2, eA cy g2), (ho, eO (o_L_narrowFind f2 nv p1 true).2 sv), (m0, eM m1 m2 th (r1 + r2) kn), (m1, eMR true mc1 a1), (mc1, eA cy f1), (m2, eMR false mc2 a2), (mc2, eA cy f2)]) [5, 6, 7, 8, 9, 10, 11, 12, 13, 14, 0, 1, 2, 3, 4] rfl
    have hD := hD.sub (ws' := [(h0, eE h1 h2 kn), (h1, eR hw1 hc1 hb1 a1 r1), (hw1, eW true), (hc1, eA cy f1), (hb1, eA cy g1), (h2, eR hw2 hc2 hb2 a2 r2), (hw2, eW false), (hc2, eA cy f2), (hb2, eA cy g2), (ho, eO (o_L_narrowFind f2 nv p1 true).2 sv), (m0, eM m1 m2 th (r1 + r2) kn), (m1, eMR true mc1 a1), (mc1, eA cy f1), (m2, eMR false mc2 a2), (mc2, eA cy f2)]) [5, 6, 7, 8, 9, 10, 11, 12, 13, 14, 0, 1, 2, 3, 4] (by decide +kernel) rfl
    refine lv_istore (lv' := [(5, .int ((o_L_narrowFind f2 nv p1 true).1)), (0, .ref b), (1, .ref h0), (2, .ref m0), (3, .ref ho), (4, .int (nI i))]) hx hb dL_law_2113 hl (by decide +kernel) rfl (fun ls hl => ?_)
    refine lv_aload_n hx hb dL_law_2115 rfl (lv_at hl 3 rfl) ?_
    refine lv_aload_n hx hb dL_law_2116 rfl (lv_at hl 1 rfl) ?_
    refine lv_iload hx hb dL_law_2117 (lv_at hl 5 rfl) ?_
    refine lv_iconst (v := 1) hx hb dL_law_2119 (by decide +kernel) ?_
    refine lv_iadd hx hb dL_law_2120 ?_
    rw [nI_1 i]
    refine xa_sld hx hb hX hbl hbA hS (k := i + 1) (by omega) hL hp1 dL_law_2121 ?_
    refine lv_aload_n hx hb dL_law_2122 rfl (lv_at hl 1 rfl) ?_
    refine lv_iload hx hb dL_law_2123 (lv_at hl 5 rfl) ?_
    refine lv_iconst (v := 2) hx hb dL_law_2125 (by decide +kernel) ?_
    refine lv_iadd hx hb dL_law_2126 ?_
    rw [nI_p2 i]
    refine xa_sld hx hb hX hbl hbA hS (k := i + 2) (by omega) hL hp2 dL_law_2127 ?_
    refine lv_if_eq (tgt := 2135) hx hb dL_law_2128 (by decide +kernel) (fun c9 => absurd c9 c_1) (fun c9 => ?_)
    refine lv_iconst (v := 1) hx hb dL_law_2131 (by decide +kernel) ?_
    refine lv_goto (tgt := 2136) hx hb dL_law_2132 (by decide +kernel) ?_
    have hPc := hP.sub (ws' := [(m0, eM m1 m2 th (r1 + r2) kn), (m1, eMR true mc1 a1), (mc1, eA cy f1), (m2, eMR false mc2 a2), (mc2, eA cy f2)]) [10, 11, 12, 13, 14] rfl
    have hDc := hD.sub (ws' := [(m0, eM m1 m2 th (r1 + r2) kn), (m1, eMR true mc1 a1), (mc1, eA cy f1), (m2, eMR false mc2 a2), (mc2, eA cy f2)]) [10, 11, 12, 13, 14] (by decide +kernel) rfl
    have hKc := hK.sub (tys' := [(cy, .long)]) [0] rfl
    have hFc := va_free (wc := [(m0, eM m1 m2 th (r1 + r2) kn), (m1, eMR true mc1 a1), (mc1, eA cy f1), (m2, eMR false mc2 a2), (mc2, eA cy f2)]) hD hS hA [10, 11, 12, 13, 14] rfl
    refine va_calli (va_runV (As := [.int p1, .int 1]) (rest := []) ⟨hx, hb, hml, hown, hts⟩ (k_X5_narrowFind l dC dI cy m0 m1 mc1 m2 mc2 a1 f1 a2 f2 th (r1 + r2) kn H.size N p1 true) (cwV 2 hts gL_law_X5_narrowFind rfl rfl rfl (by decide +kernel) ⟨Nat.le_of_ble_eq_true rfl, Nat.le_of_ble_eq_true rfl⟩) (xM.preV hKc hPc hDc hAN (Nat.le_trans hN hS.1) (hG.kept hS hAN) (ci := 7) (q0 := 0) rfl rfl) rfl rfl hl.1 rfl (lv_room (Nat.le_of_ble_eq_true rfl)) dL_law_2136 ⟨(show _ ≤ 989448 by omega), (show _ ≤ 6127760 by omega)⟩) hS (fun q _ h => hFc q h) hFc (fun r_5 u t H locs ht hvm hw hB hz hk hS => ?_)
    replace hw : r_5 = (o_X5_narrowFind f2 p1 true).1 := hw
    subst r_5
    obtain ⟨hP1, hD1⟩ := hB
    rw [ht] at hP1
    obtain ⟨hP, hD⟩ := va_join (wr := [(h0, eE h1 h2 kn), (h1, eR hw1 hc1 hb1 a1 r1), (hw1, eW true), (hc1, eA cy f1), (hb1, eA cy g1), (h2, eR hw2 hc2 hb2 a2 r2), (hw2, eW false), (hc2, eA cy f2), (hb2, eA cy g2), (ho, eO (o_L_narrowFind f2 nv p1 true).2 sv)]) (w1 := [(m0, eM m1 m2 (o_X5_narrowFind f2 p1 true).2 (r1 + r2) kn), (m1, eMR true mc1 a1), (mc1, eA cy f1), (m2, eMR false mc2 a2), (mc2, eA cy f2)]) hP hD [10, 11, 12, 13, 14] [0, 1, 2, 3, 4, 5, 6, 7, 8, 9] rfl rfl (by decide +kernel) (by decide +kernel) hk hFc hP1 hD1
    have hP := hP.sub (ws' := [(h0, eE h1 h2 kn), (h1, eR hw1 hc1 hb1 a1 r1), (hw1, eW true), (hc1, eA cy f1), (hb1, eA cy g1), (h2, eR hw2 hc2 hb2 a2 r2), (hw2, eW false), (hc2, eA cy f2), (hb2, eA cy g2), (ho, eO (o_L_narrowFind f2 nv p1 true).2 sv), (m0, eM m1 m2 (o_X5_narrowFind f2 p1 true).2 (r1 + r2) kn), (m1, eMR true mc1 a1), (mc1, eA cy f1), (m2, eMR false mc2 a2), (mc2, eA cy f2)]) [0, 1, 2, 3, 4, 5, 6, 7, 8, 9, 10, 11, 12, 13, 14] rfl
    have hD := hD.sub (ws' := [(h0, eE h1 h2 kn), (h1, eR hw1 hc1 hb1 a1 r1), (hw1, eW true), (hc1, eA cy f1), (hb1, eA cy g1), (h2, eR hw2 hc2 hb2 a2 r2), (hw2, eW false), (hc2, eA cy f2), (hb2, eA cy g2), (ho, eO (o_L_narrowFind f2 nv p1 true).2 sv), (m0, eM m1 m2 (o_X5_narrowFind f2 p1 true).2 (r1 + r2) kn), (m1, eMR true mc1 a1), (mc1, eA cy f1), (m2, eMR false mc2 a2), (mc2, eA cy f2)]) [0, 1, 2, 3, 4, 5, 6, 7, 8, 9, 10, 11, 12, 13, 14] (by decide +kernel) rfl
    refine lv_istore (lv' := [(6, .int ((o_X5_narrowFind f2 p1 true).1)), (5, .int ((o_L_narrowFind f2 nv p1 true).1)), (0, .ref b), (1, .ref h0), (2, .ref m0), (3, .ref ho), (4, .int (nI i))]) hx hb dL_law_2139 hl (by decide +kernel) rfl (fun ls hl => ?_)
    refine lv_goto (tgt := 2240) hx hb dL_law_2141 (by decide +kernel) ?_
    refine W.widen (k := cells + 760) (n := slots + 4500) (by omega) (by omega) ?_
    exact K a1 r1 f1 g1 a2 r2 f2 g2 kn ((o_L_narrowFind f2 nv p1 true).2) sv ((o_X5_narrowFind f2 p1 true).2) a1 f1 a2 f2 (r1 + r2) kn _ _ _ rfl rfl rfl rfl rfl rfl hka1 hka2 hP hD hS (lv_sub hl [2, 3, 4, 5, 6] rfl)
set_option maxHeartbeats 4000000 in
set_option maxRecDepth 100000 in
theorem st_44 (l : Launch) (p : Program) (e : Env) (s : State) (m : MethodId) (below : List Frame) (meth : Method) (c : Code) (b L N : Nat) (xs : Nat → Int32) (A : Nat → Prop) (dC : Nat → ClassId) (dI : Nat → Nat → Nat) (cy cB : ClassId) (h0 h1 hw1 hc1 hb1 h2 hw2 hc2 hb2 ho m0 m1 mc1 m2 mc2 : Nat) (C0 : lw_C l p e s m below meth c b L N xs A dC dI cy cB) (i : Nat) (hi : i + 4 ≤ L) (p1 p2 p3 : Int32) (hp1 : xs (i + 1) = p1) (hp2 : xs (i + 2) = p2) (hp3 : xs (i + 3) = p3) (cells slots : Nat) (hcs : cells + 760 ≤ 989448) (hss : slots + 4500 ≤ 6127760) (K : lw_K l p e s m below meth c b L N xs A dC dI cy cB h0 h1 hw1 hc1 hb1 h2 hw2 hc2 hb2 ho m0 m1 mc1 m2 mc2 i (cells + 760) (slots + 4500) 2240) (a1 : Int32) (r1 : Int32) (f1 : Nat → Int64) (g1 : Nat → Int64) (a2 : Int32) (r2 : Int32) (f2 : Nat → Int64) (g2 : Nat → Int64) (kn : Int32) (nv : Int64) (sv : Value) (th : Int32) (H : Heap) (locs : List Loc) (ls : Array Slot) (hka1 : okA true f1) (hka2 : okA false f2) (hP : va_P (dC, dI) xCl [(h0, eE h1 h2 kn), (h1, eR hw1 hc1 hb1 a1 r1), (hw1, eW true), (hc1, eA cy f1), (hb1, eA cy g1), (h2, eR hw2 hc2 hb2 a2 r2), (hw2, eW false), (hc2, eA cy f2), (hb2, eA cy g2), (ho, eO nv sv), (m0, eM m1 m2 th (r1 + r2) kn), (m1, eMR true mc1 a1), (mc1, eA cy f1), (m2, eMR false mc2 a2), (mc2, eA cy f2)] H) (hD : va_D A [(h0, eE h1 h2 kn), (h1, eR hw1 hc1 hb1 a1 r1), (hw1, eW true), (hc1, eA cy f1), (hb1, eA cy g1), (h2, eR hw2 hc2 hb2 a2 r2), (hw2, eW false), (hc2, eA cy f2), (hb2, eA cy g2), (ho, eO nv sv), (m0, eM m1 m2 th (r1 + r2) kn), (m1, eMR true mc1 a1), (mc1, eA cy f1), (m2, eMR false mc2 a2), (mc2, eA cy f2)]) (hS : va_S A s.heap H locs) (hl : lv_has ls 7 [(0, .ref b), (1, .ref h0), (2, .ref m0), (3, .ref ho), (4, .int (nI i))]) : W p l e room_1 s m #[Value.ref b] below meth c H locs cells slots (lw_Z below #[Value.ref b] s) (F0 m 2144 ls []) := by
  obtain ⟨hfl, hx, hb, hr, hml, hown, hts, hX, hbl, hbA, hlocks, hK, hG, hnc, hA, hAN, hN, hL, hT, hNs⟩ := id C0
  have hok2 := me_okF hka2
  have hsp1 : ∀ k, k < 8 → o_X1_isSpoiled true (f1 k) = false := fun k hk => (hka1 k hk).2
  have hsp2 : ∀ k, k < 8 → o_X1_isSpoiled false (f2 k) = false := fun k hk => (hka2 k hk).2
  refine lv_aload_n hx hb dL_law_2144 rfl (lv_at hl 1 rfl) ?_
  refine lv_aload_n hx hb dL_law_2145 rfl (lv_at hl 0 rfl) ?_
  refine lv_iload hx hb dL_law_2146 (lv_at hl 4 rfl) ?_
  refine lv_iconst (v := 1) hx hb dL_law_2148 (by decide +kernel) ?_
  refine lv_iadd hx hb dL_law_2149 ?_
  rw [nI_1 i]
  refine xa_sld hx hb hX hbl hbA hS (k := i + 1) (by omega) hL hp1 dL_law_2150 ?_
  refine lv_aload_n hx hb dL_law_2151 rfl (lv_at hl 3 rfl) ?_
  have hPc := hP.sub (ws' := [(h0, eE h1 h2 kn), (h1, eR hw1 hc1 hb1 a1 r1), (hw1, eW true), (hc1, eA cy f1), (hb1, eA cy g1), (h2, eR hw2 hc2 hb2 a2 r2), (hw2, eW false), (hc2, eA cy f2), (hb2, eA cy g2), (ho, eO nv sv)]) [0, 1, 2, 3, 4, 5, 6, 7, 8, 9] rfl
  have hDc := hD.sub (ws' := [(h0, eE h1 h2 kn), (h1, eR hw1 hc1 hb1 a1 r1), (hw1, eW true), (hc1, eA cy f1), (hb1, eA cy g1), (h2, eR hw2 hc2 hb2 a2 r2), (hw2, eW false), (hc2, eA cy f2), (hb2, eA cy g2), (ho, eO nv sv)]) [0, 1, 2, 3, 4, 5, 6, 7, 8, 9] (by decide +kernel) rfl
  have hKc := hK.sub (tys' := [(cy, .long)]) [0] rfl
  have hFc := va_free (wc := [(h0, eE h1 h2 kn), (h1, eR hw1 hc1 hb1 a1 r1), (hw1, eW true), (hc1, eA cy f1), (hb1, eA cy g1), (h2, eR hw2 hc2 hb2 a2 r2), (hw2, eW false), (hc2, eA cy f2), (hb2, eA cy g2), (ho, eO nv sv)]) hD hS hA [0, 1, 2, 3, 4, 5, 6, 7, 8, 9] rfl
  refine va_calli (vx_runSW (As := [.ref h0, .int p1, .ref ho]) (rest := []) ⟨hx, hb, hml, hown, hts⟩ (k_L_narrowHas l hfl dC dI cy h0 h1 hw1 hc1 hb1 h2 hw2 hc2 hb2 a1 r1 f1 g1 a2 r2 f2 g2 kn ho nv sv H.size N p1) (vx_cwSW 3 hts gL_law_L_narrowHas rfl rfl rfl (by decide +kernel) ⟨Nat.le_of_ble_eq_true rfl, Nat.le_of_ble_eq_true rfl⟩) (xL.preS hKc hPc hDc hAN (Nat.le_trans hN hS.1) (hG.kept hS hAN) hnc) rfl rfl hl.1 rfl (lv_room (Nat.le_of_ble_eq_true rfl)) dL_law_2152 ⟨(show _ ≤ 989448 by omega), (show _ ≤ 6127760 by omega)⟩) hS (fun q _ h => hFc q h) hFc (fun r_1 u t H locs ht hvm hw hB hz hk hS => ?_)
  replace hw : r_1 = (o_L_narrowHas f2 nv p1).1 := hw
  subst r_1
  obtain ⟨hP1, hD1⟩ := hB
  rw [ht] at hP1
  obtain ⟨hP, hD⟩ := va_join (wr := [(m0, eM m1 m2 th (r1 + r2) kn), (m1, eMR true mc1 a1), (mc1, eA cy f1), (m2, eMR false mc2 a2), (mc2, eA cy f2)]) (w1 := [(h0, eE h1 h2 kn), (h1, eR hw1 hc1 hb1 a1 r1), (hw1, eW true), (hc1, eA cy f1), (hb1, eA cy g1), (h2, eR hw2 hc2 hb2 a2 r2), (hw2, eW false), (hc2, eA cy f2), (hb2, eA cy g2), (ho, eO (o_L_narrowHas f2 nv p1).2 sv)]) hP hD [0, 1, 2, 3, 4, 5, 6, 7, 8, 9] [10, 11, 12, 13, 14] rfl rfl (by decide +kernel) (by decide +kernel) hk hFc hP1 hD1
  have hP := hP.sub (ws' := [(h0, eE h1 h2 kn), (h1, eR hw1 hc1 hb1 a1 r1), (hw1, eW true), (hc1, eA cy f1), (hb1, eA cy g1), (h2, eR hw2 hc2 hb2 a2 r2), (hw2, eW false), (hc2, eA cy f2), (hb2, eA cy g2), (ho, eO (o_L_narrowHas f2 nv p1).2 sv), (m0, eM m1 m2 th (r1 + r2) kn), (m1, eMR true mc1 a1), (mc1, eA cy f1), (m2, eMR false mc2 a2), (mc2, eA cy f2)]) [5, 6, 7, 8, 9, 10, 11, 12, 13, 14, 0, 1, 2, 3, 4] rfl
  have hD := hD.sub (ws' := [(h0, eE h1 h2 kn), (h1, eR hw1 hc1 hb1 a1 r1), (hw1, eW true), (hc1, eA cy f1), (hb1, eA cy g1), (h2, eR hw2 hc2 hb2 a2 r2), (hw2, eW false), (hc2, eA cy f2), (hb2, eA cy g2), (ho, eO (o_L_narrowHas f2 nv p1).2 sv), (m0, eM m1 m2 th (r1 + r2) kn), (m1, eMR true mc1 a1), (mc1, eA cy f1), (m2, eMR false mc2 a2), (mc2, eA cy f2)]) [5, 6, 7, 8, 9, 10, 11, 12, 13, 14, 0, 1, 2, 3, 4] (by decide +kernel) rfl
  refine lv_istore (lv' := [(5, .int ((o_L_narrowHas f2 nv p1).1)), (0, .ref b), (1, .ref h0), (2, .ref m0), (3, .ref ho), (4, .int (nI i))]) hx hb dL_law_2155 hl (by decide +kernel) rfl (fun ls hl => ?_)
  refine lv_aload_n hx hb dL_law_2157 rfl (lv_at hl 3 rfl) ?_
  refine lv_aload_n hx hb dL_law_2158 rfl (lv_at hl 1 rfl) ?_
  refine lv_iload hx hb dL_law_2159 (lv_at hl 5 rfl) ?_
  refine lv_iconst (v := 1) hx hb dL_law_2161 (by decide +kernel) ?_
  refine lv_iadd hx hb dL_law_2162 ?_
  rw [nI_1 i]
  refine xa_sld hx hb hX hbl hbA hS (k := i + 1) (by omega) hL hp1 dL_law_2163 ?_
  have hPc := hP.sub (ws' := [(m0, eM m1 m2 th (r1 + r2) kn), (m1, eMR true mc1 a1), (mc1, eA cy f1), (m2, eMR false mc2 a2), (mc2, eA cy f2)]) [10, 11, 12, 13, 14] rfl
  have hDc := hD.sub (ws' := [(m0, eM m1 m2 th (r1 + r2) kn), (m1, eMR true mc1 a1), (mc1, eA cy f1), (m2, eMR false mc2 a2), (mc2, eA cy f2)]) [10, 11, 12, 13, 14] (by decide +kernel) rfl
  have hKc := hK.sub (tys' := [(cy, .long)]) [0] rfl
  have hFc := va_free (wc := [(m0, eM m1 m2 th (r1 + r2) kn), (m1, eMR true mc1 a1), (mc1, eA cy f1), (m2, eMR false mc2 a2), (mc2, eA cy f2)]) hD hS hA [10, 11, 12, 13, 14] rfl
  refine va_calli (va_runV (As := [.int p1]) (rest := []) ⟨hx, hb, hml, hown, hts⟩ (k_X5_narrowHas l dC dI cy m0 m1 mc1 m2 mc2 a1 f1 a2 f2 th (r1 + r2) kn H.size N p1) (cwV 1 hts gL_law_X5_narrowHas rfl rfl rfl (by decide +kernel) ⟨Nat.le_of_ble_eq_true rfl, Nat.le_of_ble_eq_true rfl⟩) (xM.preV hKc hPc hDc hAN (Nat.le_trans hN hS.1) (hG.kept hS hAN) (ci := 7) (q0 := 0) rfl rfl) rfl rfl hl.1 rfl (lv_room (Nat.le_of_ble_eq_true rfl)) dL_law_2164 ⟨(show _ ≤ 989448 by omega), (show _ ≤ 6127760 by omega)⟩) hS (fun q _ h => hFc q h) hFc (fun r_2 u t H locs ht hvm hw hB hz hk hS => ?_)
  replace hw : r_2 = b2i ((o_X5_narrowHas f2 p1).1) := hw
  subst r_2
  obtain ⟨hP1, hD1⟩ := hB
  rw [ht] at hP1
  obtain ⟨hP, hD⟩ := va_join (wr := [(h0, eE h1 h2 kn), (h1, eR hw1 hc1 hb1 a1 r1), (hw1, eW true), (hc1, eA cy f1), (hb1, eA cy g1), (h2, eR hw2 hc2 hb2 a2 r2), (hw2, eW false), (hc2, eA cy f2), (hb2, eA cy g2), (ho, eO (o_L_narrowHas f2 nv p1).2 sv)]) (w1 := [(m0, eM m1 m2 (o_X5_narrowHas f2 p1).2 (r1 + r2) kn), (m1, eMR true mc1 a1), (mc1, eA cy f1), (m2, eMR false mc2 a2), (mc2, eA cy f2)]) hP hD [10, 11, 12, 13, 14] [0, 1, 2, 3, 4, 5, 6, 7, 8, 9] rfl rfl (by decide +kernel) (by decide +kernel) hk hFc hP1 hD1
  have hP := hP.sub (ws' := [(h0, eE h1 h2 kn), (h1, eR hw1 hc1 hb1 a1 r1), (hw1, eW true), (hc1, eA cy f1), (hb1, eA cy g1), (h2, eR hw2 hc2 hb2 a2 r2), (hw2, eW false), (hc2, eA cy f2), (hb2, eA cy g2), (ho, eO (o_L_narrowHas f2 nv p1).2 sv), (m0, eM m1 m2 (o_X5_narrowHas f2 p1).2 (r1 + r2) kn), (m1, eMR true mc1 a1), (mc1, eA cy f1), (m2, eMR false mc2 a2), (mc2, eA cy f2)]) [0, 1, 2, 3, 4, 5, 6, 7, 8, 9, 10, 11, 12, 13, 14] rfl
  have hD := hD.sub (ws' := [(h0, eE h1 h2 kn), (h1, eR hw1 hc1 hb1 a1 r1), (hw1, eW true), (hc1, eA cy f1), (hb1, eA cy g1), (h2, eR hw2 hc2 hb2 a2 r2), (hw2, eW false), (hc2, eA cy f2), (hb2, eA cy g2), (ho, eO (o_L_narrowHas f2 nv p1).2 sv), (m0, eM m1 m2 (o_X5_narrowHas f2 p1).2 (r1 + r2) kn), (m1, eMR true mc1 a1), (mc1, eA cy f1), (m2, eMR false mc2 a2), (mc2, eA cy f2)]) [0, 1, 2, 3, 4, 5, 6, 7, 8, 9, 10, 11, 12, 13, 14] (by decide +kernel) rfl
  refine lv_istore (lv' := [(6, .int (b2i ((o_X5_narrowHas f2 p1).1))), (5, .int ((o_L_narrowHas f2 nv p1).1)), (0, .ref b), (1, .ref h0), (2, .ref m0), (3, .ref ho), (4, .int (nI i))]) hx hb dL_law_2167 hl (by decide +kernel) rfl (fun ls hl => ?_)
  refine lv_goto (tgt := 2240) hx hb dL_law_2169 (by decide +kernel) ?_
  refine W.widen (k := cells + 760) (n := slots + 4500) (by omega) (by omega) ?_
  exact K a1 r1 f1 g1 a2 r2 f2 g2 kn ((o_L_narrowHas f2 nv p1).2) sv ((o_X5_narrowHas f2 p1).2) a1 f1 a2 f2 (r1 + r2) kn _ _ _ rfl rfl rfl rfl rfl rfl hka1 hka2 hP hD hS (lv_sub hl [2, 3, 4, 5, 6] rfl)
set_option maxHeartbeats 4000000 in
set_option maxRecDepth 100000 in
theorem st_45 (l : Launch) (p : Program) (e : Env) (s : State) (m : MethodId) (below : List Frame) (meth : Method) (c : Code) (b L N : Nat) (xs : Nat → Int32) (A : Nat → Prop) (dC : Nat → ClassId) (dI : Nat → Nat → Nat) (cy cB : ClassId) (h0 h1 hw1 hc1 hb1 h2 hw2 hc2 hb2 ho m0 m1 mc1 m2 mc2 : Nat) (C0 : lw_C l p e s m below meth c b L N xs A dC dI cy cB) (i : Nat) (hi : i + 4 ≤ L) (p1 p2 p3 : Int32) (hp1 : xs (i + 1) = p1) (hp2 : xs (i + 2) = p2) (hp3 : xs (i + 3) = p3) (cells slots : Nat) (hcs : cells + 760 ≤ 989448) (hss : slots + 4500 ≤ 6127760) (K : lw_K l p e s m below meth c b L N xs A dC dI cy cB h0 h1 hw1 hc1 hb1 h2 hw2 hc2 hb2 ho m0 m1 mc1 m2 mc2 i (cells + 760) (slots + 4500) 2240) (a1 : Int32) (r1 : Int32) (f1 : Nat → Int64) (g1 : Nat → Int64) (a2 : Int32) (r2 : Int32) (f2 : Nat → Int64) (g2 : Nat → Int64) (kn : Int32) (nv : Int64) (sv : Value) (th : Int32) (H : Heap) (locs : List Loc) (ls : Array Slot) (hka1 : okA true f1) (hka2 : okA false f2) (hP : va_P (dC, dI) xCl [(h0, eE h1 h2 kn), (h1, eR hw1 hc1 hb1 a1 r1), (hw1, eW true), (hc1, eA cy f1), (hb1, eA cy g1), (h2, eR hw2 hc2 hb2 a2 r2), (hw2, eW false), (hc2, eA cy f2), (hb2, eA cy g2), (ho, eO nv sv), (m0, eM m1 m2 th (r1 + r2) kn), (m1, eMR true mc1 a1), (mc1, eA cy f1), (m2, eMR false mc2 a2), (mc2, eA cy f2)] H) (hD : va_D A [(h0, eE h1 h2 kn), (h1, eR hw1 hc1 hb1 a1 r1), (hw1, eW true), (hc1, eA cy f1), (hb1, eA cy g1), (h2, eR hw2 hc2 hb2 a2 r2), (hw2, eW false), (hc2, eA cy f2), (hb2, eA cy g2), (ho, eO nv sv), (m0, eM m1 m2 th (r1 + r2) kn), (m1, eMR true mc1 a1), (mc1, eA cy f1), (m2, eMR false mc2 a2), (mc2, eA cy f2)]) (hS : va_S A s.heap H locs) (hl : lv_has ls 7 [(0, .ref b), (1, .ref h0), (2, .ref m0), (3, .ref ho), (4, .int (nI i))]) : W p l e room_1 s m #[Value.ref b] below meth c H locs cells slots (lw_Z below #[Value.ref b] s) (F0 m 2172 ls []) := by
  obtain ⟨hfl, hx, hb, hr, hml, hown, hts, hX, hbl, hbA, hlocks, hK, hG, hnc, hA, hAN, hN, hL, hT, hNs⟩ := id C0
  have hok2 := me_okF hka2
  have hsp1 : ∀ k, k < 8 → o_X1_isSpoiled true (f1 k) = false := fun k hk => (hka1 k hk).2
  have hsp2 : ∀ k, k < 8 → o_X1_isSpoiled false (f2 k) = false := fun k hk => (hka2 k hk).2
  refine lv_aload_n hx hb dL_law_2172 rfl (lv_at hl 1 rfl) ?_
  refine lv_aload_n hx hb dL_law_2173 rfl (lv_at hl 0 rfl) ?_
  refine lv_iload hx hb dL_law_2174 (lv_at hl 4 rfl) ?_
  refine lv_iconst (v := 1) hx hb dL_law_2176 (by decide +kernel) ?_
  refine lv_iadd hx hb dL_law_2177 ?_
  rw [nI_1 i]
  refine xa_sld hx hb hX hbl hbA hS (k := i + 1) (by omega) hL hp1 dL_law_2178 ?_
  refine lv_aload_n hx hb dL_law_2179 rfl (lv_at hl 3 rfl) ?_
  have hPc := hP.sub (ws' := [(h0, eE h1 h2 kn), (h1, eR hw1 hc1 hb1 a1 r1), (hw1, eW true), (hc1, eA cy f1), (hb1, eA cy g1), (h2, eR hw2 hc2 hb2 a2 r2), (hw2, eW false), (hc2, eA cy f2), (hb2, eA cy g2), (ho, eO nv sv)]) [0, 1, 2, 3, 4, 5, 6, 7, 8, 9] rfl
  have hDc := hD.sub (ws' := [(h0, eE h1 h2 kn), (h1, eR hw1 hc1 hb1 a1 r1), (hw1, eW true), (hc1, eA cy f1), (hb1, eA cy g1), (h2, eR hw2 hc2 hb2 a2 r2), (hw2, eW false), (hc2, eA cy f2), (hb2, eA cy g2), (ho, eO nv sv)]) [0, 1, 2, 3, 4, 5, 6, 7, 8, 9] (by decide +kernel) rfl
  have hKc := hK.sub (tys' := [(cy, .long)]) [0] rfl
  have hFc := va_free (wc := [(h0, eE h1 h2 kn), (h1, eR hw1 hc1 hb1 a1 r1), (hw1, eW true), (hc1, eA cy f1), (hb1, eA cy g1), (h2, eR hw2 hc2 hb2 a2 r2), (hw2, eW false), (hc2, eA cy f2), (hb2, eA cy g2), (ho, eO nv sv)]) hD hS hA [0, 1, 2, 3, 4, 5, 6, 7, 8, 9] rfl
  refine va_calli (vx_runSW (As := [.ref h0, .int p1, .ref ho]) (rest := []) ⟨hx, hb, hml, hown, hts⟩ (k_L_house l hfl dC dI cy h0 h1 hw1 hc1 hb1 h2 hw2 hc2 hb2 a1 r1 f1 g1 a2 r2 f2 g2 kn ho nv sv H.size N p1) (vx_cwSW 3 hts gL_law_L_house rfl rfl rfl (by decide +kernel) ⟨Nat.le_of_ble_eq_true rfl, Nat.le_of_ble_eq_true rfl⟩) (xL.preS hKc hPc hDc hAN (Nat.le_trans hN hS.1) (hG.kept hS hAN) hnc) rfl rfl hl.1 rfl (lv_room (Nat.le_of_ble_eq_true rfl)) dL_law_2180 ⟨(show _ ≤ 989448 by omega), (show _ ≤ 6127760 by omega)⟩) hS (fun q _ h => hFc q h) hFc (fun r_1 u t H locs ht hvm hw hB hz hk hS => ?_)
  replace hw : r_1 = (o_L_house a1 r1 a2 r2 kn nv p1).1 := hw
  subst r_1
  obtain ⟨hP1, hD1⟩ := hB
  rw [ht] at hP1
  obtain ⟨hP, hD⟩ := va_join (wr := [(m0, eM m1 m2 th (r1 + r2) kn), (m1, eMR true mc1 a1), (mc1, eA cy f1), (m2, eMR false mc2 a2), (mc2, eA cy f2)]) (w1 := [(h0, eE h1 h2 kn), (h1, eR hw1 hc1 hb1 a1 r1), (hw1, eW true), (hc1, eA cy f1), (hb1, eA cy g1), (h2, eR hw2 hc2 hb2 a2 r2), (hw2, eW false), (hc2, eA cy f2), (hb2, eA cy g2), (ho, eO (o_L_house a1 r1 a2 r2 kn nv p1).2 sv)]) hP hD [0, 1, 2, 3, 4, 5, 6, 7, 8, 9] [10, 11, 12, 13, 14] rfl rfl (by decide +kernel) (by decide +kernel) hk hFc hP1 hD1
  have hP := hP.sub (ws' := [(h0, eE h1 h2 kn), (h1, eR hw1 hc1 hb1 a1 r1), (hw1, eW true), (hc1, eA cy f1), (hb1, eA cy g1), (h2, eR hw2 hc2 hb2 a2 r2), (hw2, eW false), (hc2, eA cy f2), (hb2, eA cy g2), (ho, eO (o_L_house a1 r1 a2 r2 kn nv p1).2 sv), (m0, eM m1 m2 th (r1 + r2) kn), (m1, eMR true mc1 a1), (mc1, eA cy f1), (m2, eMR false mc2 a2), (mc2, eA cy f2)]) [5, 6, 7, 8, 9, 10, 11, 12, 13, 14, 0, 1, 2, 3, 4] rfl
  have hD := hD.sub (ws' := [(h0, eE h1 h2 kn), (h1, eR hw1 hc1 hb1 a1 r1), (hw1, eW true), (hc1, eA cy f1), (hb1, eA cy g1), (h2, eR hw2 hc2 hb2 a2 r2), (hw2, eW false), (hc2, eA cy f2), (hb2, eA cy g2), (ho, eO (o_L_house a1 r1 a2 r2 kn nv p1).2 sv), (m0, eM m1 m2 th (r1 + r2) kn), (m1, eMR true mc1 a1), (mc1, eA cy f1), (m2, eMR false mc2 a2), (mc2, eA cy f2)]) [5, 6, 7, 8, 9, 10, 11, 12, 13, 14, 0, 1, 2, 3, 4] (by decide +kernel) rfl
  refine lv_istore (lv' := [(5, .int ((o_L_house a1 r1 a2 r2 kn nv p1).1)), (0, .ref b), (1, .ref h0), (2, .ref m0), (3, .ref ho), (4, .int (nI i))]) hx hb dL_law_2183 hl (by decide +kernel) rfl (fun ls hl => ?_)
  refine lv_aload_n hx hb dL_law_2185 rfl (lv_at hl 3 rfl) ?_
  refine lv_aload_n hx hb dL_law_2186 rfl (lv_at hl 1 rfl) ?_
  refine lv_iload hx hb dL_law_2187 (lv_at hl 5 rfl) ?_
  refine lv_iconst (v := 1) hx hb dL_law_2189 (by decide +kernel) ?_
  refine lv_iadd hx hb dL_law_2190 ?_
  rw [nI_1 i]
  refine xa_sld hx hb hX hbl hbA hS (k := i + 1) (by omega) hL hp1 dL_law_2191 ?_
  have hPc := hP.sub (ws' := [(m0, eM m1 m2 th (r1 + r2) kn), (m1, eMR true mc1 a1), (mc1, eA cy f1), (m2, eMR false mc2 a2), (mc2, eA cy f2)]) [10, 11, 12, 13, 14] rfl
  have hDc := hD.sub (ws' := [(m0, eM m1 m2 th (r1 + r2) kn), (m1, eMR true mc1 a1), (mc1, eA cy f1), (m2, eMR false mc2 a2), (mc2, eA cy f2)]) [10, 11, 12, 13, 14] (by decide +kernel) rfl
  have hKc := hK.sub (tys' := [(cy, .long)]) [0] rfl
  have hFc := va_free (wc := [(m0, eM m1 m2 th (r1 + r2) kn), (m1, eMR true mc1 a1), (mc1, eA cy f1), (m2, eMR false mc2 a2), (mc2, eA cy f2)]) hD hS hA [10, 11, 12, 13, 14] rfl
  refine va_calli (va_runV (As := [.int p1]) (rest := []) ⟨hx, hb, hml, hown, hts⟩ (k_X5_house l dC dI cy m0 m1 mc1 m2 mc2 a1 f1 a2 f2 th (r1 + r2) kn H.size N p1) (cwV 1 hts gL_law_X5_house rfl rfl rfl (by decide +kernel) ⟨Nat.le_of_ble_eq_true rfl, Nat.le_of_ble_eq_true rfl⟩) (xM.preV hKc hPc hDc hAN (Nat.le_trans hN hS.1) (hG.kept hS hAN) (ci := 7) (q0 := 0) rfl rfl) rfl rfl hl.1 rfl (lv_room (Nat.le_of_ble_eq_true rfl)) dL_law_2192 ⟨(show _ ≤ 989448 by omega), (show _ ≤ 6127760 by omega)⟩) hS (fun q _ h => hFc q h) hFc (fun r_2 u t H locs ht hvm hw hB hz hk hS => ?_)
  replace hw : r_2 = (o_X5_house a1 a2 (r1 + r2) kn p1).1 := hw
  subst r_2
  obtain ⟨hP1, hD1⟩ := hB
  rw [ht] at hP1
  obtain ⟨hP, hD⟩ := va_join (wr := [(h0, eE h1 h2 kn), (h1, eR hw1 hc1 hb1 a1 r1), (hw1, eW true), (hc1, eA cy f1), (hb1, eA cy g1), (h2, eR hw2 hc2 hb2 a2 r2), (hw2, eW false), (hc2, eA cy f2), (hb2, eA cy g2), (ho, eO (o_L_house a1 r1 a2 r2 kn nv p1).2 sv)]) (w1 := [(m0, eM m1 m2 (o_X5_house a1 a2 (r1 + r2) kn p1).2 (r1 + r2) kn), (m1, eMR true mc1 a1), (mc1, eA cy f1), (m2, eMR false mc2 a2), (mc2, eA cy f2)]) hP hD [10, 11, 12, 13, 14] [0, 1, 2, 3, 4, 5, 6, 7, 8, 9] rfl rfl (by decide +kernel) (by decide +kernel) hk hFc hP1 hD1
  have hP := hP.sub (ws' := [(h0, eE h1 h2 kn), (h1, eR hw1 hc1 hb1 a1 r1), (hw1, eW true), (hc1, eA cy f1), (hb1, eA cy g1), (h2, eR hw2 hc2 hb2 a2 r2), (hw2, eW false), (hc2, eA cy f2), (hb2, eA cy g2), (ho, eO (o_L_house a1 r1 a2 r2 kn nv p1).2 sv), (m0, eM m1 m2 (o_X5_house a1 a2 (r1 + r2) kn p1).2 (r1 + r2) kn), (m1, eMR true mc1 a1), (mc1, eA cy f1), (m2, eMR false mc2 a2), (mc2, eA cy f2)]) [0, 1, 2, 3, 4, 5, 6, 7, 8, 9, 10, 11, 12, 13, 14] rfl
  have hD := hD.sub (ws' := [(h0, eE h1 h2 kn), (h1, eR hw1 hc1 hb1 a1 r1), (hw1, eW true), (hc1, eA cy f1), (hb1, eA cy g1), (h2, eR hw2 hc2 hb2 a2 r2), (hw2, eW false), (hc2, eA cy f2), (hb2, eA cy g2), (ho, eO (o_L_house a1 r1 a2 r2 kn nv p1).2 sv), (m0, eM m1 m2 (o_X5_house a1 a2 (r1 + r2) kn p1).2 (r1 + r2) kn), (m1, eMR true mc1 a1), (mc1, eA cy f1), (m2, eMR false mc2 a2), (mc2, eA cy f2)]) [0, 1, 2, 3, 4, 5, 6, 7, 8, 9, 10, 11, 12, 13, 14] (by decide +kernel) rfl
  refine lv_istore (lv' := [(6, .int ((o_X5_house a1 a2 (r1 + r2) kn p1).1)), (5, .int ((o_L_house a1 r1 a2 r2 kn nv p1).1)), (0, .ref b), (1, .ref h0), (2, .ref m0), (3, .ref ho), (4, .int (nI i))]) hx hb dL_law_2195 hl (by decide +kernel) rfl (fun ls hl => ?_)
  refine lv_goto (tgt := 2240) hx hb dL_law_2197 (by decide +kernel) ?_
  refine W.widen (k := cells + 760) (n := slots + 4500) (by omega) (by omega) ?_
  exact K a1 r1 f1 g1 a2 r2 f2 g2 kn ((o_L_house a1 r1 a2 r2 kn nv p1).2) sv ((o_X5_house a1 a2 (r1 + r2) kn p1).2) a1 f1 a2 f2 (r1 + r2) kn _ _ _ rfl rfl rfl rfl rfl rfl hka1 hka2 hP hD hS (lv_sub hl [2, 3, 4, 5, 6] rfl)
set_option maxHeartbeats 4000000 in
set_option maxRecDepth 100000 in
theorem st_46 (l : Launch) (p : Program) (e : Env) (s : State) (m : MethodId) (below : List Frame) (meth : Method) (c : Code) (b L N : Nat) (xs : Nat → Int32) (A : Nat → Prop) (dC : Nat → ClassId) (dI : Nat → Nat → Nat) (cy cB : ClassId) (h0 h1 hw1 hc1 hb1 h2 hw2 hc2 hb2 ho m0 m1 mc1 m2 mc2 : Nat) (C0 : lw_C l p e s m below meth c b L N xs A dC dI cy cB) (i : Nat) (hi : i + 4 ≤ L) (p1 p2 p3 : Int32) (hp1 : xs (i + 1) = p1) (hp2 : xs (i + 2) = p2) (hp3 : xs (i + 3) = p3) (cells slots : Nat) (hcs : cells + 760 ≤ 989448) (hss : slots + 4500 ≤ 6127760) (K : lw_K l p e s m below meth c b L N xs A dC dI cy cB h0 h1 hw1 hc1 hb1 h2 hw2 hc2 hb2 ho m0 m1 mc1 m2 mc2 i (cells + 760) (slots + 4500) 2240) (a1 : Int32) (r1 : Int32) (f1 : Nat → Int64) (g1 : Nat → Int64) (a2 : Int32) (r2 : Int32) (f2 : Nat → Int64) (g2 : Nat → Int64) (kn : Int32) (nv : Int64) (sv : Value) (th : Int32) (H : Heap) (locs : List Loc) (ls : Array Slot) (hka1 : okA true f1) (hka2 : okA false f2) (hP : va_P (dC, dI) xCl [(h0, eE h1 h2 kn), (h1, eR hw1 hc1 hb1 a1 r1), (hw1, eW true), (hc1, eA cy f1), (hb1, eA cy g1), (h2, eR hw2 hc2 hb2 a2 r2), (hw2, eW false), (hc2, eA cy f2), (hb2, eA cy g2), (ho, eO nv sv), (m0, eM m1 m2 th (r1 + r2) kn), (m1, eMR true mc1 a1), (mc1, eA cy f1), (m2, eMR false mc2 a2), (mc2, eA cy f2)] H) (hD : va_D A [(h0, eE h1 h2 kn), (h1, eR hw1 hc1 hb1 a1 r1), (hw1, eW true), (hc1, eA cy f1), (hb1, eA cy g1), (h2, eR hw2 hc2 hb2 a2 r2), (hw2, eW false), (hc2, eA cy f2), (hb2, eA cy g2), (ho, eO nv sv), (m0, eM m1 m2 th (r1 + r2) kn), (m1, eMR true mc1 a1), (mc1, eA cy f1), (m2, eMR false mc2 a2), (mc2, eA cy f2)]) (hS : va_S A s.heap H locs) (hl : lv_has ls 7 [(0, .ref b), (1, .ref h0), (2, .ref m0), (3, .ref ho), (4, .int (nI i))]) : W p l e room_1 s m #[Value.ref b] below meth c H locs cells slots (lw_Z below #[Value.ref b] s) (F0 m 2200 ls []) := by
  obtain ⟨hfl, hx, hb, hr, hml, hown, hts, hX, hbl, hbA, hlocks, hK, hG, hnc, hA, hAN, hN, hL, hT, hNs⟩ := id C0
  have hok2 := me_okF hka2
  have hsp1 : ∀ k, k < 8 → o_X1_isSpoiled true (f1 k) = false := fun k hk => (hka1 k hk).2
  have hsp2 : ∀ k, k < 8 → o_X1_isSpoiled false (f2 k) = false := fun k hk => (hka2 k hk).2
  refine lv_aload_n hx hb dL_law_2200 rfl (lv_at hl 1 rfl) ?_
  have hPc := hP.sub (ws' := [(h0, eE h1 h2 kn), (h1, eR hw1 hc1 hb1 a1 r1), (hw1, eW true), (hc1, eA cy f1), (hb1, eA cy g1), (h2, eR hw2 hc2 hb2 a2 r2), (hw2, eW false), (hc2, eA cy f2), (hb2, eA cy g2)]) [0, 1, 2, 3, 4, 5, 6, 7, 8] rfl
  have hDc := hD.sub (ws' := [(h0, eE h1 h2 kn), (h1, eR hw1 hc1 hb1 a1 r1), (hw1, eW true), (hc1, eA cy f1), (hb1, eA cy g1), (h2, eR hw2 hc2 hb2 a2 r2), (hw2, eW false), (hc2, eA cy f2), (hb2, eA cy g2)]) [0, 1, 2, 3, 4, 5, 6, 7, 8] (by decide +kernel) rfl
  have hKc := hK.sub (tys' := [(cy, .long)]) [0] rfl
  have hFc := va_free (wc := [(h0, eE h1 h2 kn), (h1, eR hw1 hc1 hb1 a1 r1), (hw1, eW true), (hc1, eA cy f1), (hb1, eA cy g1), (h2, eR hw2 hc2 hb2 a2 r2), (hw2, eW false), (hc2, eA cy f2), (hb2, eA cy g2)]) hD hS hA [0, 1, 2, 3, 4, 5, 6, 7, 8] rfl
  refine va_calli (va_runV (As := []) (rest := []) ⟨hx, hb, hml, hown, hts⟩ (k_X2_knock l dC dI cy h0 h1 hw1 hc1 hb1 h2 hw2 hc2 hb2 a1 r1 f1 g1 a2 r2 f2 g2 kn H.size N) (cwV 0 hts gL_law_X2_knock rfl rfl rfl (by decide +kernel) ⟨Nat.le_of_ble_eq_true rfl, Nat.le_of_ble_eq_true rfl⟩) (xM.preV hKc hPc hDc hAN (Nat.le_trans hN hS.1) (hG.kept hS hAN) (ci := 4) (q0 := 0) rfl rfl) rfl rfl hl.1 rfl (lv_room (Nat.le_of_ble_eq_true rfl)) dL_law_2201 ⟨(show _ ≤ 989448 by omega), (show _ ≤ 6127760 by omega)⟩) hS (fun q _ h => hFc q h) hFc (fun r_1 u t H locs ht hvm hw hB hz hk hS => ?_)
  replace hw : r_1 = (o_X2_knock kn).1 := hw
  subst r_1
  obtain ⟨hP1, hD1⟩ := hB
  rw [ht] at hP1
  obtain ⟨hP, hD⟩ := va_join (wr := [(ho, eO nv sv), (m0, eM m1 m2 th (r1 + r2) kn), (m1, eMR true mc1 a1), (mc1, eA cy f1), (m2, eMR false mc2 a2), (mc2, eA cy f2)]) (w1 := [(h0, eE h1 h2 (o_X2_knock kn).2), (h1, eR hw1 hc1 hb1 a1 r1), (hw1, eW true), (hc1, eA cy f1), (hb1, eA cy g1), (h2, eR hw2 hc2 hb2 a2 r2), (hw2, eW false), (hc2, eA cy f2), (hb2, eA cy g2)]) hP hD [0, 1, 2, 3, 4, 5, 6, 7, 8] [9, 10, 11, 12, 13, 14] rfl rfl (by decide +kernel) (by decide +kernel) hk hFc hP1 hD1
  have hP := hP.sub (ws' := [(h0, eE h1 h2 (o_X2_knock kn).2), (h1, eR hw1 hc1 hb1 a1 r1), (hw1, eW true), (hc1, eA cy f1), (hb1, eA cy g1), (h2, eR hw2 hc2 hb2 a2 r2), (hw2, eW false), (hc2, eA cy f2), (hb2, eA cy g2), (ho, eO nv sv), (m0, eM m1 m2 th (r1 + r2) kn), (m1, eMR true mc1 a1), (mc1, eA cy f1), (m2, eMR false mc2 a2), (mc2, eA cy f2)]) [6, 7, 8, 9, 10, 11, 12, 13, 14, 0, 1, 2, 3, 4, 5] rfl
  have hD := hD.sub (ws' := [(h0, eE h1 h2 (o_X2_knock kn).2), (h1, eR hw1 hc1 hb1 a1 r1), (hw1, eW true), (hc1, eA cy f1), (hb1, eA cy g1), (h2, eR hw2 hc2 hb2 a2 r2), (hw2, eW false), (hc2, eA cy f2), (hb2, eA cy g2), (ho, eO nv sv), (m0, eM m1 m2 th (r1 + r2) kn), (m1, eMR true mc1 a1), (mc1, eA cy f1), (m2, eMR false mc2 a2), (mc2, eA cy f2)]) [6, 7, 8, 9, 10, 11, 12, 13, 14, 0, 1, 2, 3, 4, 5] (by decide +kernel) rfl
  refine lv_pop hx hb dL_law_2204 rfl ?_
  refine lv_aload_n hx hb dL_law_2205 rfl (lv_at hl 2 rfl) ?_
  have hPc := hP.sub (ws' := [(m0, eM m1 m2 th (r1 + r2) kn)]) [10] rfl
  have hDc := hD.sub (ws' := [(m0, eM m1 m2 th (r1 + r2) kn)]) [10] (by decide +kernel) rfl
  have hKc := hK.sub (tys' := []) [] rfl
  have hFc := va_free (wc := [(m0, eM m1 m2 th (r1 + r2) kn)]) hD hS hA [10] rfl
  refine va_calli (va_runV (As := []) (rest := []) ⟨hx, hb, hml, hown, hts⟩ (k_X5_knock l dC dI m0 m1 m2 th (r1 + r2) kn H.size N) (cwV 0 hts gL_law_X5_knock rfl rfl rfl (by decide +kernel) ⟨Nat.le_of_ble_eq_true rfl, Nat.le_of_ble_eq_true rfl⟩) (xM.preV hKc hPc hDc hAN (Nat.le_trans hN hS.1) (hG.kept hS hAN) (ci := 7) (q0 := 0) rfl rfl) rfl rfl hl.1 rfl (lv_room (Nat.le_of_ble_eq_true rfl)) dL_law_2206 ⟨(show _ ≤ 989448 by omega), (show _ ≤ 6127760 by omega)⟩) hS (fun q _ h => hFc q h) hFc (fun r_2 u t H locs ht hvm hw hB hz hk hS => ?_)
  replace hw : r_2 = (o_X5_knock kn).1 := hw
  subst r_2
  obtain ⟨hP1, hD1⟩ := hB
  rw [ht] at hP1
  obtain ⟨hP, hD⟩ := va_join (wr := [(h0, eE h1 h2 (o_X2_knock kn).2), (h1, eR hw1 hc1 hb1 a1 r1), (hw1, eW true), (hc1, eA cy f1), (hb1, eA cy g1), (h2, eR hw2 hc2 hb2 a2 r2), (hw2, eW false), (hc2, eA cy f2), (hb2, eA cy g2), (ho, eO nv sv), (m1, eMR true mc1 a1), (mc1, eA cy f1), (m2, eMR false mc2 a2), (mc2, eA cy f2)]) (w1 := [(m0, eM m1 m2 (o_X5_knock kn).2.1 (r1 + r2) (o_X5_knock kn).2.2)]) hP hD [10] [0, 1, 2, 3, 4, 5, 6, 7, 8, 9, 11, 12, 13, 14] rfl rfl (by decide +kernel) (by decide +kernel) hk hFc hP1 hD1
  have hP := hP.sub (ws' := [(h0, eE h1 h2 (o_X2_knock kn).2), (h1, eR hw1 hc1 hb1 a1 r1), (hw1, eW true), (hc1, eA cy f1), (hb1, eA cy g1), (h2, eR hw2 hc2 hb2 a2 r2), (hw2, eW false), (hc2, eA cy f2), (hb2, eA cy g2), (ho, eO nv sv), (m0, eM m1 m2 (o_X5_knock kn).2.1 (r1 + r2) (o_X5_knock kn).2.2), (m1, eMR true mc1 a1), (mc1, eA cy f1), (m2, eMR false mc2 a2), (mc2, eA cy f2)]) [0, 1, 2, 3, 4, 5, 6, 7, 8, 9, 14, 10, 11, 12, 13] rfl
  have hD := hD.sub (ws' := [(h0, eE h1 h2 (o_X2_knock kn).2), (h1, eR hw1 hc1 hb1 a1 r1), (hw1, eW true), (hc1, eA cy f1), (hb1, eA cy g1), (h2, eR hw2 hc2 hb2 a2 r2), (hw2, eW false), (hc2, eA cy f2), (hb2, eA cy g2), (ho, eO nv sv), (m0, eM m1 m2 (o_X5_knock kn).2.1 (r1 + r2) (o_X5_knock kn).2.2), (m1, eMR true mc1 a1), (mc1, eA cy f1), (m2, eMR false mc2 a2), (mc2, eA cy f2)]) [0, 1, 2, 3, 4, 5, 6, 7, 8, 9, 14, 10, 11, 12, 13] (by decide +kernel) rfl
  refine lv_pop hx hb dL_law_2209 rfl ?_
  refine lv_goto (tgt := 2240) hx hb dL_law_2210 (by decide +kernel) ?_
  refine W.widen (k := cells + 760) (n := slots + 4500) (by omega) (by omega) ?_
  exact K a1 r1 f1 g1 a2 r2 f2 g2 ((o_X2_knock kn).2) nv sv ((o_X5_knock kn).2.1) a1 f1 a2 f2 (r1 + r2) ((o_X5_knock kn).2.2) _ _ _ rfl rfl rfl rfl rfl (by rfl) hka1 hka2 hP hD hS (lv_sub hl [0, 1, 2, 3, 4] rfl)
set_option maxHeartbeats 4000000 in
set_option maxRecDepth 100000 in
theorem st_47 (l : Launch) (p : Program) (e : Env) (s : State) (m : MethodId) (below : List Frame) (meth : Method) (c : Code) (b L N : Nat) (xs : Nat → Int32) (A : Nat → Prop) (dC : Nat → ClassId) (dI : Nat → Nat → Nat) (cy cB : ClassId) (h0 h1 hw1 hc1 hb1 h2 hw2 hc2 hb2 ho m0 m1 mc1 m2 mc2 : Nat) (C0 : lw_C l p e s m below meth c b L N xs A dC dI cy cB) (i : Nat) (hi : i + 4 ≤ L) (p1 p2 p3 : Int32) (hp1 : xs (i + 1) = p1) (hp2 : xs (i + 2) = p2) (hp3 : xs (i + 3) = p3) (cells slots : Nat) (hcs : cells + 760 ≤ 989448) (hss : slots + 4500 ≤ 6127760) (K : lw_K l p e s m below meth c b L N xs A dC dI cy cB h0 h1 hw1 hc1 hb1 h2 hw2 hc2 hb2 ho m0 m1 mc1 m2 mc2 i (cells + 760) (slots + 4500) 2240) (a1 : Int32) (r1 : Int32) (f1 : Nat → Int64) (g1 : Nat → Int64) (a2 : Int32) (r2 : Int32) (f2 : Nat → Int64) (g2 : Nat → Int64) (kn : Int32) (nv : Int64) (sv : Value) (th : Int32) (H : Heap) (locs : List Loc) (ls : Array Slot) (hka1 : okA true f1) (hka2 : okA false f2) (hP : va_P (dC, dI) xCl [(h0, eE h1 h2 kn), (h1, eR hw1 hc1 hb1 a1 r1), (hw1, eW true), (hc1, eA cy f1), (hb1, eA cy g1), (h2, eR hw2 hc2 hb2 a2 r2), (hw2, eW false), (hc2, eA cy f2), (hb2, eA cy g2), (ho, eO nv sv), (m0, eM m1 m2 th (r1 + r2) kn), (m1, eMR true mc1 a1), (mc1, eA cy f1), (m2, eMR false mc2 a2), (mc2, eA cy f2)] H) (hD : va_D A [(h0, eE h1 h2 kn), (h1, eR hw1 hc1 hb1 a1 r1), (hw1, eW true), (hc1, eA cy f1), (hb1, eA cy g1), (h2, eR hw2 hc2 hb2 a2 r2), (hw2, eW false), (hc2, eA cy f2), (hb2, eA cy g2), (ho, eO nv sv), (m0, eM m1 m2 th (r1 + r2) kn), (m1, eMR true mc1 a1), (mc1, eA cy f1), (m2, eMR false mc2 a2), (mc2, eA cy f2)]) (hS : va_S A s.heap H locs) (hl : lv_has ls 7 [(0, .ref b), (1, .ref h0), (2, .ref m0), (3, .ref ho), (4, .int (nI i))]) : W p l e room_1 s m #[Value.ref b] below meth c H locs cells slots (lw_Z below #[Value.ref b] s) (F0 m 2213 ls []) := by
  obtain ⟨hfl, hx, hb, hr, hml, hown, hts, hX, hbl, hbA, hlocks, hK, hG, hnc, hA, hAN, hN, hL, hT, hNs⟩ := id C0
  have hok2 := me_okF hka2
  have hsp1 : ∀ k, k < 8 → o_X1_isSpoiled true (f1 k) = false := fun k hk => (hka1 k hk).2
  have hsp2 : ∀ k, k < 8 → o_X1_isSpoiled false (f2 k) = false := fun k hk => (hka2 k hk).2
  refine lv_aload_n hx hb dL_law_2213 rfl (lv_at hl 1 rfl) ?_
  have hPc := hP.sub (ws' := [(h0, eE h1 h2 kn), (h1, eR hw1 hc1 hb1 a1 r1), (hw1, eW true), (hc1, eA cy f1), (hb1, eA cy g1), (h2, eR hw2 hc2 hb2 a2 r2), (hw2, eW false), (hc2, eA cy f2), (hb2, eA cy g2)]) [0, 1, 2, 3, 4, 5, 6, 7, 8] rfl
  have hKc := hK.sub (tys' := [(cy, .long)]) [0] rfl
  refine va_calli (va_runV (As := []) (rest := []) ⟨hx, hb, hml, hown, hts⟩ (k_X2_isSound l dC dI cy h0 h1 hw1 hc1 hb1 h2 hw2 hc2 hb2 a1 r1 f1 g1 a2 r2 f2 g2 kn H.size hok2 hsp1 hsp2) (cwV 0 hts gL_law_X2_isSound rfl rfl rfl (by decide +kernel) ⟨Nat.le_of_ble_eq_true rfl, Nat.le_of_ble_eq_true rfl⟩) (xB.preV hKc hPc (ci := 4) (q0 := 0) rfl rfl) rfl rfl hl.1 rfl (lv_room (Nat.le_of_ble_eq_true rfl)) dL_law_2214 ⟨(show _ ≤ 989448 by omega), (show _ ≤ 6127760 by omega)⟩) hS xA_old (fun q h => hA q (Nat.le_trans hS.1 h)) (fun r_1 u t H locs ht hvm hw hB hz hk hS => ?_)
  replace hw : r_1 = b2i (o_X2_isSound) := hw
  subst r_1
  have hP := xP_keep hP hk
  refine lv_pop hx hb dL_law_2217 rfl ?_
  refine lv_aload_n hx hb dL_law_2218 rfl (lv_at hl 2 rfl) ?_
  have hPc := hP.sub (ws' := [(m0, eM m1 m2 th (r1 + r2) kn)]) [10] rfl
  have hDc := hD.sub (ws' := [(m0, eM m1 m2 th (r1 + r2) kn)]) [10] (by decide +kernel) rfl
  have hKc := hK.sub (tys' := []) [] rfl
  have hFc := va_free (wc := [(m0, eM m1 m2 th (r1 + r2) kn)]) hD hS hA [10] rfl
  refine va_calli (va_runV (As := []) (rest := []) ⟨hx, hb, hml, hown, hts⟩ (k_X5_isSound l dC dI m0 m1 m2 th (r1 + r2) kn H.size N) (cwV 0 hts gL_law_X5_isSound rfl rfl rfl (by decide +kernel) ⟨Nat.le_of_ble_eq_true rfl, Nat.le_of_ble_eq_true rfl⟩) (xM.preV hKc hPc hDc hAN (Nat.le_trans hN hS.1) (hG.kept hS hAN) (ci := 7) (q0 := 0) rfl rfl) rfl rfl hl.1 rfl (lv_room (Nat.le_of_ble_eq_true rfl)) dL_law_2219 ⟨(show _ ≤ 989448 by omega), (show _ ≤ 6127760 by omega)⟩) hS (fun q _ h => hFc q h) hFc (fun r_2 u t H locs ht hvm hw hB hz hk hS => ?_)
  replace hw : r_2 = b2i ((o_X5_isSound).1) := hw
  subst r_2
  obtain ⟨hP1, hD1⟩ := hB
  rw [ht] at hP1
  obtain ⟨hP, hD⟩ := va_join (wr := [(h0, eE h1 h2 kn), (h1, eR hw1 hc1 hb1 a1 r1), (hw1, eW true), (hc1, eA cy f1), (hb1, eA cy g1), (h2, eR hw2 hc2 hb2 a2 r2), (hw2, eW false), (hc2, eA cy f2), (hb2, eA cy g2), (ho, eO nv sv), (m1, eMR true mc1 a1), (mc1, eA cy f1), (m2, eMR false mc2 a2), (mc2, eA cy f2)]) (w1 := [(m0, eM m1 m2 (o_X5_isSound).2 (r1 + r2) kn)]) hP hD [10] [0, 1, 2, 3, 4, 5, 6, 7, 8, 9, 11, 12, 13, 14] rfl rfl (by decide +kernel) (by decide +kernel) hk hFc hP1 hD1
  have hP := hP.sub (ws' := [(h0, eE h1 h2 kn), (h1, eR hw1 hc1 hb1 a1 r1), (hw1, eW true), (hc1, eA cy f1), (hb1, eA cy g1), (h2, eR hw2 hc2 hb2 a2 r2), (hw2, eW false), (hc2, eA cy f2), (hb2, eA cy g2), (ho, eO nv sv), (m0, eM m1 m2 (o_X5_isSound).2 (r1 + r2) kn), (m1, eMR true mc1 a1), (mc1, eA cy f1), (m2, eMR false mc2 a2), (mc2, eA cy f2)]) [0, 1, 2, 3, 4, 5, 6, 7, 8, 9, 14, 10, 11, 12, 13] rfl
  have hD := hD.sub (ws' := [(h0, eE h1 h2 kn), (h1, eR hw1 hc1 hb1 a1 r1), (hw1, eW true), (hc1, eA cy f1), (hb1, eA cy g1), (h2, eR hw2 hc2 hb2 a2 r2), (hw2, eW false), (hc2, eA cy f2), (hb2, eA cy g2), (ho, eO nv sv), (m0, eM m1 m2 (o_X5_isSound).2 (r1 + r2) kn), (m1, eMR true mc1 a1), (mc1, eA cy f1), (m2, eMR false mc2 a2), (mc2, eA cy f2)]) [0, 1, 2, 3, 4, 5, 6, 7, 8, 9, 14, 10, 11, 12, 13] (by decide +kernel) rfl
  refine lv_pop hx hb dL_law_2222 rfl ?_
  refine lv_goto (tgt := 2240) hx hb dL_law_2223 (by decide +kernel) ?_
  refine W.widen (k := cells + 760) (n := slots + 4500) (by omega) (by omega) ?_
  exact K a1 r1 f1 g1 a2 r2 f2 g2 kn nv sv ((o_X5_isSound).2) a1 f1 a2 f2 (r1 + r2) kn _ _ _ rfl rfl rfl rfl rfl rfl hka1 hka2 hP hD hS (lv_sub hl [0, 1, 2, 3, 4] rfl)
set_option maxHeartbeats 4000000 in
set_option maxRecDepth 100000 in
theorem st_48 (l : Launch) (p : Program) (e : Env) (s : State) (m : MethodId) (below : List Frame) (meth : Method) (c : Code) (b L N : Nat) (xs : Nat → Int32) (A : Nat → Prop) (dC : Nat → ClassId) (dI : Nat → Nat → Nat) (cy cB : ClassId) (h0 h1 hw1 hc1 hb1 h2 hw2 hc2 hb2 ho m0 m1 mc1 m2 mc2 : Nat) (C0 : lw_C l p e s m below meth c b L N xs A dC dI cy cB) (i : Nat) (hi : i + 4 ≤ L) (p1 p2 p3 : Int32) (hp1 : xs (i + 1) = p1) (hp2 : xs (i + 2) = p2) (hp3 : xs (i + 3) = p3) (cells slots : Nat) (hcs : cells + 760 ≤ 989448) (hss : slots + 4500 ≤ 6127760) (K : lw_K l p e s m below meth c b L N xs A dC dI cy cB h0 h1 hw1 hc1 hb1 h2 hw2 hc2 hb2 ho m0 m1 mc1 m2 mc2 i (cells + 760) (slots + 4500) 2240) (a1 : Int32) (r1 : Int32) (f1 : Nat → Int64) (g1 : Nat → Int64) (a2 : Int32) (r2 : Int32) (f2 : Nat → Int64) (g2 : Nat → Int64) (kn : Int32) (nv : Int64) (sv : Value) (th : Int32) (H : Heap) (locs : List Loc) (ls : Array Slot) (hka1 : okA true f1) (hka2 : okA false f2) (hP : va_P (dC, dI) xCl [(h0, eE h1 h2 kn), (h1, eR hw1 hc1 hb1 a1 r1), (hw1, eW true), (hc1, eA cy f1), (hb1, eA cy g1), (h2, eR hw2 hc2 hb2 a2 r2), (hw2, eW false), (hc2, eA cy f2), (hb2, eA cy g2), (ho, eO nv sv), (m0, eM m1 m2 th (r1 + r2) kn), (m1, eMR true mc1 a1), (mc1, eA cy f1), (m2, eMR false mc2 a2), (mc2, eA cy f2)] H) (hD : va_D A [(h0, eE h1 h2 kn), (h1, eR hw1 hc1 hb1 a1 r1), (hw1, eW true), (hc1, eA cy f1), (hb1, eA cy g1), (h2, eR hw2 hc2 hb2 a2 r2), (hw2, eW false), (hc2, eA cy f2), (hb2, eA cy g2), (ho, eO nv sv), (m0, eM m1 m2 th (r1 + r2) kn), (m1, eMR true mc1 a1), (mc1, eA cy f1), (m2, eMR false mc2 a2), (mc2, eA cy f2)]) (hS : va_S A s.heap H locs) (hl : lv_has ls 7 [(0, .ref b), (1, .ref h0), (2, .ref m0), (3, .ref ho), (4, .int (nI i))]) : W p l e room_1 s m #[Value.ref b] below meth c H locs cells slots (lw_Z below #[Value.ref b] s) (F0 m 2226 ls []) := by
  obtain ⟨hfl, hx, hb, hr, hml, hown, hts, hX, hbl, hbA, hlocks, hK, hG, hnc, hA, hAN, hN, hL, hT, hNs⟩ := id C0
  have hok2 := me_okF hka2
  have hsp1 : ∀ k, k < 8 → o_X1_isSpoiled true (f1 k) = false := fun k hk => (hka1 k hk).2
  have hsp2 : ∀ k, k < 8 → o_X1_isSpoiled false (f2 k) = false := fun k hk => (hka2 k hk).2
  refine lv_aload_n hx hb dL_law_2226 rfl (lv_at hl 1 rfl) ?_
  have hPc := hP.sub (ws' := [(h0, eE h1 h2 kn), (h1, eR hw1 hc1 hb1 a1 r1), (hw1, eW true), (hc1, eA cy f1), (hb1, eA cy g1), (h2, eR hw2 hc2 hb2 a2 r2), (hw2, eW false), (hc2, eA cy f2), (hb2, eA cy g2)]) [0, 1, 2, 3, 4, 5, 6, 7, 8] rfl
  have hDc := hD.sub (ws' := [(h0, eE h1 h2 kn), (h1, eR hw1 hc1 hb1 a1 r1), (hw1, eW true), (hc1, eA cy f1), (hb1, eA cy g1), (h2, eR hw2 hc2 hb2 a2 r2), (hw2, eW false), (hc2, eA cy f2), (hb2, eA cy g2)]) [0, 1, 2, 3, 4, 5, 6, 7, 8] (by decide +kernel) rfl
  have hKc := hK.sub (tys' := [(cy, .long)]) [0] rfl
  refine va_calll (va_runV (As := []) (rest := []) ⟨hx, hb, hml, hown, hts⟩ (k_X2_digest l hfl dC dI cy h0 h1 hw1 hc1 hb1 h2 hw2 hc2 hb2 a1 r1 f1 g1 a2 r2 f2 g2 kn H.size N hok2 hsp1 hsp2) (cwV 0 hts gL_law_X2_digest rfl rfl rfl (by decide +kernel) ⟨Nat.le_of_ble_eq_true rfl, Nat.le_of_ble_eq_true rfl⟩) (xM.preV hKc hPc hDc hAN (Nat.le_trans hN hS.1) (hG.kept hS hAN) (ci := 4) (q0 := 0) rfl rfl) rfl rfl hl.1 rfl (lv_room (Nat.le_of_ble_eq_true rfl)) dL_law_2227 ⟨(show _ ≤ 989448 by omega), (show _ ≤ 6127760 by omega)⟩) hS xA_old (fun q h => hA q (Nat.le_trans hS.1 h)) (fun r_1 u t H locs ht hvm hw hB hz hk hS => ?_)
  replace hw : r_1 = (o_X2_digest a1 r1 f1 a2 r2 f2 kn) := hw
  subst r_1
  have hP := xP_keep hP hk
  refine lv_aload_n hx hb dL_law_2230 rfl (lv_at hl 2 rfl) ?_
  have hPc := hP.sub (ws' := [(m0, eM m1 m2 th (r1 + r2) kn), (m1, eMR true mc1 a1), (mc1, eA cy f1), (m2, eMR false mc2 a2), (mc2, eA cy f2)]) [10, 11, 12, 13, 14] rfl
  have hDc := hD.sub (ws' := [(m0, eM m1 m2 th (r1 + r2) kn), (m1, eMR true mc1 a1), (mc1, eA cy f1), (m2, eMR false mc2 a2), (mc2, eA cy f2)]) [10, 11, 12, 13, 14] (by decide +kernel) rfl
  have hKc := hK.sub (tys' := [(cy, .long)]) [0] rfl
  have hFc := va_free (wc := [(m0, eM m1 m2 th (r1 + r2) kn), (m1, eMR true mc1 a1), (mc1, eA cy f1), (m2, eMR false mc2 a2), (mc2, eA cy f2)]) hD hS hA [10, 11, 12, 13, 14] rfl
  refine va_calll (va_runV (As := []) (rest := [.long (o_X2_digest a1 r1 f1 a2 r2 f2 kn)]) ⟨hx, hb, hml, hown, hts⟩ (k_X5_digest l dC dI cy m0 m1 mc1 m2 mc2 a1 f1 a2 f2 th (r1 + r2) kn H.size N hok2) (cwV 0 hts gL_law_X5_digest rfl rfl rfl (by decide +kernel) ⟨Nat.le_of_ble_eq_true rfl, Nat.le_of_ble_eq_true rfl⟩) (xM.preV hKc hPc hDc hAN (Nat.le_trans hN hS.1) (hG.kept hS hAN) (ci := 7) (q0 := 0) rfl rfl) rfl rfl hl.1 rfl (lv_room (Nat.le_of_ble_eq_true rfl)) dL_law_2231 ⟨(show _ ≤ 989448 by omega), (show _ ≤ 6127760 by omega)⟩) hS (fun q _ h => hFc q h) hFc (fun r_2 u t H locs ht hvm hw hB hz hk hS => ?_)
  replace hw : r_2 = (o_X5_digest a1 f1 a2 f2 (r1 + r2) kn).1 := hw
  subst r_2
  obtain ⟨hP1, hD1⟩ := hB
  rw [ht] at hP1
  obtain ⟨hP, hD⟩ := va_join (wr := [(h0, eE h1 h2 kn), (h1, eR hw1 hc1 hb1 a1 r1), (hw1, eW true), (hc1, eA cy f1), (hb1, eA cy g1), (h2, eR hw2 hc2 hb2 a2 r2), (hw2, eW false), (hc2, eA cy f2), (hb2, eA cy g2), (ho, eO nv sv)]) (w1 := [(m0, eM m1 m2 (o_X5_digest a1 f1 a2 f2 (r1 + r2) kn).2 (r1 + r2) kn), (m1, eMR true mc1 a1), (mc1, eA cy f1), (m2, eMR false mc2 a2), (mc2, eA cy f2)]) hP hD [10, 11, 12, 13, 14] [0, 1, 2, 3, 4, 5, 6, 7, 8, 9] rfl rfl (by decide +kernel) (by decide +kernel) hk hFc hP1 hD1
  have hP := hP.sub (ws' := [(h0, eE h1 h2 kn), (h1, eR hw1 hc1 hb1 a1 r1), (hw1, eW true), (hc1, eA cy f1), (hb1, eA cy g1), (h2, eR hw2 hc2 hb2 a2 r2), (hw2, eW false), (hc2, eA cy f2), (hb2, eA cy g2), (ho, eO nv sv), (m0, eM m1 m2 (o_X5_digest a1 f1 a2 f2 (r1 + r2) kn).2 (r1 + r2) kn), (m1, eMR true mc1 a1), (mc1, eA cy f1), (m2, eMR false mc2 a2), (mc2, eA cy f2)]) [0, 1, 2, 3, 4, 5, 6, 7, 8, 9, 10, 11, 12, 13, 14] rfl
  have hD := hD.sub (ws' := [(h0, eE h1 h2 kn), (h1, eR hw1 hc1 hb1 a1 r1), (hw1, eW true), (hc1, eA cy f1), (hb1, eA cy g1), (h2, eR hw2 hc2 hb2 a2 r2), (hw2, eW false), (hc2, eA cy f2), (hb2, eA cy g2), (ho, eO nv sv), (m0, eM m1 m2 (o_X5_digest a1 f1 a2 f2 (r1 + r2) kn).2 (r1 + r2) kn), (m1, eMR true mc1 a1), (mc1, eA cy f1), (m2, eMR false mc2 a2), (mc2, eA cy f2)]) [0, 1, 2, 3, 4, 5, 6, 7, 8, 9, 10, 11, 12, 13, 14] (by decide +kernel) rfl
  refine xc_eq (tgt := 2240) hx hb dL_law_2234 dL_law_2235 (by decide +kernel) (fun c9 => ?_) (fun c9 => absurd (by have hm := mg_digest hka1 hka2 a1 r1 a2 r2 kn; rw [hm] <;> rfl) c9)
  refine W.widen (k := cells + 760) (n := slots + 4500) (by omega) (by omega) ?_
  exact K a1 r1 f1 g1 a2 r2 f2 g2 kn nv sv ((o_X5_digest a1 f1 a2 f2 (r1 + r2) kn).2) a1 f1 a2 f2 (r1 + r2) kn _ _ _ rfl rfl rfl rfl rfl rfl hka1 hka2 hP hD hS (lv_sub hl [0, 1, 2, 3, 4] rfl)
