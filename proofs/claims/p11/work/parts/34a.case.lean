set_option maxHeartbeats 4000000 in
set_option maxRecDepth 100000 in
theorem st_0 (l : Launch) (p : Program) (e : Env) (s : State) (m : MethodId) (below : List Frame) (meth : Method) (c : Code) (b L N : Nat) (xs : Nat → Int32) (A : Nat → Prop) (dC : Nat → ClassId) (dI : Nat → Nat → Nat) (cy cB : ClassId) (h0 h1 hw1 hc1 hb1 h2 hw2 hc2 hb2 ho m0 m1 mc1 m2 mc2 : Nat) (C0 : lw_C l p e s m below meth c b L N xs A dC dI cy cB) (i : Nat) (hi : i + 4 ≤ L) (p1 p2 p3 : Int32) (hp1 : xs (i + 1) = p1) (hp2 : xs (i + 2) = p2) (hp3 : xs (i + 3) = p3) (cells slots : Nat) (hcs : cells + 760 ≤ 616450) (hss : slots + 4500 ≤ 7246753) (K : lw_K l p e s m below meth c b L N xs A dC dI cy cB h0 h1 hw1 hc1 hb1 h2 hw2 hc2 hb2 ho m0 m1 mc1 m2 mc2 i (cells + 760) (slots + 4500) 2268) (a1 : Int32) (r1 : Int32) (f1 : Nat → Int64) (g1 : Nat → Int64) (a2 : Int32) (r2 : Int32) (f2 : Nat → Int64) (g2 : Nat → Int64) (kn : Int32) (nv : Int64) (sv : Value) (th : Int32) (H : Heap) (locs : List Loc) (ls : Array Slot) (hka1 : okA true f1) (hka2 : okA false f2) (hP : va_P (dC, dI) xCl [(h0, eE h1 h2 kn), (h1, eR hw1 hc1 hb1 a1 r1), (hw1, eW true), (hc1, eA cy f1), (hb1, eA cy g1), (h2, eR hw2 hc2 hb2 a2 r2), (hw2, eW false), (hc2, eA cy f2), (hb2, eA cy g2), (ho, eO nv sv), (m0, eM m1 m2 th (r1 + r2) kn), (m1, eMR true mc1 a1), (mc1, eA cy f1), (m2, eMR false mc2 a2), (mc2, eA cy f2)] H) (hD : va_D A [(h0, eE h1 h2 kn), (h1, eR hw1 hc1 hb1 a1 r1), (hw1, eW true), (hc1, eA cy f1), (hb1, eA cy g1), (h2, eR hw2 hc2 hb2 a2 r2), (hw2, eW false), (hc2, eA cy f2), (hb2, eA cy g2), (ho, eO nv sv), (m0, eM m1 m2 th (r1 + r2) kn), (m1, eMR true mc1 a1), (mc1, eA cy f1), (m2, eMR false mc2 a2), (mc2, eA cy f2)]) (hS : va_S A s.heap H locs) (hl : lv_has ls 7 [(0, .ref b), (1, .ref h0), (2, .ref m0), (3, .ref ho), (4, .int (nI i))]) : W p l e room_1 s m #[Value.ref b] below meth c H locs cells slots (lw_Z below #[Value.ref b] s) (F0 m 252 ls []) := by
  obtain ⟨hfl, hx, hb, hr, hml, hown, hts, hX, hbl, hbA, hlocks, hK, hG, hnc, hA, hAN, hN, hL, hT, hNs⟩ := id C0
  have hok2 := me_okF hka2
  have hsp1 : ∀ k, k < 8 → o_X1_isSpoiled true (f1 k) = false := fun k hk => (hka1 k hk).2
  have hsp2 : ∀ k, k < 8 → o_X1_isSpoiled false (f2 k) = false := fun k hk => (hka2 k hk).2
  refine lv_aload_n hx hb dL_law_252 rfl (lv_at hl 1 rfl) ?_
  refine lv_aload_n hx hb dL_law_253 rfl (lv_at hl 0 rfl) ?_
  refine lv_iload hx hb dL_law_254 (lv_at hl 4 rfl) ?_
  refine lv_iconst (v := 1) hx hb dL_law_256 (by decide +kernel) ?_
  refine lv_iadd hx hb dL_law_257 ?_
  rw [nI_1 i]
  refine xa_sld hx hb hX hbl hbA hS (k := i + 1) (by omega) hL hp1 dL_law_258 ?_
  refine lv_aload_n hx hb dL_law_259 rfl (lv_at hl 0 rfl) ?_
  refine lv_iload hx hb dL_law_260 (lv_at hl 4 rfl) ?_
  refine lv_iconst (v := 2) hx hb dL_law_262 (by decide +kernel) ?_
  refine lv_iadd hx hb dL_law_263 ?_
  rw [nI_p2 i]
  refine xa_sld hx hb hX hbl hbA hS (k := i + 2) (by omega) hL hp2 dL_law_264 ?_
  refine lv_aload_n hx hb dL_law_265 rfl (lv_at hl 0 rfl) ?_
  refine lv_iload hx hb dL_law_266 (lv_at hl 4 rfl) ?_
  refine lv_iconst (v := 3) hx hb dL_law_268 (by decide +kernel) ?_
  refine lv_iadd hx hb dL_law_269 ?_
  rw [nI_p3 i]
  refine xa_sld hx hb hX hbl hbA hS (k := i + 3) (by omega) hL hp3 dL_law_270 ?_
  refine lv_aload_n hx hb dL_law_271 rfl (lv_at hl 3 rfl) ?_
  have hPc := hP.sub (ws' := [(h0, eE h1 h2 kn), (h1, eR hw1 hc1 hb1 a1 r1), (hw1, eW true), (hc1, eA cy f1), (hb1, eA cy g1), (h2, eR hw2 hc2 hb2 a2 r2), (hw2, eW false), (hc2, eA cy f2), (hb2, eA cy g2), (ho, eO nv sv)]) [0, 1, 2, 3, 4, 5, 6, 7, 8, 9] rfl
  have hDc := hD.sub (ws' := [(h0, eE h1 h2 kn), (h1, eR hw1 hc1 hb1 a1 r1), (hw1, eW true), (hc1, eA cy f1), (hb1, eA cy g1), (h2, eR hw2 hc2 hb2 a2 r2), (hw2, eW false), (hc2, eA cy f2), (hb2, eA cy g2), (ho, eO nv sv)]) [0, 1, 2, 3, 4, 5, 6, 7, 8, 9] (by decide +kernel) rfl
  have hKc := hK.sub (tys' := [(cy, .long)]) [0] rfl
  have hFc := va_free (wc := [(h0, eE h1 h2 kn), (h1, eR hw1 hc1 hb1 a1 r1), (hw1, eW true), (hc1, eA cy f1), (hb1, eA cy g1), (h2, eR hw2 hc2 hb2 a2 r2), (hw2, eW false), (hc2, eA cy f2), (hb2, eA cy g2), (ho, eO nv sv)]) hD hS hA [0, 1, 2, 3, 4, 5, 6, 7, 8, 9] rfl
  refine va_calli (vx_runSW (As := [.ref h0, .int p1, .int p2, .int p3, .ref ho]) (rest := []) ⟨hx, hb, hml, hown, hts⟩ (k_L_putWide l hfl dC dI cy h0 h1 hw1 hc1 hb1 h2 hw2 hc2 hb2 a1 r1 f1 g1 a2 r2 f2 g2 kn ho nv sv H.size N p1 p2 p3) (vx_cwSW 5 hts gL_law_L_putWide rfl rfl rfl (by decide +kernel) ⟨Nat.le_of_ble_eq_true rfl, Nat.le_of_ble_eq_true rfl⟩) (xL.preS hKc hPc hDc hAN (Nat.le_trans hN hS.1) (hG.kept hS hAN) hnc) rfl rfl hl.1 rfl (lv_room (Nat.le_of_ble_eq_true rfl)) dL_law_272 ⟨(show _ ≤ 616450 by omega), (show _ ≤ 7246753 by omega)⟩) hS (fun q _ h => hFc q h) hFc (fun r_1 u t H locs ht hvm hw hB hz hk hS => ?_)
  replace hw : r_1 = (o_L_putWide a1 r1 f1 nv p1 p2 p3).1 := hw
  subst r_1
  obtain ⟨hP1, hD1⟩ := hB
  rw [ht] at hP1
  obtain ⟨hP, hD⟩ := va_join (wr := [(m0, eM m1 m2 th (r1 + r2) kn), (m1, eMR true mc1 a1), (mc1, eA cy f1), (m2, eMR false mc2 a2), (mc2, eA cy f2)]) (w1 := [(h0, eE h1 h2 kn), (h1, eR hw1 hc1 hb1 (o_L_putWide a1 r1 f1 nv p1 p2 p3).2.1 (o_L_putWide a1 r1 f1 nv p1 p2 p3).2.2.1), (hw1, eW true), (hc1, eA cy (o_L_putWide a1 r1 f1 nv p1 p2 p3).2.2.2.1), (hb1, eA cy g1), (h2, eR hw2 hc2 hb2 a2 r2), (hw2, eW false), (hc2, eA cy f2), (hb2, eA cy g2), (ho, eO (o_L_putWide a1 r1 f1 nv p1 p2 p3).2.2.2.2 sv)]) hP hD [0, 1, 2, 3, 4, 5, 6, 7, 8, 9] [10, 11, 12, 13, 14] rfl rfl (by decide +kernel) (by decide +kernel) hk hFc hP1 hD1
  have hP := hP.sub (ws' := [(h0, eE h1 h2 kn), (h1, eR hw1 hc1 hb1 (o_L_putWide a1 r1 f1 nv p1 p2 p3).2.1 (o_L_putWide a1 r1 f1 nv p1 p2 p3).2.2.1), (hw1, eW true), (hc1, eA cy (o_L_putWide a1 r1 f1 nv p1 p2 p3).2.2.2.1), (hb1, eA cy g1), (h2, eR hw2 hc2 hb2 a2 r2), (hw2, eW false), (hc2, eA cy f2), (hb2, eA cy g2), (ho, eO (o_L_putWide a1 r1 f1 nv p1 p2 p3).2.2.2.2 sv), (m0, eM m1 m2 th (r1 + r2) kn), (m1, eMR true mc1 a1), (mc1, eA cy f1), (m2, eMR false mc2 a2), (mc2, eA cy f2)]) [5, 6, 7, 8, 9, 10, 11, 12, 13, 14, 0, 1, 2, 3, 4] rfl
  have hD := hD.sub (ws' := [(h0, eE h1 h2 kn), (h1, eR hw1 hc1 hb1 (o_L_putWide a1 r1 f1 nv p1 p2 p3).2.1 (o_L_putWide a1 r1 f1 nv p1 p2 p3).2.2.1), (hw1, eW true), (hc1, eA cy (o_L_putWide a1 r1 f1 nv p1 p2 p3).2.2.2.1), (hb1, eA cy g1), (h2, eR hw2 hc2 hb2 a2 r2), (hw2, eW false), (hc2, eA cy f2), (hb2, eA cy g2), (ho, eO (o_L_putWide a1 r1 f1 nv p1 p2 p3).2.2.2.2 sv), (m0, eM m1 m2 th (r1 + r2) kn), (m1, eMR true mc1 a1), (mc1, eA cy f1), (m2, eMR false mc2 a2), (mc2, eA cy f2)]) [5, 6, 7, 8, 9, 10, 11, 12, 13, 14, 0, 1, 2, 3, 4] (by decide +kernel) rfl
  refine lv_istore (lv' := [(5, .int ((o_L_putWide a1 r1 f1 nv p1 p2 p3).1)), (0, .ref b), (1, .ref h0), (2, .ref m0), (3, .ref ho), (4, .int (nI i))]) hx hb dL_law_275 hl (by decide +kernel) rfl (fun ls hl => ?_)
  refine lv_aload_n hx hb dL_law_277 rfl (lv_at hl 3 rfl) ?_
  refine lv_aload_n hx hb dL_law_278 rfl (lv_at hl 1 rfl) ?_
  refine lv_iload hx hb dL_law_279 (lv_at hl 5 rfl) ?_
  refine lv_iconst (v := 1) hx hb dL_law_281 (by decide +kernel) ?_
  refine lv_iadd hx hb dL_law_282 ?_
  rw [nI_1 i]
  refine xa_sld hx hb hX hbl hbA hS (k := i + 1) (by omega) hL hp1 dL_law_283 ?_
  refine lv_aload_n hx hb dL_law_284 rfl (lv_at hl 1 rfl) ?_
  refine lv_iload hx hb dL_law_285 (lv_at hl 5 rfl) ?_
  refine lv_iconst (v := 2) hx hb dL_law_287 (by decide +kernel) ?_
  refine lv_iadd hx hb dL_law_288 ?_
  rw [nI_p2 i]
  refine xa_sld hx hb hX hbl hbA hS (k := i + 2) (by omega) hL hp2 dL_law_289 ?_
  refine lv_aload_n hx hb dL_law_290 rfl (lv_at hl 1 rfl) ?_
  refine lv_iload hx hb dL_law_291 (lv_at hl 5 rfl) ?_
  refine lv_iconst (v := 3) hx hb dL_law_293 (by decide +kernel) ?_
  refine lv_iadd hx hb dL_law_294 ?_
  rw [nI_p3 i]
  refine xa_sld hx hb hX hbl hbA hS (k := i + 3) (by omega) hL hp3 dL_law_295 ?_
  have hPc := hP.sub (ws' := [(m0, eM m1 m2 th (r1 + r2) kn), (m1, eMR true mc1 a1), (mc1, eA cy f1), (m2, eMR false mc2 a2), (mc2, eA cy f2)]) [10, 11, 12, 13, 14] rfl
  have hDc := hD.sub (ws' := [(m0, eM m1 m2 th (r1 + r2) kn), (m1, eMR true mc1 a1), (mc1, eA cy f1), (m2, eMR false mc2 a2), (mc2, eA cy f2)]) [10, 11, 12, 13, 14] (by decide +kernel) rfl
  have hKc := hK.sub (tys' := [(cy, .long)]) [0] rfl
  have hFc := va_free (wc := [(m0, eM m1 m2 th (r1 + r2) kn), (m1, eMR true mc1 a1), (mc1, eA cy f1), (m2, eMR false mc2 a2), (mc2, eA cy f2)]) hD hS hA [10, 11, 12, 13, 14] rfl
  refine va_calli (va_runV (As := [.int p1, .int p2, .int p3]) (rest := []) ⟨hx, hb, hml, hown, hts⟩ (k_X5_putWide l dC dI cy m0 m1 mc1 m2 mc2 a1 f1 a2 f2 th (r1 + r2) kn H.size N p1 p2 p3) (cwV 3 hts gL_law_X5_putWide rfl rfl rfl (by decide +kernel) ⟨Nat.le_of_ble_eq_true rfl, Nat.le_of_ble_eq_true rfl⟩) (xM.preV hKc hPc hDc hAN (Nat.le_trans hN hS.1) (hG.kept hS hAN) (ci := 7) (q0 := 0) rfl rfl) rfl rfl hl.1 rfl (lv_room (Nat.le_of_ble_eq_true rfl)) dL_law_296 ⟨(show _ ≤ 616450 by omega), (show _ ≤ 7246753 by omega)⟩) hS (fun q _ h => hFc q h) hFc (fun r_2 u t H locs ht hvm hw hB hz hk hS => ?_)
  replace hw : r_2 = (o_X5_putWide a1 f1 (r1 + r2) p1 p2 p3).1 := hw
  subst r_2
  obtain ⟨hP1, hD1⟩ := hB
  rw [ht] at hP1
  obtain ⟨hP, hD⟩ := va_join (wr := [(h0, eE h1 h2 kn), (h1, eR hw1 hc1 hb1 (o_L_putWide a1 r1 f1 nv p1 p2 p3).2.1 (o_L_putWide a1 r1 f1 nv p1 p2 p3).2.2.1), (hw1, eW true), (hc1, eA cy (o_L_putWide a1 r1 f1 nv p1 p2 p3).2.2.2.1), (hb1, eA cy g1), (h2, eR hw2 hc2 hb2 a2 r2), (hw2, eW false), (hc2, eA cy f2), (hb2, eA cy g2), (ho, eO (o_L_putWide a1 r1 f1 nv p1 p2 p3).2.2.2.2 sv)]) (w1 := [(m0, eM m1 m2 (o_X5_putWide a1 f1 (r1 + r2) p1 p2 p3).2.2.2.1 (o_X5_putWide a1 f1 (r1 + r2) p1 p2 p3).2.2.2.2 kn), (m1, eMR true mc1 (o_X5_putWide a1 f1 (r1 + r2) p1 p2 p3).2.1), (mc1, eA cy (o_X5_putWide a1 f1 (r1 + r2) p1 p2 p3).2.2.1), (m2, eMR false mc2 a2), (mc2, eA cy f2)]) hP hD [10, 11, 12, 13, 14] [0, 1, 2, 3, 4, 5, 6, 7, 8, 9] rfl rfl (by decide +kernel) (by decide +kernel) hk hFc hP1 hD1
  have hP := hP.sub (ws' := [(h0, eE h1 h2 kn), (h1, eR hw1 hc1 hb1 (o_L_putWide a1 r1 f1 nv p1 p2 p3).2.1 (o_L_putWide a1 r1 f1 nv p1 p2 p3).2.2.1), (hw1, eW true), (hc1, eA cy (o_L_putWide a1 r1 f1 nv p1 p2 p3).2.2.2.1), (hb1, eA cy g1), (h2, eR hw2 hc2 hb2 a2 r2), (hw2, eW false), (hc2, eA cy f2), (hb2, eA cy g2), (ho, eO (o_L_putWide a1 r1 f1 nv p1 p2 p3).2.2.2.2 sv), (m0, eM m1 m2 (o_X5_putWide a1 f1 (r1 + r2) p1 p2 p3).2.2.2.1 (o_X5_putWide a1 f1 (r1 + r2) p1 p2 p3).2.2.2.2 kn), (m1, eMR true mc1 (o_X5_putWide a1 f1 (r1 + r2) p1 p2 p3).2.1), (mc1, eA cy (o_X5_putWide a1 f1 (r1 + r2) p1 p2 p3).2.2.1), (m2, eMR false mc2 a2), (mc2, eA cy f2)]) [0, 1, 2, 3, 4, 5, 6, 7, 8, 9, 10, 11, 12, 13, 14] rfl
  have hD := hD.sub (ws' := [(h0, eE h1 h2 kn), (h1, eR hw1 hc1 hb1 (o_L_putWide a1 r1 f1 nv p1 p2 p3).2.1 (o_L_putWide a1 r1 f1 nv p1 p2 p3).2.2.1), (hw1, eW true), (hc1, eA cy (o_L_putWide a1 r1 f1 nv p1 p2 p3).2.2.2.1), (hb1, eA cy g1), (h2, eR hw2 hc2 hb2 a2 r2), (hw2, eW false), (hc2, eA cy f2), (hb2, eA cy g2), (ho, eO (o_L_putWide a1 r1 f1 nv p1 p2 p3).2.2.2.2 sv), (m0, eM m1 m2 (o_X5_putWide a1 f1 (r1 + r2) p1 p2 p3).2.2.2.1 (o_X5_putWide a1 f1 (r1 + r2) p1 p2 p3).2.2.2.2 kn), (m1, eMR true mc1 (o_X5_putWide a1 f1 (r1 + r2) p1 p2 p3).2.1), (mc1, eA cy (o_X5_putWide a1 f1 (r1 + r2) p1 p2 p3).2.2.1), (m2, eMR false mc2 a2), (mc2, eA cy f2)]) [0, 1, 2, 3, 4, 5, 6, 7, 8, 9, 10, 11, 12, 13, 14] (by decide +kernel) rfl
  refine lv_istore (lv' := [(6, .int ((o_X5_putWide a1 f1 (r1 + r2) p1 p2 p3).1)), (5, .int ((o_L_putWide a1 r1 f1 nv p1 p2 p3).1)), (0, .ref b), (1, .ref h0), (2, .ref m0), (3, .ref ho), (4, .int (nI i))]) hx hb dL_law_299 hl (by decide +kernel) rfl (fun ls hl => ?_)
  refine lv_goto (tgt := 2268) hx hb dL_law_301 (by decide +kernel) ?_
  refine W.widen (k := cells + 760) (n := slots + 4500) (by omega) (by omega) ?_
  have qe_b1 : (o_X5_putWide a1 f1 (r1 + r2) p1 p2 p3).2.1 = (o_L_putWide a1 r1 f1 nv p1 p2 p3).2.1 := (by have hm := ml_putWide a1 r1 r2 nv p1 p2 p3 hka1; exact hm.2.1.symm)
  have qe_e1 : (o_X5_putWide a1 f1 (r1 + r2) p1 p2 p3).2.2.1 = (o_L_putWide a1 r1 f1 nv p1 p2 p3).2.2.2.1 := (by have hm := ml_putWide a1 r1 r2 nv p1 p2 p3 hka1; exact hm.2.2.2.1.symm)
  have qe_rf : (o_X5_putWide a1 f1 (r1 + r2) p1 p2 p3).2.2.2.2 = (o_L_putWide a1 r1 f1 nv p1 p2 p3).2.2.1 + r2 := (by have hm := ml_putWide a1 r1 r2 nv p1 p2 p3 hka1; exact hm.2.2.1.symm)
  have qk_1 : okA true ((o_L_putWide a1 r1 f1 nv p1 p2 p3).2.2.2.1) := (by have hm := ml_putWide a1 r1 r2 nv p1 p2 p3 hka1; rw [hm.2.2.2.1]; exact hm.2.2.2.2.2)
  exact K ((o_L_putWide a1 r1 f1 nv p1 p2 p3).2.1) ((o_L_putWide a1 r1 f1 nv p1 p2 p3).2.2.1) ((o_L_putWide a1 r1 f1 nv p1 p2 p3).2.2.2.1) g1 a2 r2 f2 g2 kn ((o_L_putWide a1 r1 f1 nv p1 p2 p3).2.2.2.2) sv ((o_X5_putWide a1 f1 (r1 + r2) p1 p2 p3).2.2.2.1) ((o_X5_putWide a1 f1 (r1 + r2) p1 p2 p3).2.1) ((o_X5_putWide a1 f1 (r1 + r2) p1 p2 p3).2.2.1) a2 f2 ((o_X5_putWide a1 f1 (r1 + r2) p1 p2 p3).2.2.2.2) kn _ _ _ qe_b1 qe_e1 rfl rfl qe_rf rfl qk_1 hka2 hP hD hS (lv_sub hl [2, 3, 4, 5, 6] rfl)
set_option maxHeartbeats 4000000 in
set_option maxRecDepth 100000 in
theorem st_1 (l : Launch) (p : Program) (e : Env) (s : State) (m : MethodId) (below : List Frame) (meth : Method) (c : Code) (b L N : Nat) (xs : Nat → Int32) (A : Nat → Prop) (dC : Nat → ClassId) (dI : Nat → Nat → Nat) (cy cB : ClassId) (h0 h1 hw1 hc1 hb1 h2 hw2 hc2 hb2 ho m0 m1 mc1 m2 mc2 : Nat) (C0 : lw_C l p e s m below meth c b L N xs A dC dI cy cB) (i : Nat) (hi : i + 4 ≤ L) (p1 p2 p3 : Int32) (hp1 : xs (i + 1) = p1) (hp2 : xs (i + 2) = p2) (hp3 : xs (i + 3) = p3) (cells slots : Nat) (hcs : cells + 760 ≤ 616450) (hss : slots + 4500 ≤ 7246753) (K : lw_K l p e s m below meth c b L N xs A dC dI cy cB h0 h1 hw1 hc1 hb1 h2 hw2 hc2 hb2 ho m0 m1 mc1 m2 mc2 i (cells + 760) (slots + 4500) 2268) (a1 : Int32) (r1 : Int32) (f1 : Nat → Int64) (g1 : Nat → Int64) (a2 : Int32) (r2 : Int32) (f2 : Nat → Int64) (g2 : Nat → Int64) (kn : Int32) (nv : Int64) (sv : Value) (th : Int32) (H : Heap) (locs : List Loc) (ls : Array Slot) (hka1 : okA true f1) (hka2 : okA false f2) (hP : va_P (dC, dI) xCl [(h0, eE h1 h2 kn), (h1, eR hw1 hc1 hb1 a1 r1), (hw1, eW true), (hc1, eA cy f1), (hb1, eA cy g1), (h2, eR hw2 hc2 hb2 a2 r2), (hw2, eW false), (hc2, eA cy f2), (hb2, eA cy g2), (ho, eO nv sv), (m0, eM m1 m2 th (r1 + r2) kn), (m1, eMR true mc1 a1), (mc1, eA cy f1), (m2, eMR false mc2 a2), (mc2, eA cy f2)] H) (hD : va_D A [(h0, eE h1 h2 kn), (h1, eR hw1 hc1 hb1 a1 r1), (hw1, eW true), (hc1, eA cy f1), (hb1, eA cy g1), (h2, eR hw2 hc2 hb2 a2 r2), (hw2, eW false), (hc2, eA cy f2), (hb2, eA cy g2), (ho, eO nv sv), (m0, eM m1 m2 th (r1 + r2) kn), (m1, eMR true mc1 a1), (mc1, eA cy f1), (m2, eMR false mc2 a2), (mc2, eA cy f2)]) (hS : va_S A s.heap H locs) (hl : lv_has ls 7 [(0, .ref b), (1, .ref h0), (2, .ref m0), (3, .ref ho), (4, .int (nI i))]) : W p l e room_1 s m #[Value.ref b] below meth c H locs cells slots (lw_Z below #[Value.ref b] s) (F0 m 304 ls []) := by
  obtain ⟨hfl, hx, hb, hr, hml, hown, hts, hX, hbl, hbA, hlocks, hK, hG, hnc, hA, hAN, hN, hL, hT, hNs⟩ := id C0
  have hok2 := me_okF hka2
  have hsp1 : ∀ k, k < 8 → o_X1_isSpoiled true (f1 k) = false := fun k hk => (hka1 k hk).2
  have hsp2 : ∀ k, k < 8 → o_X1_isSpoiled false (f2 k) = false := fun k hk => (hka2 k hk).2
  refine lv_aload_n hx hb dL_law_304 rfl (lv_at hl 1 rfl) ?_
  refine lv_aload_n hx hb dL_law_305 rfl (lv_at hl 0 rfl) ?_
  refine lv_iload hx hb dL_law_306 (lv_at hl 4 rfl) ?_
  refine lv_iconst (v := 1) hx hb dL_law_308 (by decide +kernel) ?_
  refine lv_iadd hx hb dL_law_309 ?_
  rw [nI_1 i]
  refine xa_sld hx hb hX hbl hbA hS (k := i + 1) (by omega) hL hp1 dL_law_310 ?_
  refine lv_aload_n hx hb dL_law_311 rfl (lv_at hl 0 rfl) ?_
  refine lv_iload hx hb dL_law_312 (lv_at hl 4 rfl) ?_
  refine lv_iconst (v := 2) hx hb dL_law_314 (by decide +kernel) ?_
  refine lv_iadd hx hb dL_law_315 ?_
  rw [nI_p2 i]
  refine xa_sld hx hb hX hbl hbA hS (k := i + 2) (by omega) hL hp2 dL_law_316 ?_
  refine lv_aload_n hx hb dL_law_317 rfl (lv_at hl 3 rfl) ?_
  have hPc := hP.sub (ws' := [(h0, eE h1 h2 kn), (h1, eR hw1 hc1 hb1 a1 r1), (hw1, eW true), (hc1, eA cy f1), (hb1, eA cy g1), (h2, eR hw2 hc2 hb2 a2 r2), (hw2, eW false), (hc2, eA cy f2), (hb2, eA cy g2), (ho, eO nv sv)]) [0, 1, 2, 3, 4, 5, 6, 7, 8, 9] rfl
  have hDc := hD.sub (ws' := [(h0, eE h1 h2 kn), (h1, eR hw1 hc1 hb1 a1 r1), (hw1, eW true), (hc1, eA cy f1), (hb1, eA cy g1), (h2, eR hw2 hc2 hb2 a2 r2), (hw2, eW false), (hc2, eA cy f2), (hb2, eA cy g2), (ho, eO nv sv)]) [0, 1, 2, 3, 4, 5, 6, 7, 8, 9] (by decide +kernel) rfl
  have hKc := hK.sub (tys' := [(cy, .long)]) [0] rfl
  have hFc := va_free (wc := [(h0, eE h1 h2 kn), (h1, eR hw1 hc1 hb1 a1 r1), (hw1, eW true), (hc1, eA cy f1), (hb1, eA cy g1), (h2, eR hw2 hc2 hb2 a2 r2), (hw2, eW false), (hc2, eA cy f2), (hb2, eA cy g2), (ho, eO nv sv)]) hD hS hA [0, 1, 2, 3, 4, 5, 6, 7, 8, 9] rfl
  refine va_calli (vx_runSW (As := [.ref h0, .int p1, .int p2, .ref ho]) (rest := []) ⟨hx, hb, hml, hown, hts⟩ (k_L_wideQuarters l hfl dC dI cy h0 h1 hw1 hc1 hb1 h2 hw2 hc2 hb2 a1 r1 f1 g1 a2 r2 f2 g2 kn ho nv sv H.size N p1 p2) (vx_cwSW 4 hts gL_law_L_wideQuarters rfl rfl rfl (by decide +kernel) ⟨Nat.le_of_ble_eq_true rfl, Nat.le_of_ble_eq_true rfl⟩) (xL.preS hKc hPc hDc hAN (Nat.le_trans hN hS.1) (hG.kept hS hAN) hnc) rfl rfl hl.1 rfl (lv_room (Nat.le_of_ble_eq_true rfl)) dL_law_318 ⟨(show _ ≤ 616450 by omega), (show _ ≤ 7246753 by omega)⟩) hS (fun q _ h => hFc q h) hFc (fun r_1 u t H locs ht hvm hw hB hz hk hS => ?_)
  replace hw : r_1 = (o_L_wideQuarters a1 f1 nv p1 p2).1 := hw
  subst r_1
  obtain ⟨hP1, hD1⟩ := hB
  rw [ht] at hP1
  obtain ⟨hP, hD⟩ := va_join (wr := [(m0, eM m1 m2 th (r1 + r2) kn), (m1, eMR true mc1 a1), (mc1, eA cy f1), (m2, eMR false mc2 a2), (mc2, eA cy f2)]) (w1 := [(h0, eE h1 h2 kn), (h1, eR hw1 hc1 hb1 (o_L_wideQuarters a1 f1 nv p1 p2).2.1 r1), (hw1, eW true), (hc1, eA cy (o_L_wideQuarters a1 f1 nv p1 p2).2.2.1), (hb1, eA cy g1), (h2, eR hw2 hc2 hb2 a2 r2), (hw2, eW false), (hc2, eA cy f2), (hb2, eA cy g2), (ho, eO (o_L_wideQuarters a1 f1 nv p1 p2).2.2.2 sv)]) hP hD [0, 1, 2, 3, 4, 5, 6, 7, 8, 9] [10, 11, 12, 13, 14] rfl rfl (by decide +kernel) (by decide +kernel) hk hFc hP1 hD1
  have hP := hP.sub (ws' := [(h0, eE h1 h2 kn), (h1, eR hw1 hc1 hb1 (o_L_wideQuarters a1 f1 nv p1 p2).2.1 r1), (hw1, eW true), (hc1, eA cy (o_L_wideQuarters a1 f1 nv p1 p2).2.2.1), (hb1, eA cy g1), (h2, eR hw2 hc2 hb2 a2 r2), (hw2, eW false), (hc2, eA cy f2), (hb2, eA cy g2), (ho, eO (o_L_wideQuarters a1 f1 nv p1 p2).2.2.2 sv), (m0, eM m1 m2 th (r1 + r2) kn), (m1, eMR true mc1 a1), (mc1, eA cy f1), (m2, eMR false mc2 a2), (mc2, eA cy f2)]) [5, 6, 7, 8, 9, 10, 11, 12, 13, 14, 0, 1, 2, 3, 4] rfl
  have hD := hD.sub (ws' := [(h0, eE h1 h2 kn), (h1, eR hw1 hc1 hb1 (o_L_wideQuarters a1 f1 nv p1 p2).2.1 r1), (hw1, eW true), (hc1, eA cy (o_L_wideQuarters a1 f1 nv p1 p2).2.2.1), (hb1, eA cy g1), (h2, eR hw2 hc2 hb2 a2 r2), (hw2, eW false), (hc2, eA cy f2), (hb2, eA cy g2), (ho, eO (o_L_wideQuarters a1 f1 nv p1 p2).2.2.2 sv), (m0, eM m1 m2 th (r1 + r2) kn), (m1, eMR true mc1 a1), (mc1, eA cy f1), (m2, eMR false mc2 a2), (mc2, eA cy f2)]) [5, 6, 7, 8, 9, 10, 11, 12, 13, 14, 0, 1, 2, 3, 4] (by decide +kernel) rfl
  refine lv_istore (lv' := [(5, .int ((o_L_wideQuarters a1 f1 nv p1 p2).1)), (0, .ref b), (1, .ref h0), (2, .ref m0), (3, .ref ho), (4, .int (nI i))]) hx hb dL_law_321 hl (by decide +kernel) rfl (fun ls hl => ?_)
  refine lv_aload_n hx hb dL_law_323 rfl (lv_at hl 3 rfl) ?_
  refine lv_aload_n hx hb dL_law_324 rfl (lv_at hl 1 rfl) ?_
  refine lv_iload hx hb dL_law_325 (lv_at hl 5 rfl) ?_
  refine lv_iconst (v := 1) hx hb dL_law_327 (by decide +kernel) ?_
  refine lv_iadd hx hb dL_law_328 ?_
  rw [nI_1 i]
  refine xa_sld hx hb hX hbl hbA hS (k := i + 1) (by omega) hL hp1 dL_law_329 ?_
  refine lv_aload_n hx hb dL_law_330 rfl (lv_at hl 1 rfl) ?_
  refine lv_iload hx hb dL_law_331 (lv_at hl 5 rfl) ?_
  refine lv_iconst (v := 2) hx hb dL_law_333 (by decide +kernel) ?_
  refine lv_iadd hx hb dL_law_334 ?_
  rw [nI_p2 i]
  refine xa_sld hx hb hX hbl hbA hS (k := i + 2) (by omega) hL hp2 dL_law_335 ?_
  have hPc := hP.sub (ws' := [(m0, eM m1 m2 th (r1 + r2) kn), (m1, eMR true mc1 a1), (mc1, eA cy f1), (m2, eMR false mc2 a2), (mc2, eA cy f2)]) [10, 11, 12, 13, 14] rfl
  have hDc := hD.sub (ws' := [(m0, eM m1 m2 th (r1 + r2) kn), (m1, eMR true mc1 a1), (mc1, eA cy f1), (m2, eMR false mc2 a2), (mc2, eA cy f2)]) [10, 11, 12, 13, 14] (by decide +kernel) rfl
  have hKc := hK.sub (tys' := [(cy, .long)]) [0] rfl
  have hFc := va_free (wc := [(m0, eM m1 m2 th (r1 + r2) kn), (m1, eMR true mc1 a1), (mc1, eA cy f1), (m2, eMR false mc2 a2), (mc2, eA cy f2)]) hD hS hA [10, 11, 12, 13, 14] rfl
  refine va_calli (va_runV (As := [.int p1, .int p2]) (rest := []) ⟨hx, hb, hml, hown, hts⟩ (k_X5_wideQuarters l dC dI cy m0 m1 mc1 m2 mc2 a1 f1 a2 f2 th (r1 + r2) kn H.size N p1 p2) (cwV 2 hts gL_law_X5_wideQuarters rfl rfl rfl (by decide +kernel) ⟨Nat.le_of_ble_eq_true rfl, Nat.le_of_ble_eq_true rfl⟩) (xM.preV hKc hPc hDc hAN (Nat.le_trans hN hS.1) (hG.kept hS hAN) (ci := 7) (q0 := 0) rfl rfl) rfl rfl hl.1 rfl (lv_room (Nat.le_of_ble_eq_true rfl)) dL_law_336 ⟨(show _ ≤ 616450 by omega), (show _ ≤ 7246753 by omega)⟩) hS (fun q _ h => hFc q h) hFc (fun r_2 u t H locs ht hvm hw hB hz hk hS => ?_)
  replace hw : r_2 = (o_X5_wideQuarters a1 f1 p1 p2).1 := hw
  subst r_2
  obtain ⟨hP1, hD1⟩ := hB
  rw [ht] at hP1
  obtain ⟨hP, hD⟩ := va_join (wr := [(h0, eE h1 h2 kn), (h1, eR hw1 hc1 hb1 (o_L_wideQuarters a1 f1 nv p1 p2).2.1 r1), (hw1, eW true), (hc1, eA cy (o_L_wideQuarters a1 f1 nv p1 p2).2.2.1), (hb1, eA cy g1), (h2, eR hw2 hc2 hb2 a2 r2), (hw2, eW false), (hc2, eA cy f2), (hb2, eA cy g2), (ho, eO (o_L_wideQuarters a1 f1 nv p1 p2).2.2.2 sv)]) (w1 := [(m0, eM m1 m2 (o_X5_wideQuarters a1 f1 p1 p2).2.2.2 (r1 + r2) kn), (m1, eMR true mc1 (o_X5_wideQuarters a1 f1 p1 p2).2.1), (mc1, eA cy (o_X5_wideQuarters a1 f1 p1 p2).2.2.1), (m2, eMR false mc2 a2), (mc2, eA cy f2)]) hP hD [10, 11, 12, 13, 14] [0, 1, 2, 3, 4, 5, 6, 7, 8, 9] rfl rfl (by decide +kernel) (by decide +kernel) hk hFc hP1 hD1
  have hP := hP.sub (ws' := [(h0, eE h1 h2 kn), (h1, eR hw1 hc1 hb1 (o_L_wideQuarters a1 f1 nv p1 p2).2.1 r1), (hw1, eW true), (hc1, eA cy (o_L_wideQuarters a1 f1 nv p1 p2).2.2.1), (hb1, eA cy g1), (h2, eR hw2 hc2 hb2 a2 r2), (hw2, eW false), (hc2, eA cy f2), (hb2, eA cy g2), (ho, eO (o_L_wideQuarters a1 f1 nv p1 p2).2.2.2 sv), (m0, eM m1 m2 (o_X5_wideQuarters a1 f1 p1 p2).2.2.2 (r1 + r2) kn), (m1, eMR true mc1 (o_X5_wideQuarters a1 f1 p1 p2).2.1), (mc1, eA cy (o_X5_wideQuarters a1 f1 p1 p2).2.2.1), (m2, eMR false mc2 a2), (mc2, eA cy f2)]) [0, 1, 2, 3, 4, 5, 6, 7, 8, 9, 10, 11, 12, 13, 14] rfl
  have hD := hD.sub (ws' := [(h0, eE h1 h2 kn), (h1, eR hw1 hc1 hb1 (o_L_wideQuarters a1 f1 nv p1 p2).2.1 r1), (hw1, eW true), (hc1, eA cy (o_L_wideQuarters a1 f1 nv p1 p2).2.2.1), (hb1, eA cy g1), (h2, eR hw2 hc2 hb2 a2 r2), (hw2, eW false), (hc2, eA cy f2), (hb2, eA cy g2), (ho, eO (o_L_wideQuarters a1 f1 nv p1 p2).2.2.2 sv), (m0, eM m1 m2 (o_X5_wideQuarters a1 f1 p1 p2).2.2.2 (r1 + r2) kn), (m1, eMR true mc1 (o_X5_wideQuarters a1 f1 p1 p2).2.1), (mc1, eA cy (o_X5_wideQuarters a1 f1 p1 p2).2.2.1), (m2, eMR false mc2 a2), (mc2, eA cy f2)]) [0, 1, 2, 3, 4, 5, 6, 7, 8, 9, 10, 11, 12, 13, 14] (by decide +kernel) rfl
  refine lv_istore (lv' := [(6, .int ((o_X5_wideQuarters a1 f1 p1 p2).1)), (5, .int ((o_L_wideQuarters a1 f1 nv p1 p2).1)), (0, .ref b), (1, .ref h0), (2, .ref m0), (3, .ref ho), (4, .int (nI i))]) hx hb dL_law_339 hl (by decide +kernel) rfl (fun ls hl => ?_)
  refine lv_goto (tgt := 2268) hx hb dL_law_341 (by decide +kernel) ?_
  refine W.widen (k := cells + 760) (n := slots + 4500) (by omega) (by omega) ?_
  have qe_b1 : (o_X5_wideQuarters a1 f1 p1 p2).2.1 = (o_L_wideQuarters a1 f1 nv p1 p2).2.1 := (by have hm := ml_wideQuarters a1 nv p1 p2 hka1; rw [hm.1] <;> rfl)
  have qe_e1 : (o_X5_wideQuarters a1 f1 p1 p2).2.2.1 = (o_L_wideQuarters a1 f1 nv p1 p2).2.2.1 := (by have hm := ml_wideQuarters a1 nv p1 p2 hka1; rw [hm.1] <;> rfl)
  have qk_1 : okA true ((o_L_wideQuarters a1 f1 nv p1 p2).2.2.1) := (by have hm := ml_wideQuarters a1 nv p1 p2 hka1; rw [hm.1]; exact hm.2)
  exact K ((o_L_wideQuarters a1 f1 nv p1 p2).2.1) r1 ((o_L_wideQuarters a1 f1 nv p1 p2).2.2.1) g1 a2 r2 f2 g2 kn ((o_L_wideQuarters a1 f1 nv p1 p2).2.2.2) sv ((o_X5_wideQuarters a1 f1 p1 p2).2.2.2) ((o_X5_wideQuarters a1 f1 p1 p2).2.1) ((o_X5_wideQuarters a1 f1 p1 p2).2.2.1) a2 f2 (r1 + r2) kn _ _ _ qe_b1 qe_e1 rfl rfl rfl rfl qk_1 hka2 hP hD hS (lv_sub hl [2, 3, 4, 5, 6] rfl)
set_option maxHeartbeats 4000000 in
set_option maxRecDepth 100000 in
theorem st_2 (l : Launch) (p : Program) (e : Env) (s : State) (m : MethodId) (below : List Frame) (meth : Method) (c : Code) (b L N : Nat) (xs : Nat → Int32) (A : Nat → Prop) (dC : Nat → ClassId) (dI : Nat → Nat → Nat) (cy cB : ClassId) (h0 h1 hw1 hc1 hb1 h2 hw2 hc2 hb2 ho m0 m1 mc1 m2 mc2 : Nat) (C0 : lw_C l p e s m below meth c b L N xs A dC dI cy cB) (i : Nat) (hi : i + 4 ≤ L) (p1 p2 p3 : Int32) (hp1 : xs (i + 1) = p1) (hp2 : xs (i + 2) = p2) (hp3 : xs (i + 3) = p3) (cells slots : Nat) (hcs : cells + 760 ≤ 616450) (hss : slots + 4500 ≤ 7246753) (K : lw_K l p e s m below meth c b L N xs A dC dI cy cB h0 h1 hw1 hc1 hb1 h2 hw2 hc2 hb2 ho m0 m1 mc1 m2 mc2 i (cells + 760) (slots + 4500) 2268) (a1 : Int32) (r1 : Int32) (f1 : Nat → Int64) (g1 : Nat → Int64) (a2 : Int32) (r2 : Int32) (f2 : Nat → Int64) (g2 : Nat → Int64) (kn : Int32) (nv : Int64) (sv : Value) (th : Int32) (H : Heap) (locs : List Loc) (ls : Array Slot) (hka1 : okA true f1) (hka2 : okA false f2) (hP : va_P (dC, dI) xCl [(h0, eE h1 h2 kn), (h1, eR hw1 hc1 hb1 a1 r1), (hw1, eW true), (hc1, eA cy f1), (hb1, eA cy g1), (h2, eR hw2 hc2 hb2 a2 r2), (hw2, eW false), (hc2, eA cy f2), (hb2, eA cy g2), (ho, eO nv sv), (m0, eM m1 m2 th (r1 + r2) kn), (m1, eMR true mc1 a1), (mc1, eA cy f1), (m2, eMR false mc2 a2), (mc2, eA cy f2)] H) (hD : va_D A [(h0, eE h1 h2 kn), (h1, eR hw1 hc1 hb1 a1 r1), (hw1, eW true), (hc1, eA cy f1), (hb1, eA cy g1), (h2, eR hw2 hc2 hb2 a2 r2), (hw2, eW false), (hc2, eA cy f2), (hb2, eA cy g2), (ho, eO nv sv), (m0, eM m1 m2 th (r1 + r2) kn), (m1, eMR true mc1 a1), (mc1, eA cy f1), (m2, eMR false mc2 a2), (mc2, eA cy f2)]) (hS : va_S A s.heap H locs) (hl : lv_has ls 7 [(0, .ref b), (1, .ref h0), (2, .ref m0), (3, .ref ho), (4, .int (nI i))]) : W p l e room_1 s m #[Value.ref b] below meth c H locs cells slots (lw_Z below #[Value.ref b] s) (F0 m 344 ls []) := by
  obtain ⟨hfl, hx, hb, hr, hml, hown, hts, hX, hbl, hbA, hlocks, hK, hG, hnc, hA, hAN, hN, hL, hT, hNs⟩ := id C0
  have hok2 := me_okF hka2
  have hsp1 : ∀ k, k < 8 → o_X1_isSpoiled true (f1 k) = false := fun k hk => (hka1 k hk).2
  have hsp2 : ∀ k, k < 8 → o_X1_isSpoiled false (f2 k) = false := fun k hk => (hka2 k hk).2
  refine lv_aload_n hx hb dL_law_344 rfl (lv_at hl 1 rfl) ?_
  refine lv_aload_n hx hb dL_law_345 rfl (lv_at hl 0 rfl) ?_
  refine lv_iload hx hb dL_law_346 (lv_at hl 4 rfl) ?_
  refine lv_iconst (v := 1) hx hb dL_law_348 (by decide +kernel) ?_
  refine lv_iadd hx hb dL_law_349 ?_
  rw [nI_1 i]
  refine xa_sld hx hb hX hbl hbA hS (k := i + 1) (by omega) hL hp1 dL_law_350 ?_
  refine lv_aload_n hx hb dL_law_351 rfl (lv_at hl 0 rfl) ?_
  refine lv_iload hx hb dL_law_352 (lv_at hl 4 rfl) ?_
  refine lv_iconst (v := 2) hx hb dL_law_354 (by decide +kernel) ?_
  refine lv_iadd hx hb dL_law_355 ?_
  rw [nI_p2 i]
  refine xa_sld hx hb hX hbl hbA hS (k := i + 2) (by omega) hL hp2 dL_law_356 ?_
  refine lv_aload_n hx hb dL_law_357 rfl (lv_at hl 3 rfl) ?_
  have hPc := hP.sub (ws' := [(h0, eE h1 h2 kn), (h1, eR hw1 hc1 hb1 a1 r1), (hw1, eW true), (hc1, eA cy f1), (hb1, eA cy g1), (h2, eR hw2 hc2 hb2 a2 r2), (hw2, eW false), (hc2, eA cy f2), (hb2, eA cy g2), (ho, eO nv sv)]) [0, 1, 2, 3, 4, 5, 6, 7, 8, 9] rfl
  have hDc := hD.sub (ws' := [(h0, eE h1 h2 kn), (h1, eR hw1 hc1 hb1 a1 r1), (hw1, eW true), (hc1, eA cy f1), (hb1, eA cy g1), (h2, eR hw2 hc2 hb2 a2 r2), (hw2, eW false), (hc2, eA cy f2), (hb2, eA cy g2), (ho, eO nv sv)]) [0, 1, 2, 3, 4, 5, 6, 7, 8, 9] (by decide +kernel) rfl
  have hKc := hK.sub (tys' := [(cy, .long)]) [0] rfl
  have hFc := va_free (wc := [(h0, eE h1 h2 kn), (h1, eR hw1 hc1 hb1 a1 r1), (hw1, eW true), (hc1, eA cy f1), (hb1, eA cy g1), (h2, eR hw2 hc2 hb2 a2 r2), (hw2, eW false), (hc2, eA cy f2), (hb2, eA cy g2), (ho, eO nv sv)]) hD hS hA [0, 1, 2, 3, 4, 5, 6, 7, 8, 9] rfl
  refine va_calli (vx_runSW (As := [.ref h0, .int p1, .int p2, .ref ho]) (rest := []) ⟨hx, hb, hml, hown, hts⟩ (k_L_wideKnown l hfl dC dI cy h0 h1 hw1 hc1 hb1 h2 hw2 hc2 hb2 a1 r1 f1 g1 a2 r2 f2 g2 kn ho nv sv H.size N p1 p2) (vx_cwSW 4 hts gL_law_L_wideKnown rfl rfl rfl (by decide +kernel) ⟨Nat.le_of_ble_eq_true rfl, Nat.le_of_ble_eq_true rfl⟩) (xL.preS hKc hPc hDc hAN (Nat.le_trans hN hS.1) (hG.kept hS hAN) hnc) rfl rfl hl.1 rfl (lv_room (Nat.le_of_ble_eq_true rfl)) dL_law_358 ⟨(show _ ≤ 616450 by omega), (show _ ≤ 7246753 by omega)⟩) hS (fun q _ h => hFc q h) hFc (fun r_1 u t H locs ht hvm hw hB hz hk hS => ?_)
  replace hw : r_1 = (o_L_wideKnown a1 f1 nv p1 p2).1 := hw
  subst r_1
  obtain ⟨hP1, hD1⟩ := hB
  rw [ht] at hP1
  obtain ⟨hP, hD⟩ := va_join (wr := [(m0, eM m1 m2 th (r1 + r2) kn), (m1, eMR true mc1 a1), (mc1, eA cy f1), (m2, eMR false mc2 a2), (mc2, eA cy f2)]) (w1 := [(h0, eE h1 h2 kn), (h1, eR hw1 hc1 hb1 (o_L_wideKnown a1 f1 nv p1 p2).2.1 r1), (hw1, eW true), (hc1, eA cy (o_L_wideKnown a1 f1 nv p1 p2).2.2.1), (hb1, eA cy g1), (h2, eR hw2 hc2 hb2 a2 r2), (hw2, eW false), (hc2, eA cy f2), (hb2, eA cy g2), (ho, eO (o_L_wideKnown a1 f1 nv p1 p2).2.2.2 sv)]) hP hD [0, 1, 2, 3, 4, 5, 6, 7, 8, 9] [10, 11, 12, 13, 14] rfl rfl (by decide +kernel) (by decide +kernel) hk hFc hP1 hD1
  have hP := hP.sub (ws' := [(h0, eE h1 h2 kn), (h1, eR hw1 hc1 hb1 (o_L_wideKnown a1 f1 nv p1 p2).2.1 r1), (hw1, eW true), (hc1, eA cy (o_L_wideKnown a1 f1 nv p1 p2).2.2.1), (hb1, eA cy g1), (h2, eR hw2 hc2 hb2 a2 r2), (hw2, eW false), (hc2, eA cy f2), (hb2, eA cy g2), (ho, eO (o_L_wideKnown a1 f1 nv p1 p2).2.2.2 sv), (m0, eM m1 m2 th (r1 + r2) kn), (m1, eMR true mc1 a1), (mc1, eA cy f1), (m2, eMR false mc2 a2), (mc2, eA cy f2)]) [5, 6, 7, 8, 9, 10, 11, 12, 13, 14, 0, 1, 2, 3, 4] rfl
  have hD := hD.sub (ws' := [(h0, eE h1 h2 kn), (h1, eR hw1 hc1 hb1 (o_L_wideKnown a1 f1 nv p1 p2).2.1 r1), (hw1, eW true), (hc1, eA cy (o_L_wideKnown a1 f1 nv p1 p2).2.2.1), (hb1, eA cy g1), (h2, eR hw2 hc2 hb2 a2 r2), (hw2, eW false), (hc2, eA cy f2), (hb2, eA cy g2), (ho, eO (o_L_wideKnown a1 f1 nv p1 p2).2.2.2 sv), (m0, eM m1 m2 th (r1 + r2) kn), (m1, eMR true mc1 a1), (mc1, eA cy f1), (m2, eMR false mc2 a2), (mc2, eA cy f2)]) [5, 6, 7, 8, 9, 10, 11, 12, 13, 14, 0, 1, 2, 3, 4] (by decide +kernel) rfl
  refine lv_istore (lv' := [(5, .int ((o_L_wideKnown a1 f1 nv p1 p2).1)), (0, .ref b), (1, .ref h0), (2, .ref m0), (3, .ref ho), (4, .int (nI i))]) hx hb dL_law_361 hl (by decide +kernel) rfl (fun ls hl => ?_)
  refine lv_aload_n hx hb dL_law_363 rfl (lv_at hl 3 rfl) ?_
  refine lv_aload_n hx hb dL_law_364 rfl (lv_at hl 1 rfl) ?_
  refine lv_iload hx hb dL_law_365 (lv_at hl 5 rfl) ?_
  refine lv_iconst (v := 1) hx hb dL_law_367 (by decide +kernel) ?_
  refine lv_iadd hx hb dL_law_368 ?_
  rw [nI_1 i]
  refine xa_sld hx hb hX hbl hbA hS (k := i + 1) (by omega) hL hp1 dL_law_369 ?_
  refine lv_aload_n hx hb dL_law_370 rfl (lv_at hl 1 rfl) ?_
  refine lv_iload hx hb dL_law_371 (lv_at hl 5 rfl) ?_
  refine lv_iconst (v := 2) hx hb dL_law_373 (by decide +kernel) ?_
  refine lv_iadd hx hb dL_law_374 ?_
  rw [nI_p2 i]
  refine xa_sld hx hb hX hbl hbA hS (k := i + 2) (by omega) hL hp2 dL_law_375 ?_
  have hPc := hP.sub (ws' := [(m0, eM m1 m2 th (r1 + r2) kn), (m1, eMR true mc1 a1), (mc1, eA cy f1), (m2, eMR false mc2 a2), (mc2, eA cy f2)]) [10, 11, 12, 13, 14] rfl
  have hDc := hD.sub (ws' := [(m0, eM m1 m2 th (r1 + r2) kn), (m1, eMR true mc1 a1), (mc1, eA cy f1), (m2, eMR false mc2 a2), (mc2, eA cy f2)]) [10, 11, 12, 13, 14] (by decide +kernel) rfl
  have hKc := hK.sub (tys' := [(cy, .long)]) [0] rfl
  have hFc := va_free (wc := [(m0, eM m1 m2 th (r1 + r2) kn), (m1, eMR true mc1 a1), (mc1, eA cy f1), (m2, eMR false mc2 a2), (mc2, eA cy f2)]) hD hS hA [10, 11, 12, 13, 14] rfl
  refine va_calli (va_runV (As := [.int p1, .int p2]) (rest := []) ⟨hx, hb, hml, hown, hts⟩ (k_X5_wideKnown l dC dI cy m0 m1 mc1 m2 mc2 a1 f1 a2 f2 th (r1 + r2) kn H.size N p1 p2) (cwV 2 hts gL_law_X5_wideKnown rfl rfl rfl (by decide +kernel) ⟨Nat.le_of_ble_eq_true rfl, Nat.le_of_ble_eq_true rfl⟩) (xM.preV hKc hPc hDc hAN (Nat.le_trans hN hS.1) (hG.kept hS hAN) (ci := 7) (q0 := 0) rfl rfl) rfl rfl hl.1 rfl (lv_room (Nat.le_of_ble_eq_true rfl)) dL_law_376 ⟨(show _ ≤ 616450 by omega), (show _ ≤ 7246753 by omega)⟩) hS (fun q _ h => hFc q h) hFc (fun r_2 u t H locs ht hvm hw hB hz hk hS => ?_)
  replace hw : r_2 = (o_X5_wideKnown a1 f1 p1 p2).1 := hw
  subst r_2
  obtain ⟨hP1, hD1⟩ := hB
  rw [ht] at hP1
  obtain ⟨hP, hD⟩ := va_join (wr := [(h0, eE h1 h2 kn), (h1, eR hw1 hc1 hb1 (o_L_wideKnown a1 f1 nv p1 p2).2.1 r1), (hw1, eW true), (hc1, eA cy (o_L_wideKnown a1 f1 nv p1 p2).2.2.1), (hb1, eA cy g1), (h2, eR hw2 hc2 hb2 a2 r2), (hw2, eW false), (hc2, eA cy f2), (hb2, eA cy g2), (ho, eO (o_L_wideKnown a1 f1 nv p1 p2).2.2.2 sv)]) (w1 := [(m0, eM m1 m2 (o_X5_wideKnown a1 f1 p1 p2).2.2.2 (r1 + r2) kn), (m1, eMR true mc1 (o_X5_wideKnown a1 f1 p1 p2).2.1), (mc1, eA cy (o_X5_wideKnown a1 f1 p1 p2).2.2.1), (m2, eMR false mc2 a2), (mc2, eA cy f2)]) hP hD [10, 11, 12, 13, 14] [0, 1, 2, 3, 4, 5, 6, 7, 8, 9] rfl rfl (by decide +kernel) (by decide +kernel) hk hFc hP1 hD1
  have hP := hP.sub (ws' := [(h0, eE h1 h2 kn), (h1, eR hw1 hc1 hb1 (o_L_wideKnown a1 f1 nv p1 p2).2.1 r1), (hw1, eW true), (hc1, eA cy (o_L_wideKnown a1 f1 nv p1 p2).2.2.1), (hb1, eA cy g1), (h2, eR hw2 hc2 hb2 a2 r2), (hw2, eW false), (hc2, eA cy f2), (hb2, eA cy g2), (ho, eO (o_L_wideKnown a1 f1 nv p1 p2).2.2.2 sv), (m0, eM m1 m2 (o_X5_wideKnown a1 f1 p1 p2).2.2.2 (r1 + r2) kn), (m1, eMR true mc1 (o_X5_wideKnown a1 f1 p1 p2).2.1), (mc1, eA cy (o_X5_wideKnown a1 f1 p1 p2).2.2.1), (m2, eMR false mc2 a2), (mc2, eA cy f2)]) [0, 1, 2, 3, 4, 5, 6, 7, 8, 9, 10, 11, 12, 13, 14] rfl
  have hD := hD.sub (ws' := [(h0, eE h1 h2 kn), (h1, eR hw1 hc1 hb1 (o_L_wideKnown a1 f1 nv p1 p2).2.1 r1), (hw1, eW true), (hc1, eA cy (o_L_wideKnown a1 f1 nv p1 p2).2.2.1), (hb1, eA cy g1), (h2, eR hw2 hc2 hb2 a2 r2), (hw2, eW false), (hc2, eA cy f2), (hb2, eA cy g2), (ho, eO (o_L_wideKnown a1 f1 nv p1 p2).2.2.2 sv), (m0, eM m1 m2 (o_X5_wideKnown a1 f1 p1 p2).2.2.2 (r1 + r2) kn), (m1, eMR true mc1 (o_X5_wideKnown a1 f1 p1 p2).2.1), (mc1, eA cy (o_X5_wideKnown a1 f1 p1 p2).2.2.1), (m2, eMR false mc2 a2), (mc2, eA cy f2)]) [0, 1, 2, 3, 4, 5, 6, 7, 8, 9, 10, 11, 12, 13, 14] (by decide +kernel) rfl
  refine lv_istore (lv' := [(6, .int ((o_X5_wideKnown a1 f1 p1 p2).1)), (5, .int ((o_L_wideKnown a1 f1 nv p1 p2).1)), (0, .ref b), (1, .ref h0), (2, .ref m0), (3, .ref ho), (4, .int (nI i))]) hx hb dL_law_379 hl (by decide +kernel) rfl (fun ls hl => ?_)
  refine lv_goto (tgt := 2268) hx hb dL_law_381 (by decide +kernel) ?_
  refine W.widen (k := cells + 760) (n := slots + 4500) (by omega) (by omega) ?_
  have qe_b1 : (o_X5_wideKnown a1 f1 p1 p2).2.1 = (o_L_wideKnown a1 f1 nv p1 p2).2.1 := (by have hm := ml_wideKnown a1 nv p1 p2 hka1; rw [hm.1] <;> rfl)
  have qe_e1 : (o_X5_wideKnown a1 f1 p1 p2).2.2.1 = (o_L_wideKnown a1 f1 nv p1 p2).2.2.1 := (by have hm := ml_wideKnown a1 nv p1 p2 hka1; rw [hm.1] <;> rfl)
  have qk_1 : okA true ((o_L_wideKnown a1 f1 nv p1 p2).2.2.1) := (by have hm := ml_wideKnown a1 nv p1 p2 hka1; rw [hm.1]; exact hm.2)
  exact K ((o_L_wideKnown a1 f1 nv p1 p2).2.1) r1 ((o_L_wideKnown a1 f1 nv p1 p2).2.2.1) g1 a2 r2 f2 g2 kn ((o_L_wideKnown a1 f1 nv p1 p2).2.2.2) sv ((o_X5_wideKnown a1 f1 p1 p2).2.2.2) ((o_X5_wideKnown a1 f1 p1 p2).2.1) ((o_X5_wideKnown a1 f1 p1 p2).2.2.1) a2 f2 (r1 + r2) kn _ _ _ qe_b1 qe_e1 rfl rfl rfl rfl qk_1 hka2 hP hD hS (lv_sub hl [2, 3, 4, 5, 6] rfl)
set_option maxHeartbeats 4000000 in
set_option maxRecDepth 100000 in
theorem st_3 (l : Launch) (p : Program) (e : Env) (s : State) (m : MethodId) (below : List Frame) (meth : Method) (c : Code) (b L N : Nat) (xs : Nat → Int32) (A : Nat → Prop) (dC : Nat → ClassId) (dI : Nat → Nat → Nat) (cy cB : ClassId) (h0 h1 hw1 hc1 hb1 h2 hw2 hc2 hb2 ho m0 m1 mc1 m2 mc2 : Nat) (C0 : lw_C l p e s m below meth c b L N xs A dC dI cy cB) (i : Nat) (hi : i + 4 ≤ L) (p1 p2 p3 : Int32) (hp1 : xs (i + 1) = p1) (hp2 : xs (i + 2) = p2) (hp3 : xs (i + 3) = p3) (cells slots : Nat) (hcs : cells + 760 ≤ 616450) (hss : slots + 4500 ≤ 7246753) (K : lw_K l p e s m below meth c b L N xs A dC dI cy cB h0 h1 hw1 hc1 hb1 h2 hw2 hc2 hb2 ho m0 m1 mc1 m2 mc2 i (cells + 760) (slots + 4500) 2268) (a1 : Int32) (r1 : Int32) (f1 : Nat → Int64) (g1 : Nat → Int64) (a2 : Int32) (r2 : Int32) (f2 : Nat → Int64) (g2 : Nat → Int64) (kn : Int32) (nv : Int64) (sv : Value) (th : Int32) (H : Heap) (locs : List Loc) (ls : Array Slot) (hka1 : okA true f1) (hka2 : okA false f2) (hP : va_P (dC, dI) xCl [(h0, eE h1 h2 kn), (h1, eR hw1 hc1 hb1 a1 r1), (hw1, eW true), (hc1, eA cy f1), (hb1, eA cy g1), (h2, eR hw2 hc2 hb2 a2 r2), (hw2, eW false), (hc2, eA cy f2), (hb2, eA cy g2), (ho, eO nv sv), (m0, eM m1 m2 th (r1 + r2) kn), (m1, eMR true mc1 a1), (mc1, eA cy f1), (m2, eMR false mc2 a2), (mc2, eA cy f2)] H) (hD : va_D A [(h0, eE h1 h2 kn), (h1, eR hw1 hc1 hb1 a1 r1), (hw1, eW true), (hc1, eA cy f1), (hb1, eA cy g1), (h2, eR hw2 hc2 hb2 a2 r2), (hw2, eW false), (hc2, eA cy f2), (hb2, eA cy g2), (ho, eO nv sv), (m0, eM m1 m2 th (r1 + r2) kn), (m1, eMR true mc1 a1), (mc1, eA cy f1), (m2, eMR false mc2 a2), (mc2, eA cy f2)]) (hS : va_S A s.heap H locs) (hl : lv_has ls 7 [(0, .ref b), (1, .ref h0), (2, .ref m0), (3, .ref ho), (4, .int (nI i))]) : W p l e room_1 s m #[Value.ref b] below meth c H locs cells slots (lw_Z below #[Value.ref b] s) (F0 m 384 ls []) := by
  obtain ⟨hfl, hx, hb, hr, hml, hown, hts, hX, hbl, hbA, hlocks, hK, hG, hnc, hA, hAN, hN, hL, hT, hNs⟩ := id C0
  have hok2 := me_okF hka2
  have hsp1 : ∀ k, k < 8 → o_X1_isSpoiled true (f1 k) = false := fun k hk => (hka1 k hk).2
  have hsp2 : ∀ k, k < 8 → o_X1_isSpoiled false (f2 k) = false := fun k hk => (hka2 k hk).2
  refine lv_aload_n hx hb dL_law_384 rfl (lv_at hl 1 rfl) ?_
  refine lv_aload_n hx hb dL_law_385 rfl (lv_at hl 0 rfl) ?_
  refine lv_iload hx hb dL_law_386 (lv_at hl 4 rfl) ?_
  refine lv_iconst (v := 1) hx hb dL_law_388 (by decide +kernel) ?_
  refine lv_iadd hx hb dL_law_389 ?_
  rw [nI_1 i]
  refine xa_sld hx hb hX hbl hbA hS (k := i + 1) (by omega) hL hp1 dL_law_390 ?_
  refine lv_aload_n hx hb dL_law_391 rfl (lv_at hl 0 rfl) ?_
  refine lv_iload hx hb dL_law_392 (lv_at hl 4 rfl) ?_
  refine lv_iconst (v := 2) hx hb dL_law_394 (by decide +kernel) ?_
  refine lv_iadd hx hb dL_law_395 ?_
  rw [nI_p2 i]
  refine xa_sld hx hb hX hbl hbA hS (k := i + 2) (by omega) hL hp2 dL_law_396 ?_
  refine lv_aload_n hx hb dL_law_397 rfl (lv_at hl 3 rfl) ?_
  have hPc := hP.sub (ws' := [(h0, eE h1 h2 kn), (h1, eR hw1 hc1 hb1 a1 r1), (hw1, eW true), (hc1, eA cy f1), (hb1, eA cy g1), (h2, eR hw2 hc2 hb2 a2 r2), (hw2, eW false), (hc2, eA cy f2), (hb2, eA cy g2), (ho, eO nv sv)]) [0, 1, 2, 3, 4, 5, 6, 7, 8, 9] rfl
  have hDc := hD.sub (ws' := [(h0, eE h1 h2 kn), (h1, eR hw1 hc1 hb1 a1 r1), (hw1, eW true), (hc1, eA cy f1), (hb1, eA cy g1), (h2, eR hw2 hc2 hb2 a2 r2), (hw2, eW false), (hc2, eA cy f2), (hb2, eA cy g2), (ho, eO nv sv)]) [0, 1, 2, 3, 4, 5, 6, 7, 8, 9] (by decide +kernel) rfl
  have hKc := hK.sub (tys' := [(cy, .long)]) [0] rfl
  have hFc := va_free (wc := [(h0, eE h1 h2 kn), (h1, eR hw1 hc1 hb1 a1 r1), (hw1, eW true), (hc1, eA cy f1), (hb1, eA cy g1), (h2, eR hw2 hc2 hb2 a2 r2), (hw2, eW false), (hc2, eA cy f2), (hb2, eA cy g2), (ho, eO nv sv)]) hD hS hA [0, 1, 2, 3, 4, 5, 6, 7, 8, 9] rfl
  refine va_calli (vx_runSW (As := [.ref h0, .int p1, .int p2, .ref ho]) (rest := []) ⟨hx, hb, hml, hown, hts⟩ (k_L_wideCopy l hfl dC dI cy h0 h1 hw1 hc1 hb1 h2 hw2 hc2 hb2 a1 r1 f1 g1 a2 r2 f2 g2 kn ho nv sv H.size N p1 p2) (vx_cwSW 4 hts gL_law_L_wideCopy rfl rfl rfl (by decide +kernel) ⟨Nat.le_of_ble_eq_true rfl, Nat.le_of_ble_eq_true rfl⟩) (xL.preS hKc hPc hDc hAN (Nat.le_trans hN hS.1) (hG.kept hS hAN) hnc) rfl rfl hl.1 rfl (lv_room (Nat.le_of_ble_eq_true rfl)) dL_law_398 ⟨(show _ ≤ 616450 by omega), (show _ ≤ 7246753 by omega)⟩) hS (fun q _ h => hFc q h) hFc (fun r_1 u t H locs ht hvm hw hB hz hk hS => ?_)
  replace hw : r_1 = (o_L_wideCopy a1 f1 nv p1 p2).1 := hw
  subst r_1
  obtain ⟨hP1, hD1⟩ := hB
  rw [ht] at hP1
  obtain ⟨hP, hD⟩ := va_join (wr := [(m0, eM m1 m2 th (r1 + r2) kn), (m1, eMR true mc1 a1), (mc1, eA cy f1), (m2, eMR false mc2 a2), (mc2, eA cy f2)]) (w1 := [(h0, eE h1 h2 kn), (h1, eR hw1 hc1 hb1 (o_L_wideCopy a1 f1 nv p1 p2).2.1 r1), (hw1, eW true), (hc1, eA cy (o_L_wideCopy a1 f1 nv p1 p2).2.2.1), (hb1, eA cy g1), (h2, eR hw2 hc2 hb2 a2 r2), (hw2, eW false), (hc2, eA cy f2), (hb2, eA cy g2), (ho, eO (o_L_wideCopy a1 f1 nv p1 p2).2.2.2 sv)]) hP hD [0, 1, 2, 3, 4, 5, 6, 7, 8, 9] [10, 11, 12, 13, 14] rfl rfl (by decide +kernel) (by decide +kernel) hk hFc hP1 hD1
  have hP := hP.sub (ws' := [(h0, eE h1 h2 kn), (h1, eR hw1 hc1 hb1 (o_L_wideCopy a1 f1 nv p1 p2).2.1 r1), (hw1, eW true), (hc1, eA cy (o_L_wideCopy a1 f1 nv p1 p2).2.2.1), (hb1, eA cy g1), (h2, eR hw2 hc2 hb2 a2 r2), (hw2, eW false), (hc2, eA cy f2), (hb2, eA cy g2), (ho, eO (o_L_wideCopy a1 f1 nv p1 p2).2.2.2 sv), (m0, eM m1 m2 th (r1 + r2) kn), (m1, eMR true mc1 a1), (mc1, eA cy f1), (m2, eMR false mc2 a2), (mc2, eA cy f2)]) [5, 6, 7, 8, 9, 10, 11, 12, 13, 14, 0, 1, 2, 3, 4] rfl
  have hD := hD.sub (ws' := [(h0, eE h1 h2 kn), (h1, eR hw1 hc1 hb1 (o_L_wideCopy a1 f1 nv p1 p2).2.1 r1), (hw1, eW true), (hc1, eA cy (o_L_wideCopy a1 f1 nv p1 p2).2.2.1), (hb1, eA cy g1), (h2, eR hw2 hc2 hb2 a2 r2), (hw2, eW false), (hc2, eA cy f2), (hb2, eA cy g2), (ho, eO (o_L_wideCopy a1 f1 nv p1 p2).2.2.2 sv), (m0, eM m1 m2 th (r1 + r2) kn), (m1, eMR true mc1 a1), (mc1, eA cy f1), (m2, eMR false mc2 a2), (mc2, eA cy f2)]) [5, 6, 7, 8, 9, 10, 11, 12, 13, 14, 0, 1, 2, 3, 4] (by decide +kernel) rfl
  refine lv_istore (lv' := [(5, .int ((o_L_wideCopy a1 f1 nv p1 p2).1)), (0, .ref b), (1, .ref h0), (2, .ref m0), (3, .ref ho), (4, .int (nI i))]) hx hb dL_law_401 hl (by decide +kernel) rfl (fun ls hl => ?_)
  refine lv_aload_n hx hb dL_law_403 rfl (lv_at hl 3 rfl) ?_
  refine lv_aload_n hx hb dL_law_404 rfl (lv_at hl 1 rfl) ?_
  refine lv_iload hx hb dL_law_405 (lv_at hl 5 rfl) ?_
  refine lv_iconst (v := 1) hx hb dL_law_407 (by decide +kernel) ?_
  refine lv_iadd hx hb dL_law_408 ?_
  rw [nI_1 i]
  refine xa_sld hx hb hX hbl hbA hS (k := i + 1) (by omega) hL hp1 dL_law_409 ?_
  refine lv_aload_n hx hb dL_law_410 rfl (lv_at hl 1 rfl) ?_
  refine lv_iload hx hb dL_law_411 (lv_at hl 5 rfl) ?_
  refine lv_iconst (v := 2) hx hb dL_law_413 (by decide +kernel) ?_
  refine lv_iadd hx hb dL_law_414 ?_
  rw [nI_p2 i]
  refine xa_sld hx hb hX hbl hbA hS (k := i + 2) (by omega) hL hp2 dL_law_415 ?_
  have hPc := hP.sub (ws' := [(m0, eM m1 m2 th (r1 + r2) kn), (m1, eMR true mc1 a1), (mc1, eA cy f1), (m2, eMR false mc2 a2), (mc2, eA cy f2)]) [10, 11, 12, 13, 14] rfl
  have hDc := hD.sub (ws' := [(m0, eM m1 m2 th (r1 + r2) kn), (m1, eMR true mc1 a1), (mc1, eA cy f1), (m2, eMR false mc2 a2), (mc2, eA cy f2)]) [10, 11, 12, 13, 14] (by decide +kernel) rfl
  have hKc := hK.sub (tys' := [(cy, .long)]) [0] rfl
  have hFc := va_free (wc := [(m0, eM m1 m2 th (r1 + r2) kn), (m1, eMR true mc1 a1), (mc1, eA cy f1), (m2, eMR false mc2 a2), (mc2, eA cy f2)]) hD hS hA [10, 11, 12, 13, 14] rfl
  refine va_calli (va_runV (As := [.int p1, .int p2]) (rest := []) ⟨hx, hb, hml, hown, hts⟩ (k_X5_wideCopy l dC dI cy m0 m1 mc1 m2 mc2 a1 f1 a2 f2 th (r1 + r2) kn H.size N p1 p2) (cwV 2 hts gL_law_X5_wideCopy rfl rfl rfl (by decide +kernel) ⟨Nat.le_of_ble_eq_true rfl, Nat.le_of_ble_eq_true rfl⟩) (xM.preV hKc hPc hDc hAN (Nat.le_trans hN hS.1) (hG.kept hS hAN) (ci := 7) (q0 := 0) rfl rfl) rfl rfl hl.1 rfl (lv_room (Nat.le_of_ble_eq_true rfl)) dL_law_416 ⟨(show _ ≤ 616450 by omega), (show _ ≤ 7246753 by omega)⟩) hS (fun q _ h => hFc q h) hFc (fun r_2 u t H locs ht hvm hw hB hz hk hS => ?_)
  replace hw : r_2 = (o_X5_wideCopy a1 f1 p1 p2).1 := hw
  subst r_2
  obtain ⟨hP1, hD1⟩ := hB
  rw [ht] at hP1
  obtain ⟨hP, hD⟩ := va_join (wr := [(h0, eE h1 h2 kn), (h1, eR hw1 hc1 hb1 (o_L_wideCopy a1 f1 nv p1 p2).2.1 r1), (hw1, eW true), (hc1, eA cy (o_L_wideCopy a1 f1 nv p1 p2).2.2.1), (hb1, eA cy g1), (h2, eR hw2 hc2 hb2 a2 r2), (hw2, eW false), (hc2, eA cy f2), (hb2, eA cy g2), (ho, eO (o_L_wideCopy a1 f1 nv p1 p2).2.2.2 sv)]) (w1 := [(m0, eM m1 m2 (o_X5_wideCopy a1 f1 p1 p2).2.2.2 (r1 + r2) kn), (m1, eMR true mc1 (o_X5_wideCopy a1 f1 p1 p2).2.1), (mc1, eA cy (o_X5_wideCopy a1 f1 p1 p2).2.2.1), (m2, eMR false mc2 a2), (mc2, eA cy f2)]) hP hD [10, 11, 12, 13, 14] [0, 1, 2, 3, 4, 5, 6, 7, 8, 9] rfl rfl (by decide +kernel) (by decide +kernel) hk hFc hP1 hD1
  have hP := hP.sub (ws' := [(h0, eE h1 h2 kn), (h1, eR hw1 hc1 hb1 (o_L_wideCopy a1 f1 nv p1 p2).2.1 r1), (hw1, eW true), (hc1, eA cy (o_L_wideCopy a1 f1 nv p1 p2).2.2.1), (hb1, eA cy g1), (h2, eR hw2 hc2 hb2 a2 r2), (hw2, eW false), (hc2, eA cy f2), (hb2, eA cy g2), (ho, eO (o_L_wideCopy a1 f1 nv p1 p2).2.2.2 sv), (m0, eM m1 m2 (o_X5_wideCopy a1 f1 p1 p2).2.2.2 (r1 + r2) kn), (m1, eMR true mc1 (o_X5_wideCopy a1 f1 p1 p2).2.1), (mc1, eA cy (o_X5_wideCopy a1 f1 p1 p2).2.2.1), (m2, eMR false mc2 a2), (mc2, eA cy f2)]) [0, 1, 2, 3, 4, 5, 6, 7, 8, 9, 10, 11, 12, 13, 14] rfl
  have hD := hD.sub (ws' := [(h0, eE h1 h2 kn), (h1, eR hw1 hc1 hb1 (o_L_wideCopy a1 f1 nv p1 p2).2.1 r1), (hw1, eW true), (hc1, eA cy (o_L_wideCopy a1 f1 nv p1 p2).2.2.1), (hb1, eA cy g1), (h2, eR hw2 hc2 hb2 a2 r2), (hw2, eW false), (hc2, eA cy f2), (hb2, eA cy g2), (ho, eO (o_L_wideCopy a1 f1 nv p1 p2).2.2.2 sv), (m0, eM m1 m2 (o_X5_wideCopy a1 f1 p1 p2).2.2.2 (r1 + r2) kn), (m1, eMR true mc1 (o_X5_wideCopy a1 f1 p1 p2).2.1), (mc1, eA cy (o_X5_wideCopy a1 f1 p1 p2).2.2.1), (m2, eMR false mc2 a2), (mc2, eA cy f2)]) [0, 1, 2, 3, 4, 5, 6, 7, 8, 9, 10, 11, 12, 13, 14] (by decide +kernel) rfl
  refine lv_istore (lv' := [(6, .int ((o_X5_wideCopy a1 f1 p1 p2).1)), (5, .int ((o_L_wideCopy a1 f1 nv p1 p2).1)), (0, .ref b), (1, .ref h0), (2, .ref m0), (3, .ref ho), (4, .int (nI i))]) hx hb dL_law_419 hl (by decide +kernel) rfl (fun ls hl => ?_)
  refine lv_goto (tgt := 2268) hx hb dL_law_421 (by decide +kernel) ?_
  refine W.widen (k := cells + 760) (n := slots + 4500) (by omega) (by omega) ?_
  have qe_b1 : (o_X5_wideCopy a1 f1 p1 p2).2.1 = (o_L_wideCopy a1 f1 nv p1 p2).2.1 := (by have hm := ml_wideCopy a1 nv p1 p2 hka1; rw [hm.1] <;> rfl)
  have qe_e1 : (o_X5_wideCopy a1 f1 p1 p2).2.2.1 = (o_L_wideCopy a1 f1 nv p1 p2).2.2.1 := (by have hm := ml_wideCopy a1 nv p1 p2 hka1; rw [hm.1] <;> rfl)
  have qk_1 : okA true ((o_L_wideCopy a1 f1 nv p1 p2).2.2.1) := (by have hm := ml_wideCopy a1 nv p1 p2 hka1; rw [hm.1]; exact hm.2)
  exact K ((o_L_wideCopy a1 f1 nv p1 p2).2.1) r1 ((o_L_wideCopy a1 f1 nv p1 p2).2.2.1) g1 a2 r2 f2 g2 kn ((o_L_wideCopy a1 f1 nv p1 p2).2.2.2) sv ((o_X5_wideCopy a1 f1 p1 p2).2.2.2) ((o_X5_wideCopy a1 f1 p1 p2).2.1) ((o_X5_wideCopy a1 f1 p1 p2).2.2.1) a2 f2 (r1 + r2) kn _ _ _ qe_b1 qe_e1 rfl rfl rfl rfl qk_1 hka2 hP hD hS (lv_sub hl [2, 3, 4, 5, 6] rfl)
set_option maxHeartbeats 4000000 in
set_option maxRecDepth 100000 in
theorem st_4 (l : Launch) (p : Program) (e : Env) (s : State) (m : MethodId) (below : List Frame) (meth : Method) (c : Code) (b L N : Nat) (xs : Nat → Int32) (A : Nat → Prop) (dC : Nat → ClassId) (dI : Nat → Nat → Nat) (cy cB : ClassId) (h0 h1 hw1 hc1 hb1 h2 hw2 hc2 hb2 ho m0 m1 mc1 m2 mc2 : Nat) (C0 : lw_C l p e s m below meth c b L N xs A dC dI cy cB) (i : Nat) (hi : i + 4 ≤ L) (p1 p2 p3 : Int32) (hp1 : xs (i + 1) = p1) (hp2 : xs (i + 2) = p2) (hp3 : xs (i + 3) = p3) (cells slots : Nat) (hcs : cells + 760 ≤ 616450) (hss : slots + 4500 ≤ 7246753) (K : lw_K l p e s m below meth c b L N xs A dC dI cy cB h0 h1 hw1 hc1 hb1 h2 hw2 hc2 hb2 ho m0 m1 mc1 m2 mc2 i (cells + 760) (slots + 4500) 2268) (a1 : Int32) (r1 : Int32) (f1 : Nat → Int64) (g1 : Nat → Int64) (a2 : Int32) (r2 : Int32) (f2 : Nat → Int64) (g2 : Nat → Int64) (kn : Int32) (nv : Int64) (sv : Value) (th : Int32) (H : Heap) (locs : List Loc) (ls : Array Slot) (hka1 : okA true f1) (hka2 : okA false f2) (hP : va_P (dC, dI) xCl [(h0, eE h1 h2 kn), (h1, eR hw1 hc1 hb1 a1 r1), (hw1, eW true), (hc1, eA cy f1), (hb1, eA cy g1), (h2, eR hw2 hc2 hb2 a2 r2), (hw2, eW false), (hc2, eA cy f2), (hb2, eA cy g2), (ho, eO nv sv), (m0, eM m1 m2 th (r1 + r2) kn), (m1, eMR true mc1 a1), (mc1, eA cy f1), (m2, eMR false mc2 a2), (mc2, eA cy f2)] H) (hD : va_D A [(h0, eE h1 h2 kn), (h1, eR hw1 hc1 hb1 a1 r1), (hw1, eW true), (hc1, eA cy f1), (hb1, eA cy g1), (h2, eR hw2 hc2 hb2 a2 r2), (hw2, eW false), (hc2, eA cy f2), (hb2, eA cy g2), (ho, eO nv sv), (m0, eM m1 m2 th (r1 + r2) kn), (m1, eMR true mc1 a1), (mc1, eA cy f1), (m2, eMR false mc2 a2), (mc2, eA cy f2)]) (hS : va_S A s.heap H locs) (hl : lv_has ls 7 [(0, .ref b), (1, .ref h0), (2, .ref m0), (3, .ref ho), (4, .int (nI i))]) : W p l e room_1 s m #[Value.ref b] below meth c H locs cells slots (lw_Z below #[Value.ref b] s) (F0 m 424 ls []) := by
  obtain ⟨hfl, hx, hb, hr, hml, hown, hts, hX, hbl, hbA, hlocks, hK, hG, hnc, hA, hAN, hN, hL, hT, hNs⟩ := id C0
  have hok2 := me_okF hka2
  have hsp1 : ∀ k, k < 8 → o_X1_isSpoiled true (f1 k) = false := fun k hk => (hka1 k hk).2
  have hsp2 : ∀ k, k < 8 → o_X1_isSpoiled false (f2 k) = false := fun k hk => (hka2 k hk).2
  refine lv_aload_n hx hb dL_law_424 rfl (lv_at hl 1 rfl) ?_
  refine lv_aload_n hx hb dL_law_425 rfl (lv_at hl 0 rfl) ?_
  refine lv_iload hx hb dL_law_426 (lv_at hl 4 rfl) ?_
  refine lv_iconst (v := 1) hx hb dL_law_428 (by decide +kernel) ?_
  refine lv_iadd hx hb dL_law_429 ?_
  rw [nI_1 i]
  refine xa_sld hx hb hX hbl hbA hS (k := i + 1) (by omega) hL hp1 dL_law_430 ?_
  refine lv_aload_n hx hb dL_law_431 rfl (lv_at hl 0 rfl) ?_
  refine lv_iload hx hb dL_law_432 (lv_at hl 4 rfl) ?_
  refine lv_iconst (v := 2) hx hb dL_law_434 (by decide +kernel) ?_
  refine lv_iadd hx hb dL_law_435 ?_
  rw [nI_p2 i]
  refine xa_sld hx hb hX hbl hbA hS (k := i + 2) (by omega) hL hp2 dL_law_436 ?_
  refine lv_aload_n hx hb dL_law_437 rfl (lv_at hl 3 rfl) ?_
  have hPc := hP.sub (ws' := [(h0, eE h1 h2 kn), (h1, eR hw1 hc1 hb1 a1 r1), (hw1, eW true), (hc1, eA cy f1), (hb1, eA cy g1), (h2, eR hw2 hc2 hb2 a2 r2), (hw2, eW false), (hc2, eA cy f2), (hb2, eA cy g2), (ho, eO nv sv)]) [0, 1, 2, 3, 4, 5, 6, 7, 8, 9] rfl
  have hDc := hD.sub (ws' := [(h0, eE h1 h2 kn), (h1, eR hw1 hc1 hb1 a1 r1), (hw1, eW true), (hc1, eA cy f1), (hb1, eA cy g1), (h2, eR hw2 hc2 hb2 a2 r2), (hw2, eW false), (hc2, eA cy f2), (hb2, eA cy g2), (ho, eO nv sv)]) [0, 1, 2, 3, 4, 5, 6, 7, 8, 9] (by decide +kernel) rfl
  have hKc := hK.sub (tys' := [(cy, .long)]) [0] rfl
  have hFc := va_free (wc := [(h0, eE h1 h2 kn), (h1, eR hw1 hc1 hb1 a1 r1), (hw1, eW true), (hc1, eA cy f1), (hb1, eA cy g1), (h2, eR hw2 hc2 hb2 a2 r2), (hw2, eW false), (hc2, eA cy f2), (hb2, eA cy g2), (ho, eO nv sv)]) hD hS hA [0, 1, 2, 3, 4, 5, 6, 7, 8, 9] rfl
  refine va_calli (vx_runSW (As := [.ref h0, .int p1, .int p2, .ref ho]) (rest := []) ⟨hx, hb, hml, hown, hts⟩ (k_L_wideSwap l hfl dC dI cy h0 h1 hw1 hc1 hb1 h2 hw2 hc2 hb2 a1 r1 f1 g1 a2 r2 f2 g2 kn ho nv sv H.size N p1 p2) (vx_cwSW 4 hts gL_law_L_wideSwap rfl rfl rfl (by decide +kernel) ⟨Nat.le_of_ble_eq_true rfl, Nat.le_of_ble_eq_true rfl⟩) (xL.preS hKc hPc hDc hAN (Nat.le_trans hN hS.1) (hG.kept hS hAN) hnc) rfl rfl hl.1 rfl (lv_room (Nat.le_of_ble_eq_true rfl)) dL_law_438 ⟨(show _ ≤ 616450 by omega), (show _ ≤ 7246753 by omega)⟩) hS (fun q _ h => hFc q h) hFc (fun r_1 u t H locs ht hvm hw hB hz hk hS => ?_)
  replace hw : r_1 = (o_L_wideSwap a1 f1 nv p1 p2).1 := hw
  subst r_1
  obtain ⟨hP1, hD1⟩ := hB
  rw [ht] at hP1
  obtain ⟨hP, hD⟩ := va_join (wr := [(m0, eM m1 m2 th (r1 + r2) kn), (m1, eMR true mc1 a1), (mc1, eA cy f1), (m2, eMR false mc2 a2), (mc2, eA cy f2)]) (w1 := [(h0, eE h1 h2 kn), (h1, eR hw1 hc1 hb1 (o_L_wideSwap a1 f1 nv p1 p2).2.1 r1), (hw1, eW true), (hc1, eA cy (o_L_wideSwap a1 f1 nv p1 p2).2.2.1), (hb1, eA cy g1), (h2, eR hw2 hc2 hb2 a2 r2), (hw2, eW false), (hc2, eA cy f2), (hb2, eA cy g2), (ho, eO (o_L_wideSwap a1 f1 nv p1 p2).2.2.2 sv)]) hP hD [0, 1, 2, 3, 4, 5, 6, 7, 8, 9] [10, 11, 12, 13, 14] rfl rfl (by decide +kernel) (by decide +kernel) hk hFc hP1 hD1
  have hP := hP.sub (ws' := [(h0, eE h1 h2 kn), (h1, eR hw1 hc1 hb1 (o_L_wideSwap a1 f1 nv p1 p2).2.1 r1), (hw1, eW true), (hc1, eA cy (o_L_wideSwap a1 f1 nv p1 p2).2.2.1), (hb1, eA cy g1), (h2, eR hw2 hc2 hb2 a2 r2), (hw2, eW false), (hc2, eA cy f2), (hb2, eA cy g2), (ho, eO (o_L_wideSwap a1 f1 nv p1 p2).2.2.2 sv), (m0, eM m1 m2 th (r1 + r2) kn), (m1, eMR true mc1 a1), (mc1, eA cy f1), (m2, eMR false mc2 a2), (mc2, eA cy f2)]) [5, 6, 7, 8, 9, 10, 11, 12, 13, 14, 0, 1, 2, 3, 4] rfl
  have hD := hD.sub (ws' := [(h0, eE h1 h2 kn), (h1, eR hw1 hc1 hb1 (o_L_wideSwap a1 f1 nv p1 p2).2.1 r1), (hw1, eW true), (hc1, eA cy (o_L_wideSwap a1 f1 nv p1 p2).2.2.1), (hb1, eA cy g1), (h2, eR hw2 hc2 hb2 a2 r2), (hw2, eW false), (hc2, eA cy f2), (hb2, eA cy g2), (ho, eO (o_L_wideSwap a1 f1 nv p1 p2).2.2.2 sv), (m0, eM m1 m2 th (r1 + r2) kn), (m1, eMR true mc1 a1), (mc1, eA cy f1), (m2, eMR false mc2 a2), (mc2, eA cy f2)]) [5, 6, 7, 8, 9, 10, 11, 12, 13, 14, 0, 1, 2, 3, 4] (by decide +kernel) rfl
  refine lv_istore (lv' := [(5, .int ((o_L_wideSwap a1 f1 nv p1 p2).1)), (0, .ref b), (1, .ref h0), (2, .ref m0), (3, .ref ho), (4, .int (nI i))]) hx hb dL_law_441 hl (by decide +kernel) rfl (fun ls hl => ?_)
  refine lv_aload_n hx hb dL_law_443 rfl (lv_at hl 3 rfl) ?_
  refine lv_aload_n hx hb dL_law_444 rfl (lv_at hl 1 rfl) ?_
  refine lv_iload hx hb dL_law_445 (lv_at hl 5 rfl) ?_
  refine lv_iconst (v := 1) hx hb dL_law_447 (by decide +kernel) ?_
  refine lv_iadd hx hb dL_law_448 ?_
  rw [nI_1 i]
  refine xa_sld hx hb hX hbl hbA hS (k := i + 1) (by omega) hL hp1 dL_law_449 ?_
  refine lv_aload_n hx hb dL_law_450 rfl (lv_at hl 1 rfl) ?_
  refine lv_iload hx hb dL_law_451 (lv_at hl 5 rfl) ?_
  refine lv_iconst (v := 2) hx hb dL_law_453 (by decide +kernel) ?_
  refine lv_iadd hx hb dL_law_454 ?_
  rw [nI_p2 i]
  refine xa_sld hx hb hX hbl hbA hS (k := i + 2) (by omega) hL hp2 dL_law_455 ?_
  have hPc := hP.sub (ws' := [(m0, eM m1 m2 th (r1 + r2) kn), (m1, eMR true mc1 a1), (mc1, eA cy f1), (m2, eMR false mc2 a2), (mc2, eA cy f2)]) [10, 11, 12, 13, 14] rfl
  have hDc := hD.sub (ws' := [(m0, eM m1 m2 th (r1 + r2) kn), (m1, eMR true mc1 a1), (mc1, eA cy f1), (m2, eMR false mc2 a2), (mc2, eA cy f2)]) [10, 11, 12, 13, 14] (by decide +kernel) rfl
  have hKc := hK.sub (tys' := [(cy, .long)]) [0] rfl
  have hFc := va_free (wc := [(m0, eM m1 m2 th (r1 + r2) kn), (m1, eMR true mc1 a1), (mc1, eA cy f1), (m2, eMR false mc2 a2), (mc2, eA cy f2)]) hD hS hA [10, 11, 12, 13, 14] rfl
  refine va_calli (va_runV (As := [.int p1, .int p2]) (rest := []) ⟨hx, hb, hml, hown, hts⟩ (k_X5_wideSwap l dC dI cy m0 m1 mc1 m2 mc2 a1 f1 a2 f2 th (r1 + r2) kn H.size N p1 p2) (cwV 2 hts gL_law_X5_wideSwap rfl rfl rfl (by decide +kernel) ⟨Nat.le_of_ble_eq_true rfl, Nat.le_of_ble_eq_true rfl⟩) (xM.preV hKc hPc hDc hAN (Nat.le_trans hN hS.1) (hG.kept hS hAN) (ci := 7) (q0 := 0) rfl rfl) rfl rfl hl.1 rfl (lv_room (Nat.le_of_ble_eq_true rfl)) dL_law_456 ⟨(show _ ≤ 616450 by omega), (show _ ≤ 7246753 by omega)⟩) hS (fun q _ h => hFc q h) hFc (fun r_2 u t H locs ht hvm hw hB hz hk hS => ?_)
  replace hw : r_2 = (o_X5_wideSwap a1 f1 p1 p2).1 := hw
  subst r_2
  obtain ⟨hP1, hD1⟩ := hB
  rw [ht] at hP1
  obtain ⟨hP, hD⟩ := va_join (wr := [(h0, eE h1 h2 kn), (h1, eR hw1 hc1 hb1 (o_L_wideSwap a1 f1 nv p1 p2).2.1 r1), (hw1, eW true), (hc1, eA cy (o_L_wideSwap a1 f1 nv p1 p2).2.2.1), (hb1, eA cy g1), (h2, eR hw2 hc2 hb2 a2 r2), (hw2, eW false), (hc2, eA cy f2), (hb2, eA cy g2), (ho, eO (o_L_wideSwap a1 f1 nv p1 p2).2.2.2 sv)]) (w1 := [(m0, eM m1 m2 (o_X5_wideSwap a1 f1 p1 p2).2.2.2 (r1 + r2) kn), (m1, eMR true mc1 (o_X5_wideSwap a1 f1 p1 p2).2.1), (mc1, eA cy (o_X5_wideSwap a1 f1 p1 p2).2.2.1), (m2, eMR false mc2 a2), (mc2, eA cy f2)]) hP hD [10, 11, 12, 13, 14] [0, 1, 2, 3, 4, 5, 6, 7, 8, 9] rfl rfl (by decide +kernel) (by decide +kernel) hk hFc hP1 hD1
  have hP := hP.sub (ws' := [(h0, eE h1 h2 kn), (h1, eR hw1 hc1 hb1 (o_L_wideSwap a1 f1 nv p1 p2).2.1 r1), (hw1, eW true), (hc1, eA cy (o_L_wideSwap a1 f1 nv p1 p2).2.2.1), (hb1, eA cy g1), (h2, eR hw2 hc2 hb2 a2 r2), (hw2, eW false), (hc2, eA cy f2), (hb2, eA cy g2), (ho, eO (o_L_wideSwap a1 f1 nv p1 p2).2.2.2 sv), (m0, eM m1 m2 (o_X5_wideSwap a1 f1 p1 p2).2.2.2 (r1 + r2) kn), (m1, eMR true mc1 (o_X5_wideSwap a1 f1 p1 p2).2.1), (mc1, eA cy (o_X5_wideSwap a1 f1 p1 p2).2.2.1), (m2, eMR false mc2 a2), (mc2, eA cy f2)]) [0, 1, 2, 3, 4, 5, 6, 7, 8, 9, 10, 11, 12, 13, 14] rfl
  have hD := hD.sub (ws' := [(h0, eE h1 h2 kn), (h1, eR hw1 hc1 hb1 (o_L_wideSwap a1 f1 nv p1 p2).2.1 r1), (hw1, eW true), (hc1, eA cy (o_L_wideSwap a1 f1 nv p1 p2).2.2.1), (hb1, eA cy g1), (h2, eR hw2 hc2 hb2 a2 r2), (hw2, eW false), (hc2, eA cy f2), (hb2, eA cy g2), (ho, eO (o_L_wideSwap a1 f1 nv p1 p2).2.2.2 sv), (m0, eM m1 m2 (o_X5_wideSwap a1 f1 p1 p2).2.2.2 (r1 + r2) kn), (m1, eMR true mc1 (o_X5_wideSwap a1 f1 p1 p2).2.1), (mc1, eA cy (o_X5_wideSwap a1 f1 p1 p2).2.2.1), (m2, eMR false mc2 a2), (mc2, eA cy f2)]) [0, 1, 2, 3, 4, 5, 6, 7, 8, 9, 10, 11, 12, 13, 14] (by decide +kernel) rfl
  refine lv_istore (lv' := [(6, .int ((o_X5_wideSwap a1 f1 p1 p2).1)), (5, .int ((o_L_wideSwap a1 f1 nv p1 p2).1)), (0, .ref b), (1, .ref h0), (2, .ref m0), (3, .ref ho), (4, .int (nI i))]) hx hb dL_law_459 hl (by decide +kernel) rfl (fun ls hl => ?_)
  refine lv_goto (tgt := 2268) hx hb dL_law_461 (by decide +kernel) ?_
  refine W.widen (k := cells + 760) (n := slots + 4500) (by omega) (by omega) ?_
  have qe_b1 : (o_X5_wideSwap a1 f1 p1 p2).2.1 = (o_L_wideSwap a1 f1 nv p1 p2).2.1 := (by have hm := ml_wideSwap a1 nv p1 p2 hka1; rw [hm.1] <;> rfl)
  have qe_e1 : (o_X5_wideSwap a1 f1 p1 p2).2.2.1 = (o_L_wideSwap a1 f1 nv p1 p2).2.2.1 := (by have hm := ml_wideSwap a1 nv p1 p2 hka1; rw [hm.1] <;> rfl)
  have qk_1 : okA true ((o_L_wideSwap a1 f1 nv p1 p2).2.2.1) := (by have hm := ml_wideSwap a1 nv p1 p2 hka1; rw [hm.1]; exact hm.2)
  exact K ((o_L_wideSwap a1 f1 nv p1 p2).2.1) r1 ((o_L_wideSwap a1 f1 nv p1 p2).2.2.1) g1 a2 r2 f2 g2 kn ((o_L_wideSwap a1 f1 nv p1 p2).2.2.2) sv ((o_X5_wideSwap a1 f1 p1 p2).2.2.2) ((o_X5_wideSwap a1 f1 p1 p2).2.1) ((o_X5_wideSwap a1 f1 p1 p2).2.2.1) a2 f2 (r1 + r2) kn _ _ _ qe_b1 qe_e1 rfl rfl rfl rfl qk_1 hka2 hP hD hS (lv_sub hl [2, 3, 4, 5, 6] rfl)
set_option maxHeartbeats 4000000 in
set_option maxRecDepth 100000 in
theorem st_5 (l : Launch) (p : Program) (e : Env) (s : State) (m : MethodId) (below : List Frame) (meth : Method) (c : Code) (b L N : Nat) (xs : Nat → Int32) (A : Nat → Prop) (dC : Nat → ClassId) (dI : Nat → Nat → Nat) (cy cB : ClassId) (h0 h1 hw1 hc1 hb1 h2 hw2 hc2 hb2 ho m0 m1 mc1 m2 mc2 : Nat) (C0 : lw_C l p e s m below meth c b L N xs A dC dI cy cB) (i : Nat) (hi : i + 4 ≤ L) (p1 p2 p3 : Int32) (hp1 : xs (i + 1) = p1) (hp2 : xs (i + 2) = p2) (hp3 : xs (i + 3) = p3) (cells slots : Nat) (hcs : cells + 760 ≤ 616450) (hss : slots + 4500 ≤ 7246753) (K : lw_K l p e s m below meth c b L N xs A dC dI cy cB h0 h1 hw1 hc1 hb1 h2 hw2 hc2 hb2 ho m0 m1 mc1 m2 mc2 i (cells + 760) (slots + 4500) 2268) (a1 : Int32) (r1 : Int32) (f1 : Nat → Int64) (g1 : Nat → Int64) (a2 : Int32) (r2 : Int32) (f2 : Nat → Int64) (g2 : Nat → Int64) (kn : Int32) (nv : Int64) (sv : Value) (th : Int32) (H : Heap) (locs : List Loc) (ls : Array Slot) (hka1 : okA true f1) (hka2 : okA false f2) (hP : va_P (dC, dI) xCl [(h0, eE h1 h2 kn), (h1, eR hw1 hc1 hb1 a1 r1), (hw1, eW true), (hc1, eA cy f1), (hb1, eA cy g1), (h2, eR hw2 hc2 hb2 a2 r2), (hw2, eW false), (hc2, eA cy f2), (hb2, eA cy g2), (ho, eO nv sv), (m0, eM m1 m2 th (r1 + r2) kn), (m1, eMR true mc1 a1), (mc1, eA cy f1), (m2, eMR false mc2 a2), (mc2, eA cy f2)] H) (hD : va_D A [(h0, eE h1 h2 kn), (h1, eR hw1 hc1 hb1 a1 r1), (hw1, eW true), (hc1, eA cy f1), (hb1, eA cy g1), (h2, eR hw2 hc2 hb2 a2 r2), (hw2, eW false), (hc2, eA cy f2), (hb2, eA cy g2), (ho, eO nv sv), (m0, eM m1 m2 th (r1 + r2) kn), (m1, eMR true mc1 a1), (mc1, eA cy f1), (m2, eMR false mc2 a2), (mc2, eA cy f2)]) (hS : va_S A s.heap H locs) (hl : lv_has ls 7 [(0, .ref b), (1, .ref h0), (2, .ref m0), (3, .ref ho), (4, .int (nI i))]) : W p l e room_1 s m #[Value.ref b] below meth c H locs cells slots (lw_Z below #[Value.ref b] s) (F0 m 464 ls []) := by
  obtain ⟨hfl, hx, hb, hr, hml, hown, hts, hX, hbl, hbA, hlocks, hK, hG, hnc, hA, hAN, hN, hL, hT, hNs⟩ := id C0
  have hok2 := me_okF hka2
  have hsp1 : ∀ k, k < 8 → o_X1_isSpoiled true (f1 k) = false := fun k hk => (hka1 k hk).2
  have hsp2 : ∀ k, k < 8 → o_X1_isSpoiled false (f2 k) = false := fun k hk => (hka2 k hk).2
  refine lv_aload_n hx hb dL_law_464 rfl (lv_at hl 1 rfl) ?_
  refine lv_aload_n hx hb dL_law_465 rfl (lv_at hl 0 rfl) ?_
  refine lv_iload hx hb dL_law_466 (lv_at hl 4 rfl) ?_
  refine lv_iconst (v := 1) hx hb dL_law_468 (by decide +kernel) ?_
  refine lv_iadd hx hb dL_law_469 ?_
  rw [nI_1 i]
  refine xa_sld hx hb hX hbl hbA hS (k := i + 1) (by omega) hL hp1 dL_law_470 ?_
  refine lv_aload_n hx hb dL_law_471 rfl (lv_at hl 0 rfl) ?_
  refine lv_iload hx hb dL_law_472 (lv_at hl 4 rfl) ?_
  refine lv_iconst (v := 2) hx hb dL_law_474 (by decide +kernel) ?_
  refine lv_iadd hx hb dL_law_475 ?_
  rw [nI_p2 i]
  refine xa_sld hx hb hX hbl hbA hS (k := i + 2) (by omega) hL hp2 dL_law_476 ?_
  refine lv_aload_n hx hb dL_law_477 rfl (lv_at hl 0 rfl) ?_
  refine lv_iload hx hb dL_law_478 (lv_at hl 4 rfl) ?_
  refine lv_iconst (v := 3) hx hb dL_law_480 (by decide +kernel) ?_
  refine lv_iadd hx hb dL_law_481 ?_
  rw [nI_p3 i]
  refine xa_sld hx hb hX hbl hbA hS (k := i + 3) (by omega) hL hp3 dL_law_482 ?_
  refine lv_aload_n hx hb dL_law_483 rfl (lv_at hl 3 rfl) ?_
  have hPc := hP.sub (ws' := [(h0, eE h1 h2 kn), (h1, eR hw1 hc1 hb1 a1 r1), (hw1, eW true), (hc1, eA cy f1), (hb1, eA cy g1), (h2, eR hw2 hc2 hb2 a2 r2), (hw2, eW false), (hc2, eA cy f2), (hb2, eA cy g2), (ho, eO nv sv)]) [0, 1, 2, 3, 4, 5, 6, 7, 8, 9] rfl
  have hDc := hD.sub (ws' := [(h0, eE h1 h2 kn), (h1, eR hw1 hc1 hb1 a1 r1), (hw1, eW true), (hc1, eA cy f1), (hb1, eA cy g1), (h2, eR hw2 hc2 hb2 a2 r2), (hw2, eW false), (hc2, eA cy f2), (hb2, eA cy g2), (ho, eO nv sv)]) [0, 1, 2, 3, 4, 5, 6, 7, 8, 9] (by decide +kernel) rfl
  have hKc := hK.sub (tys' := [(cy, .long)]) [0] rfl
  have hFc := va_free (wc := [(h0, eE h1 h2 kn), (h1, eR hw1 hc1 hb1 a1 r1), (hw1, eW true), (hc1, eA cy f1), (hb1, eA cy g1), (h2, eR hw2 hc2 hb2 a2 r2), (hw2, eW false), (hc2, eA cy f2), (hb2, eA cy g2), (ho, eO nv sv)]) hD hS hA [0, 1, 2, 3, 4, 5, 6, 7, 8, 9] rfl
  refine va_calli (vx_runSW (As := [.ref h0, .int p1, .int p2, .int p3, .ref ho]) (rest := []) ⟨hx, hb, hml, hown, hts⟩ (k_L_wideMax l hfl dC dI cy h0 h1 hw1 hc1 hb1 h2 hw2 hc2 hb2 a1 r1 f1 g1 a2 r2 f2 g2 kn ho nv sv H.size N p1 p2 p3) (vx_cwSW 5 hts gL_law_L_wideMax rfl rfl rfl (by decide +kernel) ⟨Nat.le_of_ble_eq_true rfl, Nat.le_of_ble_eq_true rfl⟩) (xL.preS hKc hPc hDc hAN (Nat.le_trans hN hS.1) (hG.kept hS hAN) hnc) rfl rfl hl.1 rfl (lv_room (Nat.le_of_ble_eq_true rfl)) dL_law_484 ⟨(show _ ≤ 616450 by omega), (show _ ≤ 7246753 by omega)⟩) hS (fun q _ h => hFc q h) hFc (fun r_1 u t H locs ht hvm hw hB hz hk hS => ?_)
  replace hw : r_1 = (o_L_wideMax a1 f1 nv p1 p2 p3).1 := hw
  subst r_1
  obtain ⟨hP1, hD1⟩ := hB
  rw [ht] at hP1
  obtain ⟨hP, hD⟩ := va_join (wr := [(m0, eM m1 m2 th (r1 + r2) kn), (m1, eMR true mc1 a1), (mc1, eA cy f1), (m2, eMR false mc2 a2), (mc2, eA cy f2)]) (w1 := [(h0, eE h1 h2 kn), (h1, eR hw1 hc1 hb1 (o_L_wideMax a1 f1 nv p1 p2 p3).2.1 r1), (hw1, eW true), (hc1, eA cy (o_L_wideMax a1 f1 nv p1 p2 p3).2.2.1), (hb1, eA cy g1), (h2, eR hw2 hc2 hb2 a2 r2), (hw2, eW false), (hc2, eA cy f2), (hb2, eA cy g2), (ho, eO (o_L_wideMax a1 f1 nv p1 p2 p3).2.2.2 sv)]) hP hD [0, 1, 2, 3, 4, 5, 6, 7, 8, 9] [10, 11, 12, 13, 14] rfl rfl (by decide +kernel) (by decide +kernel) hk hFc hP1 hD1
  have hP := hP.sub (ws' := [(h0, eE h1 h2 kn), (h1, eR hw1 hc1 hb1 (o_L_wideMax a1 f1 nv p1 p2 p3).2.1 r1), (hw1, eW true), (hc1, eA cy (o_L_wideMax a1 f1 nv p1 p2 p3).2.2.1), (hb1, eA cy g1), (h2, eR hw2 hc2 hb2 a2 r2), (hw2, eW false), (hc2, eA cy f2), (hb2, eA cy g2), (ho, eO (o_L_wideMax a1 f1 nv p1 p2 p3).2.2.2 sv), (m0, eM m1 m2 th (r1 + r2) kn), (m1, eMR true mc1 a1), (mc1, eA cy f1), (m2, eMR false mc2 a2), (mc2, eA cy f2)]) [5, 6, 7, 8, 9, 10, 11, 12, 13, 14, 0, 1, 2, 3, 4] rfl
  have hD := hD.sub (ws' := [(h0, eE h1 h2 kn), (h1, eR hw1 hc1 hb1 (o_L_wideMax a1 f1 nv p1 p2 p3).2.1 r1), (hw1, eW true), (hc1, eA cy (o_L_wideMax a1 f1 nv p1 p2 p3).2.2.1), (hb1, eA cy g1), (h2, eR hw2 hc2 hb2 a2 r2), (hw2, eW false), (hc2, eA cy f2), (hb2, eA cy g2), (ho, eO (o_L_wideMax a1 f1 nv p1 p2 p3).2.2.2 sv), (m0, eM m1 m2 th (r1 + r2) kn), (m1, eMR true mc1 a1), (mc1, eA cy f1), (m2, eMR false mc2 a2), (mc2, eA cy f2)]) [5, 6, 7, 8, 9, 10, 11, 12, 13, 14, 0, 1, 2, 3, 4] (by decide +kernel) rfl
  refine lv_istore (lv' := [(5, .int ((o_L_wideMax a1 f1 nv p1 p2 p3).1)), (0, .ref b), (1, .ref h0), (2, .ref m0), (3, .ref ho), (4, .int (nI i))]) hx hb dL_law_487 hl (by decide +kernel) rfl (fun ls hl => ?_)
  refine lv_aload_n hx hb dL_law_489 rfl (lv_at hl 3 rfl) ?_
  refine lv_aload_n hx hb dL_law_490 rfl (lv_at hl 1 rfl) ?_
  refine lv_iload hx hb dL_law_491 (lv_at hl 5 rfl) ?_
  refine lv_iconst (v := 1) hx hb dL_law_493 (by decide +kernel) ?_
  refine lv_iadd hx hb dL_law_494 ?_
  rw [nI_1 i]
  refine xa_sld hx hb hX hbl hbA hS (k := i + 1) (by omega) hL hp1 dL_law_495 ?_
  refine lv_aload_n hx hb dL_law_496 rfl (lv_at hl 1 rfl) ?_
  refine lv_iload hx hb dL_law_497 (lv_at hl 5 rfl) ?_
  refine lv_iconst (v := 2) hx hb dL_law_499 (by decide +kernel) ?_
  refine lv_iadd hx hb dL_law_500 ?_
  rw [nI_p2 i]
  refine xa_sld hx hb hX hbl hbA hS (k := i + 2) (by omega) hL hp2 dL_law_501 ?_
  refine lv_aload_n hx hb dL_law_502 rfl (lv_at hl 1 rfl) ?_
  refine lv_iload hx hb dL_law_503 (lv_at hl 5 rfl) ?_
  refine lv_iconst (v := 3) hx hb dL_law_505 (by decide +kernel) ?_
  refine lv_iadd hx hb dL_law_506 ?_
  rw [nI_p3 i]
  refine xa_sld hx hb hX hbl hbA hS (k := i + 3) (by omega) hL hp3 dL_law_507 ?_
  have hPc := hP.sub (ws' := [(m0, eM m1 m2 th (r1 + r2) kn), (m1, eMR true mc1 a1), (mc1, eA cy f1), (m2, eMR false mc2 a2), (mc2, eA cy f2)]) [10, 11, 12, 13, 14] rfl
  have hDc := hD.sub (ws' := [(m0, eM m1 m2 th (r1 + r2) kn), (m1, eMR true mc1 a1), (mc1, eA cy f1), (m2, eMR false mc2 a2), (mc2, eA cy f2)]) [10, 11, 12, 13, 14] (by decide +kernel) rfl
  have hKc := hK.sub (tys' := [(cy, .long)]) [0] rfl
  have hFc := va_free (wc := [(m0, eM m1 m2 th (r1 + r2) kn), (m1, eMR true mc1 a1), (mc1, eA cy f1), (m2, eMR false mc2 a2), (mc2, eA cy f2)]) hD hS hA [10, 11, 12, 13, 14] rfl
  refine va_calli (va_runV (As := [.int p1, .int p2, .int p3]) (rest := []) ⟨hx, hb, hml, hown, hts⟩ (k_X5_wideMax l dC dI cy m0 m1 mc1 m2 mc2 a1 f1 a2 f2 th (r1 + r2) kn H.size N p1 p2 p3) (cwV 3 hts gL_law_X5_wideMax rfl rfl rfl (by decide +kernel) ⟨Nat.le_of_ble_eq_true rfl, Nat.le_of_ble_eq_true rfl⟩) (xM.preV hKc hPc hDc hAN (Nat.le_trans hN hS.1) (hG.kept hS hAN) (ci := 7) (q0 := 0) rfl rfl) rfl rfl hl.1 rfl (lv_room (Nat.le_of_ble_eq_true rfl)) dL_law_508 ⟨(show _ ≤ 616450 by omega), (show _ ≤ 7246753 by omega)⟩) hS (fun q _ h => hFc q h) hFc (fun r_2 u t H locs ht hvm hw hB hz hk hS => ?_)
  replace hw : r_2 = (o_X5_wideMax a1 f1 p1 p2 p3).1 := hw
  subst r_2
  obtain ⟨hP1, hD1⟩ := hB
  rw [ht] at hP1
  obtain ⟨hP, hD⟩ := va_join (wr := [(h0, eE h1 h2 kn), (h1, eR hw1 hc1 hb1 (o_L_wideMax a1 f1 nv p1 p2 p3).2.1 r1), (hw1, eW true), (hc1, eA cy (o_L_wideMax a1 f1 nv p1 p2 p3).2.2.1), (hb1, eA cy g1), (h2, eR hw2 hc2 hb2 a2 r2), (hw2, eW false), (hc2, eA cy f2), (hb2, eA cy g2), (ho, eO (o_L_wideMax a1 f1 nv p1 p2 p3).2.2.2 sv)]) (w1 := [(m0, eM m1 m2 (o_X5_wideMax a1 f1 p1 p2 p3).2.2.2 (r1 + r2) kn), (m1, eMR true mc1 (o_X5_wideMax a1 f1 p1 p2 p3).2.1), (mc1, eA cy (o_X5_wideMax a1 f1 p1 p2 p3).2.2.1), (m2, eMR false mc2 a2), (mc2, eA cy f2)]) hP hD [10, 11, 12, 13, 14] [0, 1, 2, 3, 4, 5, 6, 7, 8, 9] rfl rfl (by decide +kernel) (by decide +kernel) hk hFc hP1 hD1
  have hP := hP.sub (ws' := [(h0, eE h1 h2 kn), (h1, eR hw1 hc1 hb1 (o_L_wideMax a1 f1 nv p1 p2 p3).2.1 r1), (hw1, eW true), (hc1, eA cy (o_L_wideMax a1 f1 nv p1 p2 p3).2.2.1), (hb1, eA cy g1), (h2, eR hw2 hc2 hb2 a2 r2), (hw2, eW false), (hc2, eA cy f2), (hb2, eA cy g2), (ho, eO (o_L_wideMax a1 f1 nv p1 p2 p3).2.2.2 sv), (m0, eM m1 m2 (o_X5_wideMax a1 f1 p1 p2 p3).2.2.2 (r1 + r2) kn), (m1, eMR true mc1 (o_X5_wideMax a1 f1 p1 p2 p3).2.1), (mc1, eA cy (o_X5_wideMax a1 f1 p1 p2 p3).2.2.1), (m2, eMR false mc2 a2), (mc2, eA cy f2)]) [0, 1, 2, 3, 4, 5, 6, 7, 8, 9, 10, 11, 12, 13, 14] rfl
  have hD := hD.sub (ws' := [(h0, eE h1 h2 kn), (h1, eR hw1 hc1 hb1 (o_L_wideMax a1 f1 nv p1 p2 p3).2.1 r1), (hw1, eW true), (hc1, eA cy (o_L_wideMax a1 f1 nv p1 p2 p3).2.2.1), (hb1, eA cy g1), (h2, eR hw2 hc2 hb2 a2 r2), (hw2, eW false), (hc2, eA cy f2), (hb2, eA cy g2), (ho, eO (o_L_wideMax a1 f1 nv p1 p2 p3).2.2.2 sv), (m0, eM m1 m2 (o_X5_wideMax a1 f1 p1 p2 p3).2.2.2 (r1 + r2) kn), (m1, eMR true mc1 (o_X5_wideMax a1 f1 p1 p2 p3).2.1), (mc1, eA cy (o_X5_wideMax a1 f1 p1 p2 p3).2.2.1), (m2, eMR false mc2 a2), (mc2, eA cy f2)]) [0, 1, 2, 3, 4, 5, 6, 7, 8, 9, 10, 11, 12, 13, 14] (by decide +kernel) rfl
  refine lv_istore (lv' := [(6, .int ((o_X5_wideMax a1 f1 p1 p2 p3).1)), (5, .int ((o_L_wideMax a1 f1 nv p1 p2 p3).1)), (0, .ref b), (1, .ref h0), (2, .ref m0), (3, .ref ho), (4, .int (nI i))]) hx hb dL_law_511 hl (by decide +kernel) rfl (fun ls hl => ?_)
  refine lv_goto (tgt := 2268) hx hb dL_law_513 (by decide +kernel) ?_
  refine W.widen (k := cells + 760) (n := slots + 4500) (by omega) (by omega) ?_
  have qe_b1 : (o_X5_wideMax a1 f1 p1 p2 p3).2.1 = (o_L_wideMax a1 f1 nv p1 p2 p3).2.1 := (by have hm := ml_wideMax a1 nv p1 p2 p3 hka1; rw [hm.1] <;> rfl)
  have qe_e1 : (o_X5_wideMax a1 f1 p1 p2 p3).2.2.1 = (o_L_wideMax a1 f1 nv p1 p2 p3).2.2.1 := (by have hm := ml_wideMax a1 nv p1 p2 p3 hka1; rw [hm.1] <;> rfl)
  have qk_1 : okA true ((o_L_wideMax a1 f1 nv p1 p2 p3).2.2.1) := (by have hm := ml_wideMax a1 nv p1 p2 p3 hka1; rw [hm.1]; exact hm.2)
  exact K ((o_L_wideMax a1 f1 nv p1 p2 p3).2.1) r1 ((o_L_wideMax a1 f1 nv p1 p2 p3).2.2.1) g1 a2 r2 f2 g2 kn ((o_L_wideMax a1 f1 nv p1 p2 p3).2.2.2) sv ((o_X5_wideMax a1 f1 p1 p2 p3).2.2.2) ((o_X5_wideMax a1 f1 p1 p2 p3).2.1) ((o_X5_wideMax a1 f1 p1 p2 p3).2.2.1) a2 f2 (r1 + r2) kn _ _ _ qe_b1 qe_e1 rfl rfl rfl rfl qk_1 hka2 hP hD hS (lv_sub hl [2, 3, 4, 5, 6] rfl)
set_option maxHeartbeats 4000000 in
set_option maxRecDepth 100000 in
theorem st_6 (l : Launch) (p : Program) (e : Env) (s : State) (m : MethodId) (below : List Frame) (meth : Method) (c : Code) (b L N : Nat) (xs : Nat → Int32) (A : Nat → Prop) (dC : Nat → ClassId) (dI : Nat → Nat → Nat) (cy cB : ClassId) (h0 h1 hw1 hc1 hb1 h2 hw2 hc2 hb2 ho m0 m1 mc1 m2 mc2 : Nat) (C0 : lw_C l p e s m below meth c b L N xs A dC dI cy cB) (i : Nat) (hi : i + 4 ≤ L) (p1 p2 p3 : Int32) (hp1 : xs (i + 1) = p1) (hp2 : xs (i + 2) = p2) (hp3 : xs (i + 3) = p3) (cells slots : Nat) (hcs : cells + 760 ≤ 616450) (hss : slots + 4500 ≤ 7246753) (K : lw_K l p e s m below meth c b L N xs A dC dI cy cB h0 h1 hw1 hc1 hb1 h2 hw2 hc2 hb2 ho m0 m1 mc1 m2 mc2 i (cells + 760) (slots + 4500) 2268) (a1 : Int32) (r1 : Int32) (f1 : Nat → Int64) (g1 : Nat → Int64) (a2 : Int32) (r2 : Int32) (f2 : Nat → Int64) (g2 : Nat → Int64) (kn : Int32) (nv : Int64) (sv : Value) (th : Int32) (H : Heap) (locs : List Loc) (ls : Array Slot) (hka1 : okA true f1) (hka2 : okA false f2) (hP : va_P (dC, dI) xCl [(h0, eE h1 h2 kn), (h1, eR hw1 hc1 hb1 a1 r1), (hw1, eW true), (hc1, eA cy f1), (hb1, eA cy g1), (h2, eR hw2 hc2 hb2 a2 r2), (hw2, eW false), (hc2, eA cy f2), (hb2, eA cy g2), (ho, eO nv sv), (m0, eM m1 m2 th (r1 + r2) kn), (m1, eMR true mc1 a1), (mc1, eA cy f1), (m2, eMR false mc2 a2), (mc2, eA cy f2)] H) (hD : va_D A [(h0, eE h1 h2 kn), (h1, eR hw1 hc1 hb1 a1 r1), (hw1, eW true), (hc1, eA cy f1), (hb1, eA cy g1), (h2, eR hw2 hc2 hb2 a2 r2), (hw2, eW false), (hc2, eA cy f2), (hb2, eA cy g2), (ho, eO nv sv), (m0, eM m1 m2 th (r1 + r2) kn), (m1, eMR true mc1 a1), (mc1, eA cy f1), (m2, eMR false mc2 a2), (mc2, eA cy f2)]) (hS : va_S A s.heap H locs) (hl : lv_has ls 7 [(0, .ref b), (1, .ref h0), (2, .ref m0), (3, .ref ho), (4, .int (nI i))]) : W p l e room_1 s m #[Value.ref b] below meth c H locs cells slots (lw_Z below #[Value.ref b] s) (F0 m 516 ls []) := by
  obtain ⟨hfl, hx, hb, hr, hml, hown, hts, hX, hbl, hbA, hlocks, hK, hG, hnc, hA, hAN, hN, hL, hT, hNs⟩ := id C0
  have hok2 := me_okF hka2
  have hsp1 : ∀ k, k < 8 → o_X1_isSpoiled true (f1 k) = false := fun k hk => (hka1 k hk).2
  have hsp2 : ∀ k, k < 8 → o_X1_isSpoiled false (f2 k) = false := fun k hk => (hka2 k hk).2
  refine lv_aload_n hx hb dL_law_516 rfl (lv_at hl 1 rfl) ?_
  refine lv_aload_n hx hb dL_law_517 rfl (lv_at hl 0 rfl) ?_
  refine lv_iload hx hb dL_law_518 (lv_at hl 4 rfl) ?_
  refine lv_iconst (v := 1) hx hb dL_law_520 (by decide +kernel) ?_
  refine lv_iadd hx hb dL_law_521 ?_
  rw [nI_1 i]
  refine xa_sld hx hb hX hbl hbA hS (k := i + 1) (by omega) hL hp1 dL_law_522 ?_
  refine lv_aload_n hx hb dL_law_523 rfl (lv_at hl 0 rfl) ?_
  refine lv_iload hx hb dL_law_524 (lv_at hl 4 rfl) ?_
  refine lv_iconst (v := 2) hx hb dL_law_526 (by decide +kernel) ?_
  refine lv_iadd hx hb dL_law_527 ?_
  rw [nI_p2 i]
  refine xa_sld hx hb hX hbl hbA hS (k := i + 2) (by omega) hL hp2 dL_law_528 ?_
  refine lv_aload_n hx hb dL_law_529 rfl (lv_at hl 0 rfl) ?_
  refine lv_iload hx hb dL_law_530 (lv_at hl 4 rfl) ?_
  refine lv_iconst (v := 3) hx hb dL_law_532 (by decide +kernel) ?_
  refine lv_iadd hx hb dL_law_533 ?_
  rw [nI_p3 i]
  refine xa_sld hx hb hX hbl hbA hS (k := i + 3) (by omega) hL hp3 dL_law_534 ?_
  refine lv_aload_n hx hb dL_law_535 rfl (lv_at hl 3 rfl) ?_
  have hPc := hP.sub (ws' := [(h0, eE h1 h2 kn), (h1, eR hw1 hc1 hb1 a1 r1), (hw1, eW true), (hc1, eA cy f1), (hb1, eA cy g1), (h2, eR hw2 hc2 hb2 a2 r2), (hw2, eW false), (hc2, eA cy f2), (hb2, eA cy g2), (ho, eO nv sv)]) [0, 1, 2, 3, 4, 5, 6, 7, 8, 9] rfl
  have hDc := hD.sub (ws' := [(h0, eE h1 h2 kn), (h1, eR hw1 hc1 hb1 a1 r1), (hw1, eW true), (hc1, eA cy f1), (hb1, eA cy g1), (h2, eR hw2 hc2 hb2 a2 r2), (hw2, eW false), (hc2, eA cy f2), (hb2, eA cy g2), (ho, eO nv sv)]) [0, 1, 2, 3, 4, 5, 6, 7, 8, 9] (by decide +kernel) rfl
  have hKc := hK.sub (tys' := [(cy, .long)]) [0] rfl
  have hFc := va_free (wc := [(h0, eE h1 h2 kn), (h1, eR hw1 hc1 hb1 a1 r1), (hw1, eW true), (hc1, eA cy f1), (hb1, eA cy g1), (h2, eR hw2 hc2 hb2 a2 r2), (hw2, eW false), (hc2, eA cy f2), (hb2, eA cy g2), (ho, eO nv sv)]) hD hS hA [0, 1, 2, 3, 4, 5, 6, 7, 8, 9] rfl
  refine va_calli (vx_runSW (As := [.ref h0, .int p1, .int p2, .int p3, .ref ho]) (rest := []) ⟨hx, hb, hml, hown, hts⟩ (k_L_wideMin l hfl dC dI cy h0 h1 hw1 hc1 hb1 h2 hw2 hc2 hb2 a1 r1 f1 g1 a2 r2 f2 g2 kn ho nv sv H.size N p1 p2 p3) (vx_cwSW 5 hts gL_law_L_wideMin rfl rfl rfl (by decide +kernel) ⟨Nat.le_of_ble_eq_true rfl, Nat.le_of_ble_eq_true rfl⟩) (xL.preS hKc hPc hDc hAN (Nat.le_trans hN hS.1) (hG.kept hS hAN) hnc) rfl rfl hl.1 rfl (lv_room (Nat.le_of_ble_eq_true rfl)) dL_law_536 ⟨(show _ ≤ 616450 by omega), (show _ ≤ 7246753 by omega)⟩) hS (fun q _ h => hFc q h) hFc (fun r_1 u t H locs ht hvm hw hB hz hk hS => ?_)
  replace hw : r_1 = (o_L_wideMin a1 f1 nv p1 p2 p3).1 := hw
  subst r_1
  obtain ⟨hP1, hD1⟩ := hB
  rw [ht] at hP1
  obtain ⟨hP, hD⟩ := va_join (wr := [(m0, eM m1 m2 th (r1 + r2) kn), (m1, eMR true mc1 a1), (mc1, eA cy f1), (m2, eMR false mc2 a2), (mc2, eA cy f2)]) (w1 := [(h0, eE h1 h2 kn), (h1, eR hw1 hc1 hb1 (o_L_wideMin a1 f1 nv p1 p2 p3).2.1 r1), (hw1, eW true), (hc1, eA cy (o_L_wideMin a1 f1 nv p1 p2 p3).2.2.1), (hb1, eA cy g1), (h2, eR hw2 hc2 hb2 a2 r2), (hw2, eW false), (hc2, eA cy f2), (hb2, eA cy g2), (ho, eO (o_L_wideMin a1 f1 nv p1 p2 p3).2.2.2 sv)]) hP hD [0, 1, 2, 3, 4, 5, 6, 7, 8, 9] [10, 11, 12, 13, 14] rfl rfl (by decide +kernel) (by decide +kernel) hk hFc hP1 hD1
  have hP := hP.sub (ws' := [(h0, eE h1 h2 kn), (h1, eR hw1 hc1 hb1 (o_L_wideMin a1 f1 nv p1 p2 p3).2.1 r1), (hw1, eW true), (hc1, eA cy (o_L_wideMin a1 f1 nv p1 p2 p3).2.2.1), (hb1, eA cy g1), (h2, eR hw2 hc2 hb2 a2 r2), (hw2, eW false), (hc2, eA cy f2), (hb2, eA cy g2), (ho, eO (o_L_wideMin a1 f1 nv p1 p2 p3).2.2.2 sv), (m0, eM m1 m2 th (r1 + r2) kn), (m1, eMR true mc1 a1), (mc1, eA cy f1), (m2, eMR false mc2 a2), (mc2, eA cy f2)]) [5, 6, 7, 8, 9, 10, 11, 12, 13, 14, 0, 1, 2, 3, 4] rfl
  have hD := hD.sub (ws' := [(h0, eE h1 h2 kn), (h1, eR hw1 hc1 hb1 (o_L_wideMin a1 f1 nv p1 p2 p3).2.1 r1), (hw1, eW true), (hc1, eA cy (o_L_wideMin a1 f1 nv p1 p2 p3).2.2.1), (hb1, eA cy g1), (h2, eR hw2 hc2 hb2 a2 r2), (hw2, eW false), (hc2, eA cy f2), (hb2, eA cy g2), (ho, eO (o_L_wideMin a1 f1 nv p1 p2 p3).2.2.2 sv), (m0, eM m1 m2 th (r1 + r2) kn), (m1, eMR true mc1 a1), (mc1, eA cy f1), (m2, eMR false mc2 a2), (mc2, eA cy f2)]) [5, 6, 7, 8, 9, 10, 11, 12, 13, 14, 0, 1, 2, 3, 4] (by decide +kernel) rfl
  refine lv_istore (lv' := [(5, .int ((o_L_wideMin a1 f1 nv p1 p2 p3).1)), (0, .ref b), (1, .ref h0), (2, .ref m0), (3, .ref ho), (4, .int (nI i))]) hx hb dL_law_539 hl (by decide +kernel) rfl (fun ls hl => ?_)
  refine lv_aload_n hx hb dL_law_541 rfl (lv_at hl 3 rfl) ?_
  refine lv_aload_n hx hb dL_law_542 rfl (lv_at hl 1 rfl) ?_
  refine lv_iload hx hb dL_law_543 (lv_at hl 5 rfl) ?_
  refine lv_iconst (v := 1) hx hb dL_law_545 (by decide +kernel) ?_
  refine lv_iadd hx hb dL_law_546 ?_
  rw [nI_1 i]
  refine xa_sld hx hb hX hbl hbA hS (k := i + 1) (by omega) hL hp1 dL_law_547 ?_
  refine lv_aload_n hx hb dL_law_548 rfl (lv_at hl 1 rfl) ?_
  refine lv_iload hx hb dL_law_549 (lv_at hl 5 rfl) ?_
  refine lv_iconst (v := 2) hx hb dL_law_551 (by decide +kernel) ?_
  refine lv_iadd hx hb dL_law_552 ?_
  rw [nI_p2 i]
  refine xa_sld hx hb hX hbl hbA hS (k := i + 2) (by omega) hL hp2 dL_law_553 ?_
  refine lv_aload_n hx hb dL_law_554 rfl (lv_at hl 1 rfl) ?_
  refine lv_iload hx hb dL_law_555 (lv_at hl 5 rfl) ?_
  refine lv_iconst (v := 3) hx hb dL_law_557 (by decide +kernel) ?_
  refine lv_iadd hx hb dL_law_558 ?_
  rw [nI_p3 i]
  refine xa_sld hx hb hX hbl hbA hS (k := i + 3) (by omega) hL hp3 dL_law_559 ?_
  have hPc := hP.sub (ws' := [(m0, eM m1 m2 th (r1 + r2) kn), (m1, eMR true mc1 a1), (mc1, eA cy f1), (m2, eMR false mc2 a2), (mc2, eA cy f2)]) [10, 11, 12, 13, 14] rfl
  have hDc := hD.sub (ws' := [(m0, eM m1 m2 th (r1 + r2) kn), (m1, eMR true mc1 a1), (mc1, eA cy f1), (m2, eMR false mc2 a2), (mc2, eA cy f2)]) [10, 11, 12, 13, 14] (by decide +kernel) rfl
  have hKc := hK.sub (tys' := [(cy, .long)]) [0] rfl
  have hFc := va_free (wc := [(m0, eM m1 m2 th (r1 + r2) kn), (m1, eMR true mc1 a1), (mc1, eA cy f1), (m2, eMR false mc2 a2), (mc2, eA cy f2)]) hD hS hA [10, 11, 12, 13, 14] rfl
  refine va_calli (va_runV (As := [.int p1, .int p2, .int p3]) (rest := []) ⟨hx, hb, hml, hown, hts⟩ (k_X5_wideMin l dC dI cy m0 m1 mc1 m2 mc2 a1 f1 a2 f2 th (r1 + r2) kn H.size N p1 p2 p3) (cwV 3 hts gL_law_X5_wideMin rfl rfl rfl (by decide +kernel) ⟨Nat.le_of_ble_eq_true rfl, Nat.le_of_ble_eq_true rfl⟩) (xM.preV hKc hPc hDc hAN (Nat.le_trans hN hS.1) (hG.kept hS hAN) (ci := 7) (q0 := 0) rfl rfl) rfl rfl hl.1 rfl (lv_room (Nat.le_of_ble_eq_true rfl)) dL_law_560 ⟨(show _ ≤ 616450 by omega), (show _ ≤ 7246753 by omega)⟩) hS (fun q _ h => hFc q h) hFc (fun r_2 u t H locs ht hvm hw hB hz hk hS => ?_)
  replace hw : r_2 = (o_X5_wideMin a1 f1 p1 p2 p3).1 := hw
  subst r_2
  obtain ⟨hP1, hD1⟩ := hB
  rw [ht] at hP1
  obtain ⟨hP, hD⟩ := va_join (wr := [(h0, eE h1 h2 kn), (h1, eR hw1 hc1 hb1 (o_L_wideMin a1 f1 nv p1 p2 p3).2.1 r1), (hw1, eW true), (hc1, eA cy (o_L_wideMin a1 f1 nv p1 p2 p3).2.2.1), (hb1, eA cy g1), (h2, eR hw2 hc2 hb2 a2 r2), (hw2, eW false), (hc2, eA cy f2), (hb2, eA cy g2), (ho, eO (o_L_wideMin a1 f1 nv p1 p2 p3).2.2.2 sv)]) (w1 := [(m0, eM m1 m2 (o_X5_wideMin a1 f1 p1 p2 p3).2.2.2 (r1 + r2) kn), (m1, eMR true mc1 (o_X5_wideMin a1 f1 p1 p2 p3).2.1), (mc1, eA cy (o_X5_wideMin a1 f1 p1 p2 p3).2.2.1), (m2, eMR false mc2 a2), (mc2, eA cy f2)]) hP hD [10, 11, 12, 13, 14] [0, 1, 2, 3, 4, 5, 6, 7, 8, 9] rfl rfl (by decide +kernel) (by decide +kernel) hk hFc hP1 hD1
  have hP := hP.sub (ws' := [(h0, eE h1 h2 kn), (h1, eR hw1 hc1 hb1 (o_L_wideMin a1 f1 nv p1 p2 p3).2.1 r1), (hw1, eW true), (hc1, eA cy (o_L_wideMin a1 f1 nv p1 p2 p3).2.2.1), (hb1, eA cy g1), (h2, eR hw2 hc2 hb2 a2 r2), (hw2, eW false), (hc2, eA cy f2), (hb2, eA cy g2), (ho, eO (o_L_wideMin a1 f1 nv p1 p2 p3).2.2.2 sv), (m0, eM m1 m2 (o_X5_wideMin a1 f1 p1 p2 p3).2.2.2 (r1 + r2) kn), (m1, eMR true mc1 (o_X5_wideMin a1 f1 p1 p2 p3).2.1), (mc1, eA cy (o_X5_wideMin a1 f1 p1 p2 p3).2.2.1), (m2, eMR false mc2 a2), (mc2, eA cy f2)]) [0, 1, 2, 3, 4, 5, 6, 7, 8, 9, 10, 11, 12, 13, 14] rfl
  have hD := hD.sub (ws' := [(h0, eE h1 h2 kn), (h1, eR hw1 hc1 hb1 (o_L_wideMin a1 f1 nv p1 p2 p3).2.1 r1), (hw1, eW true), (hc1, eA cy (o_L_wideMin a1 f1 nv p1 p2 p3).2.2.1), (hb1, eA cy g1), (h2, eR hw2 hc2 hb2 a2 r2), (hw2, eW false), (hc2, eA cy f2), (hb2, eA cy g2), (ho, eO (o_L_wideMin a1 f1 nv p1 p2 p3).2.2.2 sv), (m0, eM m1 m2 (o_X5_wideMin a1 f1 p1 p2 p3).2.2.2 (r1 + r2) kn), (m1, eMR true mc1 (o_X5_wideMin a1 f1 p1 p2 p3).2.1), (mc1, eA cy (o_X5_wideMin a1 f1 p1 p2 p3).2.2.1), (m2, eMR false mc2 a2), (mc2, eA cy f2)]) [0, 1, 2, 3, 4, 5, 6, 7, 8, 9, 10, 11, 12, 13, 14] (by decide +kernel) rfl
  refine lv_istore (lv' := [(6, .int ((o_X5_wideMin a1 f1 p1 p2 p3).1)), (5, .int ((o_L_wideMin a1 f1 nv p1 p2 p3).1)), (0, .ref b), (1, .ref h0), (2, .ref m0), (3, .ref ho), (4, .int (nI i))]) hx hb dL_law_563 hl (by decide +kernel) rfl (fun ls hl => ?_)
  refine lv_goto (tgt := 2268) hx hb dL_law_565 (by decide +kernel) ?_
  refine W.widen (k := cells + 760) (n := slots + 4500) (by omega) (by omega) ?_
  have qe_b1 : (o_X5_wideMin a1 f1 p1 p2 p3).2.1 = (o_L_wideMin a1 f1 nv p1 p2 p3).2.1 := (by have hm := ml_wideMin a1 nv p1 p2 p3 hka1; rw [hm.1] <;> rfl)
  have qe_e1 : (o_X5_wideMin a1 f1 p1 p2 p3).2.2.1 = (o_L_wideMin a1 f1 nv p1 p2 p3).2.2.1 := (by have hm := ml_wideMin a1 nv p1 p2 p3 hka1; rw [hm.1] <;> rfl)
  have qk_1 : okA true ((o_L_wideMin a1 f1 nv p1 p2 p3).2.2.1) := (by have hm := ml_wideMin a1 nv p1 p2 p3 hka1; rw [hm.1]; exact hm.2)
  exact K ((o_L_wideMin a1 f1 nv p1 p2 p3).2.1) r1 ((o_L_wideMin a1 f1 nv p1 p2 p3).2.2.1) g1 a2 r2 f2 g2 kn ((o_L_wideMin a1 f1 nv p1 p2 p3).2.2.2) sv ((o_X5_wideMin a1 f1 p1 p2 p3).2.2.2) ((o_X5_wideMin a1 f1 p1 p2 p3).2.1) ((o_X5_wideMin a1 f1 p1 p2 p3).2.2.1) a2 f2 (r1 + r2) kn _ _ _ qe_b1 qe_e1 rfl rfl rfl rfl qk_1 hka2 hP hD hS (lv_sub hl [2, 3, 4, 5, 6] rfl)
