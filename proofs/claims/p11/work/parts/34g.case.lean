set_option maxHeartbeats 4000000 in
set_option maxRecDepth 100000 in
theorem st_42 (l : Launch) (p : Program) (e : Env) (s : State) (m : MethodId) (below : List Frame) (meth : Method) (c : Code) (b L N : Nat) (xs : Nat → Int32) (A : Nat → Prop) (dC : Nat → ClassId) (dI : Nat → Nat → Nat) (cy cB : ClassId) (h0 h1 hw1 hc1 hb1 h2 hw2 hc2 hb2 ho m0 m1 mc1 m2 mc2 : Nat) (C0 : lw_C l p e s m below meth c b L N xs A dC dI cy cB) (i : Nat) (hi : i + 4 ≤ L) (p1 p2 p3 : Int32) (hp1 : xs (i + 1) = p1) (hp2 : xs (i + 2) = p2) (hp3 : xs (i + 3) = p3) (cells slots : Nat) (hcs : cells + 760 ≤ 616450) (hss : slots + 4500 ≤ 7246753) (K : lw_K l p e s m below meth c b L N xs A dC dI cy cB h0 h1 hw1 hc1 hb1 h2 hw2 hc2 hb2 ho m0 m1 mc1 m2 mc2 i (cells + 760) (slots + 4500) 2268) (a1 : Int32) (r1 : Int32) (f1 : Nat → Int64) (g1 : Nat → Int64) (a2 : Int32) (r2 : Int32) (f2 : Nat → Int64) (g2 : Nat → Int64) (kn : Int32) (nv : Int64) (sv : Value) (th : Int32) (H : Heap) (locs : List Loc) (ls : Array Slot) (hka1 : okA true f1) (hka2 : okA false f2) (hP : va_P (dC, dI) xCl [(h0, eE h1 h2 kn), (h1, eR hw1 hc1 hb1 a1 r1), (hw1, eW true), (hc1, eA cy f1), (hb1, eA cy g1), (h2, eR hw2 hc2 hb2 a2 r2), (hw2, eW false), (hc2, eA cy f2), (hb2, eA cy g2), (ho, eO nv sv), (m0, eM m1 m2 th (r1 + r2) kn), (m1, eMR true mc1 a1), (mc1, eA cy f1), (m2, eMR false mc2 a2), (mc2, eA cy f2)] H) (hD : va_D A [(h0, eE h1 h2 kn), (h1, eR hw1 hc1 hb1 a1 r1), (hw1, eW true), (hc1, eA cy f1), (hb1, eA cy g1), (h2, eR hw2 hc2 hb2 a2 r2), (hw2, eW false), (hc2, eA cy f2), (hb2, eA cy g2), (ho, eO nv sv), (m0, eM m1 m2 th (r1 + r2) kn), (m1, eMR true mc1 a1), (mc1, eA cy f1), (m2, eMR false mc2 a2), (mc2, eA cy f2)]) (hS : va_S A s.heap H locs) (hl : lv_has ls 7 [(0, .ref b), (1, .ref h0), (2, .ref m0), (3, .ref ho), (4, .int (nI i))]) : W p l e room_1 s m #[Value.ref b] below meth c H locs cells slots (lw_Z below #[Value.ref b] s) (F0 m 2089 ls []) := by
  obtain ⟨hfl, hx, hb, hr, hml, hown, hts, hX, hbl, hbA, hlocks, hK, hG, hnc, hA, hAN, hN, hL, hT, hNs⟩ := id C0
  have hok2 := me_okF hka2
  have hsp1 : ∀ k, k < 8 → o_X1_isSpoiled true (f1 k) = false := fun k hk => (hka1 k hk).2
  have hsp2 : ∀ k, k < 8 → o_X1_isSpoiled false (f2 k) = false := fun k hk => (hka2 k hk).2
  refine lv_aload_n hx hb dL_law_2089 rfl (lv_at hl 1 rfl) ?_
  refine lv_aload_n hx hb dL_law_2090 rfl (lv_at hl 0 rfl) ?_
  refine lv_iload hx hb dL_law_2091 (lv_at hl 4 rfl) ?_
  refine lv_iconst (v := 1) hx hb dL_law_2093 (by decide +kernel) ?_
  refine lv_iadd hx hb dL_law_2094 ?_
  rw [nI_1 i]
  refine xa_sld hx hb hX hbl hbA hS (k := i + 1) (by omega) hL hp1 dL_law_2095 ?_
  refine lv_aload_n hx hb dL_law_2096 rfl (lv_at hl 3 rfl) ?_
  have hPc := hP.sub (ws' := [(h0, eE h1 h2 kn), (h1, eR hw1 hc1 hb1 a1 r1), (hw1, eW true), (hc1, eA cy f1), (hb1, eA cy g1), (h2, eR hw2 hc2 hb2 a2 r2), (hw2, eW false), (hc2, eA cy f2), (hb2, eA cy g2), (ho, eO nv sv)]) [0, 1, 2, 3, 4, 5, 6, 7, 8, 9] rfl
  have hDc := hD.sub (ws' := [(h0, eE h1 h2 kn), (h1, eR hw1 hc1 hb1 a1 r1), (hw1, eW true), (hc1, eA cy f1), (hb1, eA cy g1), (h2, eR hw2 hc2 hb2 a2 r2), (hw2, eW false), (hc2, eA cy f2), (hb2, eA cy g2), (ho, eO nv sv)]) [0, 1, 2, 3, 4, 5, 6, 7, 8, 9] (by decide +kernel) rfl
  have hKc := hK.sub (tys' := [(cy, .long)]) [0] rfl
  have hFc := va_free (wc := [(h0, eE h1 h2 kn), (h1, eR hw1 hc1 hb1 a1 r1), (hw1, eW true), (hc1, eA cy f1), (hb1, eA cy g1), (h2, eR hw2 hc2 hb2 a2 r2), (hw2, eW false), (hc2, eA cy f2), (hb2, eA cy g2), (ho, eO nv sv)]) hD hS hA [0, 1, 2, 3, 4, 5, 6, 7, 8, 9] rfl
  refine va_calli (vx_runSW (As := [.ref h0, .int p1, .ref ho]) (rest := []) ⟨hx, hb, hml, hown, hts⟩ (k_L_narrowCount l hfl dC dI cy h0 h1 hw1 hc1 hb1 h2 hw2 hc2 hb2 a1 r1 f1 g1 a2 r2 f2 g2 kn ho nv sv H.size N p1) (vx_cwSW 3 hts gL_law_L_narrowCount rfl rfl rfl (by decide +kernel) ⟨Nat.le_of_ble_eq_true rfl, Nat.le_of_ble_eq_true rfl⟩) (xL.preS hKc hPc hDc hAN (Nat.le_trans hN hS.1) (hG.kept hS hAN) hnc) rfl rfl hl.1 rfl (lv_room (Nat.le_of_ble_eq_true rfl)) dL_law_2097 ⟨(show _ ≤ 616450 by omega), (show _ ≤ 7246753 by omega)⟩) hS (fun q _ h => hFc q h) hFc (fun r_1 u t H locs ht hvm hw hB hz hk hS => ?_)
  replace hw : r_1 = (o_L_narrowCount f2 nv p1).1 := hw
  subst r_1
  obtain ⟨hP1, hD1⟩ := hB
  rw [ht] at hP1
  obtain ⟨hP, hD⟩ := va_join (wr := [(m0, eM m1 m2 th (r1 + r2) kn), (m1, eMR true mc1 a1), (mc1, eA cy f1), (m2, eMR false mc2 a2), (mc2, eA cy f2)]) (w1 := [(h0, eE h1 h2 kn), (h1, eR hw1 hc1 hb1 a1 r1), (hw1, eW true), (hc1, eA cy f1), (hb1, eA cy g1), (h2, eR hw2 hc2 hb2 a2 r2), (hw2, eW false), (hc2, eA cy f2), (hb2, eA cy g2), (ho, eO (o_L_narrowCount f2 nv p1).2 sv)]) hP hD [0, 1, 2, 3, 4, 5, 6, 7, 8, 9] [10, 11, 12, 13, 14] rfl rfl (by decide +kernel) (by decide +kernel) hk hFc hP1 hD1
  have hP := hP.sub (ws' := [(h0, eE h1 h2 kn), (h1, eR hw1 hc1 hb1 a1 r1), (hw1, eW true), (hc1, eA cy f1), (hb1, eA cy g1), (h2, eR hw2 hc2 hb2 a2 r2), (hw2, eW false), (hc2, eA cy f2), (hb2, eA cy g2), (ho, eO (o_L_narrowCount f2 nv p1).2 sv), (m0, eM m1 m2 th (r1 + r2) kn), (m1, eMR true mc1 a1), (mc1, eA cy f1), (m2, eMR false mc2 a2), (mc2, eA cy f2)]) [5, 6, 7, 8, 9, 10, 11, 12, 13, 14, 0, 1, 2, 3, 4] rfl
  have hD := hD.sub (ws' := [(h0, eE h1 h2 kn), (h1, eR hw1 hc1 hb1 a1 r1), (hw1, eW true), (hc1, eA cy f1), (hb1, eA cy g1), (h2, eR hw2 hc2 hb2 a2 r2), (hw2, eW false), (hc2, eA cy f2), (hb2, eA cy g2), (ho, eO (o_L_narrowCount f2 nv p1).2 sv), (m0, eM m1 m2 th (r1 + r2) kn), (m1, eMR true mc1 a1), (mc1, eA cy f1), (m2, eMR false mc2 a2), (mc2, eA cy f2)]) [5, 6, 7, 8, 9, 10, 11, 12, 13, 14, 0, 1, 2, 3, 4] (by decide +kernel) rfl
  refine lv_istore (lv' := [(5, .int ((o_L_narrowCount f2 nv p1).1)), (0, .ref b), (1, .ref h0), (2, .ref m0), (3, .ref ho), (4, .int (nI i))]) hx hb dL_law_2100 hl (by decide +kernel) rfl (fun ls hl => ?_)
  refine lv_aload_n hx hb dL_law_2102 rfl (lv_at hl 3 rfl) ?_
  refine lv_aload_n hx hb dL_law_2103 rfl (lv_at hl 1 rfl) ?_
  refine lv_iload hx hb dL_law_2104 (lv_at hl 5 rfl) ?_
  refine lv_iconst (v := 1) hx hb dL_law_2106 (by decide +kernel) ?_
  refine lv_iadd hx hb dL_law_2107 ?_
  rw [nI_1 i]
  refine xa_sld hx hb hX hbl hbA hS (k := i + 1) (by omega) hL hp1 dL_law_2108 ?_
  have hPc := hP.sub (ws' := [(m0, eM m1 m2 th (r1 + r2) kn), (m1, eMR true mc1 a1), (mc1, eA cy f1), (m2, eMR false mc2 a2), (mc2, eA cy f2)]) [10, 11, 12, 13, 14] rfl
  have hDc := hD.sub (ws' := [(m0, eM m1 m2 th (r1 + r2) kn), (m1, eMR true mc1 a1), (mc1, eA cy f1), (m2, eMR false mc2 a2), (mc2, eA cy f2)]) [10, 11, 12, 13, 14] (by decide +kernel) rfl
  have hKc := hK.sub (tys' := [(cy, .long)]) [0] rfl
  have hFc := va_free (wc := [(m0, eM m1 m2 th (r1 + r2) kn), (m1, eMR true mc1 a1), (mc1, eA cy f1), (m2, eMR false mc2 a2), (mc2, eA cy f2)]) hD hS hA [10, 11, 12, 13, 14] rfl
  refine va_calli (va_runV (As := [.int p1]) (rest := []) ⟨hx, hb, hml, hown, hts⟩ (k_X5_narrowCount l dC dI cy m0 m1 mc1 m2 mc2 a1 f1 a2 f2 th (r1 + r2) kn H.size N p1 hok2) (cwV 1 hts gL_law_X5_narrowCount rfl rfl rfl (by decide +kernel) ⟨Nat.le_of_ble_eq_true rfl, Nat.le_of_ble_eq_true rfl⟩) (xM.preV hKc hPc hDc hAN (Nat.le_trans hN hS.1) (hG.kept hS hAN) (ci := 7) (q0 := 0) rfl rfl) rfl rfl hl.1 rfl (lv_room (Nat.le_of_ble_eq_true rfl)) dL_law_2109 ⟨(show _ ≤ 616450 by omega), (show _ ≤ 7246753 by omega)⟩) hS (fun q _ h => hFc q h) hFc (fun r_2 u t H locs ht hvm hw hB hz hk hS => ?_)
  replace hw : r_2 = (o_X5_narrowCount f2 p1).1 := hw
  subst r_2
  obtain ⟨hP1, hD1⟩ := hB
  rw [ht] at hP1
  obtain ⟨hP, hD⟩ := va_join (wr := [(h0, eE h1 h2 kn), (h1, eR hw1 hc1 hb1 a1 r1), (hw1, eW true), (hc1, eA cy f1), (hb1, eA cy g1), (h2, eR hw2 hc2 hb2 a2 r2), (hw2, eW false), (hc2, eA cy f2), (hb2, eA cy g2), (ho, eO (o_L_narrowCount f2 nv p1).2 sv)]) (w1 := [(m0, eM m1 m2 (o_X5_narrowCount f2 p1).2 (r1 + r2) kn), (m1, eMR true mc1 a1), (mc1, eA cy f1), (m2, eMR false mc2 a2), (mc2, eA cy f2)]) hP hD [10, 11, 12, 13, 14] [0, 1, 2, 3, 4, 5, 6, 7, 8, 9] rfl rfl (by decide +kernel) (by decide +kernel) hk hFc hP1 hD1
  have hP := hP.sub (ws' := [(h0, eE h1 h2 kn), (h1, eR hw1 hc1 hb1 a1 r1), (hw1, eW true), (hc1, eA cy f1), (hb1, eA cy g1), (h2, eR hw2 hc2 hb2 a2 r2), (hw2, eW false), (hc2, eA cy f2), (hb2, eA cy g2), (ho, eO (o_L_narrowCount f2 nv p1).2 sv), (m0, eM m1 m2 (o_X5_narrowCount f2 p1).2 (r1 + r2) kn), (m1, eMR true mc1 a1), (mc1, eA cy f1), (m2, eMR false mc2 a2), (mc2, eA cy f2)]) [0, 1, 2, 3, 4, 5, 6, 7, 8, 9, 10, 11, 12, 13, 14] rfl
  have hD := hD.sub (ws' := [(h0, eE h1 h2 kn), (h1, eR hw1 hc1 hb1 a1 r1), (hw1, eW true), (hc1, eA cy f1), (hb1, eA cy g1), (h2, eR hw2 hc2 hb2 a2 r2), (hw2, eW false), (hc2, eA cy f2), (hb2, eA cy g2), (ho, eO (o_L_narrowCount f2 nv p1).2 sv), (m0, eM m1 m2 (o_X5_narrowCount f2 p1).2 (r1 + r2) kn), (m1, eMR true mc1 a1), (mc1, eA cy f1), (m2, eMR false mc2 a2), (mc2, eA cy f2)]) [0, 1, 2, 3, 4, 5, 6, 7, 8, 9, 10, 11, 12, 13, 14] (by decide +kernel) rfl
  refine lv_istore (lv' := [(6, .int ((o_X5_narrowCount f2 p1).1)), (5, .int ((o_L_narrowCount f2 nv p1).1)), (0, .ref b), (1, .ref h0), (2, .ref m0), (3, .ref ho), (4, .int (nI i))]) hx hb dL_law_2112 hl (by decide +kernel) rfl (fun ls hl => ?_)
  refine lv_goto (tgt := 2268) hx hb dL_law_2114 (by decide +kernel) ?_
  refine W.widen (k := cells + 760) (n := slots + 4500) (by omega) (by omega) ?_
  exact K a1 r1 f1 g1 a2 r2 f2 g2 kn ((o_L_narrowCount f2 nv p1).2) sv ((o_X5_narrowCount f2 p1).2) a1 f1 a2 f2 (r1 + r2) kn _ _ _ rfl rfl rfl rfl rfl rfl hka1 hka2 hP hD hS (lv_sub hl [2, 3, 4, 5, 6] rfl)
set_option maxHeartbeats 4000000 in
set_option maxRecDepth 100000 in
theorem st_43 (l : Launch) (p : Program) (e : Env) (s : State) (m : MethodId) (below : List Frame) (meth : Method) (c : Code) (b L N : Nat) (xs : Nat → Int32) (A : Nat → Prop) (dC : Nat → ClassId) (dI : Nat → Nat → Nat) (cy cB : ClassId) (h0 h1 hw1 hc1 hb1 h2 hw2 hc2 hb2 ho m0 m1 mc1 m2 mc2 : Nat) (C0 : lw_C l p e s m below meth c b L N xs A dC dI cy cB) (i : Nat) (hi : i + 4 ≤ L) (p1 p2 p3 : Int32) (hp1 : xs (i + 1) = p1) (hp2 : xs (i + 2) = p2) (hp3 : xs (i + 3) = p3) (cells slots : Nat) (hcs : cells + 760 ≤ 616450) (hss : slots + 4500 ≤ 7246753) (K : lw_K l p e s m below meth c b L N xs A dC dI cy cB h0 h1 hw1 hc1 hb1 h2 hw2 hc2 hb2 ho m0 m1 mc1 m2 mc2 i (cells + 760) (slots + 4500) 2268) (a1 : Int32) (r1 : Int32) (f1 : Nat → Int64) (g1 : Nat → Int64) (a2 : Int32) (r2 : Int32) (f2 : Nat → Int64) (g2 : Nat → Int64) (kn : Int32) (nv : Int64) (sv : Value) (th : Int32) (H : Heap) (locs : List Loc) (ls : Array Slot) (hka1 : okA true f1) (hka2 : okA false f2) (hP : va_P (dC, dI) xCl [(h0, eE h1 h2 kn), (h1, eR hw1 hc1 hb1 a1 r1), (hw1, eW true), (hc1, eA cy f1), (hb1, eA cy g1), (h2, eR hw2 hc2 hb2 a2 r2), (hw2, eW false), (hc2, eA cy f2), (hb2, eA cy g2), (ho, eO nv sv), (m0, eM m1 m2 th (r1 + r2) kn), (m1, eMR true mc1 a1), (mc1, eA cy f1), (m2, eMR false mc2 a2), (mc2, eA cy f2)] H) (hD : va_D A [(h0, eE h1 h2 kn), (h1, eR hw1 hc1 hb1 a1 r1), (hw1, eW true), (hc1, eA cy f1), (hb1, eA cy g1), (h2, eR hw2 hc2 hb2 a2 r2), (hw2, eW false), (hc2, eA cy f2), (hb2, eA cy g2), (ho, eO nv sv), (m0, eM m1 m2 th (r1 + r2) kn), (m1, eMR true mc1 a1), (mc1, eA cy f1), (m2, eMR false mc2 a2), (mc2, eA cy f2)]) (hS : va_S A s.heap H locs) (hl : lv_has ls 7 [(0, .ref b), (1, .ref h0), (2, .ref m0), (3, .ref ho), (4, .int (nI i))]) : W p l e room_1 s m #[Value.ref b] below meth c H locs cells slots (lw_Z below #[Value.ref b] s) (F0 m 2117 ls []) := by
  obtain ⟨hfl, hx, hb, hr, hml, hown, hts, hX, hbl, hbA, hlocks, hK, hG, hnc, hA, hAN, hN, hL, hT, hNs⟩ := id C0
  have hok2 := me_okF hka2
  have hsp1 : ∀ k, k < 8 → o_X1_isSpoiled true (f1 k) = false := fun k hk => (hka1 k hk).2
  have hsp2 : ∀ k, k < 8 → o_X1_isSpoiled false (f2 k) = false := fun k hk => (hka2 k hk).2
  refine lv_aload_n hx hb dL_law_2117 rfl (lv_at hl 1 rfl) ?_
  refine lv_aload_n hx hb dL_law_2118 rfl (lv_at hl 0 rfl) ?_
  refine lv_iload hx hb dL_law_2119 (lv_at hl 4 rfl) ?_
  refine lv_iconst (v := 1) hx hb dL_law_2121 (by decide +kernel) ?_
  refine lv_iadd hx hb dL_law_2122 ?_
  rw [nI_1 i]
  refine xa_sld hx hb hX hbl hbA hS (k := i + 1) (by omega) hL hp1 dL_law_2123 ?_
  refine lv_aload_n hx hb dL_law_2124 rfl (lv_at hl 0 rfl) ?_
  refine lv_iload hx hb dL_law_2125 (lv_at hl 4 rfl) ?_
  refine lv_iconst (v := 2) hx hb dL_law_2127 (by decide +kernel) ?_
  refine lv_iadd hx hb dL_law_2128 ?_
  rw [nI_p2 i]
  refine xa_sld hx hb hX hbl hbA hS (k := i + 2) (by omega) hL hp2 dL_law_2129 ?_
  refine lv_if_eq (tgt := 2137) hx hb dL_law_2130 (by decide +kernel) (fun c_1 => ?_) (fun c_1 => ?_)
  · skip
    refine lv_iconst (v := 0) hx hb dL_law_2137 (by decide +kernel) ?_
    refine lv_aload_n hx hb dL_law_2138 rfl (lv_at hl 3 rfl) ?_
    have hPc := hP.sub (ws' := [(h0, eE h1 h2 kn), (h1, eR hw1 hc1 hb1 a1 r1), (hw1, eW true), (hc1, eA cy f1), (hb1, eA cy g1), (h2, eR hw2 hc2 hb2 a2 r2), (hw2, eW false), (hc2, eA cy f2), (hb2, eA cy g2), (ho, eO nv sv)]) [0, 1, 2, 3, 4, 5, 6, 7, 8, 9] rfl
    have hDc := hD.sub (ws' := [(h0, eE h1 h2 kn), (h1, eR hw1 hc1 hb1 a1 r1), (hw1, eW true), (hc1, eA cy f1), (hb1, eA cy g1), (h2, eR hw2 hc2 hb2 a2 r2), (hw2, eW false), (hc2, eA cy f2), (hb2, eA cy g2), (ho, eO nv sv)]) [0, 1, 2, 3, 4, 5, 6, 7, 8, 9] (by decide +kernel) rfl
    have hKc := hK.sub (tys' := [(cy, .long)]) [0] rfl
    have hFc := va_free (wc := [(h0, eE h1 h2 kn), (h1, eR hw1 hc1 hb1 a1 r1), (hw1, eW true), (hc1, eA cy f1), (hb1, eA cy g1), (h2, eR hw2 hc2 hb2 a2 r2), (hw2, eW false), (hc2, eA cy f2), (hb2, eA cy g2), (ho, eO nv sv)]) hD hS hA [0, 1, 2, 3, 4, 5, 6, 7, 8, 9] rfl
    refine va_calli (vx_runSW (As := [.ref h0, .int p1, .int 0, .ref ho]) (rest := []) ⟨hx, hb, hml, hown, hts⟩ (k_L_narrowFind l hfl dC dI cy h0 h1 hw1 hc1 hb1 h2 hw2 hc2 hb2 a1 r1 f1 g1 a2 r2 f2 g2 kn ho nv sv H.size N p1 false) (vx_cwSW 4 hts gL_law_L_narrowFind rfl rfl rfl (by decide +kernel) ⟨Nat.le_of_ble_eq_true rfl, Nat.le_of_ble_eq_true rfl⟩) (xL.preS hKc hPc hDc hAN (Nat.le_trans hN hS.1) (hG.kept hS hAN) hnc) rfl rfl hl.1 rfl (lv_room (Nat.le_of_ble_eq_true rfl)) dL_law_2139 ⟨(show _ ≤ 616450 by omega), (show _ ≤ 7246753 by omega)⟩) hS (fun q _ h => hFc q h) hFc (fun r_2 u t H locs ht hvm hw hB hz hk hS => ?_)
    replace hw : r_2 = (o_L_narrowFind f2 nv p1 false).1 := hw
    subst r_2
    obtain ⟨hP1, hD1⟩ := hB
    rw [ht] at hP1
    obtain ⟨hP, hD⟩ := va_join (wr := [(m0, eM m1 m2 th (r1 + r2) kn), (m1, eMR true mc1 a1), (mc1, eA cy f1), (m2, eMR false mc2 a2), (mc2, eA cy f2)]) (w1 := [(h0, eE h1 h2 kn), (h1, eR hw1 hc1 hb1 a1 r1), (hw1, eW true), (hc1, eA cy f1), (hb1, eA cy g1), (h2, eR hw2 hc2 hb2 a2 r2), (hw2, eW false), (hc2, eA cy f2), (hb2, eA cy g2), (ho, eO (o_L_narrowFind f2 nv p1 false).2 sv)]) hP hD [0, 1, 2, 3, 4, 5, 6, 7, 8, 9] [10, 11, 12, 13, 14] rfl rfl (by decide +kernel) (by decide +kernel) hk hFc hP1 hD1
    have hP := hP.sub (ws' := [(h0, eE h1 h2 kn), (h1, eR hw1 hc1 hb1 a1 r1), (hw1, eW true), (hc1, eA cy f1), (hb1, eA cy g1), (h2, eR hw2 hc2 hb2 a2 r2), (hw2, eW false), (hc2, eA cy f2), (hb2, eA cy g2), (ho, eO (o_L_narrowFind f2 nv p1 false).2 sv), (m0, eM m1 m2 th (r1 + r2) kn), (m1, eMR true mc1 a1), (mc1, eA cy f1), (m2, eMR false mc2 a2), (mc2, eA cy f2)]) [5, 6, 7, 8, 9, 10, 11, 12, 13, 14, 0, 1, 2, 3, 4] rfl
    have hD := hD.sub (ws' := [(h0, eE h1 h2 kn), (h1, eR hw1 hc1 hb1 a1 r1), (hw1, eW true), (hc1, eA cy f1), (hb1, eA cy g1), (h2, eR hw2 hc2 hb2 a2 r2), (hw2, eW false), (hc2, eA cy f2), (hb2, eA cy g2), (ho, eO (o_L_narrowFind f2 nv p1 false).2 sv), (m0, eM m1 m2 th (r1 + r2) kn), (m1, eMR true mc1 a1), (mc1, eA cy f1), (m2, eMR false mc2 a2), (mc2, eA cy f2)]) [5, 6, 7, 8, 9, 10, 11, 12, 13, 14, 0, 1, 2, 3, 4] (by decide +kernel) rfl
    refine lv_istore (lv' := [(5, .int ((o_L_narrowFind f2 nv p1 false).1)), (0, .ref b), (1, .ref h0), (2, .ref m0), (3, .ref ho), (4, .int (nI i))]) hx hb dL_law_2142 hl (by decide +kernel) rfl (fun ls hl => ?_)
    refine lv_aload_n hx hb dL_law_2144 rfl (lv_at hl 3 rfl) ?_
    refine lv_aload_n hx hb dL_law_2145 rfl (lv_at hl 1 rfl) ?_
    refine lv_iload hx hb dL_law_2146 (lv_at hl 5 rfl) ?_
    refine lv_iconst (v := 1) hx hb dL_law_2148 (by decide +kernel) ?_
    refine lv_iadd hx hb dL_law_2149 ?_
    rw [nI_1 i]
    refine xa_sld hx hb hX hbl hbA hS (k := i + 1) (by omega) hL hp1 dL_law_2150 ?_
    refine lv_aload_n hx hb dL_law_2151 rfl (lv_at hl 1 rfl) ?_
    refine lv_iload hx hb dL_law_2152 (lv_at hl 5 rfl) ?_
    refine lv_iconst (v := 2) hx hb dL_law_2154 (by decide +kernel) ?_
    refine lv_iadd hx hb dL_law_2155 ?_
    rw [nI_p2 i]
    refine xa_sld hx hb hX hbl hbA hS (k := i + 2) (by omega) hL hp2 dL_law_2156 ?_
    refine lv_if_eq (tgt := 2164) hx hb dL_law_2157 (by decide +kernel) (fun c9 => ?_) (fun c9 => absurd c_1 c9)
    refine lv_iconst (v := 0) hx hb dL_law_2164 (by decide +kernel) ?_
    have hPc := hP.sub (ws' := [(m0, eM m1 m2 th (r1 + r2) kn), (m1, eMR true mc1 a1), (mc1, eA cy f1), (m2, eMR false mc2 a2), (mc2, eA cy f2)]) [10, 11, 12, 13, 14] rfl
    have hDc := hD.sub (ws' := [(m0, eM m1 m2 th (r1 + r2) kn), (m1, eMR true mc1 a1), (mc1, eA cy f1), (m2, eMR false mc2 a2), (mc2, eA cy f2)]) [10, 11, 12, 13, 14] (by decide +kernel) rfl
    have hKc := hK.sub (tys' := [(cy, .long)]) [0] rfl
    have hFc := va_free (wc := [(m0, eM m1 m2 th (r1 + r2) kn), (m1, eMR true mc1 a1), (mc1, eA cy f1), (m2, eMR false mc2 a2), (mc2, eA cy f2)]) hD hS hA [10, 11, 12, 13, 14] rfl
    refine va_calli (va_runV (As := [.int p1, .int 0]) (rest := []) ⟨hx, hb, hml, hown, hts⟩ (k_X5_narrowFind l dC dI cy m0 m1 mc1 m2 mc2 a1 f1 a2 f2 th (r1 + r2) kn H.size N p1 false) (cwV 2 hts gL_law_X5_narrowFind rfl rfl rfl (by decide +kernel) ⟨Nat.le_of_ble_eq_true rfl, Nat.le_of_ble_eq_true rfl⟩) (xM.preV hKc hPc hDc hAN (Nat.le_trans hN hS.1) (hG.kept hS hAN) (ci := 7) (q0 := 0) rfl rfl) rfl rfl hl.1 rfl (lv_room (Nat.le_of_ble_eq_true rfl)) dL_law_2165 ⟨(show _ ≤ 616450 by omega), (show _ ≤ 7246753 by omega)⟩) hS (fun q _ h => hFc q h) hFc (fun r_3 u t H locs ht hvm hw hB hz hk hS => ?_)
    replace hw : r_3 = (o_X5_narrowFind f2 p1 false).1 := hw
    subst r_3
    obtain ⟨hP1, hD1⟩ := hB
    rw [ht] at hP1
    obtain ⟨hP, hD⟩ := va_join (wr := [(h0, eE h1 h2 kn), (h1, eR hw1 hc1 hb1 a1 r1), (hw1, eW true), (hc1, eA cy f1), (hb1, eA cy g1), (h2, eR hw2 hc2 hb2 a2 r2), (hw2, eW false), (hc2, eA cy f2), (hb2, eA cy g2), (ho, eO (o_L_narrowFind f2 nv p1 false).2 sv)]) (w1 := [(m0, eM m1 m2 (o_X5_narrowFind f2 p1 false).2 (r1 + r2) kn), (m1, eMR true mc1 a1), (mc1, eA cy f1), (m2, eMR false mc2 a2), (mc2, eA cy f2)]) hP hD [10, 11, 12, 13, 14] [0, 1, 2, 3, 4, 5, 6, 7, 8, 9] rfl rfl (by decide +kernel) (by decide +kernel) hk hFc hP1 hD1
    have hP := hP.sub (ws' := [(h0, eE h1 h2 kn), (h1, eR hw1 hc1 hb1 a1 r1), (hw1, eW true), (hc1, eA cy f1), (hb1, eA cy g1), (h2, eR hw2 hc2 hb2 a2 r2), (hw2, eW false), (hc2, eA cy f2), (hb2, eA cy g2), (ho, eO (o_L_narrowFind f2 nv p1 false).2 sv), (m0, eM m1 m2 (o_X5_narrowFind f2 p1 false).2 (r1 + r2) kn), (m1, eMR true mc1 a1), (mc1, eA cy f1), (m2, eMR false mc2 a2), (mc2, eA cy f2)]) [0, 1, 2, 3, 4, 5, 6, 7, 8, 9, 10, 11, 12, 13, 14] rfl
    have hD := hD.sub (ws' := [(h0, eE h1 h2 kn), (h1, eR hw1 hc1 hb1 a1 r1), (hw1, eW true), (hc1, eA cy f1), (hb1, eA cy g1), (h2, eR hw2 hc2 hb2 a2 r2), (hw2, eW false), (hc2, eA cy f2), (hb2, eA cy g2), (ho, eO (o_L_narrowFind f2 nv p1 false).2 sv), (m0, eM m1 m2 (o_X5_narrowFind f2 p1 false).2 (r1 + r2) kn), (m1, eMR true mc1 a1), (mc1, eA cy f1), (m2, eMR false mc2 a2), (mc2, eA cy f2)]) [0, 1, 2, 3, 4, 5, 6, 7, 8, 9, 10, 11, 12, 13, 14] (by decide +kernel) rfl
    refine lv_istore (lv' := [(6, .int ((o_X5_narrowFind f2 p1 false).1)), (5, .int ((o_L_narrowFind f2 nv p1 false).1)), (0, .ref b), (1, .ref h0), (2, .ref m0), (3, .ref ho), (4, .int (nI i))]) hx hb dL_law_2168 hl (by decide +kernel) rfl (fun ls hl => ?_)
    refine lv_goto (tgt := 2268) hx hb dL_law_2170 (by decide +kernel) ?_
    refine W.widen (k := cells + 760) (n := slots + 4500) (by omega) (by omega) ?_
    exact K a1 r1 f1 g1 a2 r2 f2 g2 kn ((o_L_narrowFind f2 nv p1 false).2) sv ((o_X5_narrowFind f2 p1 false).2) a1 f1 a2 f2 (r1 + r2) kn _ _ _ rfl rfl rfl rfl rfl rfl hka1 hka2 hP hD hS (lv_sub hl [2, 3, 4, 5, 6] rfl)
  · skip
    refine lv_iconst (v := 1) hx hb dL_law_2133 (by decide +kernel) ?_
    refine lv_goto (tgt := 2138) hx hb dL_law_2134 (by decide +kernel) ?_
    refine lv_aload_n hx hb dL_law_2138 rfl (lv_at hl 3 rfl) ?_
    have hPc := hP.sub (ws' := [(h0, eE h1 h2 kn), (h1, eR hw1 hc1 hb1 a1 r1), (hw1, eW true), (hc1, eA cy f1), (hb1, eA cy g1), (h2, eR hw2 hc2 hb2 a2 r2), (hw2, eW false), (hc2, eA cy f2), (hb2, eA cy g2), (ho, eO nv sv)]) [0, 1, 2, 3, 4, 5, 6, 7, 8, 9] rfl
    have hDc := hD.sub (ws' := [(h0, eE h1 h2 kn), (h1, eR hw1 hc1 hb1 a1 r1), (hw1, eW true), (hc1, eA cy f1), (hb1, eA cy g1), (h2, eR hw2 hc2 hb2 a2 r2), (hw2, eW false), (hc2, eA cy f2), (hb2, eA cy g2), (ho, eO nv sv)]) [0, 1, 2, 3, 4, 5, 6, 7, 8, 9] (by decide +kernel) rfl
    have hKc := hK.sub (tys' := [(cy, .long)]) [0] rfl
    have hFc := va_free (wc := [(h0, eE h1 h2 kn), (h1, eR hw1 hc1 hb1 a1 r1), (hw1, eW true), (hc1, eA cy f1), (hb1, eA cy g1), (h2, eR hw2 hc2 hb2 a2 r2), (hw2, eW false), (hc2, eA cy f2), (hb2, eA cy g2), (ho, eO nv sv)]) hD hS hA [0, 1, 2, 3, 4, 5, 6, 7, 8, 9] rfl
    refine va_calli (vx_runSW (As := [.ref h0, .int p1, .int 1, .ref ho]) (rest := []) ⟨hx, hb, hml, hown, hts⟩ (k_L_narrowFind l hfl dC dI cy h0 h1 hw1 hc1 hb1 h2 hw2 hc2 hb2 a1 r1 f1 g1 a2 r2 f2 g2 kn ho nv sv H.size N p1 true) (vx_cwSW 4 hts gL_law_L_narrowFind rfl rfl rfl (by decide +kernel) ⟨Nat.le_of_ble_eq_true rfl, Nat.le_of_ble_eq_true rfl⟩) (xL.preS hKc hPc hDc hAN (Nat.le_trans hN hS.1) (hG.kept hS hAN) hnc) rfl rfl hl.1 rfl (lv_room (Nat.le_of_ble_eq_true rfl)) dL_law_2139 ⟨(show _ ≤ 616450 by omega), (show _ ≤ 7246753 by omega)⟩) hS (fun q _ h => hFc q h) hFc (fun r_4 u t H locs ht hvm hw hB hz hk hS => ?_)
    replace hw : r_4 = (o_L_narrowFind f2 nv p1 true).1 := hw
    subst r_4
    obtain ⟨hP1, hD1⟩ := hB
    rw [ht] at hP1
    obtain ⟨hP, hD⟩ := va_join (wr := [(m0, eM m1 m2 th (r1 + r2) kn), (m1, eMR true mc1 a1), (mc1, eA cy f1), (m2, eMR false mc2 a2), (mc2, eA cy f2)]) (w1 := [(h0, eE h1 h2 kn), (h1, eR hw1 hc1 hb1 a1 r1), (hw1, eW true), (hc1, eA cy f1), (hb1, eA cy g1), (h2, eR hw2 hc2 hb2 a2 r2), (hw2, eW false), (hc2, eA cy f2), (hb2, eA cy g2), (ho, eO (o_L_narrowFind f2 nv p1 true).2 sv)]) hP hD [0, 1, 2, 3, 4, 5, 6, 7, 8, 9] [10, 11, 12, 13, 14] rfl rfl (by decide +kernel) (by decide +kernel) hk hFc hP1 hD1
    have hP := hP.sub (ws' := [(h0, eE h1 h2 kn), (h1, eR hw1 hc1 hb1 a1 r1), (hw1, eW true), (hc1, eA cy f1), (hb1, eA cy g1), (h2, eR hw2 hc2 hb2 a2 r2), (hw2, eW false), (hc2, eA cy f2), (hb2, eA cy g2), (ho, eO (o_L_narrowFind f2 nv p1 true).2 sv), (m0, eM m1 m2 th (r1 + r2) kn), (m1, eMR true mc1 a1), (mc1, eA cy f1), (m2, eMR false mc2 a2), (mc2, eA cy f2)]) [5, 6, 7, 8, 9, 10, 11, 12, 13, 14, 0, 1, 2, 3, 4] rfl
    have hD := hD.sub (ws' := [(h0, eE h1 h2 kn), (h1, eR hw1 hc1 hb1 a1 r1), (hw1, eW true), (hc1, eA cy f1), (hb1, eA cy g1), (h2, eR hw2 hc2 hb2 a2 r2), (hw2, eW false), (hc2, eA cy f2), (hb2, eA cy g2), (ho, eO (o_L_narrowFind f2 nv p1 true).2 sv), (m0, eM m1 m2 th (r1 + r2) kn), (m1, eMR true mc1 a1), (mc1, eA cy f1), (m2, eMR false mc2 a2), (mc2, eA cy f2)]) [5, 6, 7, 8, 9, 10, 11, 12, 13, 14, 0, 1, 2, 3, 4] (by decide +kernel) rfl
    refine lv_istore (lv' := [(5, .int ((o_L_narrowFind f2 nv p1 true).1)), (0, .ref b), (1, .ref h0), (2, .ref m0), (3, .ref ho), (4, .int (nI i))]) hx hb dL_law_2142 hl (by decide +kernel) rfl (fun ls hl => ?_)
    refine lv_aload_n hx hb dL_law_2144 rfl (lv_at hl 3 rfl) ?_
    refine lv_aload_n hx hb dL_law_2145 rfl (lv_at hl 1 rfl) ?_
    refine lv_iload hx hb dL_law_2146 (lv_at hl 5 rfl) ?_
    refine lv_iconst (v := 1) hx hb dL_law_2148 (by decide +kernel) ?_
    refine lv_iadd hx hb dL_law_2149 ?_
    rw [nI_1 i]
    refine xa_sld hx hb hX hbl hbA hS (k := i + 1) (by omega) hL hp1 dL_law_2150 ?_
    refine lv_aload_n hx hb dL_law_2151 rfl (lv_at hl 1 rfl) ?_
    refine lv_iload hx hb dL_law_2152 (lv_at hl 5 rfl) ?_
    refine lv_iconst (v := 2) hx hb dL_law_2154 (by decide +kernel) ?_
    refine lv_iadd hx hb dL_law_2155 ?_
    rw [nI_p2 i]
    refine xa_sld hx hb hX hbl hbA hS (k := i + 2) (by omega) hL hp2 dL_law_2156 ?_
    refine lv_if_eq (tgt := 2164) hx hb dL_law_2157 (by decide +kernel) (fun c9 => absurd c9 c_1) (fun c9 => ?_)
    refine lv_iconst (v := 1) hx hb dL_law_2160 (by decide +kernel) ?_
    refine lv_goto (tgt := 2165) hx hb dL_law_2161 (by decide +kernel) ?_
    have hPc := hP.sub (ws' := [(m0, eM m1 m2 th (r1 + r2) kn), (m1, eMR true mc1 a1), (mc1, eA cy f1), (m2, eMR false mc2 a2), (mc2, eA cy f2)]) [10, 11, 12, 13, 14] rfl
    have hDc := hD.sub (ws' := [(m0, eM m1 m2 th (r1 + r2) kn), (m1, eMR true mc1 a1), (mc1, eA cy f1), (m2, eMR false mc2 a2), (mc2, eA cy f2)]) [10, 11, 12, 13, 14] (by decide +kernel) rfl
    have hKc := hK.sub (tys' := [(cy, .long)]) [0] rfl
    have hFc := va_free (wc := [(m0, eM m1 m2 th (r1 + r2) kn), (m1, eMR true mc1 a1), (mc1, eA cy f1), (m2, eMR false mc2 a2), (mc2, eA cy f2)]) hD hS hA [10, 11, 12, 13, 14] rfl
    refine va_calli (va_runV (As := [.int p1, .int 1]) (rest := []) ⟨hx, hb, hml, hown, hts⟩ (k_X5_narrowFind l dC dI cy m0 m1 mc1 m2 mc2 a1 f1 a2 f2 th (r1 + r2) kn H.size N p1 true) (cwV 2 hts gL_law_X5_narrowFind rfl rfl rfl (by decide +kernel) ⟨Nat.le_of_ble_eq_true rfl, Nat.le_of_ble_eq_true rfl⟩) (xM.preV hKc hPc hDc hAN (Nat.le_trans hN hS.1) (hG.kept hS hAN) (ci := 7) (q0 := 0) rfl rfl) rfl rfl hl.1 rfl (lv_room (Nat.le_of_ble_eq_true rfl)) dL_law_2165 ⟨(show _ ≤ 616450 by omega), (show _ ≤ 7246753 by omega)⟩) hS (fun q _ h => hFc q h) hFc (fun r_5 u t H locs ht hvm hw hB hz hk hS => ?_)
    replace hw : r_5 = (o_X5_narrowFind f2 p1 true).1 := hw
    subst r_5
    obtain ⟨hP1, hD1⟩ := hB
    rw [ht] at hP1
    obtain ⟨hP, hD⟩ := va_join (wr := [(h0, eE h1 h2 kn), (h1, eR hw1 hc1 hb1 a1 r1), (hw1, eW true), (hc1, eA cy f1), (hb1, eA cy g1), (h2, eR hw2 hc2 hb2 a2 r2), (hw2, eW false), (hc2, eA cy f2), (hb2, eA cy g2), (ho, eO (o_L_narrowFind f2 nv p1 true).2 sv)]) (w1 := [(m0, eM m1 m2 (o_X5_narrowFind f2 p1 true).2 (r1 + r2) kn), (m1, eMR true mc1 a1), (mc1, eA cy f1), (m2, eMR false mc2 a2), (mc2, eA cy f2)]) hP hD [10, 11, 12, 13, 14] [0, 1, 2, 3, 4, 5, 6, 7, 8, 9] rfl rfl (by decide +kernel) (by decide +kernel) hk hFc hP1 hD1
    have hP := hP.sub (ws' := [(h0, eE h1 h2 kn), (h1, eR hw1 hc1 hb1 a1 r1), (hw1, eW true), (hc1, eA cy f1), (hb1, eA cy g1), (h2, eR hw2 hc2 hb2 a2 r2), (hw2, eW false), (hc2, eA cy f2), (hb2, eA cy g2), (ho, eO (o_L_narrowFind f2 nv p1 true).2 sv), (m0, eM m1 m2 (o_X5_narrowFind f2 p1 true).2 (r1 + r2) kn), (m1, eMR true mc1 a1), (mc1, eA cy f1), (m2, eMR false mc2 a2), (mc2, eA cy f2)]) [0, 1, 2, 3, 4, 5, 6, 7, 8, 9, 10, 11, 12, 13, 14] rfl
    have hD := hD.sub (ws' := [(h0, eE h1 h2 kn), (h1, eR hw1 hc1 hb1 a1 r1), (hw1, eW true), (hc1, eA cy f1), (hb1, eA cy g1), (h2, eR hw2 hc2 hb2 a2 r2), (hw2, eW false), (hc2, eA cy f2), (hb2, eA cy g2), (ho, eO (o_L_narrowFind f2 nv p1 true).2 sv), (m0, eM m1 m2 (o_X5_narrowFind f2 p1 true).2 (r1 + r2) kn), (m1, eMR true mc1 a1), (mc1, eA cy f1), (m2, eMR false mc2 a2), (mc2, eA cy f2)]) [0, 1, 2, 3, 4, 5, 6, 7, 8, 9, 10, 11, 12, 13, 14] (by decide +kernel) rfl
    refine lv_istore (lv' := [(6, .int ((o_X5_narrowFind f2 p1 true).1)), (5, .int ((o_L_narrowFind f2 nv p1 true).1)), (0, .ref b), (1, .ref h0), (2, .ref m0), (3, .ref ho), (4, .int (nI i))]) hx hb dL_law_2168 hl (by decide +kernel) rfl (fun ls hl => ?_)
    refine lv_goto (tgt := 2268) hx hb dL_law_2170 (by decide +kernel) ?_
    refine W.widen (k := cells + 760) (n := slots + 4500) (by omega) (by omega) ?_
    exact K a1 r1 f1 g1 a2 r2 f2 g2 kn ((o_L_narrowFind f2 nv p1 true).2) sv ((o_X5_narrowFind f2 p1 true).2) a1 f1 a2 f2 (r1 + r2) kn _ _ _ rfl rfl rfl rfl rfl rfl hka1 hka2 hP hD hS (lv_sub hl [2, 3, 4, 5, 6] rfl)
set_option maxHeartbeats 4000000 in
set_option maxRecDepth 100000 in
theorem st_44 (l : Launch) (p : Program) (e : Env) (s : State) (m : MethodId) (below : List Frame) (meth : Method) (c : Code) (b L N : Nat) (xs : Nat → Int32) (A : Nat → Prop) (dC : Nat → ClassId) (dI : Nat → Nat → Nat) (cy cB : ClassId) (h0 h1 hw1 hc1 hb1 h2 hw2 hc2 hb2 ho m0 m1 mc1 m2 mc2 : Nat) (C0 : lw_C l p e s m below meth c b L N xs A dC dI cy cB) (i : Nat) (hi : i + 4 ≤ L) (p1 p2 p3 : Int32) (hp1 : xs (i + 1) = p1) (hp2 : xs (i + 2) = p2) (hp3 : xs (i + 3) = p3) (cells slots : Nat) (hcs : cells + 760 ≤ 616450) (hss : slots + 4500 ≤ 7246753) (K : lw_K l p e s m below meth c b L N xs A dC dI cy cB h0 h1 hw1 hc1 hb1 h2 hw2 hc2 hb2 ho m0 m1 mc1 m2 mc2 i (cells + 760) (slots + 4500) 2268) (a1 : Int32) (r1 : Int32) (f1 : Nat → Int64) (g1 : Nat → Int64) (a2 : Int32) (r2 : Int32) (f2 : Nat → Int64) (g2 : Nat → Int64) (kn : Int32) (nv : Int64) (sv : Value) (th : Int32) (H : Heap) (locs : List Loc) (ls : Array Slot) (hka1 : okA true f1) (hka2 : okA false f2) (hP : va_P (dC, dI) xCl [(h0, eE h1 h2 kn), (h1, eR hw1 hc1 hb1 a1 r1), (hw1, eW true), (hc1, eA cy f1), (hb1, eA cy g1), (h2, eR hw2 hc2 hb2 a2 r2), (hw2, eW false), (hc2, eA cy f2), (hb2, eA cy g2), (ho, eO nv sv), (m0, eM m1 m2 th (r1 + r2) kn), (m1, eMR true mc1 a1), (mc1, eA cy f1), (m2, eMR false mc2 a2), (mc2, eA cy f2)] H) (hD : va_D A [(h0, eE h1 h2 kn), (h1, eR hw1 hc1 hb1 a1 r1), (hw1, eW true), (hc1, eA cy f1), (hb1, eA cy g1), (h2, eR hw2 hc2 hb2 a2 r2), (hw2, eW false), (hc2, eA cy f2), (hb2, eA cy g2), (ho, eO nv sv), (m0, eM m1 m2 th (r1 + r2) kn), (m1, eMR true mc1 a1), (mc1, eA cy f1), (m2, eMR false mc2 a2), (mc2, eA cy f2)]) (hS : va_S A s.heap H locs) (hl : lv_has ls 7 [(0, .ref b), (1, .ref h0), (2, .ref m0), (3, .ref ho), (4, .int (nI i))]) : W p l e room_1 s m #[Value.ref b] below meth c H locs cells slots (lw_Z below #[Value.ref b] s) (F0 m 2173 ls []) := by
  obtain ⟨hfl, hx, hb, hr, hml, hown, hts, hX, hbl, hbA, hlocks, hK, hG, hnc, hA, hAN, hN, hL, hT, hNs⟩ := id C0
  have hok2 := me_okF hka2
  have hsp1 : ∀ k, k < 8 → o_X1_isSpoiled true (f1 k) = false := fun k hk => (hka1 k hk).2
  have hsp2 : ∀ k, k < 8 → o_X1_isSpoiled false (f2 k) = false := fun k hk => (hka2 k hk).2
  refine lv_aload_n hx hb dL_law_2173 rfl (lv_at hl 1 rfl) ?_
  refine lv_aload_n hx hb dL_law_2174 rfl (lv_at hl 0 rfl) ?_
  refine lv_iload hx hb dL_law_2175 (lv_at hl 4 rfl) ?_
  refine lv_iconst (v := 1) hx hb dL_law_2177 (by decide +kernel) ?_
  refine lv_iadd hx hb dL_law_2178 ?_
  rw [nI_1 i]
  refine xa_sld hx hb hX hbl hbA hS (k := i + 1) (by omega) hL hp1 dL_law_2179 ?_
  refine lv_aload_n hx hb dL_law_2180 rfl (lv_at hl 3 rfl) ?_
  have hPc := hP.sub (ws' := [(h0, eE h1 h2 kn), (h1, eR hw1 hc1 hb1 a1 r1), (hw1, eW true), (hc1, eA cy f1), (hb1, eA cy g1), (h2, eR hw2 hc2 hb2 a2 r2), (hw2, eW false), (hc2, eA cy f2), (hb2, eA cy g2), (ho, eO nv sv)]) [0, 1, 2, 3, 4, 5, 6, 7, 8, 9] rfl
  have hDc := hD.sub (ws' := [(h0, eE h1 h2 kn), (h1, eR hw1 hc1 hb1 a1 r1), (hw1, eW true), (hc1, eA cy f1), (hb1, eA cy g1), (h2, eR hw2 hc2 hb2 a2 r2), (hw2, eW false), (hc2, eA cy f2), (hb2, eA cy g2), (ho, eO nv sv)]) [0, 1, 2, 3, 4, 5, 6, 7, 8, 9] (by decide +kernel) rfl
  have hKc := hK.sub (tys' := [(cy, .long)]) [0] rfl
  have hFc := va_free (wc := [(h0, eE h1 h2 kn), (h1, eR hw1 hc1 hb1 a1 r1), (hw1, eW true), (hc1, eA cy f1), (hb1, eA cy g1), (h2, eR hw2 hc2 hb2 a2 r2), (hw2, eW false), (hc2, eA cy f2), (hb2, eA cy g2), (ho, eO nv sv)]) hD hS hA [0, 1, 2, 3, 4, 5, 6, 7, 8, 9] rfl
  refine va_calli (vx_runSW (As := [.ref h0, .int p1, .ref ho]) (rest := []) ⟨hx, hb, hml, hown, hts⟩ (k_L_narrowHas l hfl dC dI cy h0 h1 hw1 hc1 hb1 h2 hw2 hc2 hb2 a1 r1 f1 g1 a2 r2 f2 g2 kn ho nv sv H.size N p1) (vx_cwSW 3 hts gL_law_L_narrowHas rfl rfl rfl (by decide +kernel) ⟨Nat.le_of_ble_eq_true rfl, Nat.le_of_ble_eq_true rfl⟩) (xL.preS hKc hPc hDc hAN (Nat.le_trans hN hS.1) (hG.kept hS hAN) hnc) rfl rfl hl.1 rfl (lv_room (Nat.le_of_ble_eq_true rfl)) dL_law_2181 ⟨(show _ ≤ 616450 by omega), (show _ ≤ 7246753 by omega)⟩) hS (fun q _ h => hFc q h) hFc (fun r_1 u t H locs ht hvm hw hB hz hk hS => ?_)
  replace hw : r_1 = (o_L_narrowHas f2 nv p1).1 := hw
  subst r_1
  obtain ⟨hP1, hD1⟩ := hB
  rw [ht] at hP1
  obtain ⟨hP, hD⟩ := va_join (wr := [(m0, eM m1 m2 th (r1 + r2) kn), (m1, eMR true mc1 a1), (mc1, eA cy f1), (m2, eMR false mc2 a2), (mc2, eA cy f2)]) (w1 := [(h0, eE h1 h2 kn), (h1, eR hw1 hc1 hb1 a1 r1), (hw1, eW true), (hc1, eA cy f1), (hb1, eA cy g1), (h2, eR hw2 hc2 hb2 a2 r2), (hw2, eW false), (hc2, eA cy f2), (hb2, eA cy g2), (ho, eO (o_L_narrowHas f2 nv p1).2 sv)]) hP hD [0, 1, 2, 3, 4, 5, 6, 7, 8, 9] [10, 11, 12, 13, 14] rfl rfl (by decide +kernel) (by decide +kernel) hk hFc hP1 hD1
  have hP := hP.sub (ws' := [(h0, eE h1 h2 kn), (h1, eR hw1 hc1 hb1 a1 r1), (hw1, eW true), (hc1, eA cy f1), (hb1, eA cy g1), (h2, eR hw2 hc2 hb2 a2 r2), (hw2, eW false), (hc2, eA cy f2), (hb2, eA cy g2), (ho, eO (o_L_narrowHas f2 nv p1).2 sv), (m0, eM m1 m2 th (r1 + r2) kn), (m1, eMR true mc1 a1), (mc1, eA cy f1), (m2, eMR false mc2 a2), (mc2, eA cy f2)]) [5, 6, 7, 8, 9, 10, 11, 12, 13, 14, 0, 1, 2, 3, 4] rfl
  have hD := hD.sub (ws' := [(h0, eE h1 h2 kn), (h1, eR hw1 hc1 hb1 a1 r1), (hw1, eW true), (hc1, eA cy f1), (hb1, eA cy g1), (h2, eR hw2 hc2 hb2 a2 r2), (hw2, eW false), (hc2, eA cy f2), (hb2, eA cy g2), (ho, eO (o_L_narrowHas f2 nv p1).2 sv), (m0, eM m1 m2 th (r1 + r2) kn), (m1, eMR true mc1 a1), (mc1, eA cy f1), (m2, eMR false mc2 a2), (mc2, eA cy f2)]) [5, 6, 7, 8, 9, 10, 11, 12, 13, 14, 0, 1, 2, 3, 4] (by decide +kernel) rfl
  refine lv_istore (lv' := [(5, .int ((o_L_narrowHas f2 nv p1).1)), (0, .ref b), (1, .ref h0), (2, .ref m0), (3, .ref ho), (4, .int (nI i))]) hx hb dL_law_2184 hl (by decide +kernel) rfl (fun ls hl => ?_)
  refine lv_aload_n hx hb dL_law_2186 rfl (lv_at hl 3 rfl) ?_
  refine lv_aload_n hx hb dL_law_2187 rfl (lv_at hl 1 rfl) ?_
  refine lv_iload hx hb dL_law_2188 (lv_at hl 5 rfl) ?_
  refine lv_iconst (v := 1) hx hb dL_law_2190 (by decide +kernel) ?_
  refine lv_iadd hx hb dL_law_2191 ?_
  rw [nI_1 i]
  refine xa_sld hx hb hX hbl hbA hS (k := i + 1) (by omega) hL hp1 dL_law_2192 ?_
  have hPc := hP.sub (ws' := [(m0, eM m1 m2 th (r1 + r2) kn), (m1, eMR true mc1 a1), (mc1, eA cy f1), (m2, eMR false mc2 a2), (mc2, eA cy f2)]) [10, 11, 12, 13, 14] rfl
  have hDc := hD.sub (ws' := [(m0, eM m1 m2 th (r1 + r2) kn), (m1, eMR true mc1 a1), (mc1, eA cy f1), (m2, eMR false mc2 a2), (mc2, eA cy f2)]) [10, 11, 12, 13, 14] (by decide +kernel) rfl
  have hKc := hK.sub (tys' := [(cy, .long)]) [0] rfl
  have hFc := va_free (wc := [(m0, eM m1 m2 th (r1 + r2) kn), (m1, eMR true mc1 a1), (mc1, eA cy f1), (m2, eMR false mc2 a2), (mc2, eA cy f2)]) hD hS hA [10, 11, 12, 13, 14] rfl
  refine va_calli (va_runV (As := [.int p1]) (rest := []) ⟨hx, hb, hml, hown, hts⟩ (k_X5_narrowHas l dC dI cy m0 m1 mc1 m2 mc2 a1 f1 a2 f2 th (r1 + r2) kn H.size N p1) (cwV 1 hts gL_law_X5_narrowHas rfl rfl rfl (by decide +kernel) ⟨Nat.le_of_ble_eq_true rfl, Nat.le_of_ble_eq_true rfl⟩) (xM.preV hKc hPc hDc hAN (Nat.le_trans hN hS.1) (hG.kept hS hAN) (ci := 7) (q0 := 0) rfl rfl) rfl rfl hl.1 rfl (lv_room (Nat.le_of_ble_eq_true rfl)) dL_law_2193 ⟨(show _ ≤ 616450 by omega), (show _ ≤ 7246753 by omega)⟩) hS (fun q _ h => hFc q h) hFc (fun r_2 u t H locs ht hvm hw hB hz hk hS => ?_)
  replace hw : r_2 = b2i ((o_X5_narrowHas f2 p1).1) := hw
  subst r_2
  obtain ⟨hP1, hD1⟩ := hB
  rw [ht] at hP1
  obtain ⟨hP, hD⟩ := va_join (wr := [(h0, eE h1 h2 kn), (h1, eR hw1 hc1 hb1 a1 r1), (hw1, eW true), (hc1, eA cy f1), (hb1, eA cy g1), (h2, eR hw2 hc2 hb2 a2 r2), (hw2, eW false), (hc2, eA cy f2), (hb2, eA cy g2), (ho, eO (o_L_narrowHas f2 nv p1).2 sv)]) (w1 := [(m0, eM m1 m2 (o_X5_narrowHas f2 p1).2 (r1 + r2) kn), (m1, eMR true mc1 a1), (mc1, eA cy f1), (m2, eMR false mc2 a2), (mc2, eA cy f2)]) hP hD [10, 11, 12, 13, 14] [0, 1, 2, 3, 4, 5, 6, 7, 8, 9] rfl rfl (by decide +kernel) (by decide +kernel) hk hFc hP1 hD1
  have hP := hP.sub (ws' := [(h0, eE h1 h2 kn), (h1, eR hw1 hc1 hb1 a1 r1), (hw1, eW true), (hc1, eA cy f1), (hb1, eA cy g1), (h2, eR hw2 hc2 hb2 a2 r2), (hw2, eW false), (hc2, eA cy f2), (hb2, eA cy g2), (ho, eO (o_L_narrowHas f2 nv p1).2 sv), (m0, eM m1 m2 (o_X5_narrowHas f2 p1).2 (r1 + r2) kn), (m1, eMR true mc1 a1), (mc1, eA cy f1), (m2, eMR false mc2 a2), (mc2, eA cy f2)]) [0, 1, 2, 3, 4, 5, 6, 7, 8, 9, 10, 11, 12, 13, 14] rfl
  have hD := hD.sub (ws' := [(h0, eE h1 h2 kn), (h1, eR hw1 hc1 hb1 a1 r1), (hw1, eW true), (hc1, eA cy f1), (hb1, eA cy g1), (h2, eR hw2 hc2 hb2 a2 r2), (hw2, eW false), (hc2, eA cy f2), (hb2, eA cy g2), (ho, eO (o_L_narrowHas f2 nv p1).2 sv), (m0, eM m1 m2 (o_X5_narrowHas f2 p1).2 (r1 + r2) kn), (m1, eMR true mc1 a1), (mc1, eA cy f1), (m2, eMR false mc2 a2), (mc2, eA cy f2)]) [0, 1, 2, 3, 4, 5, 6, 7, 8, 9, 10, 11, 12, 13, 14] (by decide +kernel) rfl
  refine lv_istore (lv' := [(6, .int (b2i ((o_X5_narrowHas f2 p1).1))), (5, .int ((o_L_narrowHas f2 nv p1).1)), (0, .ref b), (1, .ref h0), (2, .ref m0), (3, .ref ho), (4, .int (nI i))]) hx hb dL_law_2196 hl (by decide +kernel) rfl (fun ls hl => ?_)
  refine lv_goto (tgt := 2268) hx hb dL_law_2198 (by decide +kernel) ?_
  refine W.widen (k := cells + 760) (n := slots + 4500) (by omega) (by omega) ?_
  exact K a1 r1 f1 g1 a2 r2 f2 g2 kn ((o_L_narrowHas f2 nv p1).2) sv ((o_X5_narrowHas f2 p1).2) a1 f1 a2 f2 (r1 + r2) kn _ _ _ rfl rfl rfl rfl rfl rfl hka1 hka2 hP hD hS (lv_sub hl [2, 3, 4, 5, 6] rfl)
set_option maxHeartbeats 4000000 in
set_option maxRecDepth 100000 in
theorem st_45 (l : Launch) (p : Program) (e : Env) (s : State) (m : MethodId) (below : List Frame) (meth : Method) (c : Code) (b L N : Nat) (xs : Nat → Int32) (A : Nat → Prop) (dC : Nat → ClassId) (dI : Nat → Nat → Nat) (cy cB : ClassId) (h0 h1 hw1 hc1 hb1 h2 hw2 hc2 hb2 ho m0 m1 mc1 m2 mc2 : Nat) (C0 : lw_C l p e s m below meth c b L N xs A dC dI cy cB) (i : Nat) (hi : i + 4 ≤ L) (p1 p2 p3 : Int32) (hp1 : xs (i + 1) = p1) (hp2 : xs (i + 2) = p2) (hp3 : xs (i + 3) = p3) (cells slots : Nat) (hcs : cells + 760 ≤ 616450) (hss : slots + 4500 ≤ 7246753) (K : lw_K l p e s m below meth c b L N xs A dC dI cy cB h0 h1 hw1 hc1 hb1 h2 hw2 hc2 hb2 ho m0 m1 mc1 m2 mc2 i (cells + 760) (slots + 4500) 2268) (a1 : Int32) (r1 : Int32) (f1 : Nat → Int64) (g1 : Nat → Int64) (a2 : Int32) (r2 : Int32) (f2 : Nat → Int64) (g2 : Nat → Int64) (kn : Int32) (nv : Int64) (sv : Value) (th : Int32) (H : Heap) (locs : List Loc) (ls : Array Slot) (hka1 : okA true f1) (hka2 : okA false f2) (hP : va_P (dC, dI) xCl [(h0, eE h1 h2 kn), (h1, eR hw1 hc1 hb1 a1 r1), (hw1, eW true), (hc1, eA cy f1), (hb1, eA cy g1), (h2, eR hw2 hc2 hb2 a2 r2), (hw2, eW false), (hc2, eA cy f2), (hb2, eA cy g2), (ho, eO nv sv), (m0, eM m1 m2 th (r1 + r2) kn), (m1, eMR true mc1 a1), (mc1, eA cy f1), (m2, eMR false mc2 a2), (mc2, eA cy f2)] H) (hD : va_D A [(h0, eE h1 h2 kn), (h1, eR hw1 hc1 hb1 a1 r1), (hw1, eW true), (hc1, eA cy f1), (hb1, eA cy g1), (h2, eR hw2 hc2 hb2 a2 r2), (hw2, eW false), (hc2, eA cy f2), (hb2, eA cy g2), (ho, eO nv sv), (m0, eM m1 m2 th (r1 + r2) kn), (m1, eMR true mc1 a1), (mc1, eA cy f1), (m2, eMR false mc2 a2), (mc2, eA cy f2)]) (hS : va_S A s.heap H locs) (hl : lv_has ls 7 [(0, .ref b), (1, .ref h0), (2, .ref m0), (3, .ref ho), (4, .int (nI i))]) : W p l e room_1 s m #[Value.ref b] below meth c H locs cells slots (lw_Z below #[Value.ref b] s) (F0 m 2201 ls []) := by
  obtain ⟨hfl, hx, hb, hr, hml, hown, hts, hX, hbl, hbA, hlocks, hK, hG, hnc, hA, hAN, hN, hL, hT, hNs⟩ := id C0
  have hok2 := me_okF hka2
  have hsp1 : ∀ k, k < 8 → o_X1_isSpoiled true (f1 k) = false := fun k hk => (hka1 k hk).2
  have hsp2 : ∀ k, k < 8 → o_X1_isSpoiled false (f2 k) = false := fun k hk => (hka2 k hk).2
  refine lv_aload_n hx hb dL_law_2201 rfl (lv_at hl 1 rfl) ?_
  refine lv_aload_n hx hb dL_law_2202 rfl (lv_at hl 0 rfl) ?_
  refine lv_iload hx hb dL_law_2203 (lv_at hl 4 rfl) ?_
  refine lv_iconst (v := 1) hx hb dL_law_2205 (by decide +kernel) ?_
  refine lv_iadd hx hb dL_law_2206 ?_
  rw [nI_1 i]
  refine xa_sld hx hb hX hbl hbA hS (k := i + 1) (by omega) hL hp1 dL_law_2207 ?_
  refine lv_aload_n hx hb dL_law_2208 rfl (lv_at hl 3 rfl) ?_
  have hPc := hP.sub (ws' := [(h0, eE h1 h2 kn), (h1, eR hw1 hc1 hb1 a1 r1), (hw1, eW true), (hc1, eA cy f1), (hb1, eA cy g1), (h2, eR hw2 hc2 hb2 a2 r2), (hw2, eW false), (hc2, eA cy f2), (hb2, eA cy g2), (ho, eO nv sv)]) [0, 1, 2, 3, 4, 5, 6, 7, 8, 9] rfl
  have hDc := hD.sub (ws' := [(h0, eE h1 h2 kn), (h1, eR hw1 hc1 hb1 a1 r1), (hw1, eW true), (hc1, eA cy f1), (hb1, eA cy g1), (h2, eR hw2 hc2 hb2 a2 r2), (hw2, eW false), (hc2, eA cy f2), (hb2, eA cy g2), (ho, eO nv sv)]) [0, 1, 2, 3, 4, 5, 6, 7, 8, 9] (by decide +kernel) rfl
  have hKc := hK.sub (tys' := [(cy, .long)]) [0] rfl
  have hFc := va_free (wc := [(h0, eE h1 h2 kn), (h1, eR hw1 hc1 hb1 a1 r1), (hw1, eW true), (hc1, eA cy f1), (hb1, eA cy g1), (h2, eR hw2 hc2 hb2 a2 r2), (hw2, eW false), (hc2, eA cy f2), (hb2, eA cy g2), (ho, eO nv sv)]) hD hS hA [0, 1, 2, 3, 4, 5, 6, 7, 8, 9] rfl
  refine va_calli (vx_runSW (As := [.ref h0, .int p1, .ref ho]) (rest := []) ⟨hx, hb, hml, hown, hts⟩ (k_L_house l hfl dC dI cy h0 h1 hw1 hc1 hb1 h2 hw2 hc2 hb2 a1 r1 f1 g1 a2 r2 f2 g2 kn ho nv sv H.size N p1) (vx_cwSW 3 hts gL_law_L_house rfl rfl rfl (by decide +kernel) ⟨Nat.le_of_ble_eq_true rfl, Nat.le_of_ble_eq_true rfl⟩) (xL.preS hKc hPc hDc hAN (Nat.le_trans hN hS.1) (hG.kept hS hAN) hnc) rfl rfl hl.1 rfl (lv_room (Nat.le_of_ble_eq_true rfl)) dL_law_2209 ⟨(show _ ≤ 616450 by omega), (show _ ≤ 7246753 by omega)⟩) hS (fun q _ h => hFc q h) hFc (fun r_1 u t H locs ht hvm hw hB hz hk hS => ?_)
  replace hw : r_1 = (o_L_house a1 r1 a2 r2 kn nv p1).1 := hw
  subst r_1
  obtain ⟨hP1, hD1⟩ := hB
  rw [ht] at hP1
  obtain ⟨hP, hD⟩ := va_join (wr := [(m0, eM m1 m2 th (r1 + r2) kn), (m1, eMR true mc1 a1), (mc1, eA cy f1), (m2, eMR false mc2 a2), (mc2, eA cy f2)]) (w1 := [(h0, eE h1 h2 kn), (h1, eR hw1 hc1 hb1 a1 r1), (hw1, eW true), (hc1, eA cy f1), (hb1, eA cy g1), (h2, eR hw2 hc2 hb2 a2 r2), (hw2, eW false), (hc2, eA cy f2), (hb2, eA cy g2), (ho, eO (o_L_house a1 r1 a2 r2 kn nv p1).2 sv)]) hP hD [0, 1, 2, 3, 4, 5, 6, 7, 8, 9] [10, 11, 12, 13, 14] rfl rfl (by decide +kernel) (by decide +kernel) hk hFc hP1 hD1
  have hP := hP.sub (ws' := [(h0, eE h1 h2 kn), (h1, eR hw1 hc1 hb1 a1 r1), (hw1, eW true), (hc1, eA cy f1), (hb1, eA cy g1), (h2, eR hw2 hc2 hb2 a2 r2), (hw2, eW false), (hc2, eA cy f2), (hb2, eA cy g2), (ho, eO (o_L_house a1 r1 a2 r2 kn nv p1).2 sv), (m0, eM m1 m2 th (r1 + r2) kn), (m1, eMR true mc1 a1), (mc1, eA cy f1), (m2, eMR false mc2 a2), (mc2, eA cy f2)]) [5, 6, 7, 8, 9, 10, 11, 12, 13, 14, 0, 1, 2, 3, 4] rfl
  have hD := hD.sub (ws' := [(h0, eE h1 h2 kn), (h1, eR hw1 hc1 hb1 a1 r1), (hw1, eW true), (hc1, eA cy f1), (hb1, eA cy g1), (h2, eR hw2 hc2 hb2 a2 r2), (hw2, eW false), (hc2, eA cy f2), (hb2, eA cy g2), (ho, eO (o_L_house a1 r1 a2 r2 kn nv p1).2 sv), (m0, eM m1 m2 th (r1 + r2) kn), (m1, eMR true mc1 a1), (mc1, eA cy f1), (m2, eMR false mc2 a2), (mc2, eA cy f2)]) [5, 6, 7, 8, 9, 10, 11, 12, 13, 14, 0, 1, 2, 3, 4] (by decide +kernel) rfl
  refine lv_istore (lv' := [(5, .int ((o_L_house a1 r1 a2 r2 kn nv p1).1)), (0, .ref b), (1, .ref h0), (2, .ref m0), (3, .ref ho), (4, .int (nI i))]) hx hb dL_law_2212 hl (by decide +kernel) rfl (fun ls hl => ?_)
  refine lv_aload_n hx hb dL_law_2214 rfl (lv_at hl 3 rfl) ?_
  refine lv_aload_n hx hb dL_law_2215 rfl (lv_at hl 1 rfl) ?_
  refine lv_iload hx hb dL_law_2216 (lv_at hl 5 rfl) ?_
  refine lv_iconst (v := 1) hx hb dL_law_2218 (by decide +kernel) ?_
  refine lv_iadd hx hb dL_law_2219 ?_
  rw [nI_1 i]
  refine xa_sld hx hb hX hbl hbA hS (k := i + 1) (by omega) hL hp1 dL_law_2220 ?_
  have hPc := hP.sub (ws' := [(m0, eM m1 m2 th (r1 + r2) kn), (m1, eMR true mc1 a1), (mc1, eA cy f1), (m2, eMR false mc2 a2), (mc2, eA cy f2)]) [10, 11, 12, 13, 14] rfl
  have hDc := hD.sub (ws' := [(m0, eM m1 m2 th (r1 + r2) kn), (m1, eMR true mc1 a1), (mc1, eA cy f1), (m2, eMR false mc2 a2), (mc2, eA cy f2)]) [10, 11, 12, 13, 14] (by decide +kernel) rfl
  have hKc := hK.sub (tys' := [(cy, .long)]) [0] rfl
  have hFc := va_free (wc := [(m0, eM m1 m2 th (r1 + r2) kn), (m1, eMR true mc1 a1), (mc1, eA cy f1), (m2, eMR false mc2 a2), (mc2, eA cy f2)]) hD hS hA [10, 11, 12, 13, 14] rfl
  refine va_calli (va_runV (As := [.int p1]) (rest := []) ⟨hx, hb, hml, hown, hts⟩ (k_X5_house l dC dI cy m0 m1 mc1 m2 mc2 a1 f1 a2 f2 th (r1 + r2) kn H.size N p1) (cwV 1 hts gL_law_X5_house rfl rfl rfl (by decide +kernel) ⟨Nat.le_of_ble_eq_true rfl, Nat.le_of_ble_eq_true rfl⟩) (xM.preV hKc hPc hDc hAN (Nat.le_trans hN hS.1) (hG.kept hS hAN) (ci := 7) (q0 := 0) rfl rfl) rfl rfl hl.1 rfl (lv_room (Nat.le_of_ble_eq_true rfl)) dL_law_2221 ⟨(show _ ≤ 616450 by omega), (show _ ≤ 7246753 by omega)⟩) hS (fun q _ h => hFc q h) hFc (fun r_2 u t H locs ht hvm hw hB hz hk hS => ?_)
  replace hw : r_2 = (o_X5_house a1 a2 (r1 + r2) kn p1).1 := hw
  subst r_2
  obtain ⟨hP1, hD1⟩ := hB
  rw [ht] at hP1
  obtain ⟨hP, hD⟩ := va_join (wr := [(h0, eE h1 h2 kn), (h1, eR hw1 hc1 hb1 a1 r1), (hw1, eW true), (hc1, eA cy f1), (hb1, eA cy g1), (h2, eR hw2 hc2 hb2 a2 r2), (hw2, eW false), (hc2, eA cy f2), (hb2, eA cy g2), (ho, eO (o_L_house a1 r1 a2 r2 kn nv p1).2 sv)]) (w1 := [(m0, eM m1 m2 (o_X5_house a1 a2 (r1 + r2) kn p1).2 (r1 + r2) kn), (m1, eMR true mc1 a1), (mc1, eA cy f1), (m2, eMR false mc2 a2), (mc2, eA cy f2)]) hP hD [10, 11, 12, 13, 14] [0, 1, 2, 3, 4, 5, 6, 7, 8, 9] rfl rfl (by decide +kernel) (by decide +kernel) hk hFc hP1 hD1
  have hP := hP.sub (ws' := [(h0, eE h1 h2 kn), (h1, eR hw1 hc1 hb1 a1 r1), (hw1, eW true), (hc1, eA cy f1), (hb1, eA cy g1), (h2, eR hw2 hc2 hb2 a2 r2), (hw2, eW false), (hc2, eA cy f2), (hb2, eA cy g2), (ho, eO (o_L_house a1 r1 a2 r2 kn nv p1).2 sv), (m0, eM m1 m2 (o_X5_house a1 a2 (r1 + r2) kn p1).2 (r1 + r2) kn), (m1, eMR true mc1 a1), (mc1, eA cy f1), (m2, eMR false mc2 a2), (mc2, eA cy f2)]) [0, 1, 2, 3, 4, 5, 6, 7, 8, 9, 10, 11, 12, 13, 14] rfl
  have hD := hD.sub (ws' := [(h0, eE h1 h2 kn), (h1, eR hw1 hc1 hb1 a1 r1), (hw1, eW true), (hc1, eA cy f1), (hb1, eA cy g1), (h2, eR hw2 hc2 hb2 a2 r2), (hw2, eW false), (hc2, eA cy f2), (hb2, eA cy g2), (ho, eO (o_L_house a1 r1 a2 r2 kn nv p1).2 sv), (m0, eM m1 m2 (o_X5_house a1 a2 (r1 + r2) kn p1).2 (r1 + r2) kn), (m1, eMR true mc1 a1), (mc1, eA cy f1), (m2, eMR false mc2 a2), (mc2, eA cy f2)]) [0, 1, 2, 3, 4, 5, 6, 7, 8, 9, 10, 11, 12, 13, 14] (by decide +kernel) rfl
  refine lv_istore (lv' := [(6, .int ((o_X5_house a1 a2 (r1 + r2) kn p1).1)), (5, .int ((o_L_house a1 r1 a2 r2 kn nv p1).1)), (0, .ref b), (1, .ref h0), (2, .ref m0), (3, .ref ho), (4, .int (nI i))]) hx hb dL_law_2224 hl (by decide +kernel) rfl (fun ls hl => ?_)
  refine lv_goto (tgt := 2268) hx hb dL_law_2226 (by decide +kernel) ?_
  refine W.widen (k := cells + 760) (n := slots + 4500) (by omega) (by omega) ?_
  exact K a1 r1 f1 g1 a2 r2 f2 g2 kn ((o_L_house a1 r1 a2 r2 kn nv p1).2) sv ((o_X5_house a1 a2 (r1 + r2) kn p1).2) a1 f1 a2 f2 (r1 + r2) kn _ _ _ rfl rfl rfl rfl rfl rfl hka1 hka2 hP hD hS (lv_sub hl [2, 3, 4, 5, 6] rfl)
set_option maxHeartbeats 4000000 in
set_option maxRecDepth 100000 in
theorem st_46 (l : Launch) (p : Program) (e : Env) (s : State) (m : MethodId) (below : List Frame) (meth : Method) (c : Code) (b L N : Nat) (xs : Nat → Int32) (A : Nat → Prop) (dC : Nat → ClassId) (dI : Nat → Nat → Nat) (cy cB : ClassId) (h0 h1 hw1 hc1 hb1 h2 hw2 hc2 hb2 ho m0 m1 mc1 m2 mc2 : Nat) (C0 : lw_C l p e s m below meth c b L N xs A dC dI cy cB) (i : Nat) (hi : i + 4 ≤ L) (p1 p2 p3 : Int32) (hp1 : xs (i + 1) = p1) (hp2 : xs (i + 2) = p2) (hp3 : xs (i + 3) = p3) (cells slots : Nat) (hcs : cells + 760 ≤ 616450) (hss : slots + 4500 ≤ 7246753) (K : lw_K l p e s m below meth c b L N xs A dC dI cy cB h0 h1 hw1 hc1 hb1 h2 hw2 hc2 hb2 ho m0 m1 mc1 m2 mc2 i (cells + 760) (slots + 4500) 2268) (a1 : Int32) (r1 : Int32) (f1 : Nat → Int64) (g1 : Nat → Int64) (a2 : Int32) (r2 : Int32) (f2 : Nat → Int64) (g2 : Nat → Int64) (kn : Int32) (nv : Int64) (sv : Value) (th : Int32) (H : Heap) (locs : List Loc) (ls : Array Slot) (hka1 : okA true f1) (hka2 : okA false f2) (hP : va_P (dC, dI) xCl [(h0, eE h1 h2 kn), (h1, eR hw1 hc1 hb1 a1 r1), (hw1, eW true), (hc1, eA cy f1), (hb1, eA cy g1), (h2, eR hw2 hc2 hb2 a2 r2), (hw2, eW false), (hc2, eA cy f2), (hb2, eA cy g2), (ho, eO nv sv), (m0, eM m1 m2 th (r1 + r2) kn), (m1, eMR true mc1 a1), (mc1, eA cy f1), (m2, eMR false mc2 a2), (mc2, eA cy f2)] H) (hD : va_D A [(h0, eE h1 h2 kn), (h1, eR hw1 hc1 hb1 a1 r1), (hw1, eW true), (hc1, eA cy f1), (hb1, eA cy g1), (h2, eR hw2 hc2 hb2 a2 r2), (hw2, eW false), (hc2, eA cy f2), (hb2, eA cy g2), (ho, eO nv sv), (m0, eM m1 m2 th (r1 + r2) kn), (m1, eMR true mc1 a1), (mc1, eA cy f1), (m2, eMR false mc2 a2), (mc2, eA cy f2)]) (hS : va_S A s.heap H locs) (hl : lv_has ls 7 [(0, .ref b), (1, .ref h0), (2, .ref m0), (3, .ref ho), (4, .int (nI i))]) : W p l e room_1 s m #[Value.ref b] below meth c H locs cells slots (lw_Z below #[Value.ref b] s) (F0 m 2229 ls []) := by
  obtain ⟨hfl, hx, hb, hr, hml, hown, hts, hX, hbl, hbA, hlocks, hK, hG, hnc, hA, hAN, hN, hL, hT, hNs⟩ := id C0
  have hok2 := me_okF hka2
  have hsp1 : ∀ k, k < 8 → o_X1_isSpoiled true (f1 k) = false := fun k hk => (hka1 k hk).2
  have hsp2 : ∀ k, k < 8 → o_X1_isSpoiled false (f2 k) = false := fun k hk => (hka2 k hk).2
  refine lv_aload_n hx hb dL_law_2229 rfl (lv_at hl 1 rfl) ?_
  have hPc := hP.sub (ws' := [(h0, eE h1 h2 kn), (h1, eR hw1 hc1 hb1 a1 r1), (hw1, eW true), (hc1, eA cy f1), (hb1, eA cy g1), (h2, eR hw2 hc2 hb2 a2 r2), (hw2, eW false), (hc2, eA cy f2), (hb2, eA cy g2)]) [0, 1, 2, 3, 4, 5, 6, 7, 8] rfl
  have hDc := hD.sub (ws' := [(h0, eE h1 h2 kn), (h1, eR hw1 hc1 hb1 a1 r1), (hw1, eW true), (hc1, eA cy f1), (hb1, eA cy g1), (h2, eR hw2 hc2 hb2 a2 r2), (hw2, eW false), (hc2, eA cy f2), (hb2, eA cy g2)]) [0, 1, 2, 3, 4, 5, 6, 7, 8] (by decide +kernel) rfl
  have hKc := hK.sub (tys' := [(cy, .long)]) [0] rfl
  have hFc := va_free (wc := [(h0, eE h1 h2 kn), (h1, eR hw1 hc1 hb1 a1 r1), (hw1, eW true), (hc1, eA cy f1), (hb1, eA cy g1), (h2, eR hw2 hc2 hb2 a2 r2), (hw2, eW false), (hc2, eA cy f2), (hb2, eA cy g2)]) hD hS hA [0, 1, 2, 3, 4, 5, 6, 7, 8] rfl
  refine va_calli (va_runV (As := []) (rest := []) ⟨hx, hb, hml, hown, hts⟩ (k_X2_knock l dC dI cy h0 h1 hw1 hc1 hb1 h2 hw2 hc2 hb2 a1 r1 f1 g1 a2 r2 f2 g2 kn H.size N) (cwV 0 hts gL_law_X2_knock rfl rfl rfl (by decide +kernel) ⟨Nat.le_of_ble_eq_true rfl, Nat.le_of_ble_eq_true rfl⟩) (xM.preV hKc hPc hDc hAN (Nat.le_trans hN hS.1) (hG.kept hS hAN) (ci := 4) (q0 := 0) rfl rfl) rfl rfl hl.1 rfl (lv_room (Nat.le_of_ble_eq_true rfl)) dL_law_2230 ⟨(show _ ≤ 616450 by omega), (show _ ≤ 7246753 by omega)⟩) hS (fun q _ h => hFc q h) hFc (fun r_1 u t H locs ht hvm hw hB hz hk hS => ?_)
  replace hw : r_1 = (o_X2_knock kn).1 := hw
  subst r_1
  obtain ⟨hP1, hD1⟩ := hB
  rw [ht] at hP1
  obtain ⟨hP, hD⟩ := va_join (wr := [(ho, eO nv sv), (m0, eM m1 m2 th (r1 + r2) kn), (m1, eMR true mc1 a1), (mc1, eA cy f1), (m2, eMR false mc2 a2), (mc2, eA cy f2)]) (w1 := [(h0, eE h1 h2 (o_X2_knock kn).2), (h1, eR hw1 hc1 hb1 a1 r1), (hw1, eW true), (hc1, eA cy f1), (hb1, eA cy g1), (h2, eR hw2 hc2 hb2 a2 r2), (hw2, eW false), (hc2, eA cy f2), (hb2, eA cy g2)]) hP hD [0, 1, 2, 3, 4, 5, 6, 7, 8] [9, 10, 11, 12, 13, 14] rfl rfl (by decide +kernel) (by decide +kernel) hk hFc hP1 hD1
  have hP := hP.sub (ws' := [(h0, eE h1 h2 (o_X2_knock kn).2), (h1, eR hw1 hc1 hb1 a1 r1), (hw1, eW true), (hc1, eA cy f1), (hb1, eA cy g1), (h2, eR hw2 hc2 hb2 a2 r2), (hw2, eW false), (hc2, eA cy f2), (hb2, eA cy g2), (ho, eO nv sv), (m0, eM m1 m2 th (r1 + r2) kn), (m1, eMR true mc1 a1), (mc1, eA cy f1), (m2, eMR false mc2 a2), (mc2, eA cy f2)]) [6, 7, 8, 9, 10, 11, 12, 13, 14, 0, 1, 2, 3, 4, 5] rfl
  have hD := hD.sub (ws' := [(h0, eE h1 h2 (o_X2_knock kn).2), (h1, eR hw1 hc1 hb1 a1 r1), (hw1, eW true), (hc1, eA cy f1), (hb1, eA cy g1), (h2, eR hw2 hc2 hb2 a2 r2), (hw2, eW false), (hc2, eA cy f2), (hb2, eA cy g2), (ho, eO nv sv), (m0, eM m1 m2 th (r1 + r2) kn), (m1, eMR true mc1 a1), (mc1, eA cy f1), (m2, eMR false mc2 a2), (mc2, eA cy f2)]) [6, 7, 8, 9, 10, 11, 12, 13, 14, 0, 1, 2, 3, 4, 5] (by decide +kernel) rfl
  refine lv_pop hx hb dL_law_2233 rfl ?_
  refine lv_aload_n hx hb dL_law_2234 rfl (lv_at hl 2 rfl) ?_
  have hPc := hP.sub (ws' := [(m0, eM m1 m2 th (r1 + r2) kn)]) [10] rfl
  have hDc := hD.sub (ws' := [(m0, eM m1 m2 th (r1 + r2) kn)]) [10] (by decide +kernel) rfl
  have hKc := hK.sub (tys' := []) [] rfl
  have hFc := va_free (wc := [(m0, eM m1 m2 th (r1 + r2) kn)]) hD hS hA [10] rfl
  refine va_calli (va_runV (As := []) (rest := []) ⟨hx, hb, hml, hown, hts⟩ (k_X5_knock l dC dI m0 m1 m2 th (r1 + r2) kn H.size N) (cwV 0 hts gL_law_X5_knock rfl rfl rfl (by decide +kernel) ⟨Nat.le_of_ble_eq_true rfl, Nat.le_of_ble_eq_true rfl⟩) (xM.preV hKc hPc hDc hAN (Nat.le_trans hN hS.1) (hG.kept hS hAN) (ci := 7) (q0 := 0) rfl rfl) rfl rfl hl.1 rfl (lv_room (Nat.le_of_ble_eq_true rfl)) dL_law_2235 ⟨(show _ ≤ 616450 by omega), (show _ ≤ 7246753 by omega)⟩) hS (fun q _ h => hFc q h) hFc (fun r_2 u t H locs ht hvm hw hB hz hk hS => ?_)
  replace hw : r_2 = (o_X5_knock kn).1 := hw
  subst r_2
  obtain ⟨hP1, hD1⟩ := hB
  rw [ht] at hP1
  obtain ⟨hP, hD⟩ := va_join (wr := [(h0, eE h1 h2 (o_X2_knock kn).2), (h1, eR hw1 hc1 hb1 a1 r1), (hw1, eW true), (hc1, eA cy f1), (hb1, eA cy g1), (h2, eR hw2 hc2 hb2 a2 r2), (hw2, eW false), (hc2, eA cy f2), (hb2, eA cy g2), (ho, eO nv sv), (m1, eMR true mc1 a1), (mc1, eA cy f1), (m2, eMR false mc2 a2), (mc2, eA cy f2)]) (w1 := [(m0, eM m1 m2 (o_X5_knock kn).2.1 (r1 + r2) (o_X5_knock kn).2.2)]) hP hD [10] [0, 1, 2, 3, 4, 5, 6, 7, 8, 9, 11, 12, 13, 14] rfl rfl (by decide +kernel) (by decide +kernel) hk hFc hP1 hD1
  have hP := hP.sub (ws' := [(h0, eE h1 h2 (o_X2_knock kn).2), (h1, eR hw1 hc1 hb1 a1 r1), (hw1, eW true), (hc1, eA cy f1), (hb1, eA cy g1), (h2, eR hw2 hc2 hb2 a2 r2), (hw2, eW false), (hc2, eA cy f2), (hb2, eA cy g2), (ho, eO nv sv), (m0, eM m1 m2 (o_X5_knock kn).2.1 (r1 + r2) (o_X5_knock kn).2.2), (m1, eMR true mc1 a1), (mc1, eA cy f1), (m2, eMR false mc2 a2), (mc2, eA cy f2)]) [0, 1, 2, 3, 4, 5, 6, 7, 8, 9, 14, 10, 11, 12, 13] rfl
  have hD := hD.sub (ws' := [(h0, eE h1 h2 (o_X2_knock kn).2), (h1, eR hw1 hc1 hb1 a1 r1), (hw1, eW true), (hc1, eA cy f1), (hb1, eA cy g1), (h2, eR hw2 hc2 hb2 a2 r2), (hw2, eW false), (hc2, eA cy f2), (hb2, eA cy g2), (ho, eO nv sv), (m0, eM m1 m2 (o_X5_knock kn).2.1 (r1 + r2) (o_X5_knock kn).2.2), (m1, eMR true mc1 a1), (mc1, eA cy f1), (m2, eMR false mc2 a2), (mc2, eA cy f2)]) [0, 1, 2, 3, 4, 5, 6, 7, 8, 9, 14, 10, 11, 12, 13] (by decide +kernel) rfl
  refine lv_pop hx hb dL_law_2238 rfl ?_
  refine lv_goto (tgt := 2268) hx hb dL_law_2239 (by decide +kernel) ?_
  refine W.widen (k := cells + 760) (n := slots + 4500) (by omega) (by omega) ?_
  exact K a1 r1 f1 g1 a2 r2 f2 g2 ((o_X2_knock kn).2) nv sv ((o_X5_knock kn).2.1) a1 f1 a2 f2 (r1 + r2) ((o_X5_knock kn).2.2) _ _ _ rfl rfl rfl rfl rfl (by rfl) hka1 hka2 hP hD hS (lv_sub hl [0, 1, 2, 3, 4] rfl)
set_option maxHeartbeats 4000000 in
set_option maxRecDepth 100000 in
theorem st_47 (l : Launch) (p : Program) (e : Env) (s : State) (m : MethodId) (below : List Frame) (meth : Method) (c : Code) (b L N : Nat) (xs : Nat → Int32) (A : Nat → Prop) (dC : Nat → ClassId) (dI : Nat → Nat → Nat) (cy cB : ClassId) (h0 h1 hw1 hc1 hb1 h2 hw2 hc2 hb2 ho m0 m1 mc1 m2 mc2 : Nat) (C0 : lw_C l p e s m below meth c b L N xs A dC dI cy cB) (i : Nat) (hi : i + 4 ≤ L) (p1 p2 p3 : Int32) (hp1 : xs (i + 1) = p1) (hp2 : xs (i + 2) = p2) (hp3 : xs (i + 3) = p3) (cells slots : Nat) (hcs : cells + 760 ≤ 616450) (hss : slots + 4500 ≤ 7246753) (K : lw_K l p e s m below meth c b L N xs A dC dI cy cB h0 h1 hw1 hc1 hb1 h2 hw2 hc2 hb2 ho m0 m1 mc1 m2 mc2 i (cells + 760) (slots + 4500) 2268) (a1 : Int32) (r1 : Int32) (f1 : Nat → Int64) (g1 : Nat → Int64) (a2 : Int32) (r2 : Int32) (f2 : Nat → Int64) (g2 : Nat → Int64) (kn : Int32) (nv : Int64) (sv : Value) (th : Int32) (H : Heap) (locs : List Loc) (ls : Array Slot) (hka1 : okA true f1) (hka2 : okA false f2) (hP : va_P (dC, dI) xCl [(h0, eE h1 h2 kn), (h1, eR hw1 hc1 hb1 a1 r1), (hw1, eW true), (hc1, eA cy f1), (hb1, eA cy g1), (h2, eR hw2 hc2 hb2 a2 r2), (hw2, eW false), (hc2, eA cy f2), (hb2, eA cy g2), (ho, eO nv sv), (m0, eM m1 m2 th (r1 + r2) kn), (m1, eMR true mc1 a1), (mc1, eA cy f1), (m2, eMR false mc2 a2), (mc2, eA cy f2)] H) (hD : va_D A [(h0, eE h1 h2 kn), (h1, eR hw1 hc1 hb1 a1 r1), (hw1, eW true), (hc1, eA cy f1), (hb1, eA cy g1), (h2, eR hw2 hc2 hb2 a2 r2), (hw2, eW false), (hc2, eA cy f2), (hb2, eA cy g2), (ho, eO nv sv), (m0, eM m1 m2 th (r1 + r2) kn), (m1, eMR true mc1 a1), (mc1, eA cy f1), (m2, eMR false mc2 a2), (mc2, eA cy f2)]) (hS : va_S A s.heap H locs) (hl : lv_has ls 7 [(0, .ref b), (1, .ref h0), (2, .ref m0), (3, .ref ho), (4, .int (nI i))]) : W p l e room_1 s m #[Value.ref b] below meth c H locs cells slots (lw_Z below #[Value.ref b] s) (F0 m 2242 ls []) := by
  obtain ⟨hfl, hx, hb, hr, hml, hown, hts, hX, hbl, hbA, hlocks, hK, hG, hnc, hA, hAN, hN, hL, hT, hNs⟩ := id C0
  have hok2 := me_okF hka2
  have hsp1 : ∀ k, k < 8 → o_X1_isSpoiled true (f1 k) = false := fun k hk => (hka1 k hk).2
  have hsp2 : ∀ k, k < 8 → o_X1_isSpoiled false (f2 k) = false := fun k hk => (hka2 k hk).2
  refine lv_aload_n hx hb dL_law_2242 rfl (lv_at hl 1 rfl) ?_
  have hPc := hP.sub (ws' := [(h0, eE h1 h2 kn), (h1, eR hw1 hc1 hb1 a1 r1), (hw1, eW true), (hc1, eA cy f1), (hb1, eA cy g1), (h2, eR hw2 hc2 hb2 a2 r2), (hw2, eW false), (hc2, eA cy f2), (hb2, eA cy g2)]) [0, 1, 2, 3, 4, 5, 6, 7, 8] rfl
  have hKc := hK.sub (tys' := [(cy, .long)]) [0] rfl
  refine va_calli (va_runV (As := []) (rest := []) ⟨hx, hb, hml, hown, hts⟩ (k_X2_isSound l dC dI cy h0 h1 hw1 hc1 hb1 h2 hw2 hc2 hb2 a1 r1 f1 g1 a2 r2 f2 g2 kn H.size hok2 hsp1 hsp2) (cwV 0 hts gL_law_X2_isSound rfl rfl rfl (by decide +kernel) ⟨Nat.le_of_ble_eq_true rfl, Nat.le_of_ble_eq_true rfl⟩) (xB.preV hKc hPc (ci := 4) (q0 := 0) rfl rfl) rfl rfl hl.1 rfl (lv_room (Nat.le_of_ble_eq_true rfl)) dL_law_2243 ⟨(show _ ≤ 616450 by omega), (show _ ≤ 7246753 by omega)⟩) hS xA_old (fun q h => hA q (Nat.le_trans hS.1 h)) (fun r_1 u t H locs ht hvm hw hB hz hk hS => ?_)
  replace hw : r_1 = b2i (o_X2_isSound) := hw
  subst r_1
  have hP := xP_keep hP hk
  refine lv_pop hx hb dL_law_2246 rfl ?_
  refine lv_aload_n hx hb dL_law_2247 rfl (lv_at hl 2 rfl) ?_
  have hPc := hP.sub (ws' := [(m0, eM m1 m2 th (r1 + r2) kn)]) [10] rfl
  have hDc := hD.sub (ws' := [(m0, eM m1 m2 th (r1 + r2) kn)]) [10] (by decide +kernel) rfl
  have hKc := hK.sub (tys' := []) [] rfl
  have hFc := va_free (wc := [(m0, eM m1 m2 th (r1 + r2) kn)]) hD hS hA [10] rfl
  refine va_calli (va_runV (As := []) (rest := []) ⟨hx, hb, hml, hown, hts⟩ (k_X5_isSound l dC dI m0 m1 m2 th (r1 + r2) kn H.size N) (cwV 0 hts gL_law_X5_isSound rfl rfl rfl (by decide +kernel) ⟨Nat.le_of_ble_eq_true rfl, Nat.le_of_ble_eq_true rfl⟩) (xM.preV hKc hPc hDc hAN (Nat.le_trans hN hS.1) (hG.kept hS hAN) (ci := 7) (q0 := 0) rfl rfl) rfl rfl hl.1 rfl (lv_room (Nat.le_of_ble_eq_true rfl)) dL_law_2248 ⟨(show _ ≤ 616450 by omega), (show _ ≤ 7246753 by omega)⟩) hS (fun q _ h => hFc q h) hFc (fun r_2 u t H locs ht hvm hw hB hz hk hS => ?_)
  replace hw : r_2 = b2i ((o_X5_isSound).1) := hw
  subst r_2
  obtain ⟨hP1, hD1⟩ := hB
  rw [ht] at hP1
  obtain ⟨hP, hD⟩ := va_join (wr := [(h0, eE h1 h2 kn), (h1, eR hw1 hc1 hb1 a1 r1), (hw1, eW true), (hc1, eA cy f1), (hb1, eA cy g1), (h2, eR hw2 hc2 hb2 a2 r2), (hw2, eW false), (hc2, eA cy f2), (hb2, eA cy g2), (ho, eO nv sv), (m1, eMR true mc1 a1), (mc1, eA cy f1), (m2, eMR false mc2 a2), (mc2, eA cy f2)]) (w1 := [(m0, eM m1 m2 (o_X5_isSound).2 (r1 + r2) kn)]) hP hD [10] [0, 1, 2, 3, 4, 5, 6, 7, 8, 9, 11, 12, 13, 14] rfl rfl (by decide +kernel) (by decide +kernel) hk hFc hP1 hD1
  have hP := hP.sub (ws' := [(h0, eE h1 h2 kn), (h1, eR hw1 hc1 hb1 a1 r1), (hw1, eW true), (hc1, eA cy f1), (hb1, eA cy g1), (h2, eR hw2 hc2 hb2 a2 r2), (hw2, eW false), (hc2, eA cy f2), (hb2, eA cy g2), (ho, eO nv sv), (m0, eM m1 m2 (o_X5_isSound).2 (r1 + r2) kn), (m1, eMR true mc1 a1), (mc1, eA cy f1), (m2, eMR false mc2 a2), (mc2, eA cy f2)]) [0, 1, 2, 3, 4, 5, 6, 7, 8, 9, 14, 10, 11, 12, 13] rfl
  have hD := hD.sub (ws' := [(h0, eE h1 h2 kn), (h1, eR hw1 hc1 hb1 a1 r1), (hw1, eW true), (hc1, eA cy f1), (hb1, eA cy g1), (h2, eR hw2 hc2 hb2 a2 r2), (hw2, eW false), (hc2, eA cy f2), (hb2, eA cy g2), (ho, eO nv sv), (m0, eM m1 m2 (o_X5_isSound).2 (r1 + r2) kn), (m1, eMR true mc1 a1), (mc1, eA cy f1), (m2, eMR false mc2 a2), (mc2, eA cy f2)]) [0, 1, 2, 3, 4, 5, 6, 7, 8, 9, 14, 10, 11, 12, 13] (by decide +kernel) rfl
  refine lv_pop hx hb dL_law_2251 rfl ?_
  refine lv_goto (tgt := 2268) hx hb dL_law_2252 (by decide +kernel) ?_
  refine W.widen (k := cells + 760) (n := slots + 4500) (by omega) (by omega) ?_
  exact K a1 r1 f1 g1 a2 r2 f2 g2 kn nv sv ((o_X5_isSound).2) a1 f1 a2 f2 (r1 + r2) kn _ _ _ rfl rfl rfl rfl rfl rfl hka1 hka2 hP hD hS (lv_sub hl [0, 1, 2, 3, 4] rfl)
set_option maxHeartbeats 4000000 in
set_option maxRecDepth 100000 in
theorem st_48 (l : Launch) (p : Program) (e : Env) (s : State) (m : MethodId) (below : List Frame) (meth : Method) (c : Code) (b L N : Nat) (xs : Nat → Int32) (A : Nat → Prop) (dC : Nat → ClassId) (dI : Nat → Nat → Nat) (cy cB : ClassId) (h0 h1 hw1 hc1 hb1 h2 hw2 hc2 hb2 ho m0 m1 mc1 m2 mc2 : Nat) (C0 : lw_C l p e s m below meth c b L N xs A dC dI cy cB) (i : Nat) (hi : i + 4 ≤ L) (p1 p2 p3 : Int32) (hp1 : xs (i + 1) = p1) (hp2 : xs (i + 2) = p2) (hp3 : xs (i + 3) = p3) (cells slots : Nat) (hcs : cells + 760 ≤ 616450) (hss : slots + 4500 ≤ 7246753) (K : lw_K l p e s m below meth c b L N xs A dC dI cy cB h0 h1 hw1 hc1 hb1 h2 hw2 hc2 hb2 ho m0 m1 mc1 m2 mc2 i (cells + 760) (slots + 4500) 2268) (a1 : Int32) (r1 : Int32) (f1 : Nat → Int64) (g1 : Nat → Int64) (a2 : Int32) (r2 : Int32) (f2 : Nat → Int64) (g2 : Nat → Int64) (kn : Int32) (nv : Int64) (sv : Value) (th : Int32) (H : Heap) (locs : List Loc) (ls : Array Slot) (hka1 : okA true f1) (hka2 : okA false f2) (hP : va_P (dC, dI) xCl [(h0, eE h1 h2 kn), (h1, eR hw1 hc1 hb1 a1 r1), (hw1, eW true), (hc1, eA cy f1), (hb1, eA cy g1), (h2, eR hw2 hc2 hb2 a2 r2), (hw2, eW false), (hc2, eA cy f2), (hb2, eA cy g2), (ho, eO nv sv), (m0, eM m1 m2 th (r1 + r2) kn), (m1, eMR true mc1 a1), (mc1, eA cy f1), (m2, eMR false mc2 a2), (mc2, eA cy f2)] H) (hD : va_D A [(h0, eE h1 h2 kn), (h1, eR hw1 hc1 hb1 a1 r1), (hw1, eW true), (hc1, eA cy f1), (hb1, eA cy g1), (h2, eR hw2 hc2 hb2 a2 r2), (hw2, eW false), (hc2, eA cy f2), (hb2, eA cy g2), (ho, eO nv sv), (m0, eM m1 m2 th (r1 + r2) kn), (m1, eMR true mc1 a1), (mc1, eA cy f1), (m2, eMR false mc2 a2), (mc2, eA cy f2)]) (hS : va_S A s.heap H locs) (hl : lv_has ls 7 [(0, .ref b), (1, .ref h0), (2, .ref m0), (3, .ref ho), (4, .int (nI i))]) : W p l e room_1 s m #[Value.ref b] below meth c H locs cells slots (lw_Z below #[Value.ref b] s) (F0 m 2255 ls []) := by
  obtain ⟨hfl, hx, hb, hr, hml, hown, hts, hX, hbl, hbA, hlocks, hK, hG, hnc, hA, hAN, hN, hL, hT, hNs⟩ := id C0
  have hok2 := me_okF hka2
  have hsp1 : ∀ k, k < 8 → o_X1_isSpoiled true (f1 k) = false := fun k hk => (hka1 k hk).2
  have hsp2 : ∀ k, k < 8 → o_X1_isSpoiled false (f2 k) = false := fun k hk => (hka2 k hk).2
  refine lv_aload_n hx hb dL_law_2255 rfl (lv_at hl 1 rfl) ?_
  have hPc := hP.sub (ws' := [(h0, eE h1 h2 kn), (h1, eR hw1 hc1 hb1 a1 r1), (hw1, eW true), (hc1, eA cy f1), (hb1, eA cy g1), (h2, eR hw2 hc2 hb2 a2 r2), (hw2, eW false), (hc2, eA cy f2), (hb2, eA cy g2)]) [0, 1, 2, 3, 4, 5, 6, 7, 8] rfl
  have hDc := hD.sub (ws' := [(h0, eE h1 h2 kn), (h1, eR hw1 hc1 hb1 a1 r1), (hw1, eW true), (hc1, eA cy f1), (hb1, eA cy g1), (h2, eR hw2 hc2 hb2 a2 r2), (hw2, eW false), (hc2, eA cy f2), (hb2, eA cy g2)]) [0, 1, 2, 3, 4, 5, 6, 7, 8] (by decide +kernel) rfl
  have hKc := hK.sub (tys' := [(cy, .long)]) [0] rfl
  refine va_calll (va_runV (As := []) (rest := []) ⟨hx, hb, hml, hown, hts⟩ (k_X2_digest l hfl dC dI cy h0 h1 hw1 hc1 hb1 h2 hw2 hc2 hb2 a1 r1 f1 g1 a2 r2 f2 g2 kn H.size N hok2 hsp1 hsp2) (cwV 0 hts gL_law_X2_digest rfl rfl rfl (by decide +kernel) ⟨Nat.le_of_ble_eq_true rfl, Nat.le_of_ble_eq_true rfl⟩) (xM.preV hKc hPc hDc hAN (Nat.le_trans hN hS.1) (hG.kept hS hAN) (ci := 4) (q0 := 0) rfl rfl) rfl rfl hl.1 rfl (lv_room (Nat.le_of_ble_eq_true rfl)) dL_law_2256 ⟨(show _ ≤ 616450 by omega), (show _ ≤ 7246753 by omega)⟩) hS xA_old (fun q h => hA q (Nat.le_trans hS.1 h)) (fun r_1 u t H locs ht hvm hw hB hz hk hS => ?_)
  replace hw : r_1 = (o_X2_digest a1 r1 f1 a2 r2 f2 kn) := hw
  subst r_1
  have hP := xP_keep hP hk
  refine lv_pop2_2 hx hb dL_law_2259 rfl ?_
  refine lv_aload_n hx hb dL_law_2260 rfl (lv_at hl 2 rfl) ?_
  have hPc := hP.sub (ws' := [(m0, eM m1 m2 th (r1 + r2) kn), (m1, eMR true mc1 a1), (mc1, eA cy f1), (m2, eMR false mc2 a2), (mc2, eA cy f2)]) [10, 11, 12, 13, 14] rfl
  have hDc := hD.sub (ws' := [(m0, eM m1 m2 th (r1 + r2) kn), (m1, eMR true mc1 a1), (mc1, eA cy f1), (m2, eMR false mc2 a2), (mc2, eA cy f2)]) [10, 11, 12, 13, 14] (by decide +kernel) rfl
  have hKc := hK.sub (tys' := [(cy, .long)]) [0] rfl
  have hFc := va_free (wc := [(m0, eM m1 m2 th (r1 + r2) kn), (m1, eMR true mc1 a1), (mc1, eA cy f1), (m2, eMR false mc2 a2), (mc2, eA cy f2)]) hD hS hA [10, 11, 12, 13, 14] rfl
  refine va_calll (va_runV (As := []) (rest := []) ⟨hx, hb, hml, hown, hts⟩ (k_X5_digest l dC dI cy m0 m1 mc1 m2 mc2 a1 f1 a2 f2 th (r1 + r2) kn H.size N hok2) (cwV 0 hts gL_law_X5_digest rfl rfl rfl (by decide +kernel) ⟨Nat.le_of_ble_eq_true rfl, Nat.le_of_ble_eq_true rfl⟩) (xM.preV hKc hPc hDc hAN (Nat.le_trans hN hS.1) (hG.kept hS hAN) (ci := 7) (q0 := 0) rfl rfl) rfl rfl hl.1 rfl (lv_room (Nat.le_of_ble_eq_true rfl)) dL_law_2261 ⟨(show _ ≤ 616450 by omega), (show _ ≤ 7246753 by omega)⟩) hS (fun q _ h => hFc q h) hFc (fun r_2 u t H locs ht hvm hw hB hz hk hS => ?_)
  replace hw : r_2 = (o_X5_digest a1 f1 a2 f2 (r1 + r2) kn).1 := hw
  subst r_2
  obtain ⟨hP1, hD1⟩ := hB
  rw [ht] at hP1
  obtain ⟨hP, hD⟩ := va_join (wr := [(h0, eE h1 h2 kn), (h1, eR hw1 hc1 hb1 a1 r1), (hw1, eW true), (hc1, eA cy f1), (hb1, eA cy g1), (h2, eR hw2 hc2 hb2 a2 r2), (hw2, eW false), (hc2, eA cy f2), (hb2, eA cy g2), (ho, eO nv sv)]) (w1 := [(m0, eM m1 m2 (o_X5_digest a1 f1 a2 f2 (r1 + r2) kn).2 (r1 + r2) kn), (m1, eMR true mc1 a1), (mc1, eA cy f1), (m2, eMR false mc2 a2), (mc2, eA cy f2)]) hP hD [10, 11, 12, 13, 14] [0, 1, 2, 3, 4, 5, 6, 7, 8, 9] rfl rfl (by decide +kernel) (by decide +kernel) hk hFc hP1 hD1
  have hP := hP.sub (ws' := [(h0, eE h1 h2 kn), (h1, eR hw1 hc1 hb1 a1 r1), (hw1, eW true), (hc1, eA cy f1), (hb1, eA cy g1), (h2, eR hw2 hc2 hb2 a2 r2), (hw2, eW false), (hc2, eA cy f2), (hb2, eA cy g2), (ho, eO nv sv), (m0, eM m1 m2 (o_X5_digest a1 f1 a2 f2 (r1 + r2) kn).2 (r1 + r2) kn), (m1, eMR true mc1 a1), (mc1, eA cy f1), (m2, eMR false mc2 a2), (mc2, eA cy f2)]) [0, 1, 2, 3, 4, 5, 6, 7, 8, 9, 10, 11, 12, 13, 14] rfl
  have hD := hD.sub (ws' := [(h0, eE h1 h2 kn), (h1, eR hw1 hc1 hb1 a1 r1), (hw1, eW true), (hc1, eA cy f1), (hb1, eA cy g1), (h2, eR hw2 hc2 hb2 a2 r2), (hw2, eW false), (hc2, eA cy f2), (hb2, eA cy g2), (ho, eO nv sv), (m0, eM m1 m2 (o_X5_digest a1 f1 a2 f2 (r1 + r2) kn).2 (r1 + r2) kn), (m1, eMR true mc1 a1), (mc1, eA cy f1), (m2, eMR false mc2 a2), (mc2, eA cy f2)]) [0, 1, 2, 3, 4, 5, 6, 7, 8, 9, 10, 11, 12, 13, 14] (by decide +kernel) rfl
  refine lv_pop2_2 hx hb dL_law_2264 rfl ?_
  refine lv_goto (tgt := 2268) hx hb dL_law_2265 (by decide +kernel) ?_
  refine W.widen (k := cells + 760) (n := slots + 4500) (by omega) (by omega) ?_
  exact K a1 r1 f1 g1 a2 r2 f2 g2 kn nv sv ((o_X5_digest a1 f1 a2 f2 (r1 + r2) kn).2) a1 f1 a2 f2 (r1 + r2) kn _ _ _ rfl rfl rfl rfl rfl rfl hka1 hka2 hP hD hS (lv_sub hl [0, 1, 2, 3, 4] rfl)
