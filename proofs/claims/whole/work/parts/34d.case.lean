set_option maxHeartbeats 4000000 in
set_option maxRecDepth 100000 in
theorem st_21 (l : Launch) (p : Program) (e : Env) (s : State) (m : MethodId) (below : List Frame) (meth : Method) (c : Code) (b L N : Nat) (xs : Nat → Int32) (A : Nat → Prop) (dC : Nat → ClassId) (dI : Nat → Nat → Nat) (cy cB : ClassId) (h0 h1 hw1 hc1 hb1 h2 hw2 hc2 hb2 ho m0 m1 mc1 m2 mc2 : Nat) (C0 : lw_C l p e s m below meth c b L N xs A dC dI cy cB) (i : Nat) (hi : i + 4 ≤ L) (p1 p2 p3 : Int32) (hp1 : xs (i + 1) = p1) (hp2 : xs (i + 2) = p2) (hp3 : xs (i + 3) = p3) (cells slots : Nat) (hcs : cells + 760 ≤ 716141) (hss : slots + 4500 ≤ 6947682) (K : lw_K l p e s m below meth c b L N xs A dC dI cy cB h0 h1 hw1 hc1 hb1 h2 hw2 hc2 hb2 ho m0 m1 mc1 m2 mc2 i (cells + 760) (slots + 4500) 3660) (a1 : Int32) (r1 : Int32) (f1 : Nat → Int64) (g1 : Nat → Int64) (a2 : Int32) (r2 : Int32) (f2 : Nat → Int64) (g2 : Nat → Int64) (kn : Int32) (nv : Int64) (sv : Value) (th : Int32) (H : Heap) (locs : List Loc) (ls : Array Slot) (hka1 : okA true f1) (hka2 : okA false f2) (hP : va_P (dC, dI) xCl [(h0, eE h1 h2 kn), (h1, eR hw1 hc1 hb1 a1 r1), (hw1, eW true), (hc1, eA cy f1), (hb1, eA cy g1), (h2, eR hw2 hc2 hb2 a2 r2), (hw2, eW false), (hc2, eA cy f2), (hb2, eA cy g2), (ho, eO nv sv), (m0, eM m1 m2 th (r1 + r2) kn), (m1, eMR true mc1 a1), (mc1, eA cy f1), (m2, eMR false mc2 a2), (mc2, eA cy f2)] H) (hD : va_D A [(h0, eE h1 h2 kn), (h1, eR hw1 hc1 hb1 a1 r1), (hw1, eW true), (hc1, eA cy f1), (hb1, eA cy g1), (h2, eR hw2 hc2 hb2 a2 r2), (hw2, eW false), (hc2, eA cy f2), (hb2, eA cy g2), (ho, eO nv sv), (m0, eM m1 m2 th (r1 + r2) kn), (m1, eMR true mc1 a1), (mc1, eA cy f1), (m2, eMR false mc2 a2), (mc2, eA cy f2)]) (hS : va_S A s.heap H locs) (hl : lv_has ls 7 [(0, .ref b), (1, .ref h0), (2, .ref m0), (3, .ref ho), (4, .int (nI i))]) : W p l e room_1 s m #[Value.ref b] below meth c H locs cells slots (lw_Z below #[Value.ref b] s) (F0 m 1793 ls []) := by
  obtain ⟨hfl, hx, hb, hr, hml, hown, hts, hX, hbl, hbA, hlocks, hK, hG, hnc, hA, hAN, hN, hL, hT, hNs⟩ := id C0
  have hok2 := me_okF hka2
  have hsp1 : ∀ k, k < 8 → o_X1_isSpoiled true (f1 k) = false := fun k hk => (hka1 k hk).2
  have hsp2 : ∀ k, k < 8 → o_X1_isSpoiled false (f2 k) = false := fun k hk => (hka2 k hk).2
  have qx_wideFind : (o_L_wideFind f1 nv p1 false).1 = (o_X5_wideFind f1 p1 false).2 := by have hm := ml_wideFind nv p1 false hka1; rw [hm] <;> rfl
  have qn_wideFind : (o_L_wideFind f1 nv p1 false).2 = if (o_X5_wideFind f1 p1 false).2 = 0 then ((o_X5_wideFind f1 p1 false).1).toInt64 else nv := by have hm := ml_wideFind nv p1 false hka1; rw [hm] <;> rfl
  have qx_wideFind_1 : (o_L_wideFind f1 nv p1 true).1 = (o_X5_wideFind f1 p1 true).2 := by have hm := ml_wideFind nv p1 true hka1; rw [hm] <;> rfl
  have qn_wideFind_1 : (o_L_wideFind f1 nv p1 true).2 = if (o_X5_wideFind f1 p1 true).2 = 0 then ((o_X5_wideFind f1 p1 true).1).toInt64 else nv := by have hm := ml_wideFind nv p1 true hka1; rw [hm] <;> rfl
  refine lv_aload_n hx hb dL_law_1793 rfl (lv_at hl 1 rfl) ?_
  refine lv_aload_n hx hb dL_law_1794 rfl (lv_at hl 0 rfl) ?_
  refine lv_iload hx hb dL_law_1795 (lv_at hl 4 rfl) ?_
  refine lv_iconst (v := 1) hx hb dL_law_1797 (by decide +kernel) ?_
  refine lv_iadd hx hb dL_law_1798 ?_
  rw [nI_1 i]
  refine xa_sld hx hb hX hbl hbA hS (k := i + 1) (by omega) hL hp1 dL_law_1799 ?_
  refine lv_aload_n hx hb dL_law_1800 rfl (lv_at hl 0 rfl) ?_
  refine lv_iload hx hb dL_law_1801 (lv_at hl 4 rfl) ?_
  refine lv_iconst (v := 2) hx hb dL_law_1803 (by decide +kernel) ?_
  refine lv_iadd hx hb dL_law_1804 ?_
  rw [nI_p2 i]
  refine xa_sld hx hb hX hbl hbA hS (k := i + 2) (by omega) hL hp2 dL_law_1805 ?_
  refine lv_if_eq (tgt := 1813) hx hb dL_law_1806 (by decide +kernel) (fun c_1 => ?_) (fun c_1 => ?_)
  · skip
    refine lv_iconst (v := 0) hx hb dL_law_1813 (by decide +kernel) ?_
    refine lv_aload_n hx hb dL_law_1814 rfl (lv_at hl 3 rfl) ?_
    have hPc := hP.sub (ws' := [(h0, eE h1 h2 kn), (h1, eR hw1 hc1 hb1 a1 r1), (hw1, eW true), (hc1, eA cy f1), (hb1, eA cy g1), (h2, eR hw2 hc2 hb2 a2 r2), (hw2, eW false), (hc2, eA cy f2), (hb2, eA cy g2), (ho, eO nv sv)]) [0, 1, 2, 3, 4, 5, 6, 7, 8, 9] rfl
    have hDc := hD.sub (ws' := [(h0, eE h1 h2 kn), (h1, eR hw1 hc1 hb1 a1 r1), (hw1, eW true), (hc1, eA cy f1), (hb1, eA cy g1), (h2, eR hw2 hc2 hb2 a2 r2), (hw2, eW false), (hc2, eA cy f2), (hb2, eA cy g2), (ho, eO nv sv)]) [0, 1, 2, 3, 4, 5, 6, 7, 8, 9] (by decide +kernel) rfl
    have hKc := hK.sub (tys' := [(cy, .long)]) [0] rfl
    have hFc := va_free (wc := [(h0, eE h1 h2 kn), (h1, eR hw1 hc1 hb1 a1 r1), (hw1, eW true), (hc1, eA cy f1), (hb1, eA cy g1), (h2, eR hw2 hc2 hb2 a2 r2), (hw2, eW false), (hc2, eA cy f2), (hb2, eA cy g2), (ho, eO nv sv)]) hD hS hA [0, 1, 2, 3, 4, 5, 6, 7, 8, 9] rfl
    refine va_calli (vx_runSW (As := [.ref h0, .int p1, .int 0, .ref ho]) (rest := []) ⟨hx, hb, hml, hown, hts⟩ (k_L_wideFind l hfl dC dI cy h0 h1 hw1 hc1 hb1 h2 hw2 hc2 hb2 a1 r1 f1 g1 a2 r2 f2 g2 kn ho nv sv H.size N p1 false) (vx_cwSW 4 hts gL_law_L_wideFind rfl rfl rfl (by decide +kernel) ⟨Nat.le_of_ble_eq_true rfl, Nat.le_of_ble_eq_true rfl⟩) (xL.preS hKc hPc hDc hAN (Nat.le_trans hN hS.1) (hG.kept hS hAN) hnc) rfl rfl hl.1 rfl (lv_room (Nat.le_of_ble_eq_true rfl)) dL_law_1815 ⟨(show _ ≤ 716141 by omega), (show _ ≤ 6947682 by omega)⟩) hS (fun q _ h => hFc q h) hFc (fun r_2 u t H locs ht hvm hw hB hz hk hS => ?_)
    replace hw : r_2 = (o_L_wideFind f1 nv p1 false).1 := hw
    subst r_2
    obtain ⟨hP1, hD1⟩ := hB
    rw [ht] at hP1
    obtain ⟨hP, hD⟩ := va_join (wr := [(m0, eM m1 m2 th (r1 + r2) kn), (m1, eMR true mc1 a1), (mc1, eA cy f1), (m2, eMR false mc2 a2), (mc2, eA cy f2)]) (w1 := [(h0, eE h1 h2 kn), (h1, eR hw1 hc1 hb1 a1 r1), (hw1, eW true), (hc1, eA cy f1), (hb1, eA cy g1), (h2, eR hw2 hc2 hb2 a2 r2), (hw2, eW false), (hc2, eA cy f2), (hb2, eA cy g2), (ho, eO (o_L_wideFind f1 nv p1 false).2 sv)]) hP hD [0, 1, 2, 3, 4, 5, 6, 7, 8, 9] [10, 11, 12, 13, 14] rfl rfl (by decide +kernel) (by decide +kernel) hk hFc hP1 hD1
    have hP := hP.sub (ws' := [(h0, eE h1 h2 kn), (h1, eR hw1 hc1 hb1 a1 r1), (hw1, eW true), (hc1, eA cy f1), (hb1, eA cy g1), (h2, eR hw2 hc2 hb2 a2 r2), (hw2, eW false), (hc2, eA cy f2), (hb2, eA cy g2), (ho, eO (o_L_wideFind f1 nv p1 false).2 sv), (m0, eM m1 m2 th (r1 + r2) kn), (m1, eMR true mc1 a1), (mc1, eA cy f1), (m2, eMR false mc2 a2), (mc2, eA cy f2)]) [5, 6, 7, 8, 9, 10, 11, 12, 13, 14, 0, 1, 2, 3, 4] rfl
    have hD := hD.sub (ws' := [(h0, eE h1 h2 kn), (h1, eR hw1 hc1 hb1 a1 r1), (hw1, eW true), (hc1, eA cy f1), (hb1, eA cy g1), (h2, eR hw2 hc2 hb2 a2 r2), (hw2, eW false), (hc2, eA cy f2), (hb2, eA cy g2), (ho, eO (o_L_wideFind f1 nv p1 false).2 sv), (m0, eM m1 m2 th (r1 + r2) kn), (m1, eMR true mc1 a1), (mc1, eA cy f1), (m2, eMR false mc2 a2), (mc2, eA cy f2)]) [5, 6, 7, 8, 9, 10, 11, 12, 13, 14, 0, 1, 2, 3, 4] (by decide +kernel) rfl
    refine lv_istore (lv' := [(5, .int ((o_L_wideFind f1 nv p1 false).1)), (0, .ref b), (1, .ref h0), (2, .ref m0), (3, .ref ho), (4, .int (nI i))]) hx hb dL_law_1818 hl (by decide +kernel) rfl (fun ls hl => ?_)
    refine lv_aload_n hx hb dL_law_1820 rfl (lv_at hl 3 rfl) ?_
    refine lv_aload_n hx hb dL_law_1821 rfl (lv_at hl 1 rfl) ?_
    refine lv_iload hx hb dL_law_1822 (lv_at hl 5 rfl) ?_
    refine lv_iconst (v := 1) hx hb dL_law_1824 (by decide +kernel) ?_
    refine lv_iadd hx hb dL_law_1825 ?_
    rw [nI_1 i]
    refine xa_sld hx hb hX hbl hbA hS (k := i + 1) (by omega) hL hp1 dL_law_1826 ?_
    refine lv_aload_n hx hb dL_law_1827 rfl (lv_at hl 1 rfl) ?_
    refine lv_iload hx hb dL_law_1828 (lv_at hl 5 rfl) ?_
    refine lv_iconst (v := 2) hx hb dL_law_1830 (by decide +kernel) ?_
    refine lv_iadd hx hb dL_law_1831 ?_
    rw [nI_p2 i]
    refine xa_sld hx hb hX hbl hbA hS (k := i + 2) (by omega) hL hp2 dL_law_1832 ?_
    refine lv_if_eq (tgt := 1840) hx hb dL_law_1833 (by decide +kernel) (fun c9 => ?_) (fun c9 => absurd c_1 c9)
    refine lv_iconst (v := 0) hx hb dL_law_1840 (by decide +kernel) ?_
    have hPc := hP.sub (ws' := [(m0, eM m1 m2 th (r1 + r2) kn), (m1, eMR true mc1 a1), (mc1, eA cy f1), (m2, eMR false mc2 a2), (mc2, eA cy f2)]) [10, 11, 12, 13, 14] rfl
    have hDc := hD.sub (ws' := [(m0, eM m1 m2 th (r1 + r2) kn), (m1, eMR true mc1 a1), (mc1, eA cy f1), (m2, eMR false mc2 a2), (mc2, eA cy f2)]) [10, 11, 12, 13, 14] (by decide +kernel) rfl
    have hKc := hK.sub (tys' := [(cy, .long)]) [0] rfl
    have hFc := va_free (wc := [(m0, eM m1 m2 th (r1 + r2) kn), (m1, eMR true mc1 a1), (mc1, eA cy f1), (m2, eMR false mc2 a2), (mc2, eA cy f2)]) hD hS hA [10, 11, 12, 13, 14] rfl
    refine va_calli (va_runV (As := [.int p1, .int 0]) (rest := []) ⟨hx, hb, hml, hown, hts⟩ (k_X5_wideFind l dC dI cy m0 m1 mc1 m2 mc2 a1 f1 a2 f2 th (r1 + r2) kn H.size N p1 false) (cwV 2 hts gL_law_X5_wideFind rfl rfl rfl (by decide +kernel) ⟨Nat.le_of_ble_eq_true rfl, Nat.le_of_ble_eq_true rfl⟩) (xM.preV hKc hPc hDc hAN (Nat.le_trans hN hS.1) (hG.kept hS hAN) (ci := 7) (q0 := 0) rfl rfl) rfl rfl hl.1 rfl (lv_room (Nat.le_of_ble_eq_true rfl)) dL_law_1841 ⟨(show _ ≤ 716141 by omega), (show _ ≤ 6947682 by omega)⟩) hS (fun q _ h => hFc q h) hFc (fun r_3 u t H locs ht hvm hw hB hz hk hS => ?_)
    replace hw : r_3 = (o_X5_wideFind f1 p1 false).1 := hw
    subst r_3
    obtain ⟨hP1, hD1⟩ := hB
    rw [ht] at hP1
    obtain ⟨hP, hD⟩ := va_join (wr := [(h0, eE h1 h2 kn), (h1, eR hw1 hc1 hb1 a1 r1), (hw1, eW true), (hc1, eA cy f1), (hb1, eA cy g1), (h2, eR hw2 hc2 hb2 a2 r2), (hw2, eW false), (hc2, eA cy f2), (hb2, eA cy g2), (ho, eO (o_L_wideFind f1 nv p1 false).2 sv)]) (w1 := [(m0, eM m1 m2 (o_X5_wideFind f1 p1 false).2 (r1 + r2) kn), (m1, eMR true mc1 a1), (mc1, eA cy f1), (m2, eMR false mc2 a2), (mc2, eA cy f2)]) hP hD [10, 11, 12, 13, 14] [0, 1, 2, 3, 4, 5, 6, 7, 8, 9] rfl rfl (by decide +kernel) (by decide +kernel) hk hFc hP1 hD1
    have hP := hP.sub (ws' := [(h0, eE h1 h2 kn), (h1, eR hw1 hc1 hb1 a1 r1), (hw1, eW true), (hc1, eA cy f1), (hb1, eA cy g1), (h2, eR hw2 hc2 hb2 a2 r2), (hw2, eW false), (hc2, eA cy f2), (hb2, eA cy g2), (ho, eO (o_L_wideFind f1 nv p1 false).2 sv), (m0, eM m1 m2 (o_X5_wideFind f1 p1 false).2 (r1 + r2) kn), (m1, eMR true mc1 a1), (mc1, eA cy f1), (m2, eMR false mc2 a2), (mc2, eA cy f2)]) [0, 1, 2, 3, 4, 5, 6, 7, 8, 9, 10, 11, 12, 13, 14] rfl
    have hD := hD.sub (ws' := [(h0, eE h1 h2 kn), (h1, eR hw1 hc1 hb1 a1 r1), (hw1, eW true), (hc1, eA cy f1), (hb1, eA cy g1), (h2, eR hw2 hc2 hb2 a2 r2), (hw2, eW false), (hc2, eA cy f2), (hb2, eA cy g2), (ho, eO (o_L_wideFind f1 nv p1 false).2 sv), (m0, eM m1 m2 (o_X5_wideFind f1 p1 false).2 (r1 + r2) kn), (m1, eMR true mc1 a1), (mc1, eA cy f1), (m2, eMR false mc2 a2), (mc2, eA cy f2)]) [0, 1, 2, 3, 4, 5, 6, 7, 8, 9, 10, 11, 12, 13, 14] (by decide +kernel) rfl
    refine lv_istore (lv' := [(6, .int ((o_X5_wideFind f1 p1 false).1)), (5, .int ((o_L_wideFind f1 nv p1 false).1)), (0, .ref b), (1, .ref h0), (2, .ref m0), (3, .ref ho), (4, .int (nI i))]) hx hb dL_law_1844 hl (by decide +kernel) rfl (fun ls hl => ?_)
    refine lv_aload_n hx hb dL_law_1846 rfl (lv_at hl 4 rfl) ?_
    have hPc := hP.sub (ws' := [(m0, eM m1 m2 (o_X5_wideFind f1 p1 false).2 (r1 + r2) kn)]) [10] rfl
    have hKc := hK.sub (tys' := []) [] rfl
    refine va_calli (va_runV (As := []) (rest := []) ⟨hx, hb, hml, hown, hts⟩ (k_X5_thrown l dC dI m0 m1 m2 ((o_X5_wideFind f1 p1 false).2) (r1 + r2) kn H.size) (cwV 0 hts gL_law_X5_thrown rfl rfl rfl (by decide +kernel) ⟨Nat.le_of_ble_eq_true rfl, Nat.le_of_ble_eq_true rfl⟩) (xB.preV hKc hPc (ci := 7) (q0 := 0) rfl rfl) rfl rfl hl.1 rfl (lv_room (Nat.le_of_ble_eq_true rfl)) dL_law_1847 ⟨(show _ ≤ 716141 by omega), (show _ ≤ 6947682 by omega)⟩) hS xA_old (fun q h => hA q (Nat.le_trans hS.1 h)) (fun r_4 u t H locs ht hvm hw hB hz hk hS => ?_)
    replace hw : r_4 = (o_X5_thrown ((o_X5_wideFind f1 p1 false).2)) := hw
    subst r_4
    have hP := xP_keep hP hk
    refine lv_iload hx hb dL_law_1850 (lv_at hl 1 rfl) ?_
    refine lv_icmp_eq (tgt := 1857) hx hb dL_law_1852 (by decide +kernel) (fun c9 => ?_) (fun c9 => absurd (show o_X5_thrown _ = _ from (qx_wideFind).symm) c9)
    refine lv_iload hx hb dL_law_1857 (lv_at hl 1 rfl) ?_
    refine lv_if_ne (tgt := 1875) hx hb dL_law_1859 (by decide +kernel) (fun c_5 => ?_) (fun c_5 => ?_)
    · skip
      refine lv_goto (tgt := 3660) hx hb dL_law_1875 (by decide +kernel) ?_
      refine W.widen (k := cells + 760) (n := slots + 4500) (by omega) (by omega) ?_
      exact K a1 r1 f1 g1 a2 r2 f2 g2 kn ((o_L_wideFind f1 nv p1 false).2) sv ((o_X5_wideFind f1 p1 false).2) a1 f1 a2 f2 (r1 + r2) kn _ _ _ rfl rfl rfl rfl rfl rfl hka1 hka2 hP hD hS (lv_sub hl [2, 3, 4, 5, 6] rfl)
    · skip
      refine lv_aload_n hx hb dL_law_1862 rfl (lv_at hl 5 rfl) ?_
      refine va_getN (D := (dC, dI)) (ci := 5) (v := .long ((o_L_wideFind f1 nv p1 false).2)) (C := RX3) (T := TX3) (N := 2) hx hb hts (by decide +kernel) hown hK hP 9 rfl rfl 0 (by decide +kernel) (va_Nw.use rfl (hG.1 (.fieldLinkNest RL 13 "EdgefloatsLaw$Out" "n" "J" RL) (List.mem_of_getElem? (i := 6) rfl))) (fun _ h9 => h9) rfl dL_law_1863 ?_
      refine lv_iload hx hb dL_law_1866 (lv_at hl 0 rfl) ?_
      refine lv_i2l (v := (((o_X5_wideFind f1 p1 false).1).toInt64)) hx hb dL_law_1868 rfl ?_
      refine xc_eq (tgt := 1875) hx hb dL_law_1869 dL_law_1870 (by decide +kernel) (fun c9 => ?_) (fun c9 => absurd ((qn_wideFind).trans (if_pos ((qx_wideFind).symm.trans c_5))) c9)
      refine lv_goto (tgt := 3660) hx hb dL_law_1875 (by decide +kernel) ?_
      refine W.widen (k := cells + 760) (n := slots + 4500) (by omega) (by omega) ?_
      exact K a1 r1 f1 g1 a2 r2 f2 g2 kn ((o_L_wideFind f1 nv p1 false).2) sv ((o_X5_wideFind f1 p1 false).2) a1 f1 a2 f2 (r1 + r2) kn _ _ _ rfl rfl rfl rfl rfl rfl hka1 hka2 hP hD hS (lv_sub hl [2, 3, 4, 5, 6] rfl)
  · skip
    refine lv_iconst (v := 1) hx hb dL_law_1809 (by decide +kernel) ?_
    refine lv_goto (tgt := 1814) hx hb dL_law_1810 (by decide +kernel) ?_
    refine lv_aload_n hx hb dL_law_1814 rfl (lv_at hl 3 rfl) ?_
    have hPc := hP.sub (ws' := [(h0, eE h1 h2 kn), (h1, eR hw1 hc1 hb1 a1 r1), (hw1, eW true), (hc1, eA cy f1), (hb1, eA cy g1), (h2, eR hw2 hc2 hb2 a2 r2), (hw2, eW false), (hc2, eA cy f2), (hb2, eA cy g2), (ho, eO nv sv)]) [0, 1, 2, 3, 4, 5, 6, 7, 8, 9] rfl
    have hDc := hD.sub (ws' := [(h0, eE h1 h2 kn), (h1, eR hw1 hc1 hb1 a1 r1), (hw1, eW true), (hc1, eA cy f1), (hb1, eA cy g1), (h2, eR hw2 hc2 hb2 a2 r2), (hw2, eW false), (hc2, eA cy f2), (hb2, eA cy g2), (ho, eO nv sv)]) [0, 1, 2, 3, 4, 5, 6, 7, 8, 9] (by decide +kernel) rfl
    have hKc := hK.sub (tys' := [(cy, .long)]) [0] rfl
    have hFc := va_free (wc := [(h0, eE h1 h2 kn), (h1, eR hw1 hc1 hb1 a1 r1), (hw1, eW true), (hc1, eA cy f1), (hb1, eA cy g1), (h2, eR hw2 hc2 hb2 a2 r2), (hw2, eW false), (hc2, eA cy f2), (hb2, eA cy g2), (ho, eO nv sv)]) hD hS hA [0, 1, 2, 3, 4, 5, 6, 7, 8, 9] rfl
    refine va_calli (vx_runSW (As := [.ref h0, .int p1, .int 1, .ref ho]) (rest := []) ⟨hx, hb, hml, hown, hts⟩ (k_L_wideFind l hfl dC dI cy h0 h1 hw1 hc1 hb1 h2 hw2 hc2 hb2 a1 r1 f1 g1 a2 r2 f2 g2 kn ho nv sv H.size N p1 true) (vx_cwSW 4 hts gL_law_L_wideFind rfl rfl rfl (by decide +kernel) ⟨Nat.le_of_ble_eq_true rfl, Nat.le_of_ble_eq_true rfl⟩) (xL.preS hKc hPc hDc hAN (Nat.le_trans hN hS.1) (hG.kept hS hAN) hnc) rfl rfl hl.1 rfl (lv_room (Nat.le_of_ble_eq_true rfl)) dL_law_1815 ⟨(show _ ≤ 716141 by omega), (show _ ≤ 6947682 by omega)⟩) hS (fun q _ h => hFc q h) hFc (fun r_6 u t H locs ht hvm hw hB hz hk hS => ?_)
    replace hw : r_6 = (o_L_wideFind f1 nv p1 true).1 := hw
    subst r_6
    obtain ⟨hP1, hD1⟩ := hB
    rw [ht] at hP1
    obtain ⟨hP, hD⟩ := va_join (wr := [(m0, eM m1 m2 th (r1 + r2) kn), (m1, eMR true mc1 a1), (mc1, eA cy f1), (m2, eMR false mc2 a2), (mc2, eA cy f2)]) (w1 := [(h0, eE h1 h2 kn), (h1, eR hw1 hc1 hb1 a1 r1), (hw1, eW true), (hc1, eA cy f1), (hb1, eA cy g1), (h2, eR hw2 hc2 hb2 a2 r2), (hw2, eW false), (hc2, eA cy f2), (hb2, eA cy g2), (ho, eO (o_L_wideFind f1 nv p1 true).2 sv)]) hP hD [0, 1, 2, 3, 4, 5, 6, 7, 8, 9] [10, 11, 12, 13, 14] rfl rfl (by decide +kernel) (by decide +kernel) hk hFc hP1 hD1
    have hP := hP.sub (ws' := [(h0, eE h1 h2 kn), (h1, eR hw1 hc1 hb1 a1 r1), (hw1, eW true), (hc1, eA cy f1), (hb1, eA cy g1), (h2, eR hw2 hc2 hb2 a2 r2), (hw2, eW false), (hc2, eA cy f2), (hb2, eA cy g2), (ho, eO (o_L_wideFind f1 nv p1 true).2 sv), (m0, eM m1 m2 th (r1 + r2) kn), (m1, eMR true mc1 a1), (mc1, eA cy f1), (m2, eMR false mc2 a2), (mc2, eA cy f2)]) [5, 6, 7, 8, 9, 10, 11, 12, 13, 14, 0, 1, 2, 3, 4] rfl
    have hD := hD.sub (ws' := [(h0, eE h1 h2 kn), (h1, eR hw1 hc1 hb1 a1 r1), (hw1, eW true), (hc1, eA cy f1), (hb1, eA cy g1), (h2, eR hw2 hc2 hb2 a2 r2), (hw2, eW false), (hc2, eA cy f2), (hb2, eA cy g2), (ho, eO (o_L_wideFind f1 nv p1 true).2 sv), (m0, eM m1 m2 th (r1 + r2) kn), (m1, eMR true mc1 a1), (mc1, eA cy f1), (m2, eMR false mc2 a2), (mc2, eA cy f2)]) [5, 6, 7, 8, 9, 10, 11, 12, 13, 14, 0, 1, 2, 3, 4] (by decide +kernel) rfl
    refine lv_istore (lv' := [(5, .int ((o_L_wideFind f1 nv p1 true).1)), (0, .ref b), (1, .ref h0), (2, .ref m0), (3, .ref ho), (4, .int (nI i))]) hx hb dL_law_1818 hl (by decide +kernel) rfl (fun ls hl => ?_)
    refine lv_aload_n hx hb dL_law_1820 rfl (lv_at hl 3 rfl) ?_
    refine lv_aload_n hx hb dL_law_1821 rfl (lv_at hl 1 rfl) ?_
    refine lv_iload hx hb dL_law_1822 (lv_at hl 5 rfl) ?_
    refine lv_iconst (v := 1) hx hb dL_law_1824 (by decide +kernel) ?_
    refine lv_iadd hx hb dL_law_1825 ?_
    rw [nI_1 i]
    refine xa_sld hx hb hX hbl hbA hS (k := i + 1) (by omega) hL hp1 dL_law_1826 ?_
    refine lv_aload_n hx hb dL_law_1827 rfl (lv_at hl 1 rfl) ?_
    refine lv_iload hx hb dL_law_1828 (lv_at hl 5 rfl) ?_
    refine lv_iconst (v := 2) hx hb dL_law_1830 (by decide +kernel) ?_
    refine lv_iadd hx hb dL_law_1831 ?_
    rw [nI_p2 i]
    refine xa_sld hx hb hX hbl hbA hS (k := i + 2) (by omega) hL hp2 dL_law_1832 ?_
    refine lv_if_eq (tgt := 1840) hx hb dL_law_1833 (by decide +kernel) (fun c9 => absurd c9 c_1) (fun c9 => ?_)
    refine lv_iconst (v := 1) hx hb dL_law_1836 (by decide +kernel) ?_
    refine lv_goto (tgt := 1841) hx hb dL_law_1837 (by decide +kernel) ?_
    have hPc := hP.sub (ws' := [(m0, eM m1 m2 th (r1 + r2) kn), (m1, eMR true mc1 a1), (mc1, eA cy f1), (m2, eMR false mc2 a2), (mc2, eA cy f2)]) [10, 11, 12, 13, 14] rfl
    have hDc := hD.sub (ws' := [(m0, eM m1 m2 th (r1 + r2) kn), (m1, eMR true mc1 a1), (mc1, eA cy f1), (m2, eMR false mc2 a2), (mc2, eA cy f2)]) [10, 11, 12, 13, 14] (by decide +kernel) rfl
    have hKc := hK.sub (tys' := [(cy, .long)]) [0] rfl
    have hFc := va_free (wc := [(m0, eM m1 m2 th (r1 + r2) kn), (m1, eMR true mc1 a1), (mc1, eA cy f1), (m2, eMR false mc2 a2), (mc2, eA cy f2)]) hD hS hA [10, 11, 12, 13, 14] rfl
    refine va_calli (va_runV (As := [.int p1, .int 1]) (rest := []) ⟨hx, hb, hml, hown, hts⟩ (k_X5_wideFind l dC dI cy m0 m1 mc1 m2 mc2 a1 f1 a2 f2 th (r1 + r2) kn H.size N p1 true) (cwV 2 hts gL_law_X5_wideFind rfl rfl rfl (by decide +kernel) ⟨Nat.le_of_ble_eq_true rfl, Nat.le_of_ble_eq_true rfl⟩) (xM.preV hKc hPc hDc hAN (Nat.le_trans hN hS.1) (hG.kept hS hAN) (ci := 7) (q0 := 0) rfl rfl) rfl rfl hl.1 rfl (lv_room (Nat.le_of_ble_eq_true rfl)) dL_law_1841 ⟨(show _ ≤ 716141 by omega), (show _ ≤ 6947682 by omega)⟩) hS (fun q _ h => hFc q h) hFc (fun r_7 u t H locs ht hvm hw hB hz hk hS => ?_)
    replace hw : r_7 = (o_X5_wideFind f1 p1 true).1 := hw
    subst r_7
    obtain ⟨hP1, hD1⟩ := hB
    rw [ht] at hP1
    obtain ⟨hP, hD⟩ := va_join (wr := [(h0, eE h1 h2 kn), (h1, eR hw1 hc1 hb1 a1 r1), (hw1, eW true), (hc1, eA cy f1), (hb1, eA cy g1), (h2, eR hw2 hc2 hb2 a2 r2), (hw2, eW false), (hc2, eA cy f2), (hb2, eA cy g2), (ho, eO (o_L_wideFind f1 nv p1 true).2 sv)]) (w1 := [(m0, eM m1 m2 (o_X5_wideFind f1 p1 true).2 (r1 + r2) kn), (m1, eMR true mc1 a1), (mc1, eA cy f1), (m2, eMR false mc2 a2), (mc2, eA cy f2)]) hP hD [10, 11, 12, 13, 14] [0, 1, 2, 3, 4, 5, 6, 7, 8, 9] rfl rfl (by decide +kernel) (by decide +kernel) hk hFc hP1 hD1
    have hP := hP.sub (ws' := [(h0, eE h1 h2 kn), (h1, eR hw1 hc1 hb1 a1 r1), (hw1, eW true), (hc1, eA cy f1), (hb1, eA cy g1), (h2, eR hw2 hc2 hb2 a2 r2), (hw2, eW false), (hc2, eA cy f2), (hb2, eA cy g2), (ho, eO (o_L_wideFind f1 nv p1 true).2 sv), (m0, eM m1 m2 (o_X5_wideFind f1 p1 true).2 (r1 + r2) kn), (m1, eMR true mc1 a1), (mc1, eA cy f1), (m2, eMR false mc2 a2), (mc2, eA cy f2)]) [0, 1, 2, 3, 4, 5, 6, 7, 8, 9, 10, 11, 12, 13, 14] rfl
    have hD := hD.sub (ws' := [(h0, eE h1 h2 kn), (h1, eR hw1 hc1 hb1 a1 r1), (hw1, eW true), (hc1, eA cy f1), (hb1, eA cy g1), (h2, eR hw2 hc2 hb2 a2 r2), (hw2, eW false), (hc2, eA cy f2), (hb2, eA cy g2), (ho, eO (o_L_wideFind f1 nv p1 true).2 sv), (m0, eM m1 m2 (o_X5_wideFind f1 p1 true).2 (r1 + r2) kn), (m1, eMR true mc1 a1), (mc1, eA cy f1), (m2, eMR false mc2 a2), (mc2, eA cy f2)]) [0, 1, 2, 3, 4, 5, 6, 7, 8, 9, 10, 11, 12, 13, 14] (by decide +kernel) rfl
    refine lv_istore (lv' := [(6, .int ((o_X5_wideFind f1 p1 true).1)), (5, .int ((o_L_wideFind f1 nv p1 true).1)), (0, .ref b), (1, .ref h0), (2, .ref m0), (3, .ref ho), (4, .int (nI i))]) hx hb dL_law_1844 hl (by decide +kernel) rfl (fun ls hl => ?_)
    refine lv_aload_n hx hb dL_law_1846 rfl (lv_at hl 4 rfl) ?_
    have hPc := hP.sub (ws' := [(m0, eM m1 m2 (o_X5_wideFind f1 p1 true).2 (r1 + r2) kn)]) [10] rfl
    have hKc := hK.sub (tys' := []) [] rfl
    refine va_calli (va_runV (As := []) (rest := []) ⟨hx, hb, hml, hown, hts⟩ (k_X5_thrown l dC dI m0 m1 m2 ((o_X5_wideFind f1 p1 true).2) (r1 + r2) kn H.size) (cwV 0 hts gL_law_X5_thrown rfl rfl rfl (by decide +kernel) ⟨Nat.le_of_ble_eq_true rfl, Nat.le_of_ble_eq_true rfl⟩) (xB.preV hKc hPc (ci := 7) (q0 := 0) rfl rfl) rfl rfl hl.1 rfl (lv_room (Nat.le_of_ble_eq_true rfl)) dL_law_1847 ⟨(show _ ≤ 716141 by omega), (show _ ≤ 6947682 by omega)⟩) hS xA_old (fun q h => hA q (Nat.le_trans hS.1 h)) (fun r_8 u t H locs ht hvm hw hB hz hk hS => ?_)
    replace hw : r_8 = (o_X5_thrown ((o_X5_wideFind f1 p1 true).2)) := hw
    subst r_8
    have hP := xP_keep hP hk
    refine lv_iload hx hb dL_law_1850 (lv_at hl 1 rfl) ?_
    refine lv_icmp_eq (tgt := 1857) hx hb dL_law_1852 (by decide +kernel) (fun c9 => ?_) (fun c9 => absurd (show o_X5_thrown _ = _ from (qx_wideFind_1).symm) c9)
    refine lv_iload hx hb dL_law_1857 (lv_at hl 1 rfl) ?_
    refine lv_if_ne (tgt := 1875) hx hb dL_law_1859 (by decide +kernel) (fun c_9 => ?_) (fun c_9 => ?_)
    · skip
      refine lv_goto (tgt := 3660) hx hb dL_law_1875 (by decide +kernel) ?_
      refine W.widen (k := cells + 760) (n := slots + 4500) (by omega) (by omega) ?_
      exact K a1 r1 f1 g1 a2 r2 f2 g2 kn ((o_L_wideFind f1 nv p1 true).2) sv ((o_X5_wideFind f1 p1 true).2) a1 f1 a2 f2 (r1 + r2) kn _ _ _ rfl rfl rfl rfl rfl rfl hka1 hka2 hP hD hS (lv_sub hl [2, 3, 4, 5, 6] rfl)
    · skip
      refine lv_aload_n hx hb dL_law_1862 rfl (lv_at hl 5 rfl) ?_
      refine va_getN (D := (dC, dI)) (ci := 5) (v := .long ((o_L_wideFind f1 nv p1 true).2)) (C := RX3) (T := TX3) (N := 2) hx hb hts (by decide +kernel) hown hK hP 9 rfl rfl 0 (by decide +kernel) (va_Nw.use rfl (hG.1 (.fieldLinkNest RL 13 "EdgefloatsLaw$Out" "n" "J" RL) (List.mem_of_getElem? (i := 6) rfl))) (fun _ h9 => h9) rfl dL_law_1863 ?_
      refine lv_iload hx hb dL_law_1866 (lv_at hl 0 rfl) ?_
      refine lv_i2l (v := (((o_X5_wideFind f1 p1 true).1).toInt64)) hx hb dL_law_1868 rfl ?_
      refine xc_eq (tgt := 1875) hx hb dL_law_1869 dL_law_1870 (by decide +kernel) (fun c9 => ?_) (fun c9 => absurd ((qn_wideFind_1).trans (if_pos ((qx_wideFind_1).symm.trans c_9))) c9)
      refine lv_goto (tgt := 3660) hx hb dL_law_1875 (by decide +kernel) ?_
      refine W.widen (k := cells + 760) (n := slots + 4500) (by omega) (by omega) ?_
      exact K a1 r1 f1 g1 a2 r2 f2 g2 kn ((o_L_wideFind f1 nv p1 true).2) sv ((o_X5_wideFind f1 p1 true).2) a1 f1 a2 f2 (r1 + r2) kn _ _ _ rfl rfl rfl rfl rfl rfl hka1 hka2 hP hD hS (lv_sub hl [2, 3, 4, 5, 6] rfl)
set_option maxHeartbeats 4000000 in
set_option maxRecDepth 100000 in
theorem st_22 (l : Launch) (p : Program) (e : Env) (s : State) (m : MethodId) (below : List Frame) (meth : Method) (c : Code) (b L N : Nat) (xs : Nat → Int32) (A : Nat → Prop) (dC : Nat → ClassId) (dI : Nat → Nat → Nat) (cy cB : ClassId) (h0 h1 hw1 hc1 hb1 h2 hw2 hc2 hb2 ho m0 m1 mc1 m2 mc2 : Nat) (C0 : lw_C l p e s m below meth c b L N xs A dC dI cy cB) (i : Nat) (hi : i + 4 ≤ L) (p1 p2 p3 : Int32) (hp1 : xs (i + 1) = p1) (hp2 : xs (i + 2) = p2) (hp3 : xs (i + 3) = p3) (cells slots : Nat) (hcs : cells + 760 ≤ 716141) (hss : slots + 4500 ≤ 6947682) (K : lw_K l p e s m below meth c b L N xs A dC dI cy cB h0 h1 hw1 hc1 hb1 h2 hw2 hc2 hb2 ho m0 m1 mc1 m2 mc2 i (cells + 760) (slots + 4500) 3660) (a1 : Int32) (r1 : Int32) (f1 : Nat → Int64) (g1 : Nat → Int64) (a2 : Int32) (r2 : Int32) (f2 : Nat → Int64) (g2 : Nat → Int64) (kn : Int32) (nv : Int64) (sv : Value) (th : Int32) (H : Heap) (locs : List Loc) (ls : Array Slot) (hka1 : okA true f1) (hka2 : okA false f2) (hP : va_P (dC, dI) xCl [(h0, eE h1 h2 kn), (h1, eR hw1 hc1 hb1 a1 r1), (hw1, eW true), (hc1, eA cy f1), (hb1, eA cy g1), (h2, eR hw2 hc2 hb2 a2 r2), (hw2, eW false), (hc2, eA cy f2), (hb2, eA cy g2), (ho, eO nv sv), (m0, eM m1 m2 th (r1 + r2) kn), (m1, eMR true mc1 a1), (mc1, eA cy f1), (m2, eMR false mc2 a2), (mc2, eA cy f2)] H) (hD : va_D A [(h0, eE h1 h2 kn), (h1, eR hw1 hc1 hb1 a1 r1), (hw1, eW true), (hc1, eA cy f1), (hb1, eA cy g1), (h2, eR hw2 hc2 hb2 a2 r2), (hw2, eW false), (hc2, eA cy f2), (hb2, eA cy g2), (ho, eO nv sv), (m0, eM m1 m2 th (r1 + r2) kn), (m1, eMR true mc1 a1), (mc1, eA cy f1), (m2, eMR false mc2 a2), (mc2, eA cy f2)]) (hS : va_S A s.heap H locs) (hl : lv_has ls 7 [(0, .ref b), (1, .ref h0), (2, .ref m0), (3, .ref ho), (4, .int (nI i))]) : W p l e room_1 s m #[Value.ref b] below meth c H locs cells slots (lw_Z below #[Value.ref b] s) (F0 m 1878 ls []) := by
  obtain ⟨hfl, hx, hb, hr, hml, hown, hts, hX, hbl, hbA, hlocks, hK, hG, hnc, hA, hAN, hN, hL, hT, hNs⟩ := id C0
  have hok2 := me_okF hka2
  have hsp1 : ∀ k, k < 8 → o_X1_isSpoiled true (f1 k) = false := fun k hk => (hka1 k hk).2
  have hsp2 : ∀ k, k < 8 → o_X1_isSpoiled false (f2 k) = false := fun k hk => (hka2 k hk).2
  have qx_wideHas : (o_L_wideHas f1 nv p1).1 = (o_X5_wideHas f1 p1).2 := by have hm := ml_wideHas nv p1 hka1; rw [hm] <;> rfl
  have qn_wideHas : (o_L_wideHas f1 nv p1).2 = if (o_X5_wideHas f1 p1).2 = 0 then (if (o_X5_wideHas f1 p1).1 = true then 1 else 0) else nv := by have hm := ml_wideHas nv p1 hka1; rw [hm] <;> rfl
  refine lv_aload_n hx hb dL_law_1878 rfl (lv_at hl 1 rfl) ?_
  refine lv_aload_n hx hb dL_law_1879 rfl (lv_at hl 0 rfl) ?_
  refine lv_iload hx hb dL_law_1880 (lv_at hl 4 rfl) ?_
  refine lv_iconst (v := 1) hx hb dL_law_1882 (by decide +kernel) ?_
  refine lv_iadd hx hb dL_law_1883 ?_
  rw [nI_1 i]
  refine xa_sld hx hb hX hbl hbA hS (k := i + 1) (by omega) hL hp1 dL_law_1884 ?_
  refine lv_aload_n hx hb dL_law_1885 rfl (lv_at hl 3 rfl) ?_
  have hPc := hP.sub (ws' := [(h0, eE h1 h2 kn), (h1, eR hw1 hc1 hb1 a1 r1), (hw1, eW true), (hc1, eA cy f1), (hb1, eA cy g1), (h2, eR hw2 hc2 hb2 a2 r2), (hw2, eW false), (hc2, eA cy f2), (hb2, eA cy g2), (ho, eO nv sv)]) [0, 1, 2, 3, 4, 5, 6, 7, 8, 9] rfl
  have hDc := hD.sub (ws' := [(h0, eE h1 h2 kn), (h1, eR hw1 hc1 hb1 a1 r1), (hw1, eW true), (hc1, eA cy f1), (hb1, eA cy g1), (h2, eR hw2 hc2 hb2 a2 r2), (hw2, eW false), (hc2, eA cy f2), (hb2, eA cy g2), (ho, eO nv sv)]) [0, 1, 2, 3, 4, 5, 6, 7, 8, 9] (by decide +kernel) rfl
  have hKc := hK.sub (tys' := [(cy, .long)]) [0] rfl
  have hFc := va_free (wc := [(h0, eE h1 h2 kn), (h1, eR hw1 hc1 hb1 a1 r1), (hw1, eW true), (hc1, eA cy f1), (hb1, eA cy g1), (h2, eR hw2 hc2 hb2 a2 r2), (hw2, eW false), (hc2, eA cy f2), (hb2, eA cy g2), (ho, eO nv sv)]) hD hS hA [0, 1, 2, 3, 4, 5, 6, 7, 8, 9] rfl
  refine va_calli (vx_runSW (As := [.ref h0, .int p1, .ref ho]) (rest := []) ⟨hx, hb, hml, hown, hts⟩ (k_L_wideHas l hfl dC dI cy h0 h1 hw1 hc1 hb1 h2 hw2 hc2 hb2 a1 r1 f1 g1 a2 r2 f2 g2 kn ho nv sv H.size N p1) (vx_cwSW 3 hts gL_law_L_wideHas rfl rfl rfl (by decide +kernel) ⟨Nat.le_of_ble_eq_true rfl, Nat.le_of_ble_eq_true rfl⟩) (xL.preS hKc hPc hDc hAN (Nat.le_trans hN hS.1) (hG.kept hS hAN) hnc) rfl rfl hl.1 rfl (lv_room (Nat.le_of_ble_eq_true rfl)) dL_law_1886 ⟨(show _ ≤ 716141 by omega), (show _ ≤ 6947682 by omega)⟩) hS (fun q _ h => hFc q h) hFc (fun r_1 u t H locs ht hvm hw hB hz hk hS => ?_)
  replace hw : r_1 = (o_L_wideHas f1 nv p1).1 := hw
  subst r_1
  obtain ⟨hP1, hD1⟩ := hB
  rw [ht] at hP1
  obtain ⟨hP, hD⟩ := va_join (wr := [(m0, eM m1 m2 th (r1 + r2) kn), (m1, eMR true mc1 a1), (mc1, eA cy f1), (m2, eMR false mc2 a2), (mc2, eA cy f2)]) (w1 := [(h0, eE h1 h2 kn), (h1, eR hw1 hc1 hb1 a1 r1), (hw1, eW true), (hc1, eA cy f1), (hb1, eA cy g1), (h2, eR hw2 hc2 hb2 a2 r2), (hw2, eW false), (hc2, eA cy f2), (hb2, eA cy g2), (ho, eO (o_L_wideHas f1 nv p1).2 sv)]) hP hD [0, 1, 2, 3, 4, 5, 6, 7, 8, 9] [10, 11, 12, 13, 14] rfl rfl (by decide +kernel) (by decide +kernel) hk hFc hP1 hD1
  have hP := hP.sub (ws' := [(h0, eE h1 h2 kn), (h1, eR hw1 hc1 hb1 a1 r1), (hw1, eW true), (hc1, eA cy f1), (hb1, eA cy g1), (h2, eR hw2 hc2 hb2 a2 r2), (hw2, eW false), (hc2, eA cy f2), (hb2, eA cy g2), (ho, eO (o_L_wideHas f1 nv p1).2 sv), (m0, eM m1 m2 th (r1 + r2) kn), (m1, eMR true mc1 a1), (mc1, eA cy f1), (m2, eMR false mc2 a2), (mc2, eA cy f2)]) [5, 6, 7, 8, 9, 10, 11, 12, 13, 14, 0, 1, 2, 3, 4] rfl
  have hD := hD.sub (ws' := [(h0, eE h1 h2 kn), (h1, eR hw1 hc1 hb1 a1 r1), (hw1, eW true), (hc1, eA cy f1), (hb1, eA cy g1), (h2, eR hw2 hc2 hb2 a2 r2), (hw2, eW false), (hc2, eA cy f2), (hb2, eA cy g2), (ho, eO (o_L_wideHas f1 nv p1).2 sv), (m0, eM m1 m2 th (r1 + r2) kn), (m1, eMR true mc1 a1), (mc1, eA cy f1), (m2, eMR false mc2 a2), (mc2, eA cy f2)]) [5, 6, 7, 8, 9, 10, 11, 12, 13, 14, 0, 1, 2, 3, 4] (by decide +kernel) rfl
  refine lv_istore (lv' := [(5, .int ((o_L_wideHas f1 nv p1).1)), (0, .ref b), (1, .ref h0), (2, .ref m0), (3, .ref ho), (4, .int (nI i))]) hx hb dL_law_1889 hl (by decide +kernel) rfl (fun ls hl => ?_)
  refine lv_aload_n hx hb dL_law_1891 rfl (lv_at hl 3 rfl) ?_
  refine lv_aload_n hx hb dL_law_1892 rfl (lv_at hl 1 rfl) ?_
  refine lv_iload hx hb dL_law_1893 (lv_at hl 5 rfl) ?_
  refine lv_iconst (v := 1) hx hb dL_law_1895 (by decide +kernel) ?_
  refine lv_iadd hx hb dL_law_1896 ?_
  rw [nI_1 i]
  refine xa_sld hx hb hX hbl hbA hS (k := i + 1) (by omega) hL hp1 dL_law_1897 ?_
  have hPc := hP.sub (ws' := [(m0, eM m1 m2 th (r1 + r2) kn), (m1, eMR true mc1 a1), (mc1, eA cy f1), (m2, eMR false mc2 a2), (mc2, eA cy f2)]) [10, 11, 12, 13, 14] rfl
  have hDc := hD.sub (ws' := [(m0, eM m1 m2 th (r1 + r2) kn), (m1, eMR true mc1 a1), (mc1, eA cy f1), (m2, eMR false mc2 a2), (mc2, eA cy f2)]) [10, 11, 12, 13, 14] (by decide +kernel) rfl
  have hKc := hK.sub (tys' := [(cy, .long)]) [0] rfl
  have hFc := va_free (wc := [(m0, eM m1 m2 th (r1 + r2) kn), (m1, eMR true mc1 a1), (mc1, eA cy f1), (m2, eMR false mc2 a2), (mc2, eA cy f2)]) hD hS hA [10, 11, 12, 13, 14] rfl
  refine va_calli (va_runV (As := [.int p1]) (rest := []) ⟨hx, hb, hml, hown, hts⟩ (k_X5_wideHas l dC dI cy m0 m1 mc1 m2 mc2 a1 f1 a2 f2 th (r1 + r2) kn H.size N p1) (cwV 1 hts gL_law_X5_wideHas rfl rfl rfl (by decide +kernel) ⟨Nat.le_of_ble_eq_true rfl, Nat.le_of_ble_eq_true rfl⟩) (xM.preV hKc hPc hDc hAN (Nat.le_trans hN hS.1) (hG.kept hS hAN) (ci := 7) (q0 := 0) rfl rfl) rfl rfl hl.1 rfl (lv_room (Nat.le_of_ble_eq_true rfl)) dL_law_1898 ⟨(show _ ≤ 716141 by omega), (show _ ≤ 6947682 by omega)⟩) hS (fun q _ h => hFc q h) hFc (fun r_2 u t H locs ht hvm hw hB hz hk hS => ?_)
  replace hw : r_2 = b2i ((o_X5_wideHas f1 p1).1) := hw
  subst r_2
  obtain ⟨hP1, hD1⟩ := hB
  rw [ht] at hP1
  obtain ⟨hP, hD⟩ := va_join (wr := [(h0, eE h1 h2 kn), (h1, eR hw1 hc1 hb1 a1 r1), (hw1, eW true), (hc1, eA cy f1), (hb1, eA cy g1), (h2, eR hw2 hc2 hb2 a2 r2), (hw2, eW false), (hc2, eA cy f2), (hb2, eA cy g2), (ho, eO (o_L_wideHas f1 nv p1).2 sv)]) (w1 := [(m0, eM m1 m2 (o_X5_wideHas f1 p1).2 (r1 + r2) kn), (m1, eMR true mc1 a1), (mc1, eA cy f1), (m2, eMR false mc2 a2), (mc2, eA cy f2)]) hP hD [10, 11, 12, 13, 14] [0, 1, 2, 3, 4, 5, 6, 7, 8, 9] rfl rfl (by decide +kernel) (by decide +kernel) hk hFc hP1 hD1
  have hP := hP.sub (ws' := [(h0, eE h1 h2 kn), (h1, eR hw1 hc1 hb1 a1 r1), (hw1, eW true), (hc1, eA cy f1), (hb1, eA cy g1), (h2, eR hw2 hc2 hb2 a2 r2), (hw2, eW false), (hc2, eA cy f2), (hb2, eA cy g2), (ho, eO (o_L_wideHas f1 nv p1).2 sv), (m0, eM m1 m2 (o_X5_wideHas f1 p1).2 (r1 + r2) kn), (m1, eMR true mc1 a1), (mc1, eA cy f1), (m2, eMR false mc2 a2), (mc2, eA cy f2)]) [0, 1, 2, 3, 4, 5, 6, 7, 8, 9, 10, 11, 12, 13, 14] rfl
  have hD := hD.sub (ws' := [(h0, eE h1 h2 kn), (h1, eR hw1 hc1 hb1 a1 r1), (hw1, eW true), (hc1, eA cy f1), (hb1, eA cy g1), (h2, eR hw2 hc2 hb2 a2 r2), (hw2, eW false), (hc2, eA cy f2), (hb2, eA cy g2), (ho, eO (o_L_wideHas f1 nv p1).2 sv), (m0, eM m1 m2 (o_X5_wideHas f1 p1).2 (r1 + r2) kn), (m1, eMR true mc1 a1), (mc1, eA cy f1), (m2, eMR false mc2 a2), (mc2, eA cy f2)]) [0, 1, 2, 3, 4, 5, 6, 7, 8, 9, 10, 11, 12, 13, 14] (by decide +kernel) rfl
  refine lv_istore (lv' := [(6, .int (b2i ((o_X5_wideHas f1 p1).1))), (5, .int ((o_L_wideHas f1 nv p1).1)), (0, .ref b), (1, .ref h0), (2, .ref m0), (3, .ref ho), (4, .int (nI i))]) hx hb dL_law_1901 hl (by decide +kernel) rfl (fun ls hl => ?_)
  refine lv_aload_n hx hb dL_law_1903 rfl (lv_at hl 4 rfl) ?_
  have hPc := hP.sub (ws' := [(m0, eM m1 m2 (o_X5_wideHas f1 p1).2 (r1 + r2) kn)]) [10] rfl
  have hKc := hK.sub (tys' := []) [] rfl
  refine va_calli (va_runV (As := []) (rest := []) ⟨hx, hb, hml, hown, hts⟩ (k_X5_thrown l dC dI m0 m1 m2 ((o_X5_wideHas f1 p1).2) (r1 + r2) kn H.size) (cwV 0 hts gL_law_X5_thrown rfl rfl rfl (by decide +kernel) ⟨Nat.le_of_ble_eq_true rfl, Nat.le_of_ble_eq_true rfl⟩) (xB.preV hKc hPc (ci := 7) (q0 := 0) rfl rfl) rfl rfl hl.1 rfl (lv_room (Nat.le_of_ble_eq_true rfl)) dL_law_1904 ⟨(show _ ≤ 716141 by omega), (show _ ≤ 6947682 by omega)⟩) hS xA_old (fun q h => hA q (Nat.le_trans hS.1 h)) (fun r_3 u t H locs ht hvm hw hB hz hk hS => ?_)
  replace hw : r_3 = (o_X5_thrown ((o_X5_wideHas f1 p1).2)) := hw
  subst r_3
  have hP := xP_keep hP hk
  refine lv_iload hx hb dL_law_1907 (lv_at hl 1 rfl) ?_
  refine lv_icmp_eq (tgt := 1914) hx hb dL_law_1909 (by decide +kernel) (fun c9 => ?_) (fun c9 => absurd (show o_X5_thrown _ = _ from (qx_wideHas).symm) c9)
  refine lv_iload hx hb dL_law_1914 (lv_at hl 1 rfl) ?_
  refine lv_if_ne (tgt := 1939) hx hb dL_law_1916 (by decide +kernel) (fun c_4 => ?_) (fun c_4 => ?_)
  · skip
    refine lv_goto (tgt := 3660) hx hb dL_law_1939 (by decide +kernel) ?_
    refine W.widen (k := cells + 760) (n := slots + 4500) (by omega) (by omega) ?_
    exact K a1 r1 f1 g1 a2 r2 f2 g2 kn ((o_L_wideHas f1 nv p1).2) sv ((o_X5_wideHas f1 p1).2) a1 f1 a2 f2 (r1 + r2) kn _ _ _ rfl rfl rfl rfl rfl rfl hka1 hka2 hP hD hS (lv_sub hl [2, 3, 4, 5, 6] rfl)
  · skip
    refine lv_aload_n hx hb dL_law_1919 rfl (lv_at hl 5 rfl) ?_
    refine va_getN (D := (dC, dI)) (ci := 5) (v := .long ((o_L_wideHas f1 nv p1).2)) (C := RX3) (T := TX3) (N := 2) hx hb hts (by decide +kernel) hown hK hP 9 rfl rfl 0 (by decide +kernel) (va_Nw.use rfl (hG.1 (.fieldLinkNest RL 13 "EdgefloatsLaw$Out" "n" "J" RL) (List.mem_of_getElem? (i := 6) rfl))) (fun _ h9 => h9) rfl dL_law_1920 ?_
    refine lv_iload hx hb dL_law_1923 (lv_at hl 0 rfl) ?_
    refine xz_eq (tgt := 1932) hx hb dL_law_1925 (by decide +kernel) (fun c_5 => ?_) (fun c_5 => ?_)
    · skip
      refine lv_lconst (v := 0) hx hb dL_law_1932 (by decide +kernel) ?_
      refine xc_eq (tgt := 1939) hx hb dL_law_1933 dL_law_1934 (by decide +kernel) (fun c9 => ?_) (fun c9 => absurd (((qn_wideHas).trans (if_pos ((qx_wideHas).symm.trans c_4))).trans (if_neg c_5)) c9)
      refine lv_goto (tgt := 3660) hx hb dL_law_1939 (by decide +kernel) ?_
      refine W.widen (k := cells + 760) (n := slots + 4500) (by omega) (by omega) ?_
      exact K a1 r1 f1 g1 a2 r2 f2 g2 kn ((o_L_wideHas f1 nv p1).2) sv ((o_X5_wideHas f1 p1).2) a1 f1 a2 f2 (r1 + r2) kn _ _ _ rfl rfl rfl rfl rfl rfl hka1 hka2 hP hD hS (lv_sub hl [2, 3, 4, 5, 6] rfl)
    · skip
      refine lv_lconst (v := 1) hx hb dL_law_1928 (by decide +kernel) ?_
      refine lv_goto (tgt := 1933) hx hb dL_law_1929 (by decide +kernel) ?_
      refine xc_eq (tgt := 1939) hx hb dL_law_1933 dL_law_1934 (by decide +kernel) (fun c9 => ?_) (fun c9 => absurd (((qn_wideHas).trans (if_pos ((qx_wideHas).symm.trans c_4))).trans (if_pos c_5)) c9)
      refine lv_goto (tgt := 3660) hx hb dL_law_1939 (by decide +kernel) ?_
      refine W.widen (k := cells + 760) (n := slots + 4500) (by omega) (by omega) ?_
      exact K a1 r1 f1 g1 a2 r2 f2 g2 kn ((o_L_wideHas f1 nv p1).2) sv ((o_X5_wideHas f1 p1).2) a1 f1 a2 f2 (r1 + r2) kn _ _ _ rfl rfl rfl rfl rfl rfl hka1 hka2 hP hD hS (lv_sub hl [2, 3, 4, 5, 6] rfl)
set_option maxHeartbeats 4000000 in
set_option maxRecDepth 100000 in
theorem st_23 (l : Launch) (p : Program) (e : Env) (s : State) (m : MethodId) (below : List Frame) (meth : Method) (c : Code) (b L N : Nat) (xs : Nat → Int32) (A : Nat → Prop) (dC : Nat → ClassId) (dI : Nat → Nat → Nat) (cy cB : ClassId) (h0 h1 hw1 hc1 hb1 h2 hw2 hc2 hb2 ho m0 m1 mc1 m2 mc2 : Nat) (C0 : lw_C l p e s m below meth c b L N xs A dC dI cy cB) (i : Nat) (hi : i + 4 ≤ L) (p1 p2 p3 : Int32) (hp1 : xs (i + 1) = p1) (hp2 : xs (i + 2) = p2) (hp3 : xs (i + 3) = p3) (cells slots : Nat) (hcs : cells + 760 ≤ 716141) (hss : slots + 4500 ≤ 6947682) (K : lw_K l p e s m below meth c b L N xs A dC dI cy cB h0 h1 hw1 hc1 hb1 h2 hw2 hc2 hb2 ho m0 m1 mc1 m2 mc2 i (cells + 760) (slots + 4500) 3660) (a1 : Int32) (r1 : Int32) (f1 : Nat → Int64) (g1 : Nat → Int64) (a2 : Int32) (r2 : Int32) (f2 : Nat → Int64) (g2 : Nat → Int64) (kn : Int32) (nv : Int64) (sv : Value) (th : Int32) (H : Heap) (locs : List Loc) (ls : Array Slot) (hka1 : okA true f1) (hka2 : okA false f2) (hP : va_P (dC, dI) xCl [(h0, eE h1 h2 kn), (h1, eR hw1 hc1 hb1 a1 r1), (hw1, eW true), (hc1, eA cy f1), (hb1, eA cy g1), (h2, eR hw2 hc2 hb2 a2 r2), (hw2, eW false), (hc2, eA cy f2), (hb2, eA cy g2), (ho, eO nv sv), (m0, eM m1 m2 th (r1 + r2) kn), (m1, eMR true mc1 a1), (mc1, eA cy f1), (m2, eMR false mc2 a2), (mc2, eA cy f2)] H) (hD : va_D A [(h0, eE h1 h2 kn), (h1, eR hw1 hc1 hb1 a1 r1), (hw1, eW true), (hc1, eA cy f1), (hb1, eA cy g1), (h2, eR hw2 hc2 hb2 a2 r2), (hw2, eW false), (hc2, eA cy f2), (hb2, eA cy g2), (ho, eO nv sv), (m0, eM m1 m2 th (r1 + r2) kn), (m1, eMR true mc1 a1), (mc1, eA cy f1), (m2, eMR false mc2 a2), (mc2, eA cy f2)]) (hS : va_S A s.heap H locs) (hl : lv_has ls 7 [(0, .ref b), (1, .ref h0), (2, .ref m0), (3, .ref ho), (4, .int (nI i))]) : W p l e room_1 s m #[Value.ref b] below meth c H locs cells slots (lw_Z below #[Value.ref b] s) (F0 m 1942 ls []) := by
  obtain ⟨hfl, hx, hb, hr, hml, hown, hts, hX, hbl, hbA, hlocks, hK, hG, hnc, hA, hAN, hN, hL, hT, hNs⟩ := id C0
  have hok2 := me_okF hka2
  have hsp1 : ∀ k, k < 8 → o_X1_isSpoiled true (f1 k) = false := fun k hk => (hka1 k hk).2
  have hsp2 : ∀ k, k < 8 → o_X1_isSpoiled false (f2 k) = false := fun k hk => (hka2 k hk).2
  have qx_putNarrow : (o_L_putNarrow a2 r2 f2 nv p1 p2).1 = (o_X5_putNarrow a2 f2 (r1 + r2) p1 p2).2.2.2.1 := by have hm := ml_putNarrow a2 r2 r1 nv p1 p2 hka2; rw [Int32.add_comm r2 r1] at hm; exact hm.1
  have qn_putNarrow : (o_L_putNarrow a2 r2 f2 nv p1 p2).2.2.2.2 = if (o_X5_putNarrow a2 f2 (r1 + r2) p1 p2).2.2.2.1 = 0 then ((o_X5_putNarrow a2 f2 (r1 + r2) p1 p2).1).toInt64 else nv := by have hm := ml_putNarrow a2 r2 r1 nv p1 p2 hka2; rw [Int32.add_comm r2 r1] at hm; exact hm.2.2.2.2.1
  refine lv_aload_n hx hb dL_law_1942 rfl (lv_at hl 1 rfl) ?_
  refine lv_aload_n hx hb dL_law_1943 rfl (lv_at hl 0 rfl) ?_
  refine lv_iload hx hb dL_law_1944 (lv_at hl 4 rfl) ?_
  refine lv_iconst (v := 1) hx hb dL_law_1946 (by decide +kernel) ?_
  refine lv_iadd hx hb dL_law_1947 ?_
  rw [nI_1 i]
  refine xa_sld hx hb hX hbl hbA hS (k := i + 1) (by omega) hL hp1 dL_law_1948 ?_
  refine lv_aload_n hx hb dL_law_1949 rfl (lv_at hl 0 rfl) ?_
  refine lv_iload hx hb dL_law_1950 (lv_at hl 4 rfl) ?_
  refine lv_iconst (v := 2) hx hb dL_law_1952 (by decide +kernel) ?_
  refine lv_iadd hx hb dL_law_1953 ?_
  rw [nI_p2 i]
  refine xa_sld hx hb hX hbl hbA hS (k := i + 2) (by omega) hL hp2 dL_law_1954 ?_
  refine lv_aload_n hx hb dL_law_1955 rfl (lv_at hl 3 rfl) ?_
  have hPc := hP.sub (ws' := [(h0, eE h1 h2 kn), (h1, eR hw1 hc1 hb1 a1 r1), (hw1, eW true), (hc1, eA cy f1), (hb1, eA cy g1), (h2, eR hw2 hc2 hb2 a2 r2), (hw2, eW false), (hc2, eA cy f2), (hb2, eA cy g2), (ho, eO nv sv)]) [0, 1, 2, 3, 4, 5, 6, 7, 8, 9] rfl
  have hDc := hD.sub (ws' := [(h0, eE h1 h2 kn), (h1, eR hw1 hc1 hb1 a1 r1), (hw1, eW true), (hc1, eA cy f1), (hb1, eA cy g1), (h2, eR hw2 hc2 hb2 a2 r2), (hw2, eW false), (hc2, eA cy f2), (hb2, eA cy g2), (ho, eO nv sv)]) [0, 1, 2, 3, 4, 5, 6, 7, 8, 9] (by decide +kernel) rfl
  have hKc := hK.sub (tys' := [(cy, .long)]) [0] rfl
  have hFc := va_free (wc := [(h0, eE h1 h2 kn), (h1, eR hw1 hc1 hb1 a1 r1), (hw1, eW true), (hc1, eA cy f1), (hb1, eA cy g1), (h2, eR hw2 hc2 hb2 a2 r2), (hw2, eW false), (hc2, eA cy f2), (hb2, eA cy g2), (ho, eO nv sv)]) hD hS hA [0, 1, 2, 3, 4, 5, 6, 7, 8, 9] rfl
  refine va_calli (vx_runSW (As := [.ref h0, .int p1, .int p2, .ref ho]) (rest := []) ⟨hx, hb, hml, hown, hts⟩ (k_L_putNarrow l hfl dC dI cy h0 h1 hw1 hc1 hb1 h2 hw2 hc2 hb2 a1 r1 f1 g1 a2 r2 f2 g2 kn ho nv sv H.size N p1 p2) (vx_cwSW 4 hts gL_law_L_putNarrow rfl rfl rfl (by decide +kernel) ⟨Nat.le_of_ble_eq_true rfl, Nat.le_of_ble_eq_true rfl⟩) (xL.preS hKc hPc hDc hAN (Nat.le_trans hN hS.1) (hG.kept hS hAN) hnc) rfl rfl hl.1 rfl (lv_room (Nat.le_of_ble_eq_true rfl)) dL_law_1956 ⟨(show _ ≤ 716141 by omega), (show _ ≤ 6947682 by omega)⟩) hS (fun q _ h => hFc q h) hFc (fun r_1 u t H locs ht hvm hw hB hz hk hS => ?_)
  replace hw : r_1 = (o_L_putNarrow a2 r2 f2 nv p1 p2).1 := hw
  subst r_1
  obtain ⟨hP1, hD1⟩ := hB
  rw [ht] at hP1
  obtain ⟨hP, hD⟩ := va_join (wr := [(m0, eM m1 m2 th (r1 + r2) kn), (m1, eMR true mc1 a1), (mc1, eA cy f1), (m2, eMR false mc2 a2), (mc2, eA cy f2)]) (w1 := [(h0, eE h1 h2 kn), (h1, eR hw1 hc1 hb1 a1 r1), (hw1, eW true), (hc1, eA cy f1), (hb1, eA cy g1), (h2, eR hw2 hc2 hb2 (o_L_putNarrow a2 r2 f2 nv p1 p2).2.1 (o_L_putNarrow a2 r2 f2 nv p1 p2).2.2.1), (hw2, eW false), (hc2, eA cy (o_L_putNarrow a2 r2 f2 nv p1 p2).2.2.2.1), (hb2, eA cy g2), (ho, eO (o_L_putNarrow a2 r2 f2 nv p1 p2).2.2.2.2 sv)]) hP hD [0, 1, 2, 3, 4, 5, 6, 7, 8, 9] [10, 11, 12, 13, 14] rfl rfl (by decide +kernel) (by decide +kernel) hk hFc hP1 hD1
  have hP := hP.sub (ws' := [(h0, eE h1 h2 kn), (h1, eR hw1 hc1 hb1 a1 r1), (hw1, eW true), (hc1, eA cy f1), (hb1, eA cy g1), (h2, eR hw2 hc2 hb2 (o_L_putNarrow a2 r2 f2 nv p1 p2).2.1 (o_L_putNarrow a2 r2 f2 nv p1 p2).2.2.1), (hw2, eW false), (hc2, eA cy (o_L_putNarrow a2 r2 f2 nv p1 p2).2.2.2.1), (hb2, eA cy g2), (ho, eO (o_L_putNarrow a2 r2 f2 nv p1 p2).2.2.2.2 sv), (m0, eM m1 m2 th (r1 + r2) kn), (m1, eMR true mc1 a1), (mc1, eA cy f1), (m2, eMR false mc2 a2), (mc2, eA cy f2)]) [5, 6, 7, 8, 9, 10, 11, 12, 13, 14, 0, 1, 2, 3, 4] rfl
  have hD := hD.sub (ws' := [(h0, eE h1 h2 kn), (h1, eR hw1 hc1 hb1 a1 r1), (hw1, eW true), (hc1, eA cy f1), (hb1, eA cy g1), (h2, eR hw2 hc2 hb2 (o_L_putNarrow a2 r2 f2 nv p1 p2).2.1 (o_L_putNarrow a2 r2 f2 nv p1 p2).2.2.1), (hw2, eW false), (hc2, eA cy (o_L_putNarrow a2 r2 f2 nv p1 p2).2.2.2.1), (hb2, eA cy g2), (ho, eO (o_L_putNarrow a2 r2 f2 nv p1 p2).2.2.2.2 sv), (m0, eM m1 m2 th (r1 + r2) kn), (m1, eMR true mc1 a1), (mc1, eA cy f1), (m2, eMR false mc2 a2), (mc2, eA cy f2)]) [5, 6, 7, 8, 9, 10, 11, 12, 13, 14, 0, 1, 2, 3, 4] (by decide +kernel) rfl
  refine lv_istore (lv' := [(5, .int ((o_L_putNarrow a2 r2 f2 nv p1 p2).1)), (0, .ref b), (1, .ref h0), (2, .ref m0), (3, .ref ho), (4, .int (nI i))]) hx hb dL_law_1959 hl (by decide +kernel) rfl (fun ls hl => ?_)
  refine lv_aload_n hx hb dL_law_1961 rfl (lv_at hl 3 rfl) ?_
  refine lv_aload_n hx hb dL_law_1962 rfl (lv_at hl 1 rfl) ?_
  refine lv_iload hx hb dL_law_1963 (lv_at hl 5 rfl) ?_
  refine lv_iconst (v := 1) hx hb dL_law_1965 (by decide +kernel) ?_
  refine lv_iadd hx hb dL_law_1966 ?_
  rw [nI_1 i]
  refine xa_sld hx hb hX hbl hbA hS (k := i + 1) (by omega) hL hp1 dL_law_1967 ?_
  refine lv_aload_n hx hb dL_law_1968 rfl (lv_at hl 1 rfl) ?_
  refine lv_iload hx hb dL_law_1969 (lv_at hl 5 rfl) ?_
  refine lv_iconst (v := 2) hx hb dL_law_1971 (by decide +kernel) ?_
  refine lv_iadd hx hb dL_law_1972 ?_
  rw [nI_p2 i]
  refine xa_sld hx hb hX hbl hbA hS (k := i + 2) (by omega) hL hp2 dL_law_1973 ?_
  have hPc := hP.sub (ws' := [(m0, eM m1 m2 th (r1 + r2) kn), (m1, eMR true mc1 a1), (mc1, eA cy f1), (m2, eMR false mc2 a2), (mc2, eA cy f2)]) [10, 11, 12, 13, 14] rfl
  have hDc := hD.sub (ws' := [(m0, eM m1 m2 th (r1 + r2) kn), (m1, eMR true mc1 a1), (mc1, eA cy f1), (m2, eMR false mc2 a2), (mc2, eA cy f2)]) [10, 11, 12, 13, 14] (by decide +kernel) rfl
  have hKc := hK.sub (tys' := [(cy, .long)]) [0] rfl
  have hFc := va_free (wc := [(m0, eM m1 m2 th (r1 + r2) kn), (m1, eMR true mc1 a1), (mc1, eA cy f1), (m2, eMR false mc2 a2), (mc2, eA cy f2)]) hD hS hA [10, 11, 12, 13, 14] rfl
  refine va_calli (va_runV (As := [.int p1, .int p2]) (rest := []) ⟨hx, hb, hml, hown, hts⟩ (k_X5_putNarrow l dC dI cy m0 m1 mc1 m2 mc2 a1 f1 a2 f2 th (r1 + r2) kn H.size N p1 p2) (cwV 2 hts gL_law_X5_putNarrow rfl rfl rfl (by decide +kernel) ⟨Nat.le_of_ble_eq_true rfl, Nat.le_of_ble_eq_true rfl⟩) (xM.preV hKc hPc hDc hAN (Nat.le_trans hN hS.1) (hG.kept hS hAN) (ci := 7) (q0 := 0) rfl rfl) rfl rfl hl.1 rfl (lv_room (Nat.le_of_ble_eq_true rfl)) dL_law_1974 ⟨(show _ ≤ 716141 by omega), (show _ ≤ 6947682 by omega)⟩) hS (fun q _ h => hFc q h) hFc (fun r_2 u t H locs ht hvm hw hB hz hk hS => ?_)
  replace hw : r_2 = (o_X5_putNarrow a2 f2 (r1 + r2) p1 p2).1 := hw
  subst r_2
  obtain ⟨hP1, hD1⟩ := hB
  rw [ht] at hP1
  obtain ⟨hP, hD⟩ := va_join (wr := [(h0, eE h1 h2 kn), (h1, eR hw1 hc1 hb1 a1 r1), (hw1, eW true), (hc1, eA cy f1), (hb1, eA cy g1), (h2, eR hw2 hc2 hb2 (o_L_putNarrow a2 r2 f2 nv p1 p2).2.1 (o_L_putNarrow a2 r2 f2 nv p1 p2).2.2.1), (hw2, eW false), (hc2, eA cy (o_L_putNarrow a2 r2 f2 nv p1 p2).2.2.2.1), (hb2, eA cy g2), (ho, eO (o_L_putNarrow a2 r2 f2 nv p1 p2).2.2.2.2 sv)]) (w1 := [(m0, eM m1 m2 (o_X5_putNarrow a2 f2 (r1 + r2) p1 p2).2.2.2.1 (o_X5_putNarrow a2 f2 (r1 + r2) p1 p2).2.2.2.2 kn), (m1, eMR true mc1 a1), (mc1, eA cy f1), (m2, eMR false mc2 (o_X5_putNarrow a2 f2 (r1 + r2) p1 p2).2.1), (mc2, eA cy (o_X5_putNarrow a2 f2 (r1 + r2) p1 p2).2.2.1)]) hP hD [10, 11, 12, 13, 14] [0, 1, 2, 3, 4, 5, 6, 7, 8, 9] rfl rfl (by decide +kernel) (by decide +kernel) hk hFc hP1 hD1
  have hP := hP.sub (ws' := [(h0, eE h1 h2 kn), (h1, eR hw1 hc1 hb1 a1 r1), (hw1, eW true), (hc1, eA cy f1), (hb1, eA cy g1), (h2, eR hw2 hc2 hb2 (o_L_putNarrow a2 r2 f2 nv p1 p2).2.1 (o_L_putNarrow a2 r2 f2 nv p1 p2).2.2.1), (hw2, eW false), (hc2, eA cy (o_L_putNarrow a2 r2 f2 nv p1 p2).2.2.2.1), (hb2, eA cy g2), (ho, eO (o_L_putNarrow a2 r2 f2 nv p1 p2).2.2.2.2 sv), (m0, eM m1 m2 (o_X5_putNarrow a2 f2 (r1 + r2) p1 p2).2.2.2.1 (o_X5_putNarrow a2 f2 (r1 + r2) p1 p2).2.2.2.2 kn), (m1, eMR true mc1 a1), (mc1, eA cy f1), (m2, eMR false mc2 (o_X5_putNarrow a2 f2 (r1 + r2) p1 p2).2.1), (mc2, eA cy (o_X5_putNarrow a2 f2 (r1 + r2) p1 p2).2.2.1)]) [0, 1, 2, 3, 4, 5, 6, 7, 8, 9, 10, 11, 12, 13, 14] rfl
  have hD := hD.sub (ws' := [(h0, eE h1 h2 kn), (h1, eR hw1 hc1 hb1 a1 r1), (hw1, eW true), (hc1, eA cy f1), (hb1, eA cy g1), (h2, eR hw2 hc2 hb2 (o_L_putNarrow a2 r2 f2 nv p1 p2).2.1 (o_L_putNarrow a2 r2 f2 nv p1 p2).2.2.1), (hw2, eW false), (hc2, eA cy (o_L_putNarrow a2 r2 f2 nv p1 p2).2.2.2.1), (hb2, eA cy g2), (ho, eO (o_L_putNarrow a2 r2 f2 nv p1 p2).2.2.2.2 sv), (m0, eM m1 m2 (o_X5_putNarrow a2 f2 (r1 + r2) p1 p2).2.2.2.1 (o_X5_putNarrow a2 f2 (r1 + r2) p1 p2).2.2.2.2 kn), (m1, eMR true mc1 a1), (mc1, eA cy f1), (m2, eMR false mc2 (o_X5_putNarrow a2 f2 (r1 + r2) p1 p2).2.1), (mc2, eA cy (o_X5_putNarrow a2 f2 (r1 + r2) p1 p2).2.2.1)]) [0, 1, 2, 3, 4, 5, 6, 7, 8, 9, 10, 11, 12, 13, 14] (by decide +kernel) rfl
  refine lv_istore (lv' := [(6, .int ((o_X5_putNarrow a2 f2 (r1 + r2) p1 p2).1)), (5, .int ((o_L_putNarrow a2 r2 f2 nv p1 p2).1)), (0, .ref b), (1, .ref h0), (2, .ref m0), (3, .ref ho), (4, .int (nI i))]) hx hb dL_law_1977 hl (by decide +kernel) rfl (fun ls hl => ?_)
  refine lv_aload_n hx hb dL_law_1979 rfl (lv_at hl 4 rfl) ?_
  have hPc := hP.sub (ws' := [(m0, eM m1 m2 (o_X5_putNarrow a2 f2 (r1 + r2) p1 p2).2.2.2.1 (o_X5_putNarrow a2 f2 (r1 + r2) p1 p2).2.2.2.2 kn)]) [10] rfl
  have hKc := hK.sub (tys' := []) [] rfl
  refine va_calli (va_runV (As := []) (rest := []) ⟨hx, hb, hml, hown, hts⟩ (k_X5_thrown l dC dI m0 m1 m2 ((o_X5_putNarrow a2 f2 (r1 + r2) p1 p2).2.2.2.1) ((o_X5_putNarrow a2 f2 (r1 + r2) p1 p2).2.2.2.2) kn H.size) (cwV 0 hts gL_law_X5_thrown rfl rfl rfl (by decide +kernel) ⟨Nat.le_of_ble_eq_true rfl, Nat.le_of_ble_eq_true rfl⟩) (xB.preV hKc hPc (ci := 7) (q0 := 0) rfl rfl) rfl rfl hl.1 rfl (lv_room (Nat.le_of_ble_eq_true rfl)) dL_law_1980 ⟨(show _ ≤ 716141 by omega), (show _ ≤ 6947682 by omega)⟩) hS xA_old (fun q h => hA q (Nat.le_trans hS.1 h)) (fun r_3 u t H locs ht hvm hw hB hz hk hS => ?_)
  replace hw : r_3 = (o_X5_thrown ((o_X5_putNarrow a2 f2 (r1 + r2) p1 p2).2.2.2.1)) := hw
  subst r_3
  have hP := xP_keep hP hk
  refine lv_iload hx hb dL_law_1983 (lv_at hl 1 rfl) ?_
  refine lv_icmp_eq (tgt := 1990) hx hb dL_law_1985 (by decide +kernel) (fun c9 => ?_) (fun c9 => absurd (show o_X5_thrown _ = _ from (qx_putNarrow).symm) c9)
  refine lv_iload hx hb dL_law_1990 (lv_at hl 1 rfl) ?_
  refine lv_if_ne (tgt := 2008) hx hb dL_law_1992 (by decide +kernel) (fun c_4 => ?_) (fun c_4 => ?_)
  · skip
    refine lv_goto (tgt := 3660) hx hb dL_law_2008 (by decide +kernel) ?_
    refine W.widen (k := cells + 760) (n := slots + 4500) (by omega) (by omega) ?_
    have qe_b2 : (o_X5_putNarrow a2 f2 (r1 + r2) p1 p2).2.1 = (o_L_putNarrow a2 r2 f2 nv p1 p2).2.1 := (by have hm := ml_putNarrow a2 r2 r1 nv p1 p2 hka2; rw [Int32.add_comm r2 r1] at hm; exact hm.2.1.symm)
    have qe_e2 : (o_X5_putNarrow a2 f2 (r1 + r2) p1 p2).2.2.1 = (o_L_putNarrow a2 r2 f2 nv p1 p2).2.2.2.1 := (by have hm := ml_putNarrow a2 r2 r1 nv p1 p2 hka2; rw [Int32.add_comm r2 r1] at hm; exact hm.2.2.2.1.symm)
    have qe_rf : (o_X5_putNarrow a2 f2 (r1 + r2) p1 p2).2.2.2.2 = r1 + (o_L_putNarrow a2 r2 f2 nv p1 p2).2.2.1 := (by have hm := ml_putNarrow a2 r2 r1 nv p1 p2 hka2; rw [Int32.add_comm r2 r1] at hm; exact hm.2.2.1.symm.trans (Int32.add_comm _ _))
    have qk_2 : okA false ((o_L_putNarrow a2 r2 f2 nv p1 p2).2.2.2.1) := (by have hm := ml_putNarrow a2 r2 r1 nv p1 p2 hka2; rw [Int32.add_comm r2 r1] at hm; rw [hm.2.2.2.1]; exact hm.2.2.2.2.2)
    exact K a1 r1 f1 g1 ((o_L_putNarrow a2 r2 f2 nv p1 p2).2.1) ((o_L_putNarrow a2 r2 f2 nv p1 p2).2.2.1) ((o_L_putNarrow a2 r2 f2 nv p1 p2).2.2.2.1) g2 kn ((o_L_putNarrow a2 r2 f2 nv p1 p2).2.2.2.2) sv ((o_X5_putNarrow a2 f2 (r1 + r2) p1 p2).2.2.2.1) a1 f1 ((o_X5_putNarrow a2 f2 (r1 + r2) p1 p2).2.1) ((o_X5_putNarrow a2 f2 (r1 + r2) p1 p2).2.2.1) ((o_X5_putNarrow a2 f2 (r1 + r2) p1 p2).2.2.2.2) kn _ _ _ rfl rfl qe_b2 qe_e2 qe_rf rfl hka1 qk_2 hP hD hS (lv_sub hl [2, 3, 4, 5, 6] rfl)
  · skip
    refine lv_aload_n hx hb dL_law_1995 rfl (lv_at hl 5 rfl) ?_
    refine va_getN (D := (dC, dI)) (ci := 5) (v := .long ((o_L_putNarrow a2 r2 f2 nv p1 p2).2.2.2.2)) (C := RX3) (T := TX3) (N := 2) hx hb hts (by decide +kernel) hown hK hP 9 rfl rfl 0 (by decide +kernel) (va_Nw.use rfl (hG.1 (.fieldLinkNest RL 13 "EdgefloatsLaw$Out" "n" "J" RL) (List.mem_of_getElem? (i := 6) rfl))) (fun _ h9 => h9) rfl dL_law_1996 ?_
    refine lv_iload hx hb dL_law_1999 (lv_at hl 0 rfl) ?_
    refine lv_i2l (v := (((o_X5_putNarrow a2 f2 (r1 + r2) p1 p2).1).toInt64)) hx hb dL_law_2001 rfl ?_
    refine xc_eq (tgt := 2008) hx hb dL_law_2002 dL_law_2003 (by decide +kernel) (fun c9 => ?_) (fun c9 => absurd ((qn_putNarrow).trans (if_pos ((qx_putNarrow).symm.trans c_4))) c9)
    refine lv_goto (tgt := 3660) hx hb dL_law_2008 (by decide +kernel) ?_
    refine W.widen (k := cells + 760) (n := slots + 4500) (by omega) (by omega) ?_
    have qe_b2 : (o_X5_putNarrow a2 f2 (r1 + r2) p1 p2).2.1 = (o_L_putNarrow a2 r2 f2 nv p1 p2).2.1 := (by have hm := ml_putNarrow a2 r2 r1 nv p1 p2 hka2; rw [Int32.add_comm r2 r1] at hm; exact hm.2.1.symm)
    have qe_e2 : (o_X5_putNarrow a2 f2 (r1 + r2) p1 p2).2.2.1 = (o_L_putNarrow a2 r2 f2 nv p1 p2).2.2.2.1 := (by have hm := ml_putNarrow a2 r2 r1 nv p1 p2 hka2; rw [Int32.add_comm r2 r1] at hm; exact hm.2.2.2.1.symm)
    have qe_rf : (o_X5_putNarrow a2 f2 (r1 + r2) p1 p2).2.2.2.2 = r1 + (o_L_putNarrow a2 r2 f2 nv p1 p2).2.2.1 := (by have hm := ml_putNarrow a2 r2 r1 nv p1 p2 hka2; rw [Int32.add_comm r2 r1] at hm; exact hm.2.2.1.symm.trans (Int32.add_comm _ _))
    have qk_2 : okA false ((o_L_putNarrow a2 r2 f2 nv p1 p2).2.2.2.1) := (by have hm := ml_putNarrow a2 r2 r1 nv p1 p2 hka2; rw [Int32.add_comm r2 r1] at hm; rw [hm.2.2.2.1]; exact hm.2.2.2.2.2)
    exact K a1 r1 f1 g1 ((o_L_putNarrow a2 r2 f2 nv p1 p2).2.1) ((o_L_putNarrow a2 r2 f2 nv p1 p2).2.2.1) ((o_L_putNarrow a2 r2 f2 nv p1 p2).2.2.2.1) g2 kn ((o_L_putNarrow a2 r2 f2 nv p1 p2).2.2.2.2) sv ((o_X5_putNarrow a2 f2 (r1 + r2) p1 p2).2.2.2.1) a1 f1 ((o_X5_putNarrow a2 f2 (r1 + r2) p1 p2).2.1) ((o_X5_putNarrow a2 f2 (r1 + r2) p1 p2).2.2.1) ((o_X5_putNarrow a2 f2 (r1 + r2) p1 p2).2.2.2.2) kn _ _ _ rfl rfl qe_b2 qe_e2 qe_rf rfl hka1 qk_2 hP hD hS (lv_sub hl [2, 3, 4, 5, 6] rfl)
set_option maxHeartbeats 4000000 in
set_option maxRecDepth 100000 in
theorem st_24 (l : Launch) (p : Program) (e : Env) (s : State) (m : MethodId) (below : List Frame) (meth : Method) (c : Code) (b L N : Nat) (xs : Nat → Int32) (A : Nat → Prop) (dC : Nat → ClassId) (dI : Nat → Nat → Nat) (cy cB : ClassId) (h0 h1 hw1 hc1 hb1 h2 hw2 hc2 hb2 ho m0 m1 mc1 m2 mc2 : Nat) (C0 : lw_C l p e s m below meth c b L N xs A dC dI cy cB) (i : Nat) (hi : i + 4 ≤ L) (p1 p2 p3 : Int32) (hp1 : xs (i + 1) = p1) (hp2 : xs (i + 2) = p2) (hp3 : xs (i + 3) = p3) (cells slots : Nat) (hcs : cells + 760 ≤ 716141) (hss : slots + 4500 ≤ 6947682) (K : lw_K l p e s m below meth c b L N xs A dC dI cy cB h0 h1 hw1 hc1 hb1 h2 hw2 hc2 hb2 ho m0 m1 mc1 m2 mc2 i (cells + 760) (slots + 4500) 3660) (a1 : Int32) (r1 : Int32) (f1 : Nat → Int64) (g1 : Nat → Int64) (a2 : Int32) (r2 : Int32) (f2 : Nat → Int64) (g2 : Nat → Int64) (kn : Int32) (nv : Int64) (sv : Value) (th : Int32) (H : Heap) (locs : List Loc) (ls : Array Slot) (hka1 : okA true f1) (hka2 : okA false f2) (hP : va_P (dC, dI) xCl [(h0, eE h1 h2 kn), (h1, eR hw1 hc1 hb1 a1 r1), (hw1, eW true), (hc1, eA cy f1), (hb1, eA cy g1), (h2, eR hw2 hc2 hb2 a2 r2), (hw2, eW false), (hc2, eA cy f2), (hb2, eA cy g2), (ho, eO nv sv), (m0, eM m1 m2 th (r1 + r2) kn), (m1, eMR true mc1 a1), (mc1, eA cy f1), (m2, eMR false mc2 a2), (mc2, eA cy f2)] H) (hD : va_D A [(h0, eE h1 h2 kn), (h1, eR hw1 hc1 hb1 a1 r1), (hw1, eW true), (hc1, eA cy f1), (hb1, eA cy g1), (h2, eR hw2 hc2 hb2 a2 r2), (hw2, eW false), (hc2, eA cy f2), (hb2, eA cy g2), (ho, eO nv sv), (m0, eM m1 m2 th (r1 + r2) kn), (m1, eMR true mc1 a1), (mc1, eA cy f1), (m2, eMR false mc2 a2), (mc2, eA cy f2)]) (hS : va_S A s.heap H locs) (hl : lv_has ls 7 [(0, .ref b), (1, .ref h0), (2, .ref m0), (3, .ref ho), (4, .int (nI i))]) : W p l e room_1 s m #[Value.ref b] below meth c H locs cells slots (lw_Z below #[Value.ref b] s) (F0 m 2011 ls []) := by
  obtain ⟨hfl, hx, hb, hr, hml, hown, hts, hX, hbl, hbA, hlocks, hK, hG, hnc, hA, hAN, hN, hL, hT, hNs⟩ := id C0
  have hok2 := me_okF hka2
  have hsp1 : ∀ k, k < 8 → o_X1_isSpoiled true (f1 k) = false := fun k hk => (hka1 k hk).2
  have hsp2 : ∀ k, k < 8 → o_X1_isSpoiled false (f2 k) = false := fun k hk => (hka2 k hk).2
  have qx_narrowQuarters : (o_L_narrowQuarters a2 f2 nv p1 p2).1 = (o_X5_narrowQuarters a2 f2 p1 p2).2.2.2 := by have hm := ml_narrowQuarters a2 nv p1 p2 hka2; rw [hm.1] <;> rfl
  have qn_narrowQuarters : (o_L_narrowQuarters a2 f2 nv p1 p2).2.2.2 = if (o_X5_narrowQuarters a2 f2 p1 p2).2.2.2 = 0 then ((o_X5_narrowQuarters a2 f2 p1 p2).1).toInt64 else nv := by have hm := ml_narrowQuarters a2 nv p1 p2 hka2; rw [hm.1] <;> rfl
  refine lv_aload_n hx hb dL_law_2011 rfl (lv_at hl 1 rfl) ?_
  refine lv_aload_n hx hb dL_law_2012 rfl (lv_at hl 0 rfl) ?_
  refine lv_iload hx hb dL_law_2013 (lv_at hl 4 rfl) ?_
  refine lv_iconst (v := 1) hx hb dL_law_2015 (by decide +kernel) ?_
  refine lv_iadd hx hb dL_law_2016 ?_
  rw [nI_1 i]
  refine xa_sld hx hb hX hbl hbA hS (k := i + 1) (by omega) hL hp1 dL_law_2017 ?_
  refine lv_aload_n hx hb dL_law_2018 rfl (lv_at hl 0 rfl) ?_
  refine lv_iload hx hb dL_law_2019 (lv_at hl 4 rfl) ?_
  refine lv_iconst (v := 2) hx hb dL_law_2021 (by decide +kernel) ?_
  refine lv_iadd hx hb dL_law_2022 ?_
  rw [nI_p2 i]
  refine xa_sld hx hb hX hbl hbA hS (k := i + 2) (by omega) hL hp2 dL_law_2023 ?_
  refine lv_aload_n hx hb dL_law_2024 rfl (lv_at hl 3 rfl) ?_
  have hPc := hP.sub (ws' := [(h0, eE h1 h2 kn), (h1, eR hw1 hc1 hb1 a1 r1), (hw1, eW true), (hc1, eA cy f1), (hb1, eA cy g1), (h2, eR hw2 hc2 hb2 a2 r2), (hw2, eW false), (hc2, eA cy f2), (hb2, eA cy g2), (ho, eO nv sv)]) [0, 1, 2, 3, 4, 5, 6, 7, 8, 9] rfl
  have hDc := hD.sub (ws' := [(h0, eE h1 h2 kn), (h1, eR hw1 hc1 hb1 a1 r1), (hw1, eW true), (hc1, eA cy f1), (hb1, eA cy g1), (h2, eR hw2 hc2 hb2 a2 r2), (hw2, eW false), (hc2, eA cy f2), (hb2, eA cy g2), (ho, eO nv sv)]) [0, 1, 2, 3, 4, 5, 6, 7, 8, 9] (by decide +kernel) rfl
  have hKc := hK.sub (tys' := [(cy, .long)]) [0] rfl
  have hFc := va_free (wc := [(h0, eE h1 h2 kn), (h1, eR hw1 hc1 hb1 a1 r1), (hw1, eW true), (hc1, eA cy f1), (hb1, eA cy g1), (h2, eR hw2 hc2 hb2 a2 r2), (hw2, eW false), (hc2, eA cy f2), (hb2, eA cy g2), (ho, eO nv sv)]) hD hS hA [0, 1, 2, 3, 4, 5, 6, 7, 8, 9] rfl
  refine va_calli (vx_runSW (As := [.ref h0, .int p1, .int p2, .ref ho]) (rest := []) ⟨hx, hb, hml, hown, hts⟩ (k_L_narrowQuarters l hfl dC dI cy h0 h1 hw1 hc1 hb1 h2 hw2 hc2 hb2 a1 r1 f1 g1 a2 r2 f2 g2 kn ho nv sv H.size N p1 p2) (vx_cwSW 4 hts gL_law_L_narrowQuarters rfl rfl rfl (by decide +kernel) ⟨Nat.le_of_ble_eq_true rfl, Nat.le_of_ble_eq_true rfl⟩) (xL.preS hKc hPc hDc hAN (Nat.le_trans hN hS.1) (hG.kept hS hAN) hnc) rfl rfl hl.1 rfl (lv_room (Nat.le_of_ble_eq_true rfl)) dL_law_2025 ⟨(show _ ≤ 716141 by omega), (show _ ≤ 6947682 by omega)⟩) hS (fun q _ h => hFc q h) hFc (fun r_1 u t H locs ht hvm hw hB hz hk hS => ?_)
  replace hw : r_1 = (o_L_narrowQuarters a2 f2 nv p1 p2).1 := hw
  subst r_1
  obtain ⟨hP1, hD1⟩ := hB
  rw [ht] at hP1
  obtain ⟨hP, hD⟩ := va_join (wr := [(m0, eM m1 m2 th (r1 + r2) kn), (m1, eMR true mc1 a1), (mc1, eA cy f1), (m2, eMR false mc2 a2), (mc2, eA cy f2)]) (w1 := [(h0, eE h1 h2 kn), (h1, eR hw1 hc1 hb1 a1 r1), (hw1, eW true), (hc1, eA cy f1), (hb1, eA cy g1), (h2, eR hw2 hc2 hb2 (o_L_narrowQuarters a2 f2 nv p1 p2).2.1 r2), (hw2, eW false), (hc2, eA cy (o_L_narrowQuarters a2 f2 nv p1 p2).2.2.1), (hb2, eA cy g2), (ho, eO (o_L_narrowQuarters a2 f2 nv p1 p2).2.2.2 sv)]) hP hD [0, 1, 2, 3, 4, 5, 6, 7, 8, 9] [10, 11, 12, 13, 14] rfl rfl (by decide +kernel) (by decide +kernel) hk hFc hP1 hD1
  have hP := hP.sub (ws' := [(h0, eE h1 h2 kn), (h1, eR hw1 hc1 hb1 a1 r1), (hw1, eW true), (hc1, eA cy f1), (hb1, eA cy g1), (h2, eR hw2 hc2 hb2 (o_L_narrowQuarters a2 f2 nv p1 p2).2.1 r2), (hw2, eW false), (hc2, eA cy (o_L_narrowQuarters a2 f2 nv p1 p2).2.2.1), (hb2, eA cy g2), (ho, eO (o_L_narrowQuarters a2 f2 nv p1 p2).2.2.2 sv), (m0, eM m1 m2 th (r1 + r2) kn), (m1, eMR true mc1 a1), (mc1, eA cy f1), (m2, eMR false mc2 a2), (mc2, eA cy f2)]) [5, 6, 7, 8, 9, 10, 11, 12, 13, 14, 0, 1, 2, 3, 4] rfl
  have hD := hD.sub (ws' := [(h0, eE h1 h2 kn), (h1, eR hw1 hc1 hb1 a1 r1), (hw1, eW true), (hc1, eA cy f1), (hb1, eA cy g1), (h2, eR hw2 hc2 hb2 (o_L_narrowQuarters a2 f2 nv p1 p2).2.1 r2), (hw2, eW false), (hc2, eA cy (o_L_narrowQuarters a2 f2 nv p1 p2).2.2.1), (hb2, eA cy g2), (ho, eO (o_L_narrowQuarters a2 f2 nv p1 p2).2.2.2 sv), (m0, eM m1 m2 th (r1 + r2) kn), (m1, eMR true mc1 a1), (mc1, eA cy f1), (m2, eMR false mc2 a2), (mc2, eA cy f2)]) [5, 6, 7, 8, 9, 10, 11, 12, 13, 14, 0, 1, 2, 3, 4] (by decide +kernel) rfl
  refine lv_istore (lv' := [(5, .int ((o_L_narrowQuarters a2 f2 nv p1 p2).1)), (0, .ref b), (1, .ref h0), (2, .ref m0), (3, .ref ho), (4, .int (nI i))]) hx hb dL_law_2028 hl (by decide +kernel) rfl (fun ls hl => ?_)
  refine lv_aload_n hx hb dL_law_2030 rfl (lv_at hl 3 rfl) ?_
  refine lv_aload_n hx hb dL_law_2031 rfl (lv_at hl 1 rfl) ?_
  refine lv_iload hx hb dL_law_2032 (lv_at hl 5 rfl) ?_
  refine lv_iconst (v := 1) hx hb dL_law_2034 (by decide +kernel) ?_
  refine lv_iadd hx hb dL_law_2035 ?_
  rw [nI_1 i]
  refine xa_sld hx hb hX hbl hbA hS (k := i + 1) (by omega) hL hp1 dL_law_2036 ?_
  refine lv_aload_n hx hb dL_law_2037 rfl (lv_at hl 1 rfl) ?_
  refine lv_iload hx hb dL_law_2038 (lv_at hl 5 rfl) ?_
  refine lv_iconst (v := 2) hx hb dL_law_2040 (by decide +kernel) ?_
  refine lv_iadd hx hb dL_law_2041 ?_
  rw [nI_p2 i]
  refine xa_sld hx hb hX hbl hbA hS (k := i + 2) (by omega) hL hp2 dL_law_2042 ?_
  have hPc := hP.sub (ws' := [(m0, eM m1 m2 th (r1 + r2) kn), (m1, eMR true mc1 a1), (mc1, eA cy f1), (m2, eMR false mc2 a2), (mc2, eA cy f2)]) [10, 11, 12, 13, 14] rfl
  have hDc := hD.sub (ws' := [(m0, eM m1 m2 th (r1 + r2) kn), (m1, eMR true mc1 a1), (mc1, eA cy f1), (m2, eMR false mc2 a2), (mc2, eA cy f2)]) [10, 11, 12, 13, 14] (by decide +kernel) rfl
  have hKc := hK.sub (tys' := [(cy, .long)]) [0] rfl
  have hFc := va_free (wc := [(m0, eM m1 m2 th (r1 + r2) kn), (m1, eMR true mc1 a1), (mc1, eA cy f1), (m2, eMR false mc2 a2), (mc2, eA cy f2)]) hD hS hA [10, 11, 12, 13, 14] rfl
  refine va_calli (va_runV (As := [.int p1, .int p2]) (rest := []) ⟨hx, hb, hml, hown, hts⟩ (k_X5_narrowQuarters l dC dI cy m0 m1 mc1 m2 mc2 a1 f1 a2 f2 th (r1 + r2) kn H.size N p1 p2) (cwV 2 hts gL_law_X5_narrowQuarters rfl rfl rfl (by decide +kernel) ⟨Nat.le_of_ble_eq_true rfl, Nat.le_of_ble_eq_true rfl⟩) (xM.preV hKc hPc hDc hAN (Nat.le_trans hN hS.1) (hG.kept hS hAN) (ci := 7) (q0 := 0) rfl rfl) rfl rfl hl.1 rfl (lv_room (Nat.le_of_ble_eq_true rfl)) dL_law_2043 ⟨(show _ ≤ 716141 by omega), (show _ ≤ 6947682 by omega)⟩) hS (fun q _ h => hFc q h) hFc (fun r_2 u t H locs ht hvm hw hB hz hk hS => ?_)
  replace hw : r_2 = (o_X5_narrowQuarters a2 f2 p1 p2).1 := hw
  subst r_2
  obtain ⟨hP1, hD1⟩ := hB
  rw [ht] at hP1
  obtain ⟨hP, hD⟩ := va_join (wr := [(h0, eE h1 h2 kn), (h1, eR hw1 hc1 hb1 a1 r1), (hw1, eW true), (hc1, eA cy f1), (hb1, eA cy g1), (h2, eR hw2 hc2 hb2 (o_L_narrowQuarters a2 f2 nv p1 p2).2.1 r2), (hw2, eW false), (hc2, eA cy (o_L_narrowQuarters a2 f2 nv p1 p2).2.2.1), (hb2, eA cy g2), (ho, eO (o_L_narrowQuarters a2 f2 nv p1 p2).2.2.2 sv)]) (w1 := [(m0, eM m1 m2 (o_X5_narrowQuarters a2 f2 p1 p2).2.2.2 (r1 + r2) kn), (m1, eMR true mc1 a1), (mc1, eA cy f1), (m2, eMR false mc2 (o_X5_narrowQuarters a2 f2 p1 p2).2.1), (mc2, eA cy (o_X5_narrowQuarters a2 f2 p1 p2).2.2.1)]) hP hD [10, 11, 12, 13, 14] [0, 1, 2, 3, 4, 5, 6, 7, 8, 9] rfl rfl (by decide +kernel) (by decide +kernel) hk hFc hP1 hD1
  have hP := hP.sub (ws' := [(h0, eE h1 h2 kn), (h1, eR hw1 hc1 hb1 a1 r1), (hw1, eW true), (hc1, eA cy f1), (hb1, eA cy g1), (h2, eR hw2 hc2 hb2 (o_L_narrowQuarters a2 f2 nv p1 p2).2.1 r2), (hw2, eW false), (hc2, eA cy (o_L_narrowQuarters a2 f2 nv p1 p2).2.2.1), (hb2, eA cy g2), (ho, eO (o_L_narrowQuarters a2 f2 nv p1 p2).2.2.2 sv), (m0, eM m1 m2 (o_X5_narrowQuarters a2 f2 p1 p2).2.2.2 (r1 + r2) kn), (m1, eMR true mc1 a1), (mc1, eA cy f1), (m2, eMR false mc2 (o_X5_narrowQuarters a2 f2 p1 p2).2.1), (mc2, eA cy (o_X5_narrowQuarters a2 f2 p1 p2).2.2.1)]) [0, 1, 2, 3, 4, 5, 6, 7, 8, 9, 10, 11, 12, 13, 14] rfl
  have hD := hD.sub (ws' := [(h0, eE h1 h2 kn), (h1, eR hw1 hc1 hb1 a1 r1), (hw1, eW true), (hc1, eA cy f1), (hb1, eA cy g1), (h2, eR hw2 hc2 hb2 (o_L_narrowQuarters a2 f2 nv p1 p2).2.1 r2), (hw2, eW false), (hc2, eA cy (o_L_narrowQuarters a2 f2 nv p1 p2).2.2.1), (hb2, eA cy g2), (ho, eO (o_L_narrowQuarters a2 f2 nv p1 p2).2.2.2 sv), (m0, eM m1 m2 (o_X5_narrowQuarters a2 f2 p1 p2).2.2.2 (r1 + r2) kn), (m1, eMR true mc1 a1), (mc1, eA cy f1), (m2, eMR false mc2 (o_X5_narrowQuarters a2 f2 p1 p2).2.1), (mc2, eA cy (o_X5_narrowQuarters a2 f2 p1 p2).2.2.1)]) [0, 1, 2, 3, 4, 5, 6, 7, 8, 9, 10, 11, 12, 13, 14] (by decide +kernel) rfl
  refine lv_istore (lv' := [(6, .int ((o_X5_narrowQuarters a2 f2 p1 p2).1)), (5, .int ((o_L_narrowQuarters a2 f2 nv p1 p2).1)), (0, .ref b), (1, .ref h0), (2, .ref m0), (3, .ref ho), (4, .int (nI i))]) hx hb dL_law_2046 hl (by decide +kernel) rfl (fun ls hl => ?_)
  refine lv_aload_n hx hb dL_law_2048 rfl (lv_at hl 4 rfl) ?_
  have hPc := hP.sub (ws' := [(m0, eM m1 m2 (o_X5_narrowQuarters a2 f2 p1 p2).2.2.2 (r1 + r2) kn)]) [10] rfl
  have hKc := hK.sub (tys' := []) [] rfl
  refine va_calli (va_runV (As := []) (rest := []) ⟨hx, hb, hml, hown, hts⟩ (k_X5_thrown l dC dI m0 m1 m2 ((o_X5_narrowQuarters a2 f2 p1 p2).2.2.2) (r1 + r2) kn H.size) (cwV 0 hts gL_law_X5_thrown rfl rfl rfl (by decide +kernel) ⟨Nat.le_of_ble_eq_true rfl, Nat.le_of_ble_eq_true rfl⟩) (xB.preV hKc hPc (ci := 7) (q0 := 0) rfl rfl) rfl rfl hl.1 rfl (lv_room (Nat.le_of_ble_eq_true rfl)) dL_law_2049 ⟨(show _ ≤ 716141 by omega), (show _ ≤ 6947682 by omega)⟩) hS xA_old (fun q h => hA q (Nat.le_trans hS.1 h)) (fun r_3 u t H locs ht hvm hw hB hz hk hS => ?_)
  replace hw : r_3 = (o_X5_thrown ((o_X5_narrowQuarters a2 f2 p1 p2).2.2.2)) := hw
  subst r_3
  have hP := xP_keep hP hk
  refine lv_iload hx hb dL_law_2052 (lv_at hl 1 rfl) ?_
  refine lv_icmp_eq (tgt := 2059) hx hb dL_law_2054 (by decide +kernel) (fun c9 => ?_) (fun c9 => absurd (show o_X5_thrown _ = _ from (qx_narrowQuarters).symm) c9)
  refine lv_iload hx hb dL_law_2059 (lv_at hl 1 rfl) ?_
  refine lv_if_ne (tgt := 2077) hx hb dL_law_2061 (by decide +kernel) (fun c_4 => ?_) (fun c_4 => ?_)
  · skip
    refine lv_goto (tgt := 3660) hx hb dL_law_2077 (by decide +kernel) ?_
    refine W.widen (k := cells + 760) (n := slots + 4500) (by omega) (by omega) ?_
    have qe_b2 : (o_X5_narrowQuarters a2 f2 p1 p2).2.1 = (o_L_narrowQuarters a2 f2 nv p1 p2).2.1 := (by have hm := ml_narrowQuarters a2 nv p1 p2 hka2; rw [hm.1] <;> rfl)
    have qe_e2 : (o_X5_narrowQuarters a2 f2 p1 p2).2.2.1 = (o_L_narrowQuarters a2 f2 nv p1 p2).2.2.1 := (by have hm := ml_narrowQuarters a2 nv p1 p2 hka2; rw [hm.1] <;> rfl)
    have qk_2 : okA false ((o_L_narrowQuarters a2 f2 nv p1 p2).2.2.1) := (by have hm := ml_narrowQuarters a2 nv p1 p2 hka2; rw [hm.1]; exact hm.2)
    exact K a1 r1 f1 g1 ((o_L_narrowQuarters a2 f2 nv p1 p2).2.1) r2 ((o_L_narrowQuarters a2 f2 nv p1 p2).2.2.1) g2 kn ((o_L_narrowQuarters a2 f2 nv p1 p2).2.2.2) sv ((o_X5_narrowQuarters a2 f2 p1 p2).2.2.2) a1 f1 ((o_X5_narrowQuarters a2 f2 p1 p2).2.1) ((o_X5_narrowQuarters a2 f2 p1 p2).2.2.1) (r1 + r2) kn _ _ _ rfl rfl qe_b2 qe_e2 rfl rfl hka1 qk_2 hP hD hS (lv_sub hl [2, 3, 4, 5, 6] rfl)
  · skip
    refine lv_aload_n hx hb dL_law_2064 rfl (lv_at hl 5 rfl) ?_
    refine va_getN (D := (dC, dI)) (ci := 5) (v := .long ((o_L_narrowQuarters a2 f2 nv p1 p2).2.2.2)) (C := RX3) (T := TX3) (N := 2) hx hb hts (by decide +kernel) hown hK hP 9 rfl rfl 0 (by decide +kernel) (va_Nw.use rfl (hG.1 (.fieldLinkNest RL 13 "EdgefloatsLaw$Out" "n" "J" RL) (List.mem_of_getElem? (i := 6) rfl))) (fun _ h9 => h9) rfl dL_law_2065 ?_
    refine lv_iload hx hb dL_law_2068 (lv_at hl 0 rfl) ?_
    refine lv_i2l (v := (((o_X5_narrowQuarters a2 f2 p1 p2).1).toInt64)) hx hb dL_law_2070 rfl ?_
    refine xc_eq (tgt := 2077) hx hb dL_law_2071 dL_law_2072 (by decide +kernel) (fun c9 => ?_) (fun c9 => absurd ((qn_narrowQuarters).trans (if_pos ((qx_narrowQuarters).symm.trans c_4))) c9)
    refine lv_goto (tgt := 3660) hx hb dL_law_2077 (by decide +kernel) ?_
    refine W.widen (k := cells + 760) (n := slots + 4500) (by omega) (by omega) ?_
    have qe_b2 : (o_X5_narrowQuarters a2 f2 p1 p2).2.1 = (o_L_narrowQuarters a2 f2 nv p1 p2).2.1 := (by have hm := ml_narrowQuarters a2 nv p1 p2 hka2; rw [hm.1] <;> rfl)
    have qe_e2 : (o_X5_narrowQuarters a2 f2 p1 p2).2.2.1 = (o_L_narrowQuarters a2 f2 nv p1 p2).2.2.1 := (by have hm := ml_narrowQuarters a2 nv p1 p2 hka2; rw [hm.1] <;> rfl)
    have qk_2 : okA false ((o_L_narrowQuarters a2 f2 nv p1 p2).2.2.1) := (by have hm := ml_narrowQuarters a2 nv p1 p2 hka2; rw [hm.1]; exact hm.2)
    exact K a1 r1 f1 g1 ((o_L_narrowQuarters a2 f2 nv p1 p2).2.1) r2 ((o_L_narrowQuarters a2 f2 nv p1 p2).2.2.1) g2 kn ((o_L_narrowQuarters a2 f2 nv p1 p2).2.2.2) sv ((o_X5_narrowQuarters a2 f2 p1 p2).2.2.2) a1 f1 ((o_X5_narrowQuarters a2 f2 p1 p2).2.1) ((o_X5_narrowQuarters a2 f2 p1 p2).2.2.1) (r1 + r2) kn _ _ _ rfl rfl qe_b2 qe_e2 rfl rfl hka1 qk_2 hP hD hS (lv_sub hl [2, 3, 4, 5, 6] rfl)
set_option maxHeartbeats 4000000 in
set_option maxRecDepth 100000 in
theorem st_25 (l : Launch) (p : Program) (e : Env) (s : State) (m : MethodId) (below : List Frame) (meth : Method) (c : Code) (b L N : Nat) (xs : Nat → Int32) (A : Nat → Prop) (dC : Nat → ClassId) (dI : Nat → Nat → Nat) (cy cB : ClassId) (h0 h1 hw1 hc1 hb1 h2 hw2 hc2 hb2 ho m0 m1 mc1 m2 mc2 : Nat) (C0 : lw_C l p e s m below meth c b L N xs A dC dI cy cB) (i : Nat) (hi : i + 4 ≤ L) (p1 p2 p3 : Int32) (hp1 : xs (i + 1) = p1) (hp2 : xs (i + 2) = p2) (hp3 : xs (i + 3) = p3) (cells slots : Nat) (hcs : cells + 760 ≤ 716141) (hss : slots + 4500 ≤ 6947682) (K : lw_K l p e s m below meth c b L N xs A dC dI cy cB h0 h1 hw1 hc1 hb1 h2 hw2 hc2 hb2 ho m0 m1 mc1 m2 mc2 i (cells + 760) (slots + 4500) 3660) (a1 : Int32) (r1 : Int32) (f1 : Nat → Int64) (g1 : Nat → Int64) (a2 : Int32) (r2 : Int32) (f2 : Nat → Int64) (g2 : Nat → Int64) (kn : Int32) (nv : Int64) (sv : Value) (th : Int32) (H : Heap) (locs : List Loc) (ls : Array Slot) (hka1 : okA true f1) (hka2 : okA false f2) (hP : va_P (dC, dI) xCl [(h0, eE h1 h2 kn), (h1, eR hw1 hc1 hb1 a1 r1), (hw1, eW true), (hc1, eA cy f1), (hb1, eA cy g1), (h2, eR hw2 hc2 hb2 a2 r2), (hw2, eW false), (hc2, eA cy f2), (hb2, eA cy g2), (ho, eO nv sv), (m0, eM m1 m2 th (r1 + r2) kn), (m1, eMR true mc1 a1), (mc1, eA cy f1), (m2, eMR false mc2 a2), (mc2, eA cy f2)] H) (hD : va_D A [(h0, eE h1 h2 kn), (h1, eR hw1 hc1 hb1 a1 r1), (hw1, eW true), (hc1, eA cy f1), (hb1, eA cy g1), (h2, eR hw2 hc2 hb2 a2 r2), (hw2, eW false), (hc2, eA cy f2), (hb2, eA cy g2), (ho, eO nv sv), (m0, eM m1 m2 th (r1 + r2) kn), (m1, eMR true mc1 a1), (mc1, eA cy f1), (m2, eMR false mc2 a2), (mc2, eA cy f2)]) (hS : va_S A s.heap H locs) (hl : lv_has ls 7 [(0, .ref b), (1, .ref h0), (2, .ref m0), (3, .ref ho), (4, .int (nI i))]) : W p l e room_1 s m #[Value.ref b] below meth c H locs cells slots (lw_Z below #[Value.ref b] s) (F0 m 2080 ls []) := by
  obtain ⟨hfl, hx, hb, hr, hml, hown, hts, hX, hbl, hbA, hlocks, hK, hG, hnc, hA, hAN, hN, hL, hT, hNs⟩ := id C0
  have hok2 := me_okF hka2
  have hsp1 : ∀ k, k < 8 → o_X1_isSpoiled true (f1 k) = false := fun k hk => (hka1 k hk).2
  have hsp2 : ∀ k, k < 8 → o_X1_isSpoiled false (f2 k) = false := fun k hk => (hka2 k hk).2
  have qx_narrowKnown : (o_L_narrowKnown a2 f2 nv p1 p2).1 = (o_X5_narrowKnown a2 f2 p1 p2).2.2.2 := by have hm := ml_narrowKnown a2 nv p1 p2 hka2; rw [hm.1] <;> rfl
  have qn_narrowKnown : (o_L_narrowKnown a2 f2 nv p1 p2).2.2.2 = if (o_X5_narrowKnown a2 f2 p1 p2).2.2.2 = 0 then ((o_X5_narrowKnown a2 f2 p1 p2).1).toInt64 else nv := by have hm := ml_narrowKnown a2 nv p1 p2 hka2; rw [hm.1] <;> rfl
  refine lv_aload_n hx hb dL_law_2080 rfl (lv_at hl 1 rfl) ?_
  refine lv_aload_n hx hb dL_law_2081 rfl (lv_at hl 0 rfl) ?_
  refine lv_iload hx hb dL_law_2082 (lv_at hl 4 rfl) ?_
  refine lv_iconst (v := 1) hx hb dL_law_2084 (by decide +kernel) ?_
  refine lv_iadd hx hb dL_law_2085 ?_
  rw [nI_1 i]
  refine xa_sld hx hb hX hbl hbA hS (k := i + 1) (by omega) hL hp1 dL_law_2086 ?_
  refine lv_aload_n hx hb dL_law_2087 rfl (lv_at hl 0 rfl) ?_
  refine lv_iload hx hb dL_law_2088 (lv_at hl 4 rfl) ?_
  refine lv_iconst (v := 2) hx hb dL_law_2090 (by decide +kernel) ?_
  refine lv_iadd hx hb dL_law_2091 ?_
  rw [nI_p2 i]
  refine xa_sld hx hb hX hbl hbA hS (k := i + 2) (by omega) hL hp2 dL_law_2092 ?_
  refine lv_aload_n hx hb dL_law_2093 rfl (lv_at hl 3 rfl) ?_
  have hPc := hP.sub (ws' := [(h0, eE h1 h2 kn), (h1, eR hw1 hc1 hb1 a1 r1), (hw1, eW true), (hc1, eA cy f1), (hb1, eA cy g1), (h2, eR hw2 hc2 hb2 a2 r2), (hw2, eW false), (hc2, eA cy f2), (hb2, eA cy g2), (ho, eO nv sv)]) [0, 1, 2, 3, 4, 5, 6, 7, 8, 9] rfl
  have hDc := hD.sub (ws' := [(h0, eE h1 h2 kn), (h1, eR hw1 hc1 hb1 a1 r1), (hw1, eW true), (hc1, eA cy f1), (hb1, eA cy g1), (h2, eR hw2 hc2 hb2 a2 r2), (hw2, eW false), (hc2, eA cy f2), (hb2, eA cy g2), (ho, eO nv sv)]) [0, 1, 2, 3, 4, 5, 6, 7, 8, 9] (by decide +kernel) rfl
  have hKc := hK.sub (tys' := [(cy, .long)]) [0] rfl
  have hFc := va_free (wc := [(h0, eE h1 h2 kn), (h1, eR hw1 hc1 hb1 a1 r1), (hw1, eW true), (hc1, eA cy f1), (hb1, eA cy g1), (h2, eR hw2 hc2 hb2 a2 r2), (hw2, eW false), (hc2, eA cy f2), (hb2, eA cy g2), (ho, eO nv sv)]) hD hS hA [0, 1, 2, 3, 4, 5, 6, 7, 8, 9] rfl
  refine va_calli (vx_runSW (As := [.ref h0, .int p1, .int p2, .ref ho]) (rest := []) ⟨hx, hb, hml, hown, hts⟩ (k_L_narrowKnown l hfl dC dI cy h0 h1 hw1 hc1 hb1 h2 hw2 hc2 hb2 a1 r1 f1 g1 a2 r2 f2 g2 kn ho nv sv H.size N p1 p2) (vx_cwSW 4 hts gL_law_L_narrowKnown rfl rfl rfl (by decide +kernel) ⟨Nat.le_of_ble_eq_true rfl, Nat.le_of_ble_eq_true rfl⟩) (xL.preS hKc hPc hDc hAN (Nat.le_trans hN hS.1) (hG.kept hS hAN) hnc) rfl rfl hl.1 rfl (lv_room (Nat.le_of_ble_eq_true rfl)) dL_law_2094 ⟨(show _ ≤ 716141 by omega), (show _ ≤ 6947682 by omega)⟩) hS (fun q _ h => hFc q h) hFc (fun r_1 u t H locs ht hvm hw hB hz hk hS => ?_)
  replace hw : r_1 = (o_L_narrowKnown a2 f2 nv p1 p2).1 := hw
  subst r_1
  obtain ⟨hP1, hD1⟩ := hB
  rw [ht] at hP1
  obtain ⟨hP, hD⟩ := va_join (wr := [(m0, eM m1 m2 th (r1 + r2) kn), (m1, eMR true mc1 a1), (mc1, eA cy f1), (m2, eMR false mc2 a2), (mc2, eA cy f2)]) (w1 := [(h0, eE h1 h2 kn), (h1, eR hw1 hc1 hb1 a1 r1), (hw1, eW true), (hc1, eA cy f1), (hb1, eA cy g1), (h2, eR hw2 hc2 hb2 (o_L_narrowKnown a2 f2 nv p1 p2).2.1 r2), (hw2, eW false), (hc2, eA cy (o_L_narrowKnown a2 f2 nv p1 p2).2.2.1), (hb2, eA cy g2), (ho, eO (o_L_narrowKnown a2 f2 nv p1 p2).2.2.2 sv)]) hP hD [0, 1, 2, 3, 4, 5, 6, 7, 8, 9] [10, 11, 12, 13, 14] rfl rfl (by decide +kernel) (by decide +kernel) hk hFc hP1 hD1
  have hP := hP.sub (ws' := [(h0, eE h1 h2 kn), (h1, eR hw1 hc1 hb1 a1 r1), (hw1, eW true), (hc1, eA cy f1), (hb1, eA cy g1), (h2, eR hw2 hc2 hb2 (o_L_narrowKnown a2 f2 nv p1 p2).2.1 r2), (hw2, eW false), (hc2, eA cy (o_L_narrowKnown a2 f2 nv p1 p2).2.2.1), (hb2, eA cy g2), (ho, eO (o_L_narrowKnown a2 f2 nv p1 p2).2.2.2 sv), (m0, eM m1 m2 th (r1 + r2) kn), (m1, eMR true mc1 a1), (mc1, eA cy f1), (m2, eMR false mc2 a2), (mc2, eA cy f2)]) [5, 6, 7, 8, 9, 10, 11, 12, 13, 14, 0, 1, 2, 3, 4] rfl
  have hD := hD.sub (ws' := [(h0, eE h1 h2 kn), (h1, eR hw1 hc1 hb1 a1 r1), (hw1, eW true), (hc1, eA cy f1), (hb1, eA cy g1), (h2, eR hw2 hc2 hb2 (o_L_narrowKnown a2 f2 nv p1 p2).2.1 r2), (hw2, eW false), (hc2, eA cy (o_L_narrowKnown a2 f2 nv p1 p2).2.2.1), (hb2, eA cy g2), (ho, eO (o_L_narrowKnown a2 f2 nv p1 p2).2.2.2 sv), (m0, eM m1 m2 th (r1 + r2) kn), (m1, eMR true mc1 a1), (mc1, eA cy f1), (m2, eMR false mc2 a2), (mc2, eA cy f2)]) [5, 6, 7, 8, 9, 10, 11, 12, 13, 14, 0, 1, 2, 3, 4] (by decide +kernel) rfl
  refine lv_istore (lv' := [(5, .int ((o_L_narrowKnown a2 f2 nv p1 p2).1)), (0, .ref b), (1, .ref h0), (2, .ref m0), (3, .ref ho), (4, .int (nI i))]) hx hb dL_law_2097 hl (by decide +kernel) rfl (fun ls hl => ?_)
  refine lv_aload_n hx hb dL_law_2099 rfl (lv_at hl 3 rfl) ?_
  refine lv_aload_n hx hb dL_law_2100 rfl (lv_at hl 1 rfl) ?_
  refine lv_iload hx hb dL_law_2101 (lv_at hl 5 rfl) ?_
  refine lv_iconst (v := 1) hx hb dL_law_2103 (by decide +kernel) ?_
  refine lv_iadd hx hb dL_law_2104 ?_
  rw [nI_1 i]
  refine xa_sld hx hb hX hbl hbA hS (k := i + 1) (by omega) hL hp1 dL_law_2105 ?_
  refine lv_aload_n hx hb dL_law_2106 rfl (lv_at hl 1 rfl) ?_
  refine lv_iload hx hb dL_law_2107 (lv_at hl 5 rfl) ?_
  refine lv_iconst (v := 2) hx hb dL_law_2109 (by decide +kernel) ?_
  refine lv_iadd hx hb dL_law_2110 ?_
  rw [nI_p2 i]
  refine xa_sld hx hb hX hbl hbA hS (k := i + 2) (by omega) hL hp2 dL_law_2111 ?_
  have hPc := hP.sub (ws' := [(m0, eM m1 m2 th (r1 + r2) kn), (m1, eMR true mc1 a1), (mc1, eA cy f1), (m2, eMR false mc2 a2), (mc2, eA cy f2)]) [10, 11, 12, 13, 14] rfl
  have hDc := hD.sub (ws' := [(m0, eM m1 m2 th (r1 + r2) kn), (m1, eMR true mc1 a1), (mc1, eA cy f1), (m2, eMR false mc2 a2), (mc2, eA cy f2)]) [10, 11, 12, 13, 14] (by decide +kernel) rfl
  have hKc := hK.sub (tys' := [(cy, .long)]) [0] rfl
  have hFc := va_free (wc := [(m0, eM m1 m2 th (r1 + r2) kn), (m1, eMR true mc1 a1), (mc1, eA cy f1), (m2, eMR false mc2 a2), (mc2, eA cy f2)]) hD hS hA [10, 11, 12, 13, 14] rfl
  refine va_calli (va_runV (As := [.int p1, .int p2]) (rest := []) ⟨hx, hb, hml, hown, hts⟩ (k_X5_narrowKnown l dC dI cy m0 m1 mc1 m2 mc2 a1 f1 a2 f2 th (r1 + r2) kn H.size N p1 p2) (cwV 2 hts gL_law_X5_narrowKnown rfl rfl rfl (by decide +kernel) ⟨Nat.le_of_ble_eq_true rfl, Nat.le_of_ble_eq_true rfl⟩) (xM.preV hKc hPc hDc hAN (Nat.le_trans hN hS.1) (hG.kept hS hAN) (ci := 7) (q0 := 0) rfl rfl) rfl rfl hl.1 rfl (lv_room (Nat.le_of_ble_eq_true rfl)) dL_law_2112 ⟨(show _ ≤ 716141 by omega), (show _ ≤ 6947682 by omega)⟩) hS (fun q _ h => hFc q h) hFc (fun r_2 u t H locs ht hvm hw hB hz hk hS => ?_)
  replace hw : r_2 = (o_X5_narrowKnown a2 f2 p1 p2).1 := hw
  subst r_2
  obtain ⟨hP1, hD1⟩ := hB
  rw [ht] at hP1
  obtain ⟨hP, hD⟩ := va_join (wr := [(h0, eE h1 h2 kn), (h1, eR hw1 hc1 hb1 a1 r1), (hw1, eW true), (hc1, eA cy f1), (hb1, eA cy g1), (h2, eR hw2 hc2 hb2 (o_L_narrowKnown a2 f2 nv p1 p2).2.1 r2), (hw2, eW false), (hc2, eA cy (o_L_narrowKnown a2 f2 nv p1 p2).2.2.1), (hb2, eA cy g2), (ho, eO (o_L_narrowKnown a2 f2 nv p1 p2).2.2.2 sv)]) (w1 := [(m0, eM m1 m2 (o_X5_narrowKnown a2 f2 p1 p2).2.2.2 (r1 + r2) kn), (m1, eMR true mc1 a1), (mc1, eA cy f1), (m2, eMR false mc2 (o_X5_narrowKnown a2 f2 p1 p2).2.1), (mc2, eA cy (o_X5_narrowKnown a2 f2 p1 p2).2.2.1)]) hP hD [10, 11, 12, 13, 14] [0, 1, 2, 3, 4, 5, 6, 7, 8, 9] rfl rfl (by decide +kernel) (by decide +kernel) hk hFc hP1 hD1
  have hP := hP.sub (ws' := [(h0, eE h1 h2 kn), (h1, eR hw1 hc1 hb1 a1 r1), (hw1, eW true), (hc1, eA cy f1), (hb1, eA cy g1), (h2, eR hw2 hc2 hb2 (o_L_narrowKnown a2 f2 nv p1 p2).2.1 r2), (hw2, eW false), (hc2, eA cy (o_L_narrowKnown a2 f2 nv p1 p2).2.2.1), (hb2, eA cy g2), (ho, eO (o_L_narrowKnown a2 f2 nv p1 p2).2.2.2 sv), (m0, eM m1 m2 (o_X5_narrowKnown a2 f2 p1 p2).2.2.2 (r1 + r2) kn), (m1, eMR true mc1 a1), (mc1, eA cy f1), (m2, eMR false mc2 (o_X5_narrowKnown a2 f2 p1 p2).2.1), (mc2, eA cy (o_X5_narrowKnown a2 f2 p1 p2).2.2.1)]) [0, 1, 2, 3, 4, 5, 6, 7, 8, 9, 10, 11, 12, 13, 14] rfl
  have hD := hD.sub (ws' := [(h0, eE h1 h2 kn), (h1, eR hw1 hc1 hb1 a1 r1), (hw1, eW true), (hc1, eA cy f1), (hb1, eA cy g1), (h2, eR hw2 hc2 hb2 (o_L_narrowKnown a2 f2 nv p1 p2).2.1 r2), (hw2, eW false), (hc2, eA cy (o_L_narrowKnown a2 f2 nv p1 p2).2.2.1), (hb2, eA cy g2), (ho, eO (o_L_narrowKnown a2 f2 nv p1 p2).2.2.2 sv), (m0, eM m1 m2 (o_X5_narrowKnown a2 f2 p1 p2).2.2.2 (r1 + r2) kn), (m1, eMR true mc1 a1), (mc1, eA cy f1), (m2, eMR false mc2 (o_X5_narrowKnown a2 f2 p1 p2).2.1), (mc2, eA cy (o_X5_narrowKnown a2 f2 p1 p2).2.2.1)]) [0, 1, 2, 3, 4, 5, 6, 7, 8, 9, 10, 11, 12, 13, 14] (by decide +kernel) rfl
  refine lv_istore (lv' := [(6, .int ((o_X5_narrowKnown a2 f2 p1 p2).1)), (5, .int ((o_L_narrowKnown a2 f2 nv p1 p2).1)), (0, .ref b), (1, .ref h0), (2, .ref m0), (3, .ref ho), (4, .int (nI i))]) hx hb dL_law_2115 hl (by decide +kernel) rfl (fun ls hl => ?_)
  refine lv_aload_n hx hb dL_law_2117 rfl (lv_at hl 4 rfl) ?_
  have hPc := hP.sub (ws' := [(m0, eM m1 m2 (o_X5_narrowKnown a2 f2 p1 p2).2.2.2 (r1 + r2) kn)]) [10] rfl
  have hKc := hK.sub (tys' := []) [] rfl
  refine va_calli (va_runV (As := []) (rest := []) ⟨hx, hb, hml, hown, hts⟩ (k_X5_thrown l dC dI m0 m1 m2 ((o_X5_narrowKnown a2 f2 p1 p2).2.2.2) (r1 + r2) kn H.size) (cwV 0 hts gL_law_X5_thrown rfl rfl rfl (by decide +kernel) ⟨Nat.le_of_ble_eq_true rfl, Nat.le_of_ble_eq_true rfl⟩) (xB.preV hKc hPc (ci := 7) (q0 := 0) rfl rfl) rfl rfl hl.1 rfl (lv_room (Nat.le_of_ble_eq_true rfl)) dL_law_2118 ⟨(show _ ≤ 716141 by omega), (show _ ≤ 6947682 by omega)⟩) hS xA_old (fun q h => hA q (Nat.le_trans hS.1 h)) (fun r_3 u t H locs ht hvm hw hB hz hk hS => ?_)
  replace hw : r_3 = (o_X5_thrown ((o_X5_narrowKnown a2 f2 p1 p2).2.2.2)) := hw
  subst r_3
  have hP := xP_keep hP hk
  refine lv_iload hx hb dL_law_2121 (lv_at hl 1 rfl) ?_
  refine lv_icmp_eq (tgt := 2128) hx hb dL_law_2123 (by decide +kernel) (fun c9 => ?_) (fun c9 => absurd (show o_X5_thrown _ = _ from (qx_narrowKnown).symm) c9)
  refine lv_iload hx hb dL_law_2128 (lv_at hl 1 rfl) ?_
  refine lv_if_ne (tgt := 2146) hx hb dL_law_2130 (by decide +kernel) (fun c_4 => ?_) (fun c_4 => ?_)
  · skip
    refine lv_goto (tgt := 3660) hx hb dL_law_2146 (by decide +kernel) ?_
    refine W.widen (k := cells + 760) (n := slots + 4500) (by omega) (by omega) ?_
    have qe_b2 : (o_X5_narrowKnown a2 f2 p1 p2).2.1 = (o_L_narrowKnown a2 f2 nv p1 p2).2.1 := (by have hm := ml_narrowKnown a2 nv p1 p2 hka2; rw [hm.1] <;> rfl)
    have qe_e2 : (o_X5_narrowKnown a2 f2 p1 p2).2.2.1 = (o_L_narrowKnown a2 f2 nv p1 p2).2.2.1 := (by have hm := ml_narrowKnown a2 nv p1 p2 hka2; rw [hm.1] <;> rfl)
    have qk_2 : okA false ((o_L_narrowKnown a2 f2 nv p1 p2).2.2.1) := (by have hm := ml_narrowKnown a2 nv p1 p2 hka2; rw [hm.1]; exact hm.2)
    exact K a1 r1 f1 g1 ((o_L_narrowKnown a2 f2 nv p1 p2).2.1) r2 ((o_L_narrowKnown a2 f2 nv p1 p2).2.2.1) g2 kn ((o_L_narrowKnown a2 f2 nv p1 p2).2.2.2) sv ((o_X5_narrowKnown a2 f2 p1 p2).2.2.2) a1 f1 ((o_X5_narrowKnown a2 f2 p1 p2).2.1) ((o_X5_narrowKnown a2 f2 p1 p2).2.2.1) (r1 + r2) kn _ _ _ rfl rfl qe_b2 qe_e2 rfl rfl hka1 qk_2 hP hD hS (lv_sub hl [2, 3, 4, 5, 6] rfl)
  · skip
    refine lv_aload_n hx hb dL_law_2133 rfl (lv_at hl 5 rfl) ?_
    refine va_getN (D := (dC, dI)) (ci := 5) (v := .long ((o_L_narrowKnown a2 f2 nv p1 p2).2.2.2)) (C := RX3) (T := TX3) (N := 2) hx hb hts (by decide +kernel) hown hK hP 9 rfl rfl 0 (by decide +kernel) (va_Nw.use rfl (hG.1 (.fieldLinkNest RL 13 "EdgefloatsLaw$Out" "n" "J" RL) (List.mem_of_getElem? (i := 6) rfl))) (fun _ h9 => h9) rfl dL_law_2134 ?_
    refine lv_iload hx hb dL_law_2137 (lv_at hl 0 rfl) ?_
    refine lv_i2l (v := (((o_X5_narrowKnown a2 f2 p1 p2).1).toInt64)) hx hb dL_law_2139 rfl ?_
    refine xc_eq (tgt := 2146) hx hb dL_law_2140 dL_law_2141 (by decide +kernel) (fun c9 => ?_) (fun c9 => absurd ((qn_narrowKnown).trans (if_pos ((qx_narrowKnown).symm.trans c_4))) c9)
    refine lv_goto (tgt := 3660) hx hb dL_law_2146 (by decide +kernel) ?_
    refine W.widen (k := cells + 760) (n := slots + 4500) (by omega) (by omega) ?_
    have qe_b2 : (o_X5_narrowKnown a2 f2 p1 p2).2.1 = (o_L_narrowKnown a2 f2 nv p1 p2).2.1 := (by have hm := ml_narrowKnown a2 nv p1 p2 hka2; rw [hm.1] <;> rfl)
    have qe_e2 : (o_X5_narrowKnown a2 f2 p1 p2).2.2.1 = (o_L_narrowKnown a2 f2 nv p1 p2).2.2.1 := (by have hm := ml_narrowKnown a2 nv p1 p2 hka2; rw [hm.1] <;> rfl)
    have qk_2 : okA false ((o_L_narrowKnown a2 f2 nv p1 p2).2.2.1) := (by have hm := ml_narrowKnown a2 nv p1 p2 hka2; rw [hm.1]; exact hm.2)
    exact K a1 r1 f1 g1 ((o_L_narrowKnown a2 f2 nv p1 p2).2.1) r2 ((o_L_narrowKnown a2 f2 nv p1 p2).2.2.1) g2 kn ((o_L_narrowKnown a2 f2 nv p1 p2).2.2.2) sv ((o_X5_narrowKnown a2 f2 p1 p2).2.2.2) a1 f1 ((o_X5_narrowKnown a2 f2 p1 p2).2.1) ((o_X5_narrowKnown a2 f2 p1 p2).2.2.1) (r1 + r2) kn _ _ _ rfl rfl qe_b2 qe_e2 rfl rfl hka1 qk_2 hP hD hS (lv_sub hl [2, 3, 4, 5, 6] rfl)
set_option maxHeartbeats 4000000 in
set_option maxRecDepth 100000 in
theorem st_26 (l : Launch) (p : Program) (e : Env) (s : State) (m : MethodId) (below : List Frame) (meth : Method) (c : Code) (b L N : Nat) (xs : Nat → Int32) (A : Nat → Prop) (dC : Nat → ClassId) (dI : Nat → Nat → Nat) (cy cB : ClassId) (h0 h1 hw1 hc1 hb1 h2 hw2 hc2 hb2 ho m0 m1 mc1 m2 mc2 : Nat) (C0 : lw_C l p e s m below meth c b L N xs A dC dI cy cB) (i : Nat) (hi : i + 4 ≤ L) (p1 p2 p3 : Int32) (hp1 : xs (i + 1) = p1) (hp2 : xs (i + 2) = p2) (hp3 : xs (i + 3) = p3) (cells slots : Nat) (hcs : cells + 760 ≤ 716141) (hss : slots + 4500 ≤ 6947682) (K : lw_K l p e s m below meth c b L N xs A dC dI cy cB h0 h1 hw1 hc1 hb1 h2 hw2 hc2 hb2 ho m0 m1 mc1 m2 mc2 i (cells + 760) (slots + 4500) 3660) (a1 : Int32) (r1 : Int32) (f1 : Nat → Int64) (g1 : Nat → Int64) (a2 : Int32) (r2 : Int32) (f2 : Nat → Int64) (g2 : Nat → Int64) (kn : Int32) (nv : Int64) (sv : Value) (th : Int32) (H : Heap) (locs : List Loc) (ls : Array Slot) (hka1 : okA true f1) (hka2 : okA false f2) (hP : va_P (dC, dI) xCl [(h0, eE h1 h2 kn), (h1, eR hw1 hc1 hb1 a1 r1), (hw1, eW true), (hc1, eA cy f1), (hb1, eA cy g1), (h2, eR hw2 hc2 hb2 a2 r2), (hw2, eW false), (hc2, eA cy f2), (hb2, eA cy g2), (ho, eO nv sv), (m0, eM m1 m2 th (r1 + r2) kn), (m1, eMR true mc1 a1), (mc1, eA cy f1), (m2, eMR false mc2 a2), (mc2, eA cy f2)] H) (hD : va_D A [(h0, eE h1 h2 kn), (h1, eR hw1 hc1 hb1 a1 r1), (hw1, eW true), (hc1, eA cy f1), (hb1, eA cy g1), (h2, eR hw2 hc2 hb2 a2 r2), (hw2, eW false), (hc2, eA cy f2), (hb2, eA cy g2), (ho, eO nv sv), (m0, eM m1 m2 th (r1 + r2) kn), (m1, eMR true mc1 a1), (mc1, eA cy f1), (m2, eMR false mc2 a2), (mc2, eA cy f2)]) (hS : va_S A s.heap H locs) (hl : lv_has ls 7 [(0, .ref b), (1, .ref h0), (2, .ref m0), (3, .ref ho), (4, .int (nI i))]) : W p l e room_1 s m #[Value.ref b] below meth c H locs cells slots (lw_Z below #[Value.ref b] s) (F0 m 2149 ls []) := by
  obtain ⟨hfl, hx, hb, hr, hml, hown, hts, hX, hbl, hbA, hlocks, hK, hG, hnc, hA, hAN, hN, hL, hT, hNs⟩ := id C0
  have hok2 := me_okF hka2
  have hsp1 : ∀ k, k < 8 → o_X1_isSpoiled true (f1 k) = false := fun k hk => (hka1 k hk).2
  have hsp2 : ∀ k, k < 8 → o_X1_isSpoiled false (f2 k) = false := fun k hk => (hka2 k hk).2
  have qx_narrowCopy : (o_L_narrowCopy a2 f2 nv p1 p2).1 = (o_X5_narrowCopy a2 f2 p1 p2).2.2.2 := by have hm := ml_narrowCopy a2 nv p1 p2 hka2; rw [hm.1] <;> rfl
  have qn_narrowCopy : (o_L_narrowCopy a2 f2 nv p1 p2).2.2.2 = if (o_X5_narrowCopy a2 f2 p1 p2).2.2.2 = 0 then ((o_X5_narrowCopy a2 f2 p1 p2).1).toInt64 else nv := by have hm := ml_narrowCopy a2 nv p1 p2 hka2; rw [hm.1] <;> rfl
  refine lv_aload_n hx hb dL_law_2149 rfl (lv_at hl 1 rfl) ?_
  refine lv_aload_n hx hb dL_law_2150 rfl (lv_at hl 0 rfl) ?_
  refine lv_iload hx hb dL_law_2151 (lv_at hl 4 rfl) ?_
  refine lv_iconst (v := 1) hx hb dL_law_2153 (by decide +kernel) ?_
  refine lv_iadd hx hb dL_law_2154 ?_
  rw [nI_1 i]
  refine xa_sld hx hb hX hbl hbA hS (k := i + 1) (by omega) hL hp1 dL_law_2155 ?_
  refine lv_aload_n hx hb dL_law_2156 rfl (lv_at hl 0 rfl) ?_
  refine lv_iload hx hb dL_law_2157 (lv_at hl 4 rfl) ?_
  refine lv_iconst (v := 2) hx hb dL_law_2159 (by decide +kernel) ?_
  refine lv_iadd hx hb dL_law_2160 ?_
  rw [nI_p2 i]
  refine xa_sld hx hb hX hbl hbA hS (k := i + 2) (by omega) hL hp2 dL_law_2161 ?_
  refine lv_aload_n hx hb dL_law_2162 rfl (lv_at hl 3 rfl) ?_
  have hPc := hP.sub (ws' := [(h0, eE h1 h2 kn), (h1, eR hw1 hc1 hb1 a1 r1), (hw1, eW true), (hc1, eA cy f1), (hb1, eA cy g1), (h2, eR hw2 hc2 hb2 a2 r2), (hw2, eW false), (hc2, eA cy f2), (hb2, eA cy g2), (ho, eO nv sv)]) [0, 1, 2, 3, 4, 5, 6, 7, 8, 9] rfl
  have hDc := hD.sub (ws' := [(h0, eE h1 h2 kn), (h1, eR hw1 hc1 hb1 a1 r1), (hw1, eW true), (hc1, eA cy f1), (hb1, eA cy g1), (h2, eR hw2 hc2 hb2 a2 r2), (hw2, eW false), (hc2, eA cy f2), (hb2, eA cy g2), (ho, eO nv sv)]) [0, 1, 2, 3, 4, 5, 6, 7, 8, 9] (by decide +kernel) rfl
  have hKc := hK.sub (tys' := [(cy, .long)]) [0] rfl
  have hFc := va_free (wc := [(h0, eE h1 h2 kn), (h1, eR hw1 hc1 hb1 a1 r1), (hw1, eW true), (hc1, eA cy f1), (hb1, eA cy g1), (h2, eR hw2 hc2 hb2 a2 r2), (hw2, eW false), (hc2, eA cy f2), (hb2, eA cy g2), (ho, eO nv sv)]) hD hS hA [0, 1, 2, 3, 4, 5, 6, 7, 8, 9] rfl
  refine va_calli (vx_runSW (As := [.ref h0, .int p1, .int p2, .ref ho]) (rest := []) ⟨hx, hb, hml, hown, hts⟩ (k_L_narrowCopy l hfl dC dI cy h0 h1 hw1 hc1 hb1 h2 hw2 hc2 hb2 a1 r1 f1 g1 a2 r2 f2 g2 kn ho nv sv H.size N p1 p2) (vx_cwSW 4 hts gL_law_L_narrowCopy rfl rfl rfl (by decide +kernel) ⟨Nat.le_of_ble_eq_true rfl, Nat.le_of_ble_eq_true rfl⟩) (xL.preS hKc hPc hDc hAN (Nat.le_trans hN hS.1) (hG.kept hS hAN) hnc) rfl rfl hl.1 rfl (lv_room (Nat.le_of_ble_eq_true rfl)) dL_law_2163 ⟨(show _ ≤ 716141 by omega), (show _ ≤ 6947682 by omega)⟩) hS (fun q _ h => hFc q h) hFc (fun r_1 u t H locs ht hvm hw hB hz hk hS => ?_)
  replace hw : r_1 = (o_L_narrowCopy a2 f2 nv p1 p2).1 := hw
  subst r_1
  obtain ⟨hP1, hD1⟩ := hB
  rw [ht] at hP1
  obtain ⟨hP, hD⟩ := va_join (wr := [(m0, eM m1 m2 th (r1 + r2) kn), (m1, eMR true mc1 a1), (mc1, eA cy f1), (m2, eMR false mc2 a2), (mc2, eA cy f2)]) (w1 := [(h0, eE h1 h2 kn), (h1, eR hw1 hc1 hb1 a1 r1), (hw1, eW true), (hc1, eA cy f1), (hb1, eA cy g1), (h2, eR hw2 hc2 hb2 (o_L_narrowCopy a2 f2 nv p1 p2).2.1 r2), (hw2, eW false), (hc2, eA cy (o_L_narrowCopy a2 f2 nv p1 p2).2.2.1), (hb2, eA cy g2), (ho, eO (o_L_narrowCopy a2 f2 nv p1 p2).2.2.2 sv)]) hP hD [0, 1, 2, 3, 4, 5, 6, 7, 8, 9] [10, 11, 12, 13, 14] rfl rfl (by decide +kernel) (by decide +kernel) hk hFc hP1 hD1
  have hP := hP.sub (ws' := [(h0, eE h1 h2 kn), (h1, eR hw1 hc1 hb1 a1 r1), (hw1, eW true), (hc1, eA cy f1), (hb1, eA cy g1), (h2, eR hw2 hc2 hb2 (o_L_narrowCopy a2 f2 nv p1 p2).2.1 r2), (hw2, eW false), (hc2, eA cy (o_L_narrowCopy a2 f2 nv p1 p2).2.2.1), (hb2, eA cy g2), (ho, eO (o_L_narrowCopy a2 f2 nv p1 p2).2.2.2 sv), (m0, eM m1 m2 th (r1 + r2) kn), (m1, eMR true mc1 a1), (mc1, eA cy f1), (m2, eMR false mc2 a2), (mc2, eA cy f2)]) [5, 6, 7, 8, 9, 10, 11, 12, 13, 14, 0, 1, 2, 3, 4] rfl
  have hD := hD.sub (ws' := [(h0, eE h1 h2 kn), (h1, eR hw1 hc1 hb1 a1 r1), (hw1, eW true), (hc1, eA cy f1), (hb1, eA cy g1), (h2, eR hw2 hc2 hb2 (o_L_narrowCopy a2 f2 nv p1 p2).2.1 r2), (hw2, eW false), (hc2, eA cy (o_L_narrowCopy a2 f2 nv p1 p2).2.2.1), (hb2, eA cy g2), (ho, eO (o_L_narrowCopy a2 f2 nv p1 p2).2.2.2 sv), (m0, eM m1 m2 th (r1 + r2) kn), (m1, eMR true mc1 a1), (mc1, eA cy f1), (m2, eMR false mc2 a2), (mc2, eA cy f2)]) [5, 6, 7, 8, 9, 10, 11, 12, 13, 14, 0, 1, 2, 3, 4] (by decide +kernel) rfl
  refine lv_istore (lv' := [(5, .int ((o_L_narrowCopy a2 f2 nv p1 p2).1)), (0, .ref b), (1, .ref h0), (2, .ref m0), (3, .ref ho), (4, .int (nI i))]) hx hb dL_law_2166 hl (by decide +kernel) rfl (fun ls hl => ?_)
  refine lv_aload_n hx hb dL_law_2168 rfl (lv_at hl 3 rfl) ?_
  refine lv_aload_n hx hb dL_law_2169 rfl (lv_at hl 1 rfl) ?_
  refine lv_iload hx hb dL_law_2170 (lv_at hl 5 rfl) ?_
  refine lv_iconst (v := 1) hx hb dL_law_2172 (by decide +kernel) ?_
  refine lv_iadd hx hb dL_law_2173 ?_
  rw [nI_1 i]
  refine xa_sld hx hb hX hbl hbA hS (k := i + 1) (by omega) hL hp1 dL_law_2174 ?_
  refine lv_aload_n hx hb dL_law_2175 rfl (lv_at hl 1 rfl) ?_
  refine lv_iload hx hb dL_law_2176 (lv_at hl 5 rfl) ?_
  refine lv_iconst (v := 2) hx hb dL_law_2178 (by decide +kernel) ?_
  refine lv_iadd hx hb dL_law_2179 ?_
  rw [nI_p2 i]
  refine xa_sld hx hb hX hbl hbA hS (k := i + 2) (by omega) hL hp2 dL_law_2180 ?_
  have hPc := hP.sub (ws' := [(m0, eM m1 m2 th (r1 + r2) kn), (m1, eMR true mc1 a1), (mc1, eA cy f1), (m2, eMR false mc2 a2), (mc2, eA cy f2)]) [10, 11, 12, 13, 14] rfl
  have hDc := hD.sub (ws' := [(m0, eM m1 m2 th (r1 + r2) kn), (m1, eMR true mc1 a1), (mc1, eA cy f1), (m2, eMR false mc2 a2), (mc2, eA cy f2)]) [10, 11, 12, 13, 14] (by decide +kernel) rfl
  have hKc := hK.sub (tys' := [(cy, .long)]) [0] rfl
  have hFc := va_free (wc := [(m0, eM m1 m2 th (r1 + r2) kn), (m1, eMR true mc1 a1), (mc1, eA cy f1), (m2, eMR false mc2 a2), (mc2, eA cy f2)]) hD hS hA [10, 11, 12, 13, 14] rfl
  refine va_calli (va_runV (As := [.int p1, .int p2]) (rest := []) ⟨hx, hb, hml, hown, hts⟩ (k_X5_narrowCopy l dC dI cy m0 m1 mc1 m2 mc2 a1 f1 a2 f2 th (r1 + r2) kn H.size N p1 p2) (cwV 2 hts gL_law_X5_narrowCopy rfl rfl rfl (by decide +kernel) ⟨Nat.le_of_ble_eq_true rfl, Nat.le_of_ble_eq_true rfl⟩) (xM.preV hKc hPc hDc hAN (Nat.le_trans hN hS.1) (hG.kept hS hAN) (ci := 7) (q0 := 0) rfl rfl) rfl rfl hl.1 rfl (lv_room (Nat.le_of_ble_eq_true rfl)) dL_law_2181 ⟨(show _ ≤ 716141 by omega), (show _ ≤ 6947682 by omega)⟩) hS (fun q _ h => hFc q h) hFc (fun r_2 u t H locs ht hvm hw hB hz hk hS => ?_)
  replace hw : r_2 = (o_X5_narrowCopy a2 f2 p1 p2).1 := hw
  subst r_2
  obtain ⟨hP1, hD1⟩ := hB
  rw [ht] at hP1
  obtain ⟨hP, hD⟩ := va_join (wr := [(h0, eE h1 h2 kn), (h1, eR hw1 hc1 hb1 a1 r1), (hw1, eW true), (hc1, eA cy f1), (hb1, eA cy g1), (h2, eR hw2 hc2 hb2 (o_L_narrowCopy a2 f2 nv p1 p2).2.1 r2), (hw2, eW false), (hc2, eA cy (o_L_narrowCopy a2 f2 nv p1 p2).2.2.1), (hb2, eA cy g2), (ho, eO (o_L_narrowCopy a2 f2 nv p1 p2).2.2.2 sv)]) (w1 := [(m0, eM m1 m2 (o_X5_narrowCopy a2 f2 p1 p2).2.2.2 (r1 + r2) kn), (m1, eMR true mc1 a1), (mc1, eA cy f1), (m2, eMR false mc2 (o_X5_narrowCopy a2 f2 p1 p2).2.1), (mc2, eA cy (o_X5_narrowCopy a2 f2 p1 p2).2.2.1)]) hP hD [10, 11, 12, 13, 14] [0, 1, 2, 3, 4, 5, 6, 7, 8, 9] rfl rfl (by decide +kernel) (by decide +kernel) hk hFc hP1 hD1
  have hP := hP.sub (ws' := [(h0, eE h1 h2 kn), (h1, eR hw1 hc1 hb1 a1 r1), (hw1, eW true), (hc1, eA cy f1), (hb1, eA cy g1), (h2, eR hw2 hc2 hb2 (o_L_narrowCopy a2 f2 nv p1 p2).2.1 r2), (hw2, eW false), (hc2, eA cy (o_L_narrowCopy a2 f2 nv p1 p2).2.2.1), (hb2, eA cy g2), (ho, eO (o_L_narrowCopy a2 f2 nv p1 p2).2.2.2 sv), (m0, eM m1 m2 (o_X5_narrowCopy a2 f2 p1 p2).2.2.2 (r1 + r2) kn), (m1, eMR true mc1 a1), (mc1, eA cy f1), (m2, eMR false mc2 (o_X5_narrowCopy a2 f2 p1 p2).2.1), (mc2, eA cy (o_X5_narrowCopy a2 f2 p1 p2).2.2.1)]) [0, 1, 2, 3, 4, 5, 6, 7, 8, 9, 10, 11, 12, 13, 14] rfl
  have hD := hD.sub (ws' := [(h0, eE h1 h2 kn), (h1, eR hw1 hc1 hb1 a1 r1), (hw1, eW true), (hc1, eA cy f1), (hb1, eA cy g1), (h2, eR hw2 hc2 hb2 (o_L_narrowCopy a2 f2 nv p1 p2).2.1 r2), (hw2, eW false), (hc2, eA cy (o_L_narrowCopy a2 f2 nv p1 p2).2.2.1), (hb2, eA cy g2), (ho, eO (o_L_narrowCopy a2 f2 nv p1 p2).2.2.2 sv), (m0, eM m1 m2 (o_X5_narrowCopy a2 f2 p1 p2).2.2.2 (r1 + r2) kn), (m1, eMR true mc1 a1), (mc1, eA cy f1), (m2, eMR false mc2 (o_X5_narrowCopy a2 f2 p1 p2).2.1), (mc2, eA cy (o_X5_narrowCopy a2 f2 p1 p2).2.2.1)]) [0, 1, 2, 3, 4, 5, 6, 7, 8, 9, 10, 11, 12, 13, 14] (by decide +kernel) rfl
  refine lv_istore (lv' := [(6, .int ((o_X5_narrowCopy a2 f2 p1 p2).1)), (5, .int ((o_L_narrowCopy a2 f2 nv p1 p2).1)), (0, .ref b), (1, .ref h0), (2, .ref m0), (3, .ref ho), (4, .int (nI i))]) hx hb dL_law_2184 hl (by decide +kernel) rfl (fun ls hl => ?_)
  refine lv_aload_n hx hb dL_law_2186 rfl (lv_at hl 4 rfl) ?_
  have hPc := hP.sub (ws' := [(m0, eM m1 m2 (o_X5_narrowCopy a2 f2 p1 p2).2.2.2 (r1 + r2) kn)]) [10] rfl
  have hKc := hK.sub (tys' := []) [] rfl
  refine va_calli (va_runV (As := []) (rest := []) ⟨hx, hb, hml, hown, hts⟩ (k_X5_thrown l dC dI m0 m1 m2 ((o_X5_narrowCopy a2 f2 p1 p2).2.2.2) (r1 + r2) kn H.size) (cwV 0 hts gL_law_X5_thrown rfl rfl rfl (by decide +kernel) ⟨Nat.le_of_ble_eq_true rfl, Nat.le_of_ble_eq_true rfl⟩) (xB.preV hKc hPc (ci := 7) (q0 := 0) rfl rfl) rfl rfl hl.1 rfl (lv_room (Nat.le_of_ble_eq_true rfl)) dL_law_2187 ⟨(show _ ≤ 716141 by omega), (show _ ≤ 6947682 by omega)⟩) hS xA_old (fun q h => hA q (Nat.le_trans hS.1 h)) (fun r_3 u t H locs ht hvm hw hB hz hk hS => ?_)
  replace hw : r_3 = (o_X5_thrown ((o_X5_narrowCopy a2 f2 p1 p2).2.2.2)) := hw
  subst r_3
  have hP := xP_keep hP hk
  refine lv_iload hx hb dL_law_2190 (lv_at hl 1 rfl) ?_
  refine lv_icmp_eq (tgt := 2197) hx hb dL_law_2192 (by decide +kernel) (fun c9 => ?_) (fun c9 => absurd (show o_X5_thrown _ = _ from (qx_narrowCopy).symm) c9)
  refine lv_iload hx hb dL_law_2197 (lv_at hl 1 rfl) ?_
  refine lv_if_ne (tgt := 2215) hx hb dL_law_2199 (by decide +kernel) (fun c_4 => ?_) (fun c_4 => ?_)
  · skip
    refine lv_goto (tgt := 3660) hx hb dL_law_2215 (by decide +kernel) ?_
    refine W.widen (k := cells + 760) (n := slots + 4500) (by omega) (by omega) ?_
    have qe_b2 : (o_X5_narrowCopy a2 f2 p1 p2).2.1 = (o_L_narrowCopy a2 f2 nv p1 p2).2.1 := (by have hm := ml_narrowCopy a2 nv p1 p2 hka2; rw [hm.1] <;> rfl)
    have qe_e2 : (o_X5_narrowCopy a2 f2 p1 p2).2.2.1 = (o_L_narrowCopy a2 f2 nv p1 p2).2.2.1 := (by have hm := ml_narrowCopy a2 nv p1 p2 hka2; rw [hm.1] <;> rfl)
    have qk_2 : okA false ((o_L_narrowCopy a2 f2 nv p1 p2).2.2.1) := (by have hm := ml_narrowCopy a2 nv p1 p2 hka2; rw [hm.1]; exact hm.2)
    exact K a1 r1 f1 g1 ((o_L_narrowCopy a2 f2 nv p1 p2).2.1) r2 ((o_L_narrowCopy a2 f2 nv p1 p2).2.2.1) g2 kn ((o_L_narrowCopy a2 f2 nv p1 p2).2.2.2) sv ((o_X5_narrowCopy a2 f2 p1 p2).2.2.2) a1 f1 ((o_X5_narrowCopy a2 f2 p1 p2).2.1) ((o_X5_narrowCopy a2 f2 p1 p2).2.2.1) (r1 + r2) kn _ _ _ rfl rfl qe_b2 qe_e2 rfl rfl hka1 qk_2 hP hD hS (lv_sub hl [2, 3, 4, 5, 6] rfl)
  · skip
    refine lv_aload_n hx hb dL_law_2202 rfl (lv_at hl 5 rfl) ?_
    refine va_getN (D := (dC, dI)) (ci := 5) (v := .long ((o_L_narrowCopy a2 f2 nv p1 p2).2.2.2)) (C := RX3) (T := TX3) (N := 2) hx hb hts (by decide +kernel) hown hK hP 9 rfl rfl 0 (by decide +kernel) (va_Nw.use rfl (hG.1 (.fieldLinkNest RL 13 "EdgefloatsLaw$Out" "n" "J" RL) (List.mem_of_getElem? (i := 6) rfl))) (fun _ h9 => h9) rfl dL_law_2203 ?_
    refine lv_iload hx hb dL_law_2206 (lv_at hl 0 rfl) ?_
    refine lv_i2l (v := (((o_X5_narrowCopy a2 f2 p1 p2).1).toInt64)) hx hb dL_law_2208 rfl ?_
    refine xc_eq (tgt := 2215) hx hb dL_law_2209 dL_law_2210 (by decide +kernel) (fun c9 => ?_) (fun c9 => absurd ((qn_narrowCopy).trans (if_pos ((qx_narrowCopy).symm.trans c_4))) c9)
    refine lv_goto (tgt := 3660) hx hb dL_law_2215 (by decide +kernel) ?_
    refine W.widen (k := cells + 760) (n := slots + 4500) (by omega) (by omega) ?_
    have qe_b2 : (o_X5_narrowCopy a2 f2 p1 p2).2.1 = (o_L_narrowCopy a2 f2 nv p1 p2).2.1 := (by have hm := ml_narrowCopy a2 nv p1 p2 hka2; rw [hm.1] <;> rfl)
    have qe_e2 : (o_X5_narrowCopy a2 f2 p1 p2).2.2.1 = (o_L_narrowCopy a2 f2 nv p1 p2).2.2.1 := (by have hm := ml_narrowCopy a2 nv p1 p2 hka2; rw [hm.1] <;> rfl)
    have qk_2 : okA false ((o_L_narrowCopy a2 f2 nv p1 p2).2.2.1) := (by have hm := ml_narrowCopy a2 nv p1 p2 hka2; rw [hm.1]; exact hm.2)
    exact K a1 r1 f1 g1 ((o_L_narrowCopy a2 f2 nv p1 p2).2.1) r2 ((o_L_narrowCopy a2 f2 nv p1 p2).2.2.1) g2 kn ((o_L_narrowCopy a2 f2 nv p1 p2).2.2.2) sv ((o_X5_narrowCopy a2 f2 p1 p2).2.2.2) a1 f1 ((o_X5_narrowCopy a2 f2 p1 p2).2.1) ((o_X5_narrowCopy a2 f2 p1 p2).2.2.1) (r1 + r2) kn _ _ _ rfl rfl qe_b2 qe_e2 rfl rfl hka1 qk_2 hP hD hS (lv_sub hl [2, 3, 4, 5, 6] rfl)
set_option maxHeartbeats 4000000 in
set_option maxRecDepth 100000 in
theorem st_27 (l : Launch) (p : Program) (e : Env) (s : State) (m : MethodId) (below : List Frame) (meth : Method) (c : Code) (b L N : Nat) (xs : Nat → Int32) (A : Nat → Prop) (dC : Nat → ClassId) (dI : Nat → Nat → Nat) (cy cB : ClassId) (h0 h1 hw1 hc1 hb1 h2 hw2 hc2 hb2 ho m0 m1 mc1 m2 mc2 : Nat) (C0 : lw_C l p e s m below meth c b L N xs A dC dI cy cB) (i : Nat) (hi : i + 4 ≤ L) (p1 p2 p3 : Int32) (hp1 : xs (i + 1) = p1) (hp2 : xs (i + 2) = p2) (hp3 : xs (i + 3) = p3) (cells slots : Nat) (hcs : cells + 760 ≤ 716141) (hss : slots + 4500 ≤ 6947682) (K : lw_K l p e s m below meth c b L N xs A dC dI cy cB h0 h1 hw1 hc1 hb1 h2 hw2 hc2 hb2 ho m0 m1 mc1 m2 mc2 i (cells + 760) (slots + 4500) 3660) (a1 : Int32) (r1 : Int32) (f1 : Nat → Int64) (g1 : Nat → Int64) (a2 : Int32) (r2 : Int32) (f2 : Nat → Int64) (g2 : Nat → Int64) (kn : Int32) (nv : Int64) (sv : Value) (th : Int32) (H : Heap) (locs : List Loc) (ls : Array Slot) (hka1 : okA true f1) (hka2 : okA false f2) (hP : va_P (dC, dI) xCl [(h0, eE h1 h2 kn), (h1, eR hw1 hc1 hb1 a1 r1), (hw1, eW true), (hc1, eA cy f1), (hb1, eA cy g1), (h2, eR hw2 hc2 hb2 a2 r2), (hw2, eW false), (hc2, eA cy f2), (hb2, eA cy g2), (ho, eO nv sv), (m0, eM m1 m2 th (r1 + r2) kn), (m1, eMR true mc1 a1), (mc1, eA cy f1), (m2, eMR false mc2 a2), (mc2, eA cy f2)] H) (hD : va_D A [(h0, eE h1 h2 kn), (h1, eR hw1 hc1 hb1 a1 r1), (hw1, eW true), (hc1, eA cy f1), (hb1, eA cy g1), (h2, eR hw2 hc2 hb2 a2 r2), (hw2, eW false), (hc2, eA cy f2), (hb2, eA cy g2), (ho, eO nv sv), (m0, eM m1 m2 th (r1 + r2) kn), (m1, eMR true mc1 a1), (mc1, eA cy f1), (m2, eMR false mc2 a2), (mc2, eA cy f2)]) (hS : va_S A s.heap H locs) (hl : lv_has ls 7 [(0, .ref b), (1, .ref h0), (2, .ref m0), (3, .ref ho), (4, .int (nI i))]) : W p l e room_1 s m #[Value.ref b] below meth c H locs cells slots (lw_Z below #[Value.ref b] s) (F0 m 2218 ls []) := by
  obtain ⟨hfl, hx, hb, hr, hml, hown, hts, hX, hbl, hbA, hlocks, hK, hG, hnc, hA, hAN, hN, hL, hT, hNs⟩ := id C0
  have hok2 := me_okF hka2
  have hsp1 : ∀ k, k < 8 → o_X1_isSpoiled true (f1 k) = false := fun k hk => (hka1 k hk).2
  have hsp2 : ∀ k, k < 8 → o_X1_isSpoiled false (f2 k) = false := fun k hk => (hka2 k hk).2
  have qx_narrowSwap : (o_L_narrowSwap a2 f2 nv p1 p2).1 = (o_X5_narrowSwap a2 f2 p1 p2).2.2.2 := by have hm := ml_narrowSwap a2 nv p1 p2 hka2; rw [hm.1] <;> rfl
  have qn_narrowSwap : (o_L_narrowSwap a2 f2 nv p1 p2).2.2.2 = if (o_X5_narrowSwap a2 f2 p1 p2).2.2.2 = 0 then ((o_X5_narrowSwap a2 f2 p1 p2).1).toInt64 else nv := by have hm := ml_narrowSwap a2 nv p1 p2 hka2; rw [hm.1] <;> rfl
  refine lv_aload_n hx hb dL_law_2218 rfl (lv_at hl 1 rfl) ?_
  refine lv_aload_n hx hb dL_law_2219 rfl (lv_at hl 0 rfl) ?_
  refine lv_iload hx hb dL_law_2220 (lv_at hl 4 rfl) ?_
  refine lv_iconst (v := 1) hx hb dL_law_2222 (by decide +kernel) ?_
  refine lv_iadd hx hb dL_law_2223 ?_
  rw [nI_1 i]
  refine xa_sld hx hb hX hbl hbA hS (k := i + 1) (by omega) hL hp1 dL_law_2224 ?_
  refine lv_aload_n hx hb dL_law_2225 rfl (lv_at hl 0 rfl) ?_
  refine lv_iload hx hb dL_law_2226 (lv_at hl 4 rfl) ?_
  refine lv_iconst (v := 2) hx hb dL_law_2228 (by decide +kernel) ?_
  refine lv_iadd hx hb dL_law_2229 ?_
  rw [nI_p2 i]
  refine xa_sld hx hb hX hbl hbA hS (k := i + 2) (by omega) hL hp2 dL_law_2230 ?_
  refine lv_aload_n hx hb dL_law_2231 rfl (lv_at hl 3 rfl) ?_
  have hPc := hP.sub (ws' := [(h0, eE h1 h2 kn), (h1, eR hw1 hc1 hb1 a1 r1), (hw1, eW true), (hc1, eA cy f1), (hb1, eA cy g1), (h2, eR hw2 hc2 hb2 a2 r2), (hw2, eW false), (hc2, eA cy f2), (hb2, eA cy g2), (ho, eO nv sv)]) [0, 1, 2, 3, 4, 5, 6, 7, 8, 9] rfl
  have hDc := hD.sub (ws' := [(h0, eE h1 h2 kn), (h1, eR hw1 hc1 hb1 a1 r1), (hw1, eW true), (hc1, eA cy f1), (hb1, eA cy g1), (h2, eR hw2 hc2 hb2 a2 r2), (hw2, eW false), (hc2, eA cy f2), (hb2, eA cy g2), (ho, eO nv sv)]) [0, 1, 2, 3, 4, 5, 6, 7, 8, 9] (by decide +kernel) rfl
  have hKc := hK.sub (tys' := [(cy, .long)]) [0] rfl
  have hFc := va_free (wc := [(h0, eE h1 h2 kn), (h1, eR hw1 hc1 hb1 a1 r1), (hw1, eW true), (hc1, eA cy f1), (hb1, eA cy g1), (h2, eR hw2 hc2 hb2 a2 r2), (hw2, eW false), (hc2, eA cy f2), (hb2, eA cy g2), (ho, eO nv sv)]) hD hS hA [0, 1, 2, 3, 4, 5, 6, 7, 8, 9] rfl
  refine va_calli (vx_runSW (As := [.ref h0, .int p1, .int p2, .ref ho]) (rest := []) ⟨hx, hb, hml, hown, hts⟩ (k_L_narrowSwap l hfl dC dI cy h0 h1 hw1 hc1 hb1 h2 hw2 hc2 hb2 a1 r1 f1 g1 a2 r2 f2 g2 kn ho nv sv H.size N p1 p2) (vx_cwSW 4 hts gL_law_L_narrowSwap rfl rfl rfl (by decide +kernel) ⟨Nat.le_of_ble_eq_true rfl, Nat.le_of_ble_eq_true rfl⟩) (xL.preS hKc hPc hDc hAN (Nat.le_trans hN hS.1) (hG.kept hS hAN) hnc) rfl rfl hl.1 rfl (lv_room (Nat.le_of_ble_eq_true rfl)) dL_law_2232 ⟨(show _ ≤ 716141 by omega), (show _ ≤ 6947682 by omega)⟩) hS (fun q _ h => hFc q h) hFc (fun r_1 u t H locs ht hvm hw hB hz hk hS => ?_)
  replace hw : r_1 = (o_L_narrowSwap a2 f2 nv p1 p2).1 := hw
  subst r_1
  obtain ⟨hP1, hD1⟩ := hB
  rw [ht] at hP1
  obtain ⟨hP, hD⟩ := va_join (wr := [(m0, eM m1 m2 th (r1 + r2) kn), (m1, eMR true mc1 a1), (mc1, eA cy f1), (m2, eMR false mc2 a2), (mc2, eA cy f2)]) (w1 := [(h0, eE h1 h2 kn), (h1, eR hw1 hc1 hb1 a1 r1), (hw1, eW true), (hc1, eA cy f1), (hb1, eA cy g1), (h2, eR hw2 hc2 hb2 (o_L_narrowSwap a2 f2 nv p1 p2).2.1 r2), (hw2, eW false), (hc2, eA cy (o_L_narrowSwap a2 f2 nv p1 p2).2.2.1), (hb2, eA cy g2), (ho, eO (o_L_narrowSwap a2 f2 nv p1 p2).2.2.2 sv)]) hP hD [0, 1, 2, 3, 4, 5, 6, 7, 8, 9] [10, 11, 12, 13, 14] rfl rfl (by decide +kernel) (by decide +kernel) hk hFc hP1 hD1
  have hP := hP.sub (ws' := [(h0, eE h1 h2 kn), (h1, eR hw1 hc1 hb1 a1 r1), (hw1, eW true), (hc1, eA cy f1), (hb1, eA cy g1), (h2, eR hw2 hc2 hb2 (o_L_narrowSwap a2 f2 nv p1 p2).2.1 r2), (hw2, eW false), (hc2, eA cy (o_L_narrowSwap a2 f2 nv p1 p2).2.2.1), (hb2, eA cy g2), (ho, eO (o_L_narrowSwap a2 f2 nv p1 p2).2.2.2 sv), (m0, eM m1 m2 th (r1 + r2) kn), (m1, eMR true mc1 a1), (mc1, eA cy f1), (m2, eMR false mc2 a2), (mc2, eA cy f2)]) [5, 6, 7, 8, 9, 10, 11, 12, 13, 14, 0, 1, 2, 3, 4] rfl
  have hD := hD.sub (ws' := [(h0, eE h1 h2 kn), (h1, eR hw1 hc1 hb1 a1 r1), (hw1, eW true), (hc1, eA cy f1), (hb1, eA cy g1), (h2, eR hw2 hc2 hb2 (o_L_narrowSwap a2 f2 nv p1 p2).2.1 r2), (hw2, eW false), (hc2, eA cy (o_L_narrowSwap a2 f2 nv p1 p2).2.2.1), (hb2, eA cy g2), (ho, eO (o_L_narrowSwap a2 f2 nv p1 p2).2.2.2 sv), (m0, eM m1 m2 th (r1 + r2) kn), (m1, eMR true mc1 a1), (mc1, eA cy f1), (m2, eMR false mc2 a2), (mc2, eA cy f2)]) [5, 6, 7, 8, 9, 10, 11, 12, 13, 14, 0, 1, 2, 3, 4] (by decide +kernel) rfl
  refine lv_istore (lv' := [(5, .int ((o_L_narrowSwap a2 f2 nv p1 p2).1)), (0, .ref b), (1, .ref h0), (2, .ref m0), (3, .ref ho), (4, .int (nI i))]) hx hb dL_law_2235 hl (by decide +kernel) rfl (fun ls hl => ?_)
  refine lv_aload_n hx hb dL_law_2237 rfl (lv_at hl 3 rfl) ?_
  refine lv_aload_n hx hb dL_law_2238 rfl (lv_at hl 1 rfl) ?_
  refine lv_iload hx hb dL_law_2239 (lv_at hl 5 rfl) ?_
  refine lv_iconst (v := 1) hx hb dL_law_2241 (by decide +kernel) ?_
  refine lv_iadd hx hb dL_law_2242 ?_
  rw [nI_1 i]
  refine xa_sld hx hb hX hbl hbA hS (k := i + 1) (by omega) hL hp1 dL_law_2243 ?_
  refine lv_aload_n hx hb dL_law_2244 rfl (lv_at hl 1 rfl) ?_
  refine lv_iload hx hb dL_law_2245 (lv_at hl 5 rfl) ?_
  refine lv_iconst (v := 2) hx hb dL_law_2247 (by decide +kernel) ?_
  refine lv_iadd hx hb dL_law_2248 ?_
  rw [nI_p2 i]
  refine xa_sld hx hb hX hbl hbA hS (k := i + 2) (by omega) hL hp2 dL_law_2249 ?_
  have hPc := hP.sub (ws' := [(m0, eM m1 m2 th (r1 + r2) kn), (m1, eMR true mc1 a1), (mc1, eA cy f1), (m2, eMR false mc2 a2), (mc2, eA cy f2)]) [10, 11, 12, 13, 14] rfl
  have hDc := hD.sub (ws' := [(m0, eM m1 m2 th (r1 + r2) kn), (m1, eMR true mc1 a1), (mc1, eA cy f1), (m2, eMR false mc2 a2), (mc2, eA cy f2)]) [10, 11, 12, 13, 14] (by decide +kernel) rfl
  have hKc := hK.sub (tys' := [(cy, .long)]) [0] rfl
  have hFc := va_free (wc := [(m0, eM m1 m2 th (r1 + r2) kn), (m1, eMR true mc1 a1), (mc1, eA cy f1), (m2, eMR false mc2 a2), (mc2, eA cy f2)]) hD hS hA [10, 11, 12, 13, 14] rfl
  refine va_calli (va_runV (As := [.int p1, .int p2]) (rest := []) ⟨hx, hb, hml, hown, hts⟩ (k_X5_narrowSwap l dC dI cy m0 m1 mc1 m2 mc2 a1 f1 a2 f2 th (r1 + r2) kn H.size N p1 p2) (cwV 2 hts gL_law_X5_narrowSwap rfl rfl rfl (by decide +kernel) ⟨Nat.le_of_ble_eq_true rfl, Nat.le_of_ble_eq_true rfl⟩) (xM.preV hKc hPc hDc hAN (Nat.le_trans hN hS.1) (hG.kept hS hAN) (ci := 7) (q0 := 0) rfl rfl) rfl rfl hl.1 rfl (lv_room (Nat.le_of_ble_eq_true rfl)) dL_law_2250 ⟨(show _ ≤ 716141 by omega), (show _ ≤ 6947682 by omega)⟩) hS (fun q _ h => hFc q h) hFc (fun r_2 u t H locs ht hvm hw hB hz hk hS => ?_)
  replace hw : r_2 = (o_X5_narrowSwap a2 f2 p1 p2).1 := hw
  subst r_2
  obtain ⟨hP1, hD1⟩ := hB
  rw [ht] at hP1
  obtain ⟨hP, hD⟩ := va_join (wr := [(h0, eE h1 h2 kn), (h1, eR hw1 hc1 hb1 a1 r1), (hw1, eW true), (hc1, eA cy f1), (hb1, eA cy g1), (h2, eR hw2 hc2 hb2 (o_L_narrowSwap a2 f2 nv p1 p2).2.1 r2), (hw2, eW false), (hc2, eA cy (o_L_narrowSwap a2 f2 nv p1 p2).2.2.1), (hb2, eA cy g2), (ho, eO (o_L_narrowSwap a2 f2 nv p1 p2).2.2.2 sv)]) (w1 := [(m0, eM m1 m2 (o_X5_narrowSwap a2 f2 p1 p2).2.2.2 (r1 + r2) kn), (m1, eMR true mc1 a1), (mc1, eA cy f1), (m2, eMR false mc2 (o_X5_narrowSwap a2 f2 p1 p2).2.1), (mc2, eA cy (o_X5_narrowSwap a2 f2 p1 p2).2.2.1)]) hP hD [10, 11, 12, 13, 14] [0, 1, 2, 3, 4, 5, 6, 7, 8, 9] rfl rfl (by decide +kernel) (by decide +kernel) hk hFc hP1 hD1
  have hP := hP.sub (ws' := [(h0, eE h1 h2 kn), (h1, eR hw1 hc1 hb1 a1 r1), (hw1, eW true), (hc1, eA cy f1), (hb1, eA cy g1), (h2, eR hw2 hc2 hb2 (o_L_narrowSwap a2 f2 nv p1 p2).2.1 r2), (hw2, eW false), (hc2, eA cy (o_L_narrowSwap a2 f2 nv p1 p2).2.2.1), (hb2, eA cy g2), (ho, eO (o_L_narrowSwap a2 f2 nv p1 p2).2.2.2 sv), (m0, eM m1 m2 (o_X5_narrowSwap a2 f2 p1 p2).2.2.2 (r1 + r2) kn), (m1, eMR true mc1 a1), (mc1, eA cy f1), (m2, eMR false mc2 (o_X5_narrowSwap a2 f2 p1 p2).2.1), (mc2, eA cy (o_X5_narrowSwap a2 f2 p1 p2).2.2.1)]) [0, 1, 2, 3, 4, 5, 6, 7, 8, 9, 10, 11, 12, 13, 14] rfl
  have hD := hD.sub (ws' := [(h0, eE h1 h2 kn), (h1, eR hw1 hc1 hb1 a1 r1), (hw1, eW true), (hc1, eA cy f1), (hb1, eA cy g1), (h2, eR hw2 hc2 hb2 (o_L_narrowSwap a2 f2 nv p1 p2).2.1 r2), (hw2, eW false), (hc2, eA cy (o_L_narrowSwap a2 f2 nv p1 p2).2.2.1), (hb2, eA cy g2), (ho, eO (o_L_narrowSwap a2 f2 nv p1 p2).2.2.2 sv), (m0, eM m1 m2 (o_X5_narrowSwap a2 f2 p1 p2).2.2.2 (r1 + r2) kn), (m1, eMR true mc1 a1), (mc1, eA cy f1), (m2, eMR false mc2 (o_X5_narrowSwap a2 f2 p1 p2).2.1), (mc2, eA cy (o_X5_narrowSwap a2 f2 p1 p2).2.2.1)]) [0, 1, 2, 3, 4, 5, 6, 7, 8, 9, 10, 11, 12, 13, 14] (by decide +kernel) rfl
  refine lv_istore (lv' := [(6, .int ((o_X5_narrowSwap a2 f2 p1 p2).1)), (5, .int ((o_L_narrowSwap a2 f2 nv p1 p2).1)), (0, .ref b), (1, .ref h0), (2, .ref m0), (3, .ref ho), (4, .int (nI i))]) hx hb dL_law_2253 hl (by decide +kernel) rfl (fun ls hl => ?_)
  refine lv_aload_n hx hb dL_law_2255 rfl (lv_at hl 4 rfl) ?_
  have hPc := hP.sub (ws' := [(m0, eM m1 m2 (o_X5_narrowSwap a2 f2 p1 p2).2.2.2 (r1 + r2) kn)]) [10] rfl
  have hKc := hK.sub (tys' := []) [] rfl
  refine va_calli (va_runV (As := []) (rest := []) ⟨hx, hb, hml, hown, hts⟩ (k_X5_thrown l dC dI m0 m1 m2 ((o_X5_narrowSwap a2 f2 p1 p2).2.2.2) (r1 + r2) kn H.size) (cwV 0 hts gL_law_X5_thrown rfl rfl rfl (by decide +kernel) ⟨Nat.le_of_ble_eq_true rfl, Nat.le_of_ble_eq_true rfl⟩) (xB.preV hKc hPc (ci := 7) (q0 := 0) rfl rfl) rfl rfl hl.1 rfl (lv_room (Nat.le_of_ble_eq_true rfl)) dL_law_2256 ⟨(show _ ≤ 716141 by omega), (show _ ≤ 6947682 by omega)⟩) hS xA_old (fun q h => hA q (Nat.le_trans hS.1 h)) (fun r_3 u t H locs ht hvm hw hB hz hk hS => ?_)
  replace hw : r_3 = (o_X5_thrown ((o_X5_narrowSwap a2 f2 p1 p2).2.2.2)) := hw
  subst r_3
  have hP := xP_keep hP hk
  refine lv_iload hx hb dL_law_2259 (lv_at hl 1 rfl) ?_
  refine lv_icmp_eq (tgt := 2266) hx hb dL_law_2261 (by decide +kernel) (fun c9 => ?_) (fun c9 => absurd (show o_X5_thrown _ = _ from (qx_narrowSwap).symm) c9)
  refine lv_iload hx hb dL_law_2266 (lv_at hl 1 rfl) ?_
  refine lv_if_ne (tgt := 2284) hx hb dL_law_2268 (by decide +kernel) (fun c_4 => ?_) (fun c_4 => ?_)
  · skip
    refine lv_goto (tgt := 3660) hx hb dL_law_2284 (by decide +kernel) ?_
    refine W.widen (k := cells + 760) (n := slots + 4500) (by omega) (by omega) ?_
    have qe_b2 : (o_X5_narrowSwap a2 f2 p1 p2).2.1 = (o_L_narrowSwap a2 f2 nv p1 p2).2.1 := (by have hm := ml_narrowSwap a2 nv p1 p2 hka2; rw [hm.1] <;> rfl)
    have qe_e2 : (o_X5_narrowSwap a2 f2 p1 p2).2.2.1 = (o_L_narrowSwap a2 f2 nv p1 p2).2.2.1 := (by have hm := ml_narrowSwap a2 nv p1 p2 hka2; rw [hm.1] <;> rfl)
    have qk_2 : okA false ((o_L_narrowSwap a2 f2 nv p1 p2).2.2.1) := (by have hm := ml_narrowSwap a2 nv p1 p2 hka2; rw [hm.1]; exact hm.2)
    exact K a1 r1 f1 g1 ((o_L_narrowSwap a2 f2 nv p1 p2).2.1) r2 ((o_L_narrowSwap a2 f2 nv p1 p2).2.2.1) g2 kn ((o_L_narrowSwap a2 f2 nv p1 p2).2.2.2) sv ((o_X5_narrowSwap a2 f2 p1 p2).2.2.2) a1 f1 ((o_X5_narrowSwap a2 f2 p1 p2).2.1) ((o_X5_narrowSwap a2 f2 p1 p2).2.2.1) (r1 + r2) kn _ _ _ rfl rfl qe_b2 qe_e2 rfl rfl hka1 qk_2 hP hD hS (lv_sub hl [2, 3, 4, 5, 6] rfl)
  · skip
    refine lv_aload_n hx hb dL_law_2271 rfl (lv_at hl 5 rfl) ?_
    refine va_getN (D := (dC, dI)) (ci := 5) (v := .long ((o_L_narrowSwap a2 f2 nv p1 p2).2.2.2)) (C := RX3) (T := TX3) (N := 2) hx hb hts (by decide +kernel) hown hK hP 9 rfl rfl 0 (by decide +kernel) (va_Nw.use rfl (hG.1 (.fieldLinkNest RL 13 "EdgefloatsLaw$Out" "n" "J" RL) (List.mem_of_getElem? (i := 6) rfl))) (fun _ h9 => h9) rfl dL_law_2272 ?_
    refine lv_iload hx hb dL_law_2275 (lv_at hl 0 rfl) ?_
    refine lv_i2l (v := (((o_X5_narrowSwap a2 f2 p1 p2).1).toInt64)) hx hb dL_law_2277 rfl ?_
    refine xc_eq (tgt := 2284) hx hb dL_law_2278 dL_law_2279 (by decide +kernel) (fun c9 => ?_) (fun c9 => absurd ((qn_narrowSwap).trans (if_pos ((qx_narrowSwap).symm.trans c_4))) c9)
    refine lv_goto (tgt := 3660) hx hb dL_law_2284 (by decide +kernel) ?_
    refine W.widen (k := cells + 760) (n := slots + 4500) (by omega) (by omega) ?_
    have qe_b2 : (o_X5_narrowSwap a2 f2 p1 p2).2.1 = (o_L_narrowSwap a2 f2 nv p1 p2).2.1 := (by have hm := ml_narrowSwap a2 nv p1 p2 hka2; rw [hm.1] <;> rfl)
    have qe_e2 : (o_X5_narrowSwap a2 f2 p1 p2).2.2.1 = (o_L_narrowSwap a2 f2 nv p1 p2).2.2.1 := (by have hm := ml_narrowSwap a2 nv p1 p2 hka2; rw [hm.1] <;> rfl)
    have qk_2 : okA false ((o_L_narrowSwap a2 f2 nv p1 p2).2.2.1) := (by have hm := ml_narrowSwap a2 nv p1 p2 hka2; rw [hm.1]; exact hm.2)
    exact K a1 r1 f1 g1 ((o_L_narrowSwap a2 f2 nv p1 p2).2.1) r2 ((o_L_narrowSwap a2 f2 nv p1 p2).2.2.1) g2 kn ((o_L_narrowSwap a2 f2 nv p1 p2).2.2.2) sv ((o_X5_narrowSwap a2 f2 p1 p2).2.2.2) a1 f1 ((o_X5_narrowSwap a2 f2 p1 p2).2.1) ((o_X5_narrowSwap a2 f2 p1 p2).2.2.1) (r1 + r2) kn _ _ _ rfl rfl qe_b2 qe_e2 rfl rfl hka1 qk_2 hP hD hS (lv_sub hl [2, 3, 4, 5, 6] rfl)
set_option maxHeartbeats 4000000 in
set_option maxRecDepth 100000 in
theorem st_28 (l : Launch) (p : Program) (e : Env) (s : State) (m : MethodId) (below : List Frame) (meth : Method) (c : Code) (b L N : Nat) (xs : Nat → Int32) (A : Nat → Prop) (dC : Nat → ClassId) (dI : Nat → Nat → Nat) (cy cB : ClassId) (h0 h1 hw1 hc1 hb1 h2 hw2 hc2 hb2 ho m0 m1 mc1 m2 mc2 : Nat) (C0 : lw_C l p e s m below meth c b L N xs A dC dI cy cB) (i : Nat) (hi : i + 4 ≤ L) (p1 p2 p3 : Int32) (hp1 : xs (i + 1) = p1) (hp2 : xs (i + 2) = p2) (hp3 : xs (i + 3) = p3) (cells slots : Nat) (hcs : cells + 760 ≤ 716141) (hss : slots + 4500 ≤ 6947682) (K : lw_K l p e s m below meth c b L N xs A dC dI cy cB h0 h1 hw1 hc1 hb1 h2 hw2 hc2 hb2 ho m0 m1 mc1 m2 mc2 i (cells + 760) (slots + 4500) 3660) (a1 : Int32) (r1 : Int32) (f1 : Nat → Int64) (g1 : Nat → Int64) (a2 : Int32) (r2 : Int32) (f2 : Nat → Int64) (g2 : Nat → Int64) (kn : Int32) (nv : Int64) (sv : Value) (th : Int32) (H : Heap) (locs : List Loc) (ls : Array Slot) (hka1 : okA true f1) (hka2 : okA false f2) (hP : va_P (dC, dI) xCl [(h0, eE h1 h2 kn), (h1, eR hw1 hc1 hb1 a1 r1), (hw1, eW true), (hc1, eA cy f1), (hb1, eA cy g1), (h2, eR hw2 hc2 hb2 a2 r2), (hw2, eW false), (hc2, eA cy f2), (hb2, eA cy g2), (ho, eO nv sv), (m0, eM m1 m2 th (r1 + r2) kn), (m1, eMR true mc1 a1), (mc1, eA cy f1), (m2, eMR false mc2 a2), (mc2, eA cy f2)] H) (hD : va_D A [(h0, eE h1 h2 kn), (h1, eR hw1 hc1 hb1 a1 r1), (hw1, eW true), (hc1, eA cy f1), (hb1, eA cy g1), (h2, eR hw2 hc2 hb2 a2 r2), (hw2, eW false), (hc2, eA cy f2), (hb2, eA cy g2), (ho, eO nv sv), (m0, eM m1 m2 th (r1 + r2) kn), (m1, eMR true mc1 a1), (mc1, eA cy f1), (m2, eMR false mc2 a2), (mc2, eA cy f2)]) (hS : va_S A s.heap H locs) (hl : lv_has ls 7 [(0, .ref b), (1, .ref h0), (2, .ref m0), (3, .ref ho), (4, .int (nI i))]) : W p l e room_1 s m #[Value.ref b] below meth c H locs cells slots (lw_Z below #[Value.ref b] s) (F0 m 2287 ls []) := by
  obtain ⟨hfl, hx, hb, hr, hml, hown, hts, hX, hbl, hbA, hlocks, hK, hG, hnc, hA, hAN, hN, hL, hT, hNs⟩ := id C0
  have hok2 := me_okF hka2
  have hsp1 : ∀ k, k < 8 → o_X1_isSpoiled true (f1 k) = false := fun k hk => (hka1 k hk).2
  have hsp2 : ∀ k, k < 8 → o_X1_isSpoiled false (f2 k) = false := fun k hk => (hka2 k hk).2
  have qx_narrowMax : (o_L_narrowMax a2 f2 nv p1 p2 p3).1 = (o_X5_narrowMax a2 f2 p1 p2 p3).2.2.2 := by have hm := ml_narrowMax a2 nv p1 p2 p3 hka2; rw [hm.1] <;> rfl
  have qn_narrowMax : (o_L_narrowMax a2 f2 nv p1 p2 p3).2.2.2 = if (o_X5_narrowMax a2 f2 p1 p2 p3).2.2.2 = 0 then ((o_X5_narrowMax a2 f2 p1 p2 p3).1).toInt64 else nv := by have hm := ml_narrowMax a2 nv p1 p2 p3 hka2; rw [hm.1] <;> rfl
  refine lv_aload_n hx hb dL_law_2287 rfl (lv_at hl 1 rfl) ?_
  refine lv_aload_n hx hb dL_law_2288 rfl (lv_at hl 0 rfl) ?_
  refine lv_iload hx hb dL_law_2289 (lv_at hl 4 rfl) ?_
  refine lv_iconst (v := 1) hx hb dL_law_2291 (by decide +kernel) ?_
  refine lv_iadd hx hb dL_law_2292 ?_
  rw [nI_1 i]
  refine xa_sld hx hb hX hbl hbA hS (k := i + 1) (by omega) hL hp1 dL_law_2293 ?_
  refine lv_aload_n hx hb dL_law_2294 rfl (lv_at hl 0 rfl) ?_
  refine lv_iload hx hb dL_law_2295 (lv_at hl 4 rfl) ?_
  refine lv_iconst (v := 2) hx hb dL_law_2297 (by decide +kernel) ?_
  refine lv_iadd hx hb dL_law_2298 ?_
  rw [nI_p2 i]
  refine xa_sld hx hb hX hbl hbA hS (k := i + 2) (by omega) hL hp2 dL_law_2299 ?_
  refine lv_aload_n hx hb dL_law_2300 rfl (lv_at hl 0 rfl) ?_
  refine lv_iload hx hb dL_law_2301 (lv_at hl 4 rfl) ?_
  refine lv_iconst (v := 3) hx hb dL_law_2303 (by decide +kernel) ?_
  refine lv_iadd hx hb dL_law_2304 ?_
  rw [nI_p3 i]
  refine xa_sld hx hb hX hbl hbA hS (k := i + 3) (by omega) hL hp3 dL_law_2305 ?_
  refine lv_aload_n hx hb dL_law_2306 rfl (lv_at hl 3 rfl) ?_
  have hPc := hP.sub (ws' := [(h0, eE h1 h2 kn), (h1, eR hw1 hc1 hb1 a1 r1), (hw1, eW true), (hc1, eA cy f1), (hb1, eA cy g1), (h2, eR hw2 hc2 hb2 a2 r2), (hw2, eW false), (hc2, eA cy f2), (hb2, eA cy g2), (ho, eO nv sv)]) [0, 1, 2, 3, 4, 5, 6, 7, 8, 9] rfl
  have hDc := hD.sub (ws' := [(h0, eE h1 h2 kn), (h1, eR hw1 hc1 hb1 a1 r1), (hw1, eW true), (hc1, eA cy f1), (hb1, eA cy g1), (h2, eR hw2 hc2 hb2 a2 r2), (hw2, eW false), (hc2, eA cy f2), (hb2, eA cy g2), (ho, eO nv sv)]) [0, 1, 2, 3, 4, 5, 6, 7, 8, 9] (by decide +kernel) rfl
  have hKc := hK.sub (tys' := [(cy, .long)]) [0] rfl
  have hFc := va_free (wc := [(h0, eE h1 h2 kn), (h1, eR hw1 hc1 hb1 a1 r1), (hw1, eW true), (hc1, eA cy f1), (hb1, eA cy g1), (h2, eR hw2 hc2 hb2 a2 r2), (hw2, eW false), (hc2, eA cy f2), (hb2, eA cy g2), (ho, eO nv sv)]) hD hS hA [0, 1, 2, 3, 4, 5, 6, 7, 8, 9] rfl
  refine va_calli (vx_runSW (As := [.ref h0, .int p1, .int p2, .int p3, .ref ho]) (rest := []) ⟨hx, hb, hml, hown, hts⟩ (k_L_narrowMax l hfl dC dI cy h0 h1 hw1 hc1 hb1 h2 hw2 hc2 hb2 a1 r1 f1 g1 a2 r2 f2 g2 kn ho nv sv H.size N p1 p2 p3) (vx_cwSW 5 hts gL_law_L_narrowMax rfl rfl rfl (by decide +kernel) ⟨Nat.le_of_ble_eq_true rfl, Nat.le_of_ble_eq_true rfl⟩) (xL.preS hKc hPc hDc hAN (Nat.le_trans hN hS.1) (hG.kept hS hAN) hnc) rfl rfl hl.1 rfl (lv_room (Nat.le_of_ble_eq_true rfl)) dL_law_2307 ⟨(show _ ≤ 716141 by omega), (show _ ≤ 6947682 by omega)⟩) hS (fun q _ h => hFc q h) hFc (fun r_1 u t H locs ht hvm hw hB hz hk hS => ?_)
  replace hw : r_1 = (o_L_narrowMax a2 f2 nv p1 p2 p3).1 := hw
  subst r_1
  obtain ⟨hP1, hD1⟩ := hB
  rw [ht] at hP1
  obtain ⟨hP, hD⟩ := va_join (wr := [(m0, eM m1 m2 th (r1 + r2) kn), (m1, eMR true mc1 a1), (mc1, eA cy f1), (m2, eMR false mc2 a2), (mc2, eA cy f2)]) (w1 := [(h0, eE h1 h2 kn), (h1, eR hw1 hc1 hb1 a1 r1), (hw1, eW true), (hc1, eA cy f1), (hb1, eA cy g1), (h2, eR hw2 hc2 hb2 (o_L_narrowMax a2 f2 nv p1 p2 p3).2.1 r2), (hw2, eW false), (hc2, eA cy (o_L_narrowMax a2 f2 nv p1 p2 p3).2.2.1), (hb2, eA cy g2), (ho, eO (o_L_narrowMax a2 f2 nv p1 p2 p3).2.2.2 sv)]) hP hD [0, 1, 2, 3, 4, 5, 6, 7, 8, 9] [10, 11, 12, 13, 14] rfl rfl (by decide +kernel) (by decide +kernel) hk hFc hP1 hD1
  have hP := hP.sub (ws' := [(h0, eE h1 h2 kn), (h1, eR hw1 hc1 hb1 a1 r1), (hw1, eW true), (hc1, eA cy f1), (hb1, eA cy g1), (h2, eR hw2 hc2 hb2 (o_L_narrowMax a2 f2 nv p1 p2 p3).2.1 r2), (hw2, eW false), (hc2, eA cy (o_L_narrowMax a2 f2 nv p1 p2 p3).2.2.1), (hb2, eA cy g2), (ho, eO (o_L_narrowMax a2 f2 nv p1 p2 p3).2.2.2 sv), (m0, eM m1 m2 th (r1 + r2) kn), (m1, eMR true mc1 a1), (mc1, eA cy f1), (m2, eMR false mc2 a2), (mc2, eA cy f2)]) [5, 6, 7, 8, 9, 10, 11, 12, 13, 14, 0, 1, 2, 3, 4] rfl
  have hD := hD.sub (ws' := [(h0, eE h1 h2 kn), (h1, eR hw1 hc1 hb1 a1 r1), (hw1, eW true), (hc1, eA cy f1), (hb1, eA cy g1), (h2, eR hw2 hc2 hb2 (o_L_narrowMax a2 f2 nv p1 p2 p3).2.1 r2), (hw2, eW false), (hc2, eA cy (o_L_narrowMax a2 f2 nv p1 p2 p3).2.2.1), (hb2, eA cy g2), (ho, eO (o_L_narrowMax a2 f2 nv p1 p2 p3).2.2.2 sv), (m0, eM m1 m2 th (r1 + r2) kn), (m1, eMR true mc1 a1), (mc1, eA cy f1), (m2, eMR false mc2 a2), (mc2, eA cy f2)]) [5, 6, 7, 8, 9, 10, 11, 12, 13, 14, 0, 1, 2, 3, 4] (by decide +kernel) rfl
  refine lv_istore (lv' := [(5, .int ((o_L_narrowMax a2 f2 nv p1 p2 p3).1)), (0, .ref b), (1, .ref h0), (2, .ref m0), (3, .ref ho), (4, .int (nI i))]) hx hb dL_law_2310 hl (by decide +kernel) rfl (fun ls hl => ?_)
  refine lv_aload_n hx hb dL_law_2312 rfl (lv_at hl 3 rfl) ?_
  refine lv_aload_n hx hb dL_law_2313 rfl (lv_at hl 1 rfl) ?_
  refine lv_iload hx hb dL_law_2314 (lv_at hl 5 rfl) ?_
  refine lv_iconst (v := 1) hx hb dL_law_2316 (by decide +kernel) ?_
  refine lv_iadd hx hb dL_law_2317 ?_
  rw [nI_1 i]
  refine xa_sld hx hb hX hbl hbA hS (k := i + 1) (by omega) hL hp1 dL_law_2318 ?_
  refine lv_aload_n hx hb dL_law_2319 rfl (lv_at hl 1 rfl) ?_
  refine lv_iload hx hb dL_law_2320 (lv_at hl 5 rfl) ?_
  refine lv_iconst (v := 2) hx hb dL_law_2322 (by decide +kernel) ?_
  refine lv_iadd hx hb dL_law_2323 ?_
  rw [nI_p2 i]
  refine xa_sld hx hb hX hbl hbA hS (k := i + 2) (by omega) hL hp2 dL_law_2324 ?_
  refine lv_aload_n hx hb dL_law_2325 rfl (lv_at hl 1 rfl) ?_
  refine lv_iload hx hb dL_law_2326 (lv_at hl 5 rfl) ?_
  refine lv_iconst (v := 3) hx hb dL_law_2328 (by decide +kernel) ?_
  refine lv_iadd hx hb dL_law_2329 ?_
  rw [nI_p3 i]
  refine xa_sld hx hb hX hbl hbA hS (k := i + 3) (by omega) hL hp3 dL_law_2330 ?_
  have hPc := hP.sub (ws' := [(m0, eM m1 m2 th (r1 + r2) kn), (m1, eMR true mc1 a1), (mc1, eA cy f1), (m2, eMR false mc2 a2), (mc2, eA cy f2)]) [10, 11, 12, 13, 14] rfl
  have hDc := hD.sub (ws' := [(m0, eM m1 m2 th (r1 + r2) kn), (m1, eMR true mc1 a1), (mc1, eA cy f1), (m2, eMR false mc2 a2), (mc2, eA cy f2)]) [10, 11, 12, 13, 14] (by decide +kernel) rfl
  have hKc := hK.sub (tys' := [(cy, .long)]) [0] rfl
  have hFc := va_free (wc := [(m0, eM m1 m2 th (r1 + r2) kn), (m1, eMR true mc1 a1), (mc1, eA cy f1), (m2, eMR false mc2 a2), (mc2, eA cy f2)]) hD hS hA [10, 11, 12, 13, 14] rfl
  refine va_calli (va_runV (As := [.int p1, .int p2, .int p3]) (rest := []) ⟨hx, hb, hml, hown, hts⟩ (k_X5_narrowMax l dC dI cy m0 m1 mc1 m2 mc2 a1 f1 a2 f2 th (r1 + r2) kn H.size N p1 p2 p3) (cwV 3 hts gL_law_X5_narrowMax rfl rfl rfl (by decide +kernel) ⟨Nat.le_of_ble_eq_true rfl, Nat.le_of_ble_eq_true rfl⟩) (xM.preV hKc hPc hDc hAN (Nat.le_trans hN hS.1) (hG.kept hS hAN) (ci := 7) (q0 := 0) rfl rfl) rfl rfl hl.1 rfl (lv_room (Nat.le_of_ble_eq_true rfl)) dL_law_2331 ⟨(show _ ≤ 716141 by omega), (show _ ≤ 6947682 by omega)⟩) hS (fun q _ h => hFc q h) hFc (fun r_2 u t H locs ht hvm hw hB hz hk hS => ?_)
  replace hw : r_2 = (o_X5_narrowMax a2 f2 p1 p2 p3).1 := hw
  subst r_2
  obtain ⟨hP1, hD1⟩ := hB
  rw [ht] at hP1
  obtain ⟨hP, hD⟩ := va_join (wr := [(h0, eE h1 h2 kn), (h1, eR hw1 hc1 hb1 a1 r1), (hw1, eW true), (hc1, eA cy f1), (hb1, eA cy g1), (h2, eR hw2 hc2 hb2 (o_L_narrowMax a2 f2 nv p1 p2 p3).2.1 r2), (hw2, eW false), (hc2, eA cy (o_L_narrowMax a2 f2 nv p1 p2 p3).2.2.1), (hb2, eA cy g2), (ho, eO (o_L_narrowMax a2 f2 nv p1 p2 p3).2.2.2 sv)]) (w1 := [(m0, eM m1 m2 (o_X5_narrowMax a2 f2 p1 p2 p3).2.2.2 (r1 + r2) kn), (m1, eMR true mc1 a1), (mc1, eA cy f1), (m2, eMR false mc2 (o_X5_narrowMax a2 f2 p1 p2 p3).2.1), (mc2, eA cy (o_X5_narrowMax a2 f2 p1 p2 p3).2.2.1)]) hP hD [10, 11, 12, 13, 14] [0, 1, 2, 3, 4, 5, 6, 7, 8, 9] rfl rfl (by decide +kernel) (by decide +kernel) hk hFc hP1 hD1
  have hP := hP.sub (ws' := [(h0, eE h1 h2 kn), (h1, eR hw1 hc1 hb1 a1 r1), (hw1, eW true), (hc1, eA cy f1), (hb1, eA cy g1), (h2, eR hw2 hc2 hb2 (o_L_narrowMax a2 f2 nv p1 p2 p3).2.1 r2), (hw2, eW false), (hc2, eA cy (o_L_narrowMax a2 f2 nv p1 p2 p3).2.2.1), (hb2, eA cy g2), (ho, eO (o_L_narrowMax a2 f2 nv p1 p2 p3).2.2.2 sv), (m0, eM m1 m2 (o_X5_narrowMax a2 f2 p1 p2 p3).2.2.2 (r1 + r2) kn), (m1, eMR true mc1 a1), (mc1, eA cy f1), (m2, eMR false mc2 (o_X5_narrowMax a2 f2 p1 p2 p3).2.1), (mc2, eA cy (o_X5_narrowMax a2 f2 p1 p2 p3).2.2.1)]) [0, 1, 2, 3, 4, 5, 6, 7, 8, 9, 10, 11, 12, 13, 14] rfl
  have hD := hD.sub (ws' := [(h0, eE h1 h2 kn), (h1, eR hw1 hc1 hb1 a1 r1), (hw1, eW true), (hc1, eA cy f1), (hb1, eA cy g1), (h2, eR hw2 hc2 hb2 (o_L_narrowMax a2 f2 nv p1 p2 p3).2.1 r2), (hw2, eW false), (hc2, eA cy (o_L_narrowMax a2 f2 nv p1 p2 p3).2.2.1), (hb2, eA cy g2), (ho, eO (o_L_narrowMax a2 f2 nv p1 p2 p3).2.2.2 sv), (m0, eM m1 m2 (o_X5_narrowMax a2 f2 p1 p2 p3).2.2.2 (r1 + r2) kn), (m1, eMR true mc1 a1), (mc1, eA cy f1), (m2, eMR false mc2 (o_X5_narrowMax a2 f2 p1 p2 p3).2.1), (mc2, eA cy (o_X5_narrowMax a2 f2 p1 p2 p3).2.2.1)]) [0, 1, 2, 3, 4, 5, 6, 7, 8, 9, 10, 11, 12, 13, 14] (by decide +kernel) rfl
  refine lv_istore (lv' := [(6, .int ((o_X5_narrowMax a2 f2 p1 p2 p3).1)), (5, .int ((o_L_narrowMax a2 f2 nv p1 p2 p3).1)), (0, .ref b), (1, .ref h0), (2, .ref m0), (3, .ref ho), (4, .int (nI i))]) hx hb dL_law_2334 hl (by decide +kernel) rfl (fun ls hl => ?_)
  refine lv_aload_n hx hb dL_law_2336 rfl (lv_at hl 4 rfl) ?_
  have hPc := hP.sub (ws' := [(m0, eM m1 m2 (o_X5_narrowMax a2 f2 p1 p2 p3).2.2.2 (r1 + r2) kn)]) [10] rfl
  have hKc := hK.sub (tys' := []) [] rfl
  refine va_calli (va_runV (As := []) (rest := []) ⟨hx, hb, hml, hown, hts⟩ (k_X5_thrown l dC dI m0 m1 m2 ((o_X5_narrowMax a2 f2 p1 p2 p3).2.2.2) (r1 + r2) kn H.size) (cwV 0 hts gL_law_X5_thrown rfl rfl rfl (by decide +kernel) ⟨Nat.le_of_ble_eq_true rfl, Nat.le_of_ble_eq_true rfl⟩) (xB.preV hKc hPc (ci := 7) (q0 := 0) rfl rfl) rfl rfl hl.1 rfl (lv_room (Nat.le_of_ble_eq_true rfl)) dL_law_2337 ⟨(show _ ≤ 716141 by omega), (show _ ≤ 6947682 by omega)⟩) hS xA_old (fun q h => hA q (Nat.le_trans hS.1 h)) (fun r_3 u t H locs ht hvm hw hB hz hk hS => ?_)
  replace hw : r_3 = (o_X5_thrown ((o_X5_narrowMax a2 f2 p1 p2 p3).2.2.2)) := hw
  subst r_3
  have hP := xP_keep hP hk
  refine lv_iload hx hb dL_law_2340 (lv_at hl 1 rfl) ?_
  refine lv_icmp_eq (tgt := 2347) hx hb dL_law_2342 (by decide +kernel) (fun c9 => ?_) (fun c9 => absurd (show o_X5_thrown _ = _ from (qx_narrowMax).symm) c9)
  refine lv_iload hx hb dL_law_2347 (lv_at hl 1 rfl) ?_
  refine lv_if_ne (tgt := 2365) hx hb dL_law_2349 (by decide +kernel) (fun c_4 => ?_) (fun c_4 => ?_)
  · skip
    refine lv_goto (tgt := 3660) hx hb dL_law_2365 (by decide +kernel) ?_
    refine W.widen (k := cells + 760) (n := slots + 4500) (by omega) (by omega) ?_
    have qe_b2 : (o_X5_narrowMax a2 f2 p1 p2 p3).2.1 = (o_L_narrowMax a2 f2 nv p1 p2 p3).2.1 := (by have hm := ml_narrowMax a2 nv p1 p2 p3 hka2; rw [hm.1] <;> rfl)
    have qe_e2 : (o_X5_narrowMax a2 f2 p1 p2 p3).2.2.1 = (o_L_narrowMax a2 f2 nv p1 p2 p3).2.2.1 := (by have hm := ml_narrowMax a2 nv p1 p2 p3 hka2; rw [hm.1] <;> rfl)
    have qk_2 : okA false ((o_L_narrowMax a2 f2 nv p1 p2 p3).2.2.1) := (by have hm := ml_narrowMax a2 nv p1 p2 p3 hka2; rw [hm.1]; exact hm.2)
    exact K a1 r1 f1 g1 ((o_L_narrowMax a2 f2 nv p1 p2 p3).2.1) r2 ((o_L_narrowMax a2 f2 nv p1 p2 p3).2.2.1) g2 kn ((o_L_narrowMax a2 f2 nv p1 p2 p3).2.2.2) sv ((o_X5_narrowMax a2 f2 p1 p2 p3).2.2.2) a1 f1 ((o_X5_narrowMax a2 f2 p1 p2 p3).2.1) ((o_X5_narrowMax a2 f2 p1 p2 p3).2.2.1) (r1 + r2) kn _ _ _ rfl rfl qe_b2 qe_e2 rfl rfl hka1 qk_2 hP hD hS (lv_sub hl [2, 3, 4, 5, 6] rfl)
  · skip
    refine lv_aload_n hx hb dL_law_2352 rfl (lv_at hl 5 rfl) ?_
    refine va_getN (D := (dC, dI)) (ci := 5) (v := .long ((o_L_narrowMax a2 f2 nv p1 p2 p3).2.2.2)) (C := RX3) (T := TX3) (N := 2) hx hb hts (by decide +kernel) hown hK hP 9 rfl rfl 0 (by decide +kernel) (va_Nw.use rfl (hG.1 (.fieldLinkNest RL 13 "EdgefloatsLaw$Out" "n" "J" RL) (List.mem_of_getElem? (i := 6) rfl))) (fun _ h9 => h9) rfl dL_law_2353 ?_
    refine lv_iload hx hb dL_law_2356 (lv_at hl 0 rfl) ?_
    refine lv_i2l (v := (((o_X5_narrowMax a2 f2 p1 p2 p3).1).toInt64)) hx hb dL_law_2358 rfl ?_
    refine xc_eq (tgt := 2365) hx hb dL_law_2359 dL_law_2360 (by decide +kernel) (fun c9 => ?_) (fun c9 => absurd ((qn_narrowMax).trans (if_pos ((qx_narrowMax).symm.trans c_4))) c9)
    refine lv_goto (tgt := 3660) hx hb dL_law_2365 (by decide +kernel) ?_
    refine W.widen (k := cells + 760) (n := slots + 4500) (by omega) (by omega) ?_
    have qe_b2 : (o_X5_narrowMax a2 f2 p1 p2 p3).2.1 = (o_L_narrowMax a2 f2 nv p1 p2 p3).2.1 := (by have hm := ml_narrowMax a2 nv p1 p2 p3 hka2; rw [hm.1] <;> rfl)
    have qe_e2 : (o_X5_narrowMax a2 f2 p1 p2 p3).2.2.1 = (o_L_narrowMax a2 f2 nv p1 p2 p3).2.2.1 := (by have hm := ml_narrowMax a2 nv p1 p2 p3 hka2; rw [hm.1] <;> rfl)
    have qk_2 : okA false ((o_L_narrowMax a2 f2 nv p1 p2 p3).2.2.1) := (by have hm := ml_narrowMax a2 nv p1 p2 p3 hka2; rw [hm.1]; exact hm.2)
    exact K a1 r1 f1 g1 ((o_L_narrowMax a2 f2 nv p1 p2 p3).2.1) r2 ((o_L_narrowMax a2 f2 nv p1 p2 p3).2.2.1) g2 kn ((o_L_narrowMax a2 f2 nv p1 p2 p3).2.2.2) sv ((o_X5_narrowMax a2 f2 p1 p2 p3).2.2.2) a1 f1 ((o_X5_narrowMax a2 f2 p1 p2 p3).2.1) ((o_X5_narrowMax a2 f2 p1 p2 p3).2.2.1) (r1 + r2) kn _ _ _ rfl rfl qe_b2 qe_e2 rfl rfl hka1 qk_2 hP hD hS (lv_sub hl [2, 3, 4, 5, 6] rfl)
set_option maxHeartbeats 4000000 in
set_option maxRecDepth 100000 in
theorem st_29 (l : Launch) (p : Program) (e : Env) (s : State) (m : MethodId) (below : List Frame) (meth : Method) (c : Code) (b L N : Nat) (xs : Nat → Int32) (A : Nat → Prop) (dC : Nat → ClassId) (dI : Nat → Nat → Nat) (cy cB : ClassId) (h0 h1 hw1 hc1 hb1 h2 hw2 hc2 hb2 ho m0 m1 mc1 m2 mc2 : Nat) (C0 : lw_C l p e s m below meth c b L N xs A dC dI cy cB) (i : Nat) (hi : i + 4 ≤ L) (p1 p2 p3 : Int32) (hp1 : xs (i + 1) = p1) (hp2 : xs (i + 2) = p2) (hp3 : xs (i + 3) = p3) (cells slots : Nat) (hcs : cells + 760 ≤ 716141) (hss : slots + 4500 ≤ 6947682) (K : lw_K l p e s m below meth c b L N xs A dC dI cy cB h0 h1 hw1 hc1 hb1 h2 hw2 hc2 hb2 ho m0 m1 mc1 m2 mc2 i (cells + 760) (slots + 4500) 3660) (a1 : Int32) (r1 : Int32) (f1 : Nat → Int64) (g1 : Nat → Int64) (a2 : Int32) (r2 : Int32) (f2 : Nat → Int64) (g2 : Nat → Int64) (kn : Int32) (nv : Int64) (sv : Value) (th : Int32) (H : Heap) (locs : List Loc) (ls : Array Slot) (hka1 : okA true f1) (hka2 : okA false f2) (hP : va_P (dC, dI) xCl [(h0, eE h1 h2 kn), (h1, eR hw1 hc1 hb1 a1 r1), (hw1, eW true), (hc1, eA cy f1), (hb1, eA cy g1), (h2, eR hw2 hc2 hb2 a2 r2), (hw2, eW false), (hc2, eA cy f2), (hb2, eA cy g2), (ho, eO nv sv), (m0, eM m1 m2 th (r1 + r2) kn), (m1, eMR true mc1 a1), (mc1, eA cy f1), (m2, eMR false mc2 a2), (mc2, eA cy f2)] H) (hD : va_D A [(h0, eE h1 h2 kn), (h1, eR hw1 hc1 hb1 a1 r1), (hw1, eW true), (hc1, eA cy f1), (hb1, eA cy g1), (h2, eR hw2 hc2 hb2 a2 r2), (hw2, eW false), (hc2, eA cy f2), (hb2, eA cy g2), (ho, eO nv sv), (m0, eM m1 m2 th (r1 + r2) kn), (m1, eMR true mc1 a1), (mc1, eA cy f1), (m2, eMR false mc2 a2), (mc2, eA cy f2)]) (hS : va_S A s.heap H locs) (hl : lv_has ls 7 [(0, .ref b), (1, .ref h0), (2, .ref m0), (3, .ref ho), (4, .int (nI i))]) : W p l e room_1 s m #[Value.ref b] below meth c H locs cells slots (lw_Z below #[Value.ref b] s) (F0 m 2368 ls []) := by
  obtain ⟨hfl, hx, hb, hr, hml, hown, hts, hX, hbl, hbA, hlocks, hK, hG, hnc, hA, hAN, hN, hL, hT, hNs⟩ := id C0
  have hok2 := me_okF hka2
  have hsp1 : ∀ k, k < 8 → o_X1_isSpoiled true (f1 k) = false := fun k hk => (hka1 k hk).2
  have hsp2 : ∀ k, k < 8 → o_X1_isSpoiled false (f2 k) = false := fun k hk => (hka2 k hk).2
  have qx_narrowMin : (o_L_narrowMin a2 f2 nv p1 p2 p3).1 = (o_X5_narrowMin a2 f2 p1 p2 p3).2.2.2 := by have hm := ml_narrowMin a2 nv p1 p2 p3 hka2; rw [hm.1] <;> rfl
  have qn_narrowMin : (o_L_narrowMin a2 f2 nv p1 p2 p3).2.2.2 = if (o_X5_narrowMin a2 f2 p1 p2 p3).2.2.2 = 0 then ((o_X5_narrowMin a2 f2 p1 p2 p3).1).toInt64 else nv := by have hm := ml_narrowMin a2 nv p1 p2 p3 hka2; rw [hm.1] <;> rfl
  refine lv_aload_n hx hb dL_law_2368 rfl (lv_at hl 1 rfl) ?_
  refine lv_aload_n hx hb dL_law_2369 rfl (lv_at hl 0 rfl) ?_
  refine lv_iload hx hb dL_law_2370 (lv_at hl 4 rfl) ?_
  refine lv_iconst (v := 1) hx hb dL_law_2372 (by decide +kernel) ?_
  refine lv_iadd hx hb dL_law_2373 ?_
  rw [nI_1 i]
  refine xa_sld hx hb hX hbl hbA hS (k := i + 1) (by omega) hL hp1 dL_law_2374 ?_
  refine lv_aload_n hx hb dL_law_2375 rfl (lv_at hl 0 rfl) ?_
  refine lv_iload hx hb dL_law_2376 (lv_at hl 4 rfl) ?_
  refine lv_iconst (v := 2) hx hb dL_law_2378 (by decide +kernel) ?_
  refine lv_iadd hx hb dL_law_2379 ?_
  rw [nI_p2 i]
  refine xa_sld hx hb hX hbl hbA hS (k := i + 2) (by omega) hL hp2 dL_law_2380 ?_
  refine lv_aload_n hx hb dL_law_2381 rfl (lv_at hl 0 rfl) ?_
  refine lv_iload hx hb dL_law_2382 (lv_at hl 4 rfl) ?_
  refine lv_iconst (v := 3) hx hb dL_law_2384 (by decide +kernel) ?_
  refine lv_iadd hx hb dL_law_2385 ?_
  rw [nI_p3 i]
  refine xa_sld hx hb hX hbl hbA hS (k := i + 3) (by omega) hL hp3 dL_law_2386 ?_
  refine lv_aload_n hx hb dL_law_2387 rfl (lv_at hl 3 rfl) ?_
  have hPc := hP.sub (ws' := [(h0, eE h1 h2 kn), (h1, eR hw1 hc1 hb1 a1 r1), (hw1, eW true), (hc1, eA cy f1), (hb1, eA cy g1), (h2, eR hw2 hc2 hb2 a2 r2), (hw2, eW false), (hc2, eA cy f2), (hb2, eA cy g2), (ho, eO nv sv)]) [0, 1, 2, 3, 4, 5, 6, 7, 8, 9] rfl
  have hDc := hD.sub (ws' := [(h0, eE h1 h2 kn), (h1, eR hw1 hc1 hb1 a1 r1), (hw1, eW true), (hc1, eA cy f1), (hb1, eA cy g1), (h2, eR hw2 hc2 hb2 a2 r2), (hw2, eW false), (hc2, eA cy f2), (hb2, eA cy g2), (ho, eO nv sv)]) [0, 1, 2, 3, 4, 5, 6, 7, 8, 9] (by decide +kernel) rfl
  have hKc := hK.sub (tys' := [(cy, .long)]) [0] rfl
  have hFc := va_free (wc := [(h0, eE h1 h2 kn), (h1, eR hw1 hc1 hb1 a1 r1), (hw1, eW true), (hc1, eA cy f1), (hb1, eA cy g1), (h2, eR hw2 hc2 hb2 a2 r2), (hw2, eW false), (hc2, eA cy f2), (hb2, eA cy g2), (ho, eO nv sv)]) hD hS hA [0, 1, 2, 3, 4, 5, 6, 7, 8, 9] rfl
  refine va_calli (vx_runSW (As := [.ref h0, .int p1, .int p2, .int p3, .ref ho]) (rest := []) ⟨hx, hb, hml, hown, hts⟩ (k_L_narrowMin l hfl dC dI cy h0 h1 hw1 hc1 hb1 h2 hw2 hc2 hb2 a1 r1 f1 g1 a2 r2 f2 g2 kn ho nv sv H.size N p1 p2 p3) (vx_cwSW 5 hts gL_law_L_narrowMin rfl rfl rfl (by decide +kernel) ⟨Nat.le_of_ble_eq_true rfl, Nat.le_of_ble_eq_true rfl⟩) (xL.preS hKc hPc hDc hAN (Nat.le_trans hN hS.1) (hG.kept hS hAN) hnc) rfl rfl hl.1 rfl (lv_room (Nat.le_of_ble_eq_true rfl)) dL_law_2388 ⟨(show _ ≤ 716141 by omega), (show _ ≤ 6947682 by omega)⟩) hS (fun q _ h => hFc q h) hFc (fun r_1 u t H locs ht hvm hw hB hz hk hS => ?_)
  replace hw : r_1 = (o_L_narrowMin a2 f2 nv p1 p2 p3).1 := hw
  subst r_1
  obtain ⟨hP1, hD1⟩ := hB
  rw [ht] at hP1
  obtain ⟨hP, hD⟩ := va_join (wr := [(m0, eM m1 m2 th (r1 + r2) kn), (m1, eMR true mc1 a1), (mc1, eA cy f1), (m2, eMR false mc2 a2), (mc2, eA cy f2)]) (w1 := [(h0, eE h1 h2 kn), (h1, eR hw1 hc1 hb1 a1 r1), (hw1, eW true), (hc1, eA cy f1), (hb1, eA cy g1), (h2, eR hw2 hc2 hb2 (o_L_narrowMin a2 f2 nv p1 p2 p3).2.1 r2), (hw2, eW false), (hc2, eA cy (o_L_narrowMin a2 f2 nv p1 p2 p3).2.2.1), (hb2, eA cy g2), (ho, eO (o_L_narrowMin a2 f2 nv p1 p2 p3).2.2.2 sv)]) hP hD [0, 1, 2, 3, 4, 5, 6, 7, 8, 9] [10, 11, 12, 13, 14] rfl rfl (by decide +kernel) (by decide +kernel) hk hFc hP1 hD1
  have hP := hP.sub (ws' := [(h0, eE h1 h2 kn), (h1, eR hw1 hc1 hb1 a1 r1), (hw1, eW true), (hc1, eA cy f1), (hb1, eA cy g1), (h2, eR hw2 hc2 hb2 (o_L_narrowMin a2 f2 nv p1 p2 p3).2.1 r2), (hw2, eW false), (hc2, eA cy (o_L_narrowMin a2 f2 nv p1 p2 p3).2.2.1), (hb2, eA cy g2), (ho, eO (o_L_narrowMin a2 f2 nv p1 p2 p3).2.2.2 sv), (m0, eM m1 m2 th (r1 + r2) kn), (m1, eMR true mc1 a1), (mc1, eA cy f1), (m2, eMR false mc2 a2), (mc2, eA cy f2)]) [5, 6, 7, 8, 9, 10, 11, 12, 13, 14, 0, 1, 2, 3, 4] rfl
  have hD := hD.sub (ws' := [(h0, eE h1 h2 kn), (h1, eR hw1 hc1 hb1 a1 r1), (hw1, eW true), (hc1, eA cy f1), (hb1, eA cy g1), (h2, eR hw2 hc2 hb2 (o_L_narrowMin a2 f2 nv p1 p2 p3).2.1 r2), (hw2, eW false), (hc2, eA cy (o_L_narrowMin a2 f2 nv p1 p2 p3).2.2.1), (hb2, eA cy g2), (ho, eO (o_L_narrowMin a2 f2 nv p1 p2 p3).2.2.2 sv), (m0, eM m1 m2 th (r1 + r2) kn), (m1, eMR true mc1 a1), (mc1, eA cy f1), (m2, eMR false mc2 a2), (mc2, eA cy f2)]) [5, 6, 7, 8, 9, 10, 11, 12, 13, 14, 0, 1, 2, 3, 4] (by decide +kernel) rfl
  refine lv_istore (lv' := [(5, .int ((o_L_narrowMin a2 f2 nv p1 p2 p3).1)), (0, .ref b), (1, .ref h0), (2, .ref m0), (3, .ref ho), (4, .int (nI i))]) hx hb dL_law_2391 hl (by decide +kernel) rfl (fun ls hl => ?_)
  refine lv_aload_n hx hb dL_law_2393 rfl (lv_at hl 3 rfl) ?_
  refine lv_aload_n hx hb dL_law_2394 rfl (lv_at hl 1 rfl) ?_
  refine lv_iload hx hb dL_law_2395 (lv_at hl 5 rfl) ?_
  refine lv_iconst (v := 1) hx hb dL_law_2397 (by decide +kernel) ?_
  refine lv_iadd hx hb dL_law_2398 ?_
  rw [nI_1 i]
  refine xa_sld hx hb hX hbl hbA hS (k := i + 1) (by omega) hL hp1 dL_law_2399 ?_
  refine lv_aload_n hx hb dL_law_2400 rfl (lv_at hl 1 rfl) ?_
  refine lv_iload hx hb dL_law_2401 (lv_at hl 5 rfl) ?_
  refine lv_iconst (v := 2) hx hb dL_law_2403 (by decide +kernel) ?_
  refine lv_iadd hx hb dL_law_2404 ?_
  rw [nI_p2 i]
  refine xa_sld hx hb hX hbl hbA hS (k := i + 2) (by omega) hL hp2 dL_law_2405 ?_
  refine lv_aload_n hx hb dL_law_2406 rfl (lv_at hl 1 rfl) ?_
  refine lv_iload hx hb dL_law_2407 (lv_at hl 5 rfl) ?_
  refine lv_iconst (v := 3) hx hb dL_law_2409 (by decide +kernel) ?_
  refine lv_iadd hx hb dL_law_2410 ?_
  rw [nI_p3 i]
  refine xa_sld hx hb hX hbl hbA hS (k := i + 3) (by omega) hL hp3 dL_law_2411 ?_
  have hPc := hP.sub (ws' := [(m0, eM m1 m2 th (r1 + r2) kn), (m1, eMR true mc1 a1), (mc1, eA cy f1), (m2, eMR false mc2 a2), (mc2, eA cy f2)]) [10, 11, 12, 13, 14] rfl
  have hDc := hD.sub (ws' := [(m0, eM m1 m2 th (r1 + r2) kn), (m1, eMR true mc1 a1), (mc1, eA cy f1), (m2, eMR false mc2 a2), (mc2, eA cy f2)]) [10, 11, 12, 13, 14] (by decide +kernel) rfl
  have hKc := hK.sub (tys' := [(cy, .long)]) [0] rfl
  have hFc := va_free (wc := [(m0, eM m1 m2 th (r1 + r2) kn), (m1, eMR true mc1 a1), (mc1, eA cy f1), (m2, eMR false mc2 a2), (mc2, eA cy f2)]) hD hS hA [10, 11, 12, 13, 14] rfl
  refine va_calli (va_runV (As := [.int p1, .int p2, .int p3]) (rest := []) ⟨hx, hb, hml, hown, hts⟩ (k_X5_narrowMin l dC dI cy m0 m1 mc1 m2 mc2 a1 f1 a2 f2 th (r1 + r2) kn H.size N p1 p2 p3) (cwV 3 hts gL_law_X5_narrowMin rfl rfl rfl (by decide +kernel) ⟨Nat.le_of_ble_eq_true rfl, Nat.le_of_ble_eq_true rfl⟩) (xM.preV hKc hPc hDc hAN (Nat.le_trans hN hS.1) (hG.kept hS hAN) (ci := 7) (q0 := 0) rfl rfl) rfl rfl hl.1 rfl (lv_room (Nat.le_of_ble_eq_true rfl)) dL_law_2412 ⟨(show _ ≤ 716141 by omega), (show _ ≤ 6947682 by omega)⟩) hS (fun q _ h => hFc q h) hFc (fun r_2 u t H locs ht hvm hw hB hz hk hS => ?_)
  replace hw : r_2 = (o_X5_narrowMin a2 f2 p1 p2 p3).1 := hw
  subst r_2
  obtain ⟨hP1, hD1⟩ := hB
  rw [ht] at hP1
  obtain ⟨hP, hD⟩ := va_join (wr := [(h0, eE h1 h2 kn), (h1, eR hw1 hc1 hb1 a1 r1), (hw1, eW true), (hc1, eA cy f1), (hb1, eA cy g1), (h2, eR hw2 hc2 hb2 (o_L_narrowMin a2 f2 nv p1 p2 p3).2.1 r2), (hw2, eW false), (hc2, eA cy (o_L_narrowMin a2 f2 nv p1 p2 p3).2.2.1), (hb2, eA cy g2), (ho, eO (o_L_narrowMin a2 f2 nv p1 p2 p3).2.2.2 sv)]) (w1 := [(m0, eM m1 m2 (o_X5_narrowMin a2 f2 p1 p2 p3).2.2.2 (r1 + r2) kn), (m1, eMR true mc1 a1), (mc1, eA cy f1), (m2, eMR false mc2 (o_X5_narrowMin a2 f2 p1 p2 p3).2.1), (mc2, eA cy (o_X5_narrowMin a2 f2 p1 p2 p3).2.2.1)]) hP hD [10, 11, 12, 13, 14] [0, 1, 2, 3, 4, 5, 6, 7, 8, 9] rfl rfl (by decide +kernel) (by decide +kernel) hk hFc hP1 hD1
  have hP := hP.sub (ws' := [(h0, eE h1 h2 kn), (h1, eR hw1 hc1 hb1 a1 r1), (hw1, eW true), (hc1, eA cy f1), (hb1, eA cy g1), (h2, eR hw2 hc2 hb2 (o_L_narrowMin a2 f2 nv p1 p2 p3).2.1 r2), (hw2, eW false), (hc2, eA cy (o_L_narrowMin a2 f2 nv p1 p2 p3).2.2.1), (hb2, eA cy g2), (ho, eO (o_L_narrowMin a2 f2 nv p1 p2 p3).2.2.2 sv), (m0, eM m1 m2 (o_X5_narrowMin a2 f2 p1 p2 p3).2.2.2 (r1 + r2) kn), (m1, eMR true mc1 a1), (mc1, eA cy f1), (m2, eMR false mc2 (o_X5_narrowMin a2 f2 p1 p2 p3).2.1), (mc2, eA cy (o_X5_narrowMin a2 f2 p1 p2 p3).2.2.1)]) [0, 1, 2, 3, 4, 5, 6, 7, 8, 9, 10, 11, 12, 13, 14] rfl
  have hD := hD.sub (ws' := [(h0, eE h1 h2 kn), (h1, eR hw1 hc1 hb1 a1 r1), (hw1, eW true), (hc1, eA cy f1), (hb1, eA cy g1), (h2, eR hw2 hc2 hb2 (o_L_narrowMin a2 f2 nv p1 p2 p3).2.1 r2), (hw2, eW false), (hc2, eA cy (o_L_narrowMin a2 f2 nv p1 p2 p3).2.2.1), (hb2, eA cy g2), (ho, eO (o_L_narrowMin a2 f2 nv p1 p2 p3).2.2.2 sv), (m0, eM m1 m2 (o_X5_narrowMin a2 f2 p1 p2 p3).2.2.2 (r1 + r2) kn), (m1, eMR true mc1 a1), (mc1, eA cy f1), (m2, eMR false mc2 (o_X5_narrowMin a2 f2 p1 p2 p3).2.1), (mc2, eA cy (o_X5_narrowMin a2 f2 p1 p2 p3).2.2.1)]) [0, 1, 2, 3, 4, 5, 6, 7, 8, 9, 10, 11, 12, 13, 14] (by decide +kernel) rfl
  refine lv_istore (lv' := [(6, .int ((o_X5_narrowMin a2 f2 p1 p2 p3).1)), (5, .int ((o_L_narrowMin a2 f2 nv p1 p2 p3).1)), (0, .ref b), (1, .ref h0), (2, .ref m0), (3, .ref ho), (4, .int (nI i))]) hx hb dL_law_2415 hl (by decide +kernel) rfl (fun ls hl => ?_)
  refine lv_aload_n hx hb dL_law_2417 rfl (lv_at hl 4 rfl) ?_
  have hPc := hP.sub (ws' := [(m0, eM m1 m2 (o_X5_narrowMin a2 f2 p1 p2 p3).2.2.2 (r1 + r2) kn)]) [10] rfl
  have hKc := hK.sub (tys' := []) [] rfl
  refine va_calli (va_runV (As := []) (rest := []) ⟨hx, hb, hml, hown, hts⟩ (k_X5_thrown l dC dI m0 m1 m2 ((o_X5_narrowMin a2 f2 p1 p2 p3).2.2.2) (r1 + r2) kn H.size) (cwV 0 hts gL_law_X5_thrown rfl rfl rfl (by decide +kernel) ⟨Nat.le_of_ble_eq_true rfl, Nat.le_of_ble_eq_true rfl⟩) (xB.preV hKc hPc (ci := 7) (q0 := 0) rfl rfl) rfl rfl hl.1 rfl (lv_room (Nat.le_of_ble_eq_true rfl)) dL_law_2418 ⟨(show _ ≤ 716141 by omega), (show _ ≤ 6947682 by omega)⟩) hS xA_old (fun q h => hA q (Nat.le_trans hS.1 h)) (fun r_3 u t H locs ht hvm hw hB hz hk hS => ?_)
  replace hw : r_3 = (o_X5_thrown ((o_X5_narrowMin a2 f2 p1 p2 p3).2.2.2)) := hw
  subst r_3
  have hP := xP_keep hP hk
  refine lv_iload hx hb dL_law_2421 (lv_at hl 1 rfl) ?_
  refine lv_icmp_eq (tgt := 2428) hx hb dL_law_2423 (by decide +kernel) (fun c9 => ?_) (fun c9 => absurd (show o_X5_thrown _ = _ from (qx_narrowMin).symm) c9)
  refine lv_iload hx hb dL_law_2428 (lv_at hl 1 rfl) ?_
  refine lv_if_ne (tgt := 2446) hx hb dL_law_2430 (by decide +kernel) (fun c_4 => ?_) (fun c_4 => ?_)
  · skip
    refine lv_goto (tgt := 3660) hx hb dL_law_2446 (by decide +kernel) ?_
    refine W.widen (k := cells + 760) (n := slots + 4500) (by omega) (by omega) ?_
    have qe_b2 : (o_X5_narrowMin a2 f2 p1 p2 p3).2.1 = (o_L_narrowMin a2 f2 nv p1 p2 p3).2.1 := (by have hm := ml_narrowMin a2 nv p1 p2 p3 hka2; rw [hm.1] <;> rfl)
    have qe_e2 : (o_X5_narrowMin a2 f2 p1 p2 p3).2.2.1 = (o_L_narrowMin a2 f2 nv p1 p2 p3).2.2.1 := (by have hm := ml_narrowMin a2 nv p1 p2 p3 hka2; rw [hm.1] <;> rfl)
    have qk_2 : okA false ((o_L_narrowMin a2 f2 nv p1 p2 p3).2.2.1) := (by have hm := ml_narrowMin a2 nv p1 p2 p3 hka2; rw [hm.1]; exact hm.2)
    exact K a1 r1 f1 g1 ((o_L_narrowMin a2 f2 nv p1 p2 p3).2.1) r2 ((o_L_narrowMin a2 f2 nv p1 p2 p3).2.2.1) g2 kn ((o_L_narrowMin a2 f2 nv p1 p2 p3).2.2.2) sv ((o_X5_narrowMin a2 f2 p1 p2 p3).2.2.2) a1 f1 ((o_X5_narrowMin a2 f2 p1 p2 p3).2.1) ((o_X5_narrowMin a2 f2 p1 p2 p3).2.2.1) (r1 + r2) kn _ _ _ rfl rfl qe_b2 qe_e2 rfl rfl hka1 qk_2 hP hD hS (lv_sub hl [2, 3, 4, 5, 6] rfl)
  · skip
    refine lv_aload_n hx hb dL_law_2433 rfl (lv_at hl 5 rfl) ?_
    refine va_getN (D := (dC, dI)) (ci := 5) (v := .long ((o_L_narrowMin a2 f2 nv p1 p2 p3).2.2.2)) (C := RX3) (T := TX3) (N := 2) hx hb hts (by decide +kernel) hown hK hP 9 rfl rfl 0 (by decide +kernel) (va_Nw.use rfl (hG.1 (.fieldLinkNest RL 13 "EdgefloatsLaw$Out" "n" "J" RL) (List.mem_of_getElem? (i := 6) rfl))) (fun _ h9 => h9) rfl dL_law_2434 ?_
    refine lv_iload hx hb dL_law_2437 (lv_at hl 0 rfl) ?_
    refine lv_i2l (v := (((o_X5_narrowMin a2 f2 p1 p2 p3).1).toInt64)) hx hb dL_law_2439 rfl ?_
    refine xc_eq (tgt := 2446) hx hb dL_law_2440 dL_law_2441 (by decide +kernel) (fun c9 => ?_) (fun c9 => absurd ((qn_narrowMin).trans (if_pos ((qx_narrowMin).symm.trans c_4))) c9)
    refine lv_goto (tgt := 3660) hx hb dL_law_2446 (by decide +kernel) ?_
    refine W.widen (k := cells + 760) (n := slots + 4500) (by omega) (by omega) ?_
    have qe_b2 : (o_X5_narrowMin a2 f2 p1 p2 p3).2.1 = (o_L_narrowMin a2 f2 nv p1 p2 p3).2.1 := (by have hm := ml_narrowMin a2 nv p1 p2 p3 hka2; rw [hm.1] <;> rfl)
    have qe_e2 : (o_X5_narrowMin a2 f2 p1 p2 p3).2.2.1 = (o_L_narrowMin a2 f2 nv p1 p2 p3).2.2.1 := (by have hm := ml_narrowMin a2 nv p1 p2 p3 hka2; rw [hm.1] <;> rfl)
    have qk_2 : okA false ((o_L_narrowMin a2 f2 nv p1 p2 p3).2.2.1) := (by have hm := ml_narrowMin a2 nv p1 p2 p3 hka2; rw [hm.1]; exact hm.2)
    exact K a1 r1 f1 g1 ((o_L_narrowMin a2 f2 nv p1 p2 p3).2.1) r2 ((o_L_narrowMin a2 f2 nv p1 p2 p3).2.2.1) g2 kn ((o_L_narrowMin a2 f2 nv p1 p2 p3).2.2.2) sv ((o_X5_narrowMin a2 f2 p1 p2 p3).2.2.2) a1 f1 ((o_X5_narrowMin a2 f2 p1 p2 p3).2.1) ((o_X5_narrowMin a2 f2 p1 p2 p3).2.2.1) (r1 + r2) kn _ _ _ rfl rfl qe_b2 qe_e2 rfl rfl hka1 qk_2 hP hD hS (lv_sub hl [2, 3, 4, 5, 6] rfl)
set_option maxHeartbeats 4000000 in
set_option maxRecDepth 100000 in
theorem st_30 (l : Launch) (p : Program) (e : Env) (s : State) (m : MethodId) (below : List Frame) (meth : Method) (c : Code) (b L N : Nat) (xs : Nat → Int32) (A : Nat → Prop) (dC : Nat → ClassId) (dI : Nat → Nat → Nat) (cy cB : ClassId) (h0 h1 hw1 hc1 hb1 h2 hw2 hc2 hb2 ho m0 m1 mc1 m2 mc2 : Nat) (C0 : lw_C l p e s m below meth c b L N xs A dC dI cy cB) (i : Nat) (hi : i + 4 ≤ L) (p1 p2 p3 : Int32) (hp1 : xs (i + 1) = p1) (hp2 : xs (i + 2) = p2) (hp3 : xs (i + 3) = p3) (cells slots : Nat) (hcs : cells + 760 ≤ 716141) (hss : slots + 4500 ≤ 6947682) (K : lw_K l p e s m below meth c b L N xs A dC dI cy cB h0 h1 hw1 hc1 hb1 h2 hw2 hc2 hb2 ho m0 m1 mc1 m2 mc2 i (cells + 760) (slots + 4500) 3660) (a1 : Int32) (r1 : Int32) (f1 : Nat → Int64) (g1 : Nat → Int64) (a2 : Int32) (r2 : Int32) (f2 : Nat → Int64) (g2 : Nat → Int64) (kn : Int32) (nv : Int64) (sv : Value) (th : Int32) (H : Heap) (locs : List Loc) (ls : Array Slot) (hka1 : okA true f1) (hka2 : okA false f2) (hP : va_P (dC, dI) xCl [(h0, eE h1 h2 kn), (h1, eR hw1 hc1 hb1 a1 r1), (hw1, eW true), (hc1, eA cy f1), (hb1, eA cy g1), (h2, eR hw2 hc2 hb2 a2 r2), (hw2, eW false), (hc2, eA cy f2), (hb2, eA cy g2), (ho, eO nv sv), (m0, eM m1 m2 th (r1 + r2) kn), (m1, eMR true mc1 a1), (mc1, eA cy f1), (m2, eMR false mc2 a2), (mc2, eA cy f2)] H) (hD : va_D A [(h0, eE h1 h2 kn), (h1, eR hw1 hc1 hb1 a1 r1), (hw1, eW true), (hc1, eA cy f1), (hb1, eA cy g1), (h2, eR hw2 hc2 hb2 a2 r2), (hw2, eW false), (hc2, eA cy f2), (hb2, eA cy g2), (ho, eO nv sv), (m0, eM m1 m2 th (r1 + r2) kn), (m1, eMR true mc1 a1), (mc1, eA cy f1), (m2, eMR false mc2 a2), (mc2, eA cy f2)]) (hS : va_S A s.heap H locs) (hl : lv_has ls 7 [(0, .ref b), (1, .ref h0), (2, .ref m0), (3, .ref ho), (4, .int (nI i))]) : W p l e room_1 s m #[Value.ref b] below meth c H locs cells slots (lw_Z below #[Value.ref b] s) (F0 m 2449 ls []) := by
  obtain ⟨hfl, hx, hb, hr, hml, hown, hts, hX, hbl, hbA, hlocks, hK, hG, hnc, hA, hAN, hN, hL, hT, hNs⟩ := id C0
  have hok2 := me_okF hka2
  have hsp1 : ∀ k, k < 8 → o_X1_isSpoiled true (f1 k) = false := fun k hk => (hka1 k hk).2
  have hsp2 : ∀ k, k < 8 → o_X1_isSpoiled false (f2 k) = false := fun k hk => (hka2 k hk).2
  have qx_narrowSum : (o_L_narrowSum a2 r2 f2 nv p1 p2 p3).1 = (o_X5_narrowSum a2 f2 (r1 + r2) p1 p2 p3).2.2.2.1 := by have hm := ml_narrowSum a2 r2 r1 nv p1 p2 p3 hka2; rw [Int32.add_comm r2 r1] at hm; exact hm.1
  have qn_narrowSum : (o_L_narrowSum a2 r2 f2 nv p1 p2 p3).2.2.2.2 = if (o_X5_narrowSum a2 f2 (r1 + r2) p1 p2 p3).2.2.2.1 = 0 then ((o_X5_narrowSum a2 f2 (r1 + r2) p1 p2 p3).1).toInt64 else nv := by have hm := ml_narrowSum a2 r2 r1 nv p1 p2 p3 hka2; rw [Int32.add_comm r2 r1] at hm; exact hm.2.2.2.2.1
  refine lv_aload_n hx hb dL_law_2449 rfl (lv_at hl 1 rfl) ?_
  refine lv_aload_n hx hb dL_law_2450 rfl (lv_at hl 0 rfl) ?_
  refine lv_iload hx hb dL_law_2451 (lv_at hl 4 rfl) ?_
  refine lv_iconst (v := 1) hx hb dL_law_2453 (by decide +kernel) ?_
  refine lv_iadd hx hb dL_law_2454 ?_
  rw [nI_1 i]
  refine xa_sld hx hb hX hbl hbA hS (k := i + 1) (by omega) hL hp1 dL_law_2455 ?_
  refine lv_aload_n hx hb dL_law_2456 rfl (lv_at hl 0 rfl) ?_
  refine lv_iload hx hb dL_law_2457 (lv_at hl 4 rfl) ?_
  refine lv_iconst (v := 2) hx hb dL_law_2459 (by decide +kernel) ?_
  refine lv_iadd hx hb dL_law_2460 ?_
  rw [nI_p2 i]
  refine xa_sld hx hb hX hbl hbA hS (k := i + 2) (by omega) hL hp2 dL_law_2461 ?_
  refine lv_aload_n hx hb dL_law_2462 rfl (lv_at hl 0 rfl) ?_
  refine lv_iload hx hb dL_law_2463 (lv_at hl 4 rfl) ?_
  refine lv_iconst (v := 3) hx hb dL_law_2465 (by decide +kernel) ?_
  refine lv_iadd hx hb dL_law_2466 ?_
  rw [nI_p3 i]
  refine xa_sld hx hb hX hbl hbA hS (k := i + 3) (by omega) hL hp3 dL_law_2467 ?_
  refine lv_aload_n hx hb dL_law_2468 rfl (lv_at hl 3 rfl) ?_
  have hPc := hP.sub (ws' := [(h0, eE h1 h2 kn), (h1, eR hw1 hc1 hb1 a1 r1), (hw1, eW true), (hc1, eA cy f1), (hb1, eA cy g1), (h2, eR hw2 hc2 hb2 a2 r2), (hw2, eW false), (hc2, eA cy f2), (hb2, eA cy g2), (ho, eO nv sv)]) [0, 1, 2, 3, 4, 5, 6, 7, 8, 9] rfl
  have hDc := hD.sub (ws' := [(h0, eE h1 h2 kn), (h1, eR hw1 hc1 hb1 a1 r1), (hw1, eW true), (hc1, eA cy f1), (hb1, eA cy g1), (h2, eR hw2 hc2 hb2 a2 r2), (hw2, eW false), (hc2, eA cy f2), (hb2, eA cy g2), (ho, eO nv sv)]) [0, 1, 2, 3, 4, 5, 6, 7, 8, 9] (by decide +kernel) rfl
  have hKc := hK.sub (tys' := [(cy, .long)]) [0] rfl
  have hFc := va_free (wc := [(h0, eE h1 h2 kn), (h1, eR hw1 hc1 hb1 a1 r1), (hw1, eW true), (hc1, eA cy f1), (hb1, eA cy g1), (h2, eR hw2 hc2 hb2 a2 r2), (hw2, eW false), (hc2, eA cy f2), (hb2, eA cy g2), (ho, eO nv sv)]) hD hS hA [0, 1, 2, 3, 4, 5, 6, 7, 8, 9] rfl
  refine va_calli (vx_runSW (As := [.ref h0, .int p1, .int p2, .int p3, .ref ho]) (rest := []) ⟨hx, hb, hml, hown, hts⟩ (k_L_narrowSum l hfl dC dI cy h0 h1 hw1 hc1 hb1 h2 hw2 hc2 hb2 a1 r1 f1 g1 a2 r2 f2 g2 kn ho nv sv H.size N p1 p2 p3) (vx_cwSW 5 hts gL_law_L_narrowSum rfl rfl rfl (by decide +kernel) ⟨Nat.le_of_ble_eq_true rfl, Nat.le_of_ble_eq_true rfl⟩) (xL.preS hKc hPc hDc hAN (Nat.le_trans hN hS.1) (hG.kept hS hAN) hnc) rfl rfl hl.1 rfl (lv_room (Nat.le_of_ble_eq_true rfl)) dL_law_2469 ⟨(show _ ≤ 716141 by omega), (show _ ≤ 6947682 by omega)⟩) hS (fun q _ h => hFc q h) hFc (fun r_1 u t H locs ht hvm hw hB hz hk hS => ?_)
  replace hw : r_1 = (o_L_narrowSum a2 r2 f2 nv p1 p2 p3).1 := hw
  subst r_1
  obtain ⟨hP1, hD1⟩ := hB
  rw [ht] at hP1
  obtain ⟨hP, hD⟩ := va_join (wr := [(m0, eM m1 m2 th (r1 + r2) kn), (m1, eMR true mc1 a1), (mc1, eA cy f1), (m2, eMR false mc2 a2), (mc2, eA cy f2)]) (w1 := [(h0, eE h1 h2 kn), (h1, eR hw1 hc1 hb1 a1 r1), (hw1, eW true), (hc1, eA cy f1), (hb1, eA cy g1), (h2, eR hw2 hc2 hb2 (o_L_narrowSum a2 r2 f2 nv p1 p2 p3).2.1 (o_L_narrowSum a2 r2 f2 nv p1 p2 p3).2.2.1), (hw2, eW false), (hc2, eA cy (o_L_narrowSum a2 r2 f2 nv p1 p2 p3).2.2.2.1), (hb2, eA cy g2), (ho, eO (o_L_narrowSum a2 r2 f2 nv p1 p2 p3).2.2.2.2 sv)]) hP hD [0, 1, 2, 3, 4, 5, 6, 7, 8, 9] [10, 11, 12, 13, 14] rfl rfl (by decide +kernel) (by decide +kernel) hk hFc hP1 hD1
  have hP := hP.sub (ws' := [(h0, eE h1 h2 kn), (h1, eR hw1 hc1 hb1 a1 r1), (hw1, eW true), (hc1, eA cy f1), (hb1, eA cy g1), (h2, eR hw2 hc2 hb2 (o_L_narrowSum a2 r2 f2 nv p1 p2 p3).2.1 (o_L_narrowSum a2 r2 f2 nv p1 p2 p3).2.2.1), (hw2, eW false), (hc2, eA cy (o_L_narrowSum a2 r2 f2 nv p1 p2 p3).2.2.2.1), (hb2, eA cy g2), (ho, eO (o_L_narrowSum a2 r2 f2 nv p1 p2 p3).2.2.2.2 sv), (m0, eM m1 m2 th (r1 + r2) kn), (m1, eMR true mc1 a1), (mc1, eA cy f1), (m2, eMR false mc2 a2), (mc2, eA cy f2)]) [5, 6, 7, 8, 9, 10, 11, 12, 13, 14, 0, 1, 2, 3, 4] rfl
  have hD := hD.sub (ws' := [(h0, eE h1 h2 kn), (h1, eR hw1 hc1 hb1 a1 r1), (hw1, eW true), (hc1, eA cy f1), (hb1, eA cy g1), (h2, eR hw2 hc2 hb2 (o_L_narrowSum a2 r2 f2 nv p1 p2 p3).2.1 (o_L_narrowSum a2 r2 f2 nv p1 p2 p3).2.2.1), (hw2, eW false), (hc2, eA cy (o_L_narrowSum a2 r2 f2 nv p1 p2 p3).2.2.2.1), (hb2, eA cy g2), (ho, eO (o_L_narrowSum a2 r2 f2 nv p1 p2 p3).2.2.2.2 sv), (m0, eM m1 m2 th (r1 + r2) kn), (m1, eMR true mc1 a1), (mc1, eA cy f1), (m2, eMR false mc2 a2), (mc2, eA cy f2)]) [5, 6, 7, 8, 9, 10, 11, 12, 13, 14, 0, 1, 2, 3, 4] (by decide +kernel) rfl
  refine lv_istore (lv' := [(5, .int ((o_L_narrowSum a2 r2 f2 nv p1 p2 p3).1)), (0, .ref b), (1, .ref h0), (2, .ref m0), (3, .ref ho), (4, .int (nI i))]) hx hb dL_law_2472 hl (by decide +kernel) rfl (fun ls hl => ?_)
  refine lv_aload_n hx hb dL_law_2474 rfl (lv_at hl 3 rfl) ?_
  refine lv_aload_n hx hb dL_law_2475 rfl (lv_at hl 1 rfl) ?_
  refine lv_iload hx hb dL_law_2476 (lv_at hl 5 rfl) ?_
  refine lv_iconst (v := 1) hx hb dL_law_2478 (by decide +kernel) ?_
  refine lv_iadd hx hb dL_law_2479 ?_
  rw [nI_1 i]
  refine xa_sld hx hb hX hbl hbA hS (k := i + 1) (by omega) hL hp1 dL_law_2480 ?_
  refine lv_aload_n hx hb dL_law_2481 rfl (lv_at hl 1 rfl) ?_
  refine lv_iload hx hb dL_law_2482 (lv_at hl 5 rfl) ?_
  refine lv_iconst (v := 2) hx hb dL_law_2484 (by decide +kernel) ?_
  refine lv_iadd hx hb dL_law_2485 ?_
  rw [nI_p2 i]
  refine xa_sld hx hb hX hbl hbA hS (k := i + 2) (by omega) hL hp2 dL_law_2486 ?_
  refine lv_aload_n hx hb dL_law_2487 rfl (lv_at hl 1 rfl) ?_
  refine lv_iload hx hb dL_law_2488 (lv_at hl 5 rfl) ?_
  refine lv_iconst (v := 3) hx hb dL_law_2490 (by decide +kernel) ?_
  refine lv_iadd hx hb dL_law_2491 ?_
  rw [nI_p3 i]
  refine xa_sld hx hb hX hbl hbA hS (k := i + 3) (by omega) hL hp3 dL_law_2492 ?_
  have hPc := hP.sub (ws' := [(m0, eM m1 m2 th (r1 + r2) kn), (m1, eMR true mc1 a1), (mc1, eA cy f1), (m2, eMR false mc2 a2), (mc2, eA cy f2)]) [10, 11, 12, 13, 14] rfl
  have hDc := hD.sub (ws' := [(m0, eM m1 m2 th (r1 + r2) kn), (m1, eMR true mc1 a1), (mc1, eA cy f1), (m2, eMR false mc2 a2), (mc2, eA cy f2)]) [10, 11, 12, 13, 14] (by decide +kernel) rfl
  have hKc := hK.sub (tys' := [(cy, .long)]) [0] rfl
  have hFc := va_free (wc := [(m0, eM m1 m2 th (r1 + r2) kn), (m1, eMR true mc1 a1), (mc1, eA cy f1), (m2, eMR false mc2 a2), (mc2, eA cy f2)]) hD hS hA [10, 11, 12, 13, 14] rfl
  refine va_calli (va_runV (As := [.int p1, .int p2, .int p3]) (rest := []) ⟨hx, hb, hml, hown, hts⟩ (k_X5_narrowSum l dC dI cy m0 m1 mc1 m2 mc2 a1 f1 a2 f2 th (r1 + r2) kn H.size N p1 p2 p3 hok2) (cwV 3 hts gL_law_X5_narrowSum rfl rfl rfl (by decide +kernel) ⟨Nat.le_of_ble_eq_true rfl, Nat.le_of_ble_eq_true rfl⟩) (xM.preV hKc hPc hDc hAN (Nat.le_trans hN hS.1) (hG.kept hS hAN) (ci := 7) (q0 := 0) rfl rfl) rfl rfl hl.1 rfl (lv_room (Nat.le_of_ble_eq_true rfl)) dL_law_2493 ⟨(show _ ≤ 716141 by omega), (show _ ≤ 6947682 by omega)⟩) hS (fun q _ h => hFc q h) hFc (fun r_2 u t H locs ht hvm hw hB hz hk hS => ?_)
  replace hw : r_2 = (o_X5_narrowSum a2 f2 (r1 + r2) p1 p2 p3).1 := hw
  subst r_2
  obtain ⟨hP1, hD1⟩ := hB
  rw [ht] at hP1
  obtain ⟨hP, hD⟩ := va_join (wr := [(h0, eE h1 h2 kn), (h1, eR hw1 hc1 hb1 a1 r1), (hw1, eW true), (hc1, eA cy f1), (hb1, eA cy g1), (h2, eR hw2 hc2 hb2 (o_L_narrowSum a2 r2 f2 nv p1 p2 p3).2.1 (o_L_narrowSum a2 r2 f2 nv p1 p2 p3).2.2.1), (hw2, eW false), (hc2, eA cy (o_L_narrowSum a2 r2 f2 nv p1 p2 p3).2.2.2.1), (hb2, eA cy g2), (ho, eO (o_L_narrowSum a2 r2 f2 nv p1 p2 p3).2.2.2.2 sv)]) (w1 := [(m0, eM m1 m2 (o_X5_narrowSum a2 f2 (r1 + r2) p1 p2 p3).2.2.2.1 (o_X5_narrowSum a2 f2 (r1 + r2) p1 p2 p3).2.2.2.2 kn), (m1, eMR true mc1 a1), (mc1, eA cy f1), (m2, eMR false mc2 (o_X5_narrowSum a2 f2 (r1 + r2) p1 p2 p3).2.1), (mc2, eA cy (o_X5_narrowSum a2 f2 (r1 + r2) p1 p2 p3).2.2.1)]) hP hD [10, 11, 12, 13, 14] [0, 1, 2, 3, 4, 5, 6, 7, 8, 9] rfl rfl (by decide +kernel) (by decide +kernel) hk hFc hP1 hD1
  have hP := hP.sub (ws' := [(h0, eE h1 h2 kn), (h1, eR hw1 hc1 hb1 a1 r1), (hw1, eW true), (hc1, eA cy f1), (hb1, eA cy g1), (h2, eR hw2 hc2 hb2 (o_L_narrowSum a2 r2 f2 nv p1 p2 p3).2.1 (o_L_narrowSum a2 r2 f2 nv p1 p2 p3).2.2.1), (hw2, eW false), (hc2, eA cy (o_L_narrowSum a2 r2 f2 nv p1 p2 p3).2.2.2.1), (hb2, eA cy g2), (ho, eO (o_L_narrowSum a2 r2 f2 nv p1 p2 p3).2.2.2.2 sv), (m0, eM m1 m2 (o_X5_narrowSum a2 f2 (r1 + r2) p1 p2 p3).2.2.2.1 (o_X5_narrowSum a2 f2 (r1 + r2) p1 p2 p3).2.2.2.2 kn), (m1, eMR true mc1 a1), (mc1, eA cy f1), (m2, eMR false mc2 (o_X5_narrowSum a2 f2 (r1 + r2) p1 p2 p3).2.1), (mc2, eA cy (o_X5_narrowSum a2 f2 (r1 + r2) p1 p2 p3).2.2.1)]) [0, 1, 2, 3, 4, 5, 6, 7, 8, 9, 10, 11, 12, 13, 14] rfl
  have hD := hD.sub (ws' := [(h0, eE h1 h2 kn), (h1, eR hw1 hc1 hb1 a1 r1), (hw1, eW true), (hc1, eA cy f1), (hb1, eA cy g1), (h2, eR hw2 hc2 hb2 (o_L_narrowSum a2 r2 f2 nv p1 p2 p3).2.1 (o_L_narrowSum a2 r2 f2 nv p1 p2 p3).2.2.1), (hw2, eW false), (hc2, eA cy (o_L_narrowSum a2 r2 f2 nv p1 p2 p3).2.2.2.1), (hb2, eA cy g2), (ho, eO (o_L_narrowSum a2 r2 f2 nv p1 p2 p3).2.2.2.2 sv), (m0, eM m1 m2 (o_X5_narrowSum a2 f2 (r1 + r2) p1 p2 p3).2.2.2.1 (o_X5_narrowSum a2 f2 (r1 + r2) p1 p2 p3).2.2.2.2 kn), (m1, eMR true mc1 a1), (mc1, eA cy f1), (m2, eMR false mc2 (o_X5_narrowSum a2 f2 (r1 + r2) p1 p2 p3).2.1), (mc2, eA cy (o_X5_narrowSum a2 f2 (r1 + r2) p1 p2 p3).2.2.1)]) [0, 1, 2, 3, 4, 5, 6, 7, 8, 9, 10, 11, 12, 13, 14] (by decide +kernel) rfl
  refine lv_istore (lv' := [(6, .int ((o_X5_narrowSum a2 f2 (r1 + r2) p1 p2 p3).1)), (5, .int ((o_L_narrowSum a2 r2 f2 nv p1 p2 p3).1)), (0, .ref b), (1, .ref h0), (2, .ref m0), (3, .ref ho), (4, .int (nI i))]) hx hb dL_law_2496 hl (by decide +kernel) rfl (fun ls hl => ?_)
  refine lv_aload_n hx hb dL_law_2498 rfl (lv_at hl 4 rfl) ?_
  have hPc := hP.sub (ws' := [(m0, eM m1 m2 (o_X5_narrowSum a2 f2 (r1 + r2) p1 p2 p3).2.2.2.1 (o_X5_narrowSum a2 f2 (r1 + r2) p1 p2 p3).2.2.2.2 kn)]) [10] rfl
  have hKc := hK.sub (tys' := []) [] rfl
  refine va_calli (va_runV (As := []) (rest := []) ⟨hx, hb, hml, hown, hts⟩ (k_X5_thrown l dC dI m0 m1 m2 ((o_X5_narrowSum a2 f2 (r1 + r2) p1 p2 p3).2.2.2.1) ((o_X5_narrowSum a2 f2 (r1 + r2) p1 p2 p3).2.2.2.2) kn H.size) (cwV 0 hts gL_law_X5_thrown rfl rfl rfl (by decide +kernel) ⟨Nat.le_of_ble_eq_true rfl, Nat.le_of_ble_eq_true rfl⟩) (xB.preV hKc hPc (ci := 7) (q0 := 0) rfl rfl) rfl rfl hl.1 rfl (lv_room (Nat.le_of_ble_eq_true rfl)) dL_law_2499 ⟨(show _ ≤ 716141 by omega), (show _ ≤ 6947682 by omega)⟩) hS xA_old (fun q h => hA q (Nat.le_trans hS.1 h)) (fun r_3 u t H locs ht hvm hw hB hz hk hS => ?_)
  replace hw : r_3 = (o_X5_thrown ((o_X5_narrowSum a2 f2 (r1 + r2) p1 p2 p3).2.2.2.1)) := hw
  subst r_3
  have hP := xP_keep hP hk
  refine lv_iload hx hb dL_law_2502 (lv_at hl 1 rfl) ?_
  refine lv_icmp_eq (tgt := 2509) hx hb dL_law_2504 (by decide +kernel) (fun c9 => ?_) (fun c9 => absurd (show o_X5_thrown _ = _ from (qx_narrowSum).symm) c9)
  refine lv_iload hx hb dL_law_2509 (lv_at hl 1 rfl) ?_
  refine lv_if_ne (tgt := 2527) hx hb dL_law_2511 (by decide +kernel) (fun c_4 => ?_) (fun c_4 => ?_)
  · skip
    refine lv_goto (tgt := 3660) hx hb dL_law_2527 (by decide +kernel) ?_
    refine W.widen (k := cells + 760) (n := slots + 4500) (by omega) (by omega) ?_
    have qe_b2 : (o_X5_narrowSum a2 f2 (r1 + r2) p1 p2 p3).2.1 = (o_L_narrowSum a2 r2 f2 nv p1 p2 p3).2.1 := (by have hm := ml_narrowSum a2 r2 r1 nv p1 p2 p3 hka2; rw [Int32.add_comm r2 r1] at hm; exact hm.2.1.symm)
    have qe_e2 : (o_X5_narrowSum a2 f2 (r1 + r2) p1 p2 p3).2.2.1 = (o_L_narrowSum a2 r2 f2 nv p1 p2 p3).2.2.2.1 := (by have hm := ml_narrowSum a2 r2 r1 nv p1 p2 p3 hka2; rw [Int32.add_comm r2 r1] at hm; exact hm.2.2.2.1.symm)
    have qe_rf : (o_X5_narrowSum a2 f2 (r1 + r2) p1 p2 p3).2.2.2.2 = r1 + (o_L_narrowSum a2 r2 f2 nv p1 p2 p3).2.2.1 := (by have hm := ml_narrowSum a2 r2 r1 nv p1 p2 p3 hka2; rw [Int32.add_comm r2 r1] at hm; exact hm.2.2.1.symm.trans (Int32.add_comm _ _))
    have qk_2 : okA false ((o_L_narrowSum a2 r2 f2 nv p1 p2 p3).2.2.2.1) := (by have hm := ml_narrowSum a2 r2 r1 nv p1 p2 p3 hka2; rw [Int32.add_comm r2 r1] at hm; rw [hm.2.2.2.1]; exact hm.2.2.2.2.2)
    exact K a1 r1 f1 g1 ((o_L_narrowSum a2 r2 f2 nv p1 p2 p3).2.1) ((o_L_narrowSum a2 r2 f2 nv p1 p2 p3).2.2.1) ((o_L_narrowSum a2 r2 f2 nv p1 p2 p3).2.2.2.1) g2 kn ((o_L_narrowSum a2 r2 f2 nv p1 p2 p3).2.2.2.2) sv ((o_X5_narrowSum a2 f2 (r1 + r2) p1 p2 p3).2.2.2.1) a1 f1 ((o_X5_narrowSum a2 f2 (r1 + r2) p1 p2 p3).2.1) ((o_X5_narrowSum a2 f2 (r1 + r2) p1 p2 p3).2.2.1) ((o_X5_narrowSum a2 f2 (r1 + r2) p1 p2 p3).2.2.2.2) kn _ _ _ rfl rfl qe_b2 qe_e2 qe_rf rfl hka1 qk_2 hP hD hS (lv_sub hl [2, 3, 4, 5, 6] rfl)
  · skip
    refine lv_aload_n hx hb dL_law_2514 rfl (lv_at hl 5 rfl) ?_
    refine va_getN (D := (dC, dI)) (ci := 5) (v := .long ((o_L_narrowSum a2 r2 f2 nv p1 p2 p3).2.2.2.2)) (C := RX3) (T := TX3) (N := 2) hx hb hts (by decide +kernel) hown hK hP 9 rfl rfl 0 (by decide +kernel) (va_Nw.use rfl (hG.1 (.fieldLinkNest RL 13 "EdgefloatsLaw$Out" "n" "J" RL) (List.mem_of_getElem? (i := 6) rfl))) (fun _ h9 => h9) rfl dL_law_2515 ?_
    refine lv_iload hx hb dL_law_2518 (lv_at hl 0 rfl) ?_
    refine lv_i2l (v := (((o_X5_narrowSum a2 f2 (r1 + r2) p1 p2 p3).1).toInt64)) hx hb dL_law_2520 rfl ?_
    refine xc_eq (tgt := 2527) hx hb dL_law_2521 dL_law_2522 (by decide +kernel) (fun c9 => ?_) (fun c9 => absurd ((qn_narrowSum).trans (if_pos ((qx_narrowSum).symm.trans c_4))) c9)
    refine lv_goto (tgt := 3660) hx hb dL_law_2527 (by decide +kernel) ?_
    refine W.widen (k := cells + 760) (n := slots + 4500) (by omega) (by omega) ?_
    have qe_b2 : (o_X5_narrowSum a2 f2 (r1 + r2) p1 p2 p3).2.1 = (o_L_narrowSum a2 r2 f2 nv p1 p2 p3).2.1 := (by have hm := ml_narrowSum a2 r2 r1 nv p1 p2 p3 hka2; rw [Int32.add_comm r2 r1] at hm; exact hm.2.1.symm)
    have qe_e2 : (o_X5_narrowSum a2 f2 (r1 + r2) p1 p2 p3).2.2.1 = (o_L_narrowSum a2 r2 f2 nv p1 p2 p3).2.2.2.1 := (by have hm := ml_narrowSum a2 r2 r1 nv p1 p2 p3 hka2; rw [Int32.add_comm r2 r1] at hm; exact hm.2.2.2.1.symm)
    have qe_rf : (o_X5_narrowSum a2 f2 (r1 + r2) p1 p2 p3).2.2.2.2 = r1 + (o_L_narrowSum a2 r2 f2 nv p1 p2 p3).2.2.1 := (by have hm := ml_narrowSum a2 r2 r1 nv p1 p2 p3 hka2; rw [Int32.add_comm r2 r1] at hm; exact hm.2.2.1.symm.trans (Int32.add_comm _ _))
    have qk_2 : okA false ((o_L_narrowSum a2 r2 f2 nv p1 p2 p3).2.2.2.1) := (by have hm := ml_narrowSum a2 r2 r1 nv p1 p2 p3 hka2; rw [Int32.add_comm r2 r1] at hm; rw [hm.2.2.2.1]; exact hm.2.2.2.2.2)
    exact K a1 r1 f1 g1 ((o_L_narrowSum a2 r2 f2 nv p1 p2 p3).2.1) ((o_L_narrowSum a2 r2 f2 nv p1 p2 p3).2.2.1) ((o_L_narrowSum a2 r2 f2 nv p1 p2 p3).2.2.2.1) g2 kn ((o_L_narrowSum a2 r2 f2 nv p1 p2 p3).2.2.2.2) sv ((o_X5_narrowSum a2 f2 (r1 + r2) p1 p2 p3).2.2.2.1) a1 f1 ((o_X5_narrowSum a2 f2 (r1 + r2) p1 p2 p3).2.1) ((o_X5_narrowSum a2 f2 (r1 + r2) p1 p2 p3).2.2.1) ((o_X5_narrowSum a2 f2 (r1 + r2) p1 p2 p3).2.2.2.2) kn _ _ _ rfl rfl qe_b2 qe_e2 qe_rf rfl hka1 qk_2 hP hD hS (lv_sub hl [2, 3, 4, 5, 6] rfl)
set_option maxHeartbeats 4000000 in
set_option maxRecDepth 100000 in
theorem st_31 (l : Launch) (p : Program) (e : Env) (s : State) (m : MethodId) (below : List Frame) (meth : Method) (c : Code) (b L N : Nat) (xs : Nat → Int32) (A : Nat → Prop) (dC : Nat → ClassId) (dI : Nat → Nat → Nat) (cy cB : ClassId) (h0 h1 hw1 hc1 hb1 h2 hw2 hc2 hb2 ho m0 m1 mc1 m2 mc2 : Nat) (C0 : lw_C l p e s m below meth c b L N xs A dC dI cy cB) (i : Nat) (hi : i + 4 ≤ L) (p1 p2 p3 : Int32) (hp1 : xs (i + 1) = p1) (hp2 : xs (i + 2) = p2) (hp3 : xs (i + 3) = p3) (cells slots : Nat) (hcs : cells + 760 ≤ 716141) (hss : slots + 4500 ≤ 6947682) (K : lw_K l p e s m below meth c b L N xs A dC dI cy cB h0 h1 hw1 hc1 hb1 h2 hw2 hc2 hb2 ho m0 m1 mc1 m2 mc2 i (cells + 760) (slots + 4500) 3660) (a1 : Int32) (r1 : Int32) (f1 : Nat → Int64) (g1 : Nat → Int64) (a2 : Int32) (r2 : Int32) (f2 : Nat → Int64) (g2 : Nat → Int64) (kn : Int32) (nv : Int64) (sv : Value) (th : Int32) (H : Heap) (locs : List Loc) (ls : Array Slot) (hka1 : okA true f1) (hka2 : okA false f2) (hP : va_P (dC, dI) xCl [(h0, eE h1 h2 kn), (h1, eR hw1 hc1 hb1 a1 r1), (hw1, eW true), (hc1, eA cy f1), (hb1, eA cy g1), (h2, eR hw2 hc2 hb2 a2 r2), (hw2, eW false), (hc2, eA cy f2), (hb2, eA cy g2), (ho, eO nv sv), (m0, eM m1 m2 th (r1 + r2) kn), (m1, eMR true mc1 a1), (mc1, eA cy f1), (m2, eMR false mc2 a2), (mc2, eA cy f2)] H) (hD : va_D A [(h0, eE h1 h2 kn), (h1, eR hw1 hc1 hb1 a1 r1), (hw1, eW true), (hc1, eA cy f1), (hb1, eA cy g1), (h2, eR hw2 hc2 hb2 a2 r2), (hw2, eW false), (hc2, eA cy f2), (hb2, eA cy g2), (ho, eO nv sv), (m0, eM m1 m2 th (r1 + r2) kn), (m1, eMR true mc1 a1), (mc1, eA cy f1), (m2, eMR false mc2 a2), (mc2, eA cy f2)]) (hS : va_S A s.heap H locs) (hl : lv_has ls 7 [(0, .ref b), (1, .ref h0), (2, .ref m0), (3, .ref ho), (4, .int (nI i))]) : W p l e room_1 s m #[Value.ref b] below meth c H locs cells slots (lw_Z below #[Value.ref b] s) (F0 m 2530 ls []) := by
  obtain ⟨hfl, hx, hb, hr, hml, hown, hts, hX, hbl, hbA, hlocks, hK, hG, hnc, hA, hAN, hN, hL, hT, hNs⟩ := id C0
  have hok2 := me_okF hka2
  have hsp1 : ∀ k, k < 8 → o_X1_isSpoiled true (f1 k) = false := fun k hk => (hka1 k hk).2
  have hsp2 : ∀ k, k < 8 → o_X1_isSpoiled false (f2 k) = false := fun k hk => (hka2 k hk).2
  have qx_narrowSort : (o_L_narrowSort a2 f2 g2 nv p1).1 = (o_X5_narrowSort a2 f2 p1).2.2.2 := by have hm := ml_narrowSort a2 g2 nv p1 hka2; exact hm.1
  have qn_narrowSort : (o_L_narrowSort a2 f2 g2 nv p1).2.2.2.2 = if (o_X5_narrowSort a2 f2 p1).2.2.2 = 0 then ((o_X5_narrowSort a2 f2 p1).1).toInt64 else nv := by have hm := ml_narrowSort a2 g2 nv p1 hka2; exact hm.2.2.2.1
  refine lv_aload_n hx hb dL_law_2530 rfl (lv_at hl 1 rfl) ?_
  refine lv_aload_n hx hb dL_law_2531 rfl (lv_at hl 0 rfl) ?_
  refine lv_iload hx hb dL_law_2532 (lv_at hl 4 rfl) ?_
  refine lv_iconst (v := 1) hx hb dL_law_2534 (by decide +kernel) ?_
  refine lv_iadd hx hb dL_law_2535 ?_
  rw [nI_1 i]
  refine xa_sld hx hb hX hbl hbA hS (k := i + 1) (by omega) hL hp1 dL_law_2536 ?_
  refine lv_aload_n hx hb dL_law_2537 rfl (lv_at hl 3 rfl) ?_
  have hPc := hP.sub (ws' := [(h0, eE h1 h2 kn), (h1, eR hw1 hc1 hb1 a1 r1), (hw1, eW true), (hc1, eA cy f1), (hb1, eA cy g1), (h2, eR hw2 hc2 hb2 a2 r2), (hw2, eW false), (hc2, eA cy f2), (hb2, eA cy g2), (ho, eO nv sv)]) [0, 1, 2, 3, 4, 5, 6, 7, 8, 9] rfl
  have hDc := hD.sub (ws' := [(h0, eE h1 h2 kn), (h1, eR hw1 hc1 hb1 a1 r1), (hw1, eW true), (hc1, eA cy f1), (hb1, eA cy g1), (h2, eR hw2 hc2 hb2 a2 r2), (hw2, eW false), (hc2, eA cy f2), (hb2, eA cy g2), (ho, eO nv sv)]) [0, 1, 2, 3, 4, 5, 6, 7, 8, 9] (by decide +kernel) rfl
  have hKc := hK.sub (tys' := [(cy, .long)]) [0] rfl
  have hFc := va_free (wc := [(h0, eE h1 h2 kn), (h1, eR hw1 hc1 hb1 a1 r1), (hw1, eW true), (hc1, eA cy f1), (hb1, eA cy g1), (h2, eR hw2 hc2 hb2 a2 r2), (hw2, eW false), (hc2, eA cy f2), (hb2, eA cy g2), (ho, eO nv sv)]) hD hS hA [0, 1, 2, 3, 4, 5, 6, 7, 8, 9] rfl
  refine va_calli (vx_runSW (As := [.ref h0, .int p1, .ref ho]) (rest := []) ⟨hx, hb, hml, hown, hts⟩ (k_L_narrowSort l hfl dC dI cy h0 h1 hw1 hc1 hb1 h2 hw2 hc2 hb2 a1 r1 f1 g1 a2 r2 f2 g2 kn ho nv sv H.size N p1) (vx_cwSW 3 hts gL_law_L_narrowSort rfl rfl rfl (by decide +kernel) ⟨Nat.le_of_ble_eq_true rfl, Nat.le_of_ble_eq_true rfl⟩) (xL.preS hKc hPc hDc hAN (Nat.le_trans hN hS.1) (hG.kept hS hAN) hnc) rfl rfl hl.1 rfl (lv_room (Nat.le_of_ble_eq_true rfl)) dL_law_2538 ⟨(show _ ≤ 716141 by omega), (show _ ≤ 6947682 by omega)⟩) hS (fun q _ h => hFc q h) hFc (fun r_1 u t H locs ht hvm hw hB hz hk hS => ?_)
  replace hw : r_1 = (o_L_narrowSort a2 f2 g2 nv p1).1 := hw
  subst r_1
  obtain ⟨hP1, hD1⟩ := hB
  rw [ht] at hP1
  obtain ⟨hP, hD⟩ := va_join (wr := [(m0, eM m1 m2 th (r1 + r2) kn), (m1, eMR true mc1 a1), (mc1, eA cy f1), (m2, eMR false mc2 a2), (mc2, eA cy f2)]) (w1 := [(h0, eE h1 h2 kn), (h1, eR hw1 hc1 hb1 a1 r1), (hw1, eW true), (hc1, eA cy f1), (hb1, eA cy g1), (h2, eR hw2 hc2 hb2 (o_L_narrowSort a2 f2 g2 nv p1).2.1 r2), (hw2, eW false), (hc2, eA cy (o_L_narrowSort a2 f2 g2 nv p1).2.2.1), (hb2, eA cy (o_L_narrowSort a2 f2 g2 nv p1).2.2.2.1), (ho, eO (o_L_narrowSort a2 f2 g2 nv p1).2.2.2.2 sv)]) hP hD [0, 1, 2, 3, 4, 5, 6, 7, 8, 9] [10, 11, 12, 13, 14] rfl rfl (by decide +kernel) (by decide +kernel) hk hFc hP1 hD1
  have hP := hP.sub (ws' := [(h0, eE h1 h2 kn), (h1, eR hw1 hc1 hb1 a1 r1), (hw1, eW true), (hc1, eA cy f1), (hb1, eA cy g1), (h2, eR hw2 hc2 hb2 (o_L_narrowSort a2 f2 g2 nv p1).2.1 r2), (hw2, eW false), (hc2, eA cy (o_L_narrowSort a2 f2 g2 nv p1).2.2.1), (hb2, eA cy (o_L_narrowSort a2 f2 g2 nv p1).2.2.2.1), (ho, eO (o_L_narrowSort a2 f2 g2 nv p1).2.2.2.2 sv), (m0, eM m1 m2 th (r1 + r2) kn), (m1, eMR true mc1 a1), (mc1, eA cy f1), (m2, eMR false mc2 a2), (mc2, eA cy f2)]) [5, 6, 7, 8, 9, 10, 11, 12, 13, 14, 0, 1, 2, 3, 4] rfl
  have hD := hD.sub (ws' := [(h0, eE h1 h2 kn), (h1, eR hw1 hc1 hb1 a1 r1), (hw1, eW true), (hc1, eA cy f1), (hb1, eA cy g1), (h2, eR hw2 hc2 hb2 (o_L_narrowSort a2 f2 g2 nv p1).2.1 r2), (hw2, eW false), (hc2, eA cy (o_L_narrowSort a2 f2 g2 nv p1).2.2.1), (hb2, eA cy (o_L_narrowSort a2 f2 g2 nv p1).2.2.2.1), (ho, eO (o_L_narrowSort a2 f2 g2 nv p1).2.2.2.2 sv), (m0, eM m1 m2 th (r1 + r2) kn), (m1, eMR true mc1 a1), (mc1, eA cy f1), (m2, eMR false mc2 a2), (mc2, eA cy f2)]) [5, 6, 7, 8, 9, 10, 11, 12, 13, 14, 0, 1, 2, 3, 4] (by decide +kernel) rfl
  refine lv_istore (lv' := [(5, .int ((o_L_narrowSort a2 f2 g2 nv p1).1)), (0, .ref b), (1, .ref h0), (2, .ref m0), (3, .ref ho), (4, .int (nI i))]) hx hb dL_law_2541 hl (by decide +kernel) rfl (fun ls hl => ?_)
  refine lv_aload_n hx hb dL_law_2543 rfl (lv_at hl 3 rfl) ?_
  refine lv_aload_n hx hb dL_law_2544 rfl (lv_at hl 1 rfl) ?_
  refine lv_iload hx hb dL_law_2545 (lv_at hl 5 rfl) ?_
  refine lv_iconst (v := 1) hx hb dL_law_2547 (by decide +kernel) ?_
  refine lv_iadd hx hb dL_law_2548 ?_
  rw [nI_1 i]
  refine xa_sld hx hb hX hbl hbA hS (k := i + 1) (by omega) hL hp1 dL_law_2549 ?_
  have hPc := hP.sub (ws' := [(m0, eM m1 m2 th (r1 + r2) kn), (m1, eMR true mc1 a1), (mc1, eA cy f1), (m2, eMR false mc2 a2), (mc2, eA cy f2)]) [10, 11, 12, 13, 14] rfl
  have hDc := hD.sub (ws' := [(m0, eM m1 m2 th (r1 + r2) kn), (m1, eMR true mc1 a1), (mc1, eA cy f1), (m2, eMR false mc2 a2), (mc2, eA cy f2)]) [10, 11, 12, 13, 14] (by decide +kernel) rfl
  have hKc := hK.sub (tys' := [(cy, .long)]) [0] rfl
  have hFc := va_free (wc := [(m0, eM m1 m2 th (r1 + r2) kn), (m1, eMR true mc1 a1), (mc1, eA cy f1), (m2, eMR false mc2 a2), (mc2, eA cy f2)]) hD hS hA [10, 11, 12, 13, 14] rfl
  refine va_calli (va_runV (As := [.int p1]) (rest := []) ⟨hx, hb, hml, hown, hts⟩ (k_X5_narrowSort l dC dI cy m0 m1 mc1 m2 mc2 a1 f1 a2 f2 th (r1 + r2) kn H.size N p1) (cwV 1 hts gL_law_X5_narrowSort rfl rfl rfl (by decide +kernel) ⟨Nat.le_of_ble_eq_true rfl, Nat.le_of_ble_eq_true rfl⟩) (xM.preV hKc hPc hDc hAN (Nat.le_trans hN hS.1) (hG.kept hS hAN) (ci := 7) (q0 := 0) rfl rfl) rfl rfl hl.1 rfl (lv_room (Nat.le_of_ble_eq_true rfl)) dL_law_2550 ⟨(show _ ≤ 716141 by omega), (show _ ≤ 6947682 by omega)⟩) hS (fun q _ h => hFc q h) hFc (fun r_2 u t H locs ht hvm hw hB hz hk hS => ?_)
  replace hw : r_2 = (o_X5_narrowSort a2 f2 p1).1 := hw
  subst r_2
  obtain ⟨hP1, hD1⟩ := hB
  rw [ht] at hP1
  obtain ⟨hP, hD⟩ := va_join (wr := [(h0, eE h1 h2 kn), (h1, eR hw1 hc1 hb1 a1 r1), (hw1, eW true), (hc1, eA cy f1), (hb1, eA cy g1), (h2, eR hw2 hc2 hb2 (o_L_narrowSort a2 f2 g2 nv p1).2.1 r2), (hw2, eW false), (hc2, eA cy (o_L_narrowSort a2 f2 g2 nv p1).2.2.1), (hb2, eA cy (o_L_narrowSort a2 f2 g2 nv p1).2.2.2.1), (ho, eO (o_L_narrowSort a2 f2 g2 nv p1).2.2.2.2 sv)]) (w1 := [(m0, eM m1 m2 (o_X5_narrowSort a2 f2 p1).2.2.2 (r1 + r2) kn), (m1, eMR true mc1 a1), (mc1, eA cy f1), (m2, eMR false mc2 (o_X5_narrowSort a2 f2 p1).2.1), (mc2, eA cy (o_X5_narrowSort a2 f2 p1).2.2.1)]) hP hD [10, 11, 12, 13, 14] [0, 1, 2, 3, 4, 5, 6, 7, 8, 9] rfl rfl (by decide +kernel) (by decide +kernel) hk hFc hP1 hD1
  have hP := hP.sub (ws' := [(h0, eE h1 h2 kn), (h1, eR hw1 hc1 hb1 a1 r1), (hw1, eW true), (hc1, eA cy f1), (hb1, eA cy g1), (h2, eR hw2 hc2 hb2 (o_L_narrowSort a2 f2 g2 nv p1).2.1 r2), (hw2, eW false), (hc2, eA cy (o_L_narrowSort a2 f2 g2 nv p1).2.2.1), (hb2, eA cy (o_L_narrowSort a2 f2 g2 nv p1).2.2.2.1), (ho, eO (o_L_narrowSort a2 f2 g2 nv p1).2.2.2.2 sv), (m0, eM m1 m2 (o_X5_narrowSort a2 f2 p1).2.2.2 (r1 + r2) kn), (m1, eMR true mc1 a1), (mc1, eA cy f1), (m2, eMR false mc2 (o_X5_narrowSort a2 f2 p1).2.1), (mc2, eA cy (o_X5_narrowSort a2 f2 p1).2.2.1)]) [0, 1, 2, 3, 4, 5, 6, 7, 8, 9, 10, 11, 12, 13, 14] rfl
  have hD := hD.sub (ws' := [(h0, eE h1 h2 kn), (h1, eR hw1 hc1 hb1 a1 r1), (hw1, eW true), (hc1, eA cy f1), (hb1, eA cy g1), (h2, eR hw2 hc2 hb2 (o_L_narrowSort a2 f2 g2 nv p1).2.1 r2), (hw2, eW false), (hc2, eA cy (o_L_narrowSort a2 f2 g2 nv p1).2.2.1), (hb2, eA cy (o_L_narrowSort a2 f2 g2 nv p1).2.2.2.1), (ho, eO (o_L_narrowSort a2 f2 g2 nv p1).2.2.2.2 sv), (m0, eM m1 m2 (o_X5_narrowSort a2 f2 p1).2.2.2 (r1 + r2) kn), (m1, eMR true mc1 a1), (mc1, eA cy f1), (m2, eMR false mc2 (o_X5_narrowSort a2 f2 p1).2.1), (mc2, eA cy (o_X5_narrowSort a2 f2 p1).2.2.1)]) [0, 1, 2, 3, 4, 5, 6, 7, 8, 9, 10, 11, 12, 13, 14] (by decide +kernel) rfl
  refine lv_istore (lv' := [(6, .int ((o_X5_narrowSort a2 f2 p1).1)), (5, .int ((o_L_narrowSort a2 f2 g2 nv p1).1)), (0, .ref b), (1, .ref h0), (2, .ref m0), (3, .ref ho), (4, .int (nI i))]) hx hb dL_law_2553 hl (by decide +kernel) rfl (fun ls hl => ?_)
  refine lv_aload_n hx hb dL_law_2555 rfl (lv_at hl 4 rfl) ?_
  have hPc := hP.sub (ws' := [(m0, eM m1 m2 (o_X5_narrowSort a2 f2 p1).2.2.2 (r1 + r2) kn)]) [10] rfl
  have hKc := hK.sub (tys' := []) [] rfl
  refine va_calli (va_runV (As := []) (rest := []) ⟨hx, hb, hml, hown, hts⟩ (k_X5_thrown l dC dI m0 m1 m2 ((o_X5_narrowSort a2 f2 p1).2.2.2) (r1 + r2) kn H.size) (cwV 0 hts gL_law_X5_thrown rfl rfl rfl (by decide +kernel) ⟨Nat.le_of_ble_eq_true rfl, Nat.le_of_ble_eq_true rfl⟩) (xB.preV hKc hPc (ci := 7) (q0 := 0) rfl rfl) rfl rfl hl.1 rfl (lv_room (Nat.le_of_ble_eq_true rfl)) dL_law_2556 ⟨(show _ ≤ 716141 by omega), (show _ ≤ 6947682 by omega)⟩) hS xA_old (fun q h => hA q (Nat.le_trans hS.1 h)) (fun r_3 u t H locs ht hvm hw hB hz hk hS => ?_)
  replace hw : r_3 = (o_X5_thrown ((o_X5_narrowSort a2 f2 p1).2.2.2)) := hw
  subst r_3
  have hP := xP_keep hP hk
  refine lv_iload hx hb dL_law_2559 (lv_at hl 1 rfl) ?_
  refine lv_icmp_eq (tgt := 2566) hx hb dL_law_2561 (by decide +kernel) (fun c9 => ?_) (fun c9 => absurd (show o_X5_thrown _ = _ from (qx_narrowSort).symm) c9)
  refine lv_iload hx hb dL_law_2566 (lv_at hl 1 rfl) ?_
  refine lv_if_ne (tgt := 2584) hx hb dL_law_2568 (by decide +kernel) (fun c_4 => ?_) (fun c_4 => ?_)
  · skip
    refine lv_goto (tgt := 3660) hx hb dL_law_2584 (by decide +kernel) ?_
    refine W.widen (k := cells + 760) (n := slots + 4500) (by omega) (by omega) ?_
    have qe_b2 : (o_X5_narrowSort a2 f2 p1).2.1 = (o_L_narrowSort a2 f2 g2 nv p1).2.1 := (by have hm := ml_narrowSort a2 g2 nv p1 hka2; exact hm.2.1.symm)
    have qe_e2 : (o_X5_narrowSort a2 f2 p1).2.2.1 = (o_L_narrowSort a2 f2 g2 nv p1).2.2.1 := (by have hm := ml_narrowSort a2 g2 nv p1 hka2; exact hm.2.2.1.symm)
    have qk_2 : okA false ((o_L_narrowSort a2 f2 g2 nv p1).2.2.1) := (by have hm := ml_narrowSort a2 g2 nv p1 hka2; rw [hm.2.2.1]; exact hm.2.2.2.2)
    exact K a1 r1 f1 g1 ((o_L_narrowSort a2 f2 g2 nv p1).2.1) r2 ((o_L_narrowSort a2 f2 g2 nv p1).2.2.1) ((o_L_narrowSort a2 f2 g2 nv p1).2.2.2.1) kn ((o_L_narrowSort a2 f2 g2 nv p1).2.2.2.2) sv ((o_X5_narrowSort a2 f2 p1).2.2.2) a1 f1 ((o_X5_narrowSort a2 f2 p1).2.1) ((o_X5_narrowSort a2 f2 p1).2.2.1) (r1 + r2) kn _ _ _ rfl rfl qe_b2 qe_e2 rfl rfl hka1 qk_2 hP hD hS (lv_sub hl [2, 3, 4, 5, 6] rfl)
  · skip
    refine lv_aload_n hx hb dL_law_2571 rfl (lv_at hl 5 rfl) ?_
    refine va_getN (D := (dC, dI)) (ci := 5) (v := .long ((o_L_narrowSort a2 f2 g2 nv p1).2.2.2.2)) (C := RX3) (T := TX3) (N := 2) hx hb hts (by decide +kernel) hown hK hP 9 rfl rfl 0 (by decide +kernel) (va_Nw.use rfl (hG.1 (.fieldLinkNest RL 13 "EdgefloatsLaw$Out" "n" "J" RL) (List.mem_of_getElem? (i := 6) rfl))) (fun _ h9 => h9) rfl dL_law_2572 ?_
    refine lv_iload hx hb dL_law_2575 (lv_at hl 0 rfl) ?_
    refine lv_i2l (v := (((o_X5_narrowSort a2 f2 p1).1).toInt64)) hx hb dL_law_2577 rfl ?_
    refine xc_eq (tgt := 2584) hx hb dL_law_2578 dL_law_2579 (by decide +kernel) (fun c9 => ?_) (fun c9 => absurd ((qn_narrowSort).trans (if_pos ((qx_narrowSort).symm.trans c_4))) c9)
    refine lv_goto (tgt := 3660) hx hb dL_law_2584 (by decide +kernel) ?_
    refine W.widen (k := cells + 760) (n := slots + 4500) (by omega) (by omega) ?_
    have qe_b2 : (o_X5_narrowSort a2 f2 p1).2.1 = (o_L_narrowSort a2 f2 g2 nv p1).2.1 := (by have hm := ml_narrowSort a2 g2 nv p1 hka2; exact hm.2.1.symm)
    have qe_e2 : (o_X5_narrowSort a2 f2 p1).2.2.1 = (o_L_narrowSort a2 f2 g2 nv p1).2.2.1 := (by have hm := ml_narrowSort a2 g2 nv p1 hka2; exact hm.2.2.1.symm)
    have qk_2 : okA false ((o_L_narrowSort a2 f2 g2 nv p1).2.2.1) := (by have hm := ml_narrowSort a2 g2 nv p1 hka2; rw [hm.2.2.1]; exact hm.2.2.2.2)
    exact K a1 r1 f1 g1 ((o_L_narrowSort a2 f2 g2 nv p1).2.1) r2 ((o_L_narrowSort a2 f2 g2 nv p1).2.2.1) ((o_L_narrowSort a2 f2 g2 nv p1).2.2.2.1) kn ((o_L_narrowSort a2 f2 g2 nv p1).2.2.2.2) sv ((o_X5_narrowSort a2 f2 p1).2.2.2) a1 f1 ((o_X5_narrowSort a2 f2 p1).2.1) ((o_X5_narrowSort a2 f2 p1).2.2.1) (r1 + r2) kn _ _ _ rfl rfl qe_b2 qe_e2 rfl rfl hka1 qk_2 hP hD hS (lv_sub hl [2, 3, 4, 5, 6] rfl)
set_option maxHeartbeats 4000000 in
set_option maxRecDepth 100000 in
theorem st_32 (l : Launch) (p : Program) (e : Env) (s : State) (m : MethodId) (below : List Frame) (meth : Method) (c : Code) (b L N : Nat) (xs : Nat → Int32) (A : Nat → Prop) (dC : Nat → ClassId) (dI : Nat → Nat → Nat) (cy cB : ClassId) (h0 h1 hw1 hc1 hb1 h2 hw2 hc2 hb2 ho m0 m1 mc1 m2 mc2 : Nat) (C0 : lw_C l p e s m below meth c b L N xs A dC dI cy cB) (i : Nat) (hi : i + 4 ≤ L) (p1 p2 p3 : Int32) (hp1 : xs (i + 1) = p1) (hp2 : xs (i + 2) = p2) (hp3 : xs (i + 3) = p3) (cells slots : Nat) (hcs : cells + 760 ≤ 716141) (hss : slots + 4500 ≤ 6947682) (K : lw_K l p e s m below meth c b L N xs A dC dI cy cB h0 h1 hw1 hc1 hb1 h2 hw2 hc2 hb2 ho m0 m1 mc1 m2 mc2 i (cells + 760) (slots + 4500) 3660) (a1 : Int32) (r1 : Int32) (f1 : Nat → Int64) (g1 : Nat → Int64) (a2 : Int32) (r2 : Int32) (f2 : Nat → Int64) (g2 : Nat → Int64) (kn : Int32) (nv : Int64) (sv : Value) (th : Int32) (H : Heap) (locs : List Loc) (ls : Array Slot) (hka1 : okA true f1) (hka2 : okA false f2) (hP : va_P (dC, dI) xCl [(h0, eE h1 h2 kn), (h1, eR hw1 hc1 hb1 a1 r1), (hw1, eW true), (hc1, eA cy f1), (hb1, eA cy g1), (h2, eR hw2 hc2 hb2 a2 r2), (hw2, eW false), (hc2, eA cy f2), (hb2, eA cy g2), (ho, eO nv sv), (m0, eM m1 m2 th (r1 + r2) kn), (m1, eMR true mc1 a1), (mc1, eA cy f1), (m2, eMR false mc2 a2), (mc2, eA cy f2)] H) (hD : va_D A [(h0, eE h1 h2 kn), (h1, eR hw1 hc1 hb1 a1 r1), (hw1, eW true), (hc1, eA cy f1), (hb1, eA cy g1), (h2, eR hw2 hc2 hb2 a2 r2), (hw2, eW false), (hc2, eA cy f2), (hb2, eA cy g2), (ho, eO nv sv), (m0, eM m1 m2 th (r1 + r2) kn), (m1, eMR true mc1 a1), (mc1, eA cy f1), (m2, eMR false mc2 a2), (mc2, eA cy f2)]) (hS : va_S A s.heap H locs) (hl : lv_has ls 7 [(0, .ref b), (1, .ref h0), (2, .ref m0), (3, .ref ho), (4, .int (nI i))]) : W p l e room_1 s m #[Value.ref b] below meth c H locs cells slots (lw_Z below #[Value.ref b] s) (F0 m 2587 ls []) := by
  obtain ⟨hfl, hx, hb, hr, hml, hown, hts, hX, hbl, hbA, hlocks, hK, hG, hnc, hA, hAN, hN, hL, hT, hNs⟩ := id C0
  have hok2 := me_okF hka2
  have hsp1 : ∀ k, k < 8 → o_X1_isSpoiled true (f1 k) = false := fun k hk => (hka1 k hk).2
  have hsp2 : ∀ k, k < 8 → o_X1_isSpoiled false (f2 k) = false := fun k hk => (hka2 k hk).2
  have qx_narrowEnd : (o_L_narrowEnd a2 f2 nv false p2).1 = (o_X5_narrowEnd a2 f2 false p2).2.2.2 := by have hm := ml_narrowEnd a2 nv false p2 hka2; rw [hm.1] <;> rfl
  have qn_narrowEnd : (o_L_narrowEnd a2 f2 nv false p2).2.2.2 = if (o_X5_narrowEnd a2 f2 false p2).2.2.2 = 0 then ((o_X5_narrowEnd a2 f2 false p2).1).toInt64 else nv := by have hm := ml_narrowEnd a2 nv false p2 hka2; rw [hm.1] <;> rfl
  have qx_narrowEnd_1 : (o_L_narrowEnd a2 f2 nv true p2).1 = (o_X5_narrowEnd a2 f2 true p2).2.2.2 := by have hm := ml_narrowEnd a2 nv true p2 hka2; rw [hm.1] <;> rfl
  have qn_narrowEnd_1 : (o_L_narrowEnd a2 f2 nv true p2).2.2.2 = if (o_X5_narrowEnd a2 f2 true p2).2.2.2 = 0 then ((o_X5_narrowEnd a2 f2 true p2).1).toInt64 else nv := by have hm := ml_narrowEnd a2 nv true p2 hka2; rw [hm.1] <;> rfl
  refine lv_aload_n hx hb dL_law_2587 rfl (lv_at hl 1 rfl) ?_
  refine lv_aload_n hx hb dL_law_2588 rfl (lv_at hl 0 rfl) ?_
  refine lv_iload hx hb dL_law_2589 (lv_at hl 4 rfl) ?_
  refine lv_iconst (v := 1) hx hb dL_law_2591 (by decide +kernel) ?_
  refine lv_iadd hx hb dL_law_2592 ?_
  rw [nI_1 i]
  refine xa_sld hx hb hX hbl hbA hS (k := i + 1) (by omega) hL hp1 dL_law_2593 ?_
  refine lv_if_eq (tgt := 2601) hx hb dL_law_2594 (by decide +kernel) (fun c_1 => ?_) (fun c_1 => ?_)
  · skip
    refine lv_iconst (v := 0) hx hb dL_law_2601 (by decide +kernel) ?_
    refine lv_aload_n hx hb dL_law_2602 rfl (lv_at hl 0 rfl) ?_
    refine lv_iload hx hb dL_law_2603 (lv_at hl 4 rfl) ?_
    refine lv_iconst (v := 2) hx hb dL_law_2605 (by decide +kernel) ?_
    refine lv_iadd hx hb dL_law_2606 ?_
    rw [nI_p2 i]
    refine xa_sld hx hb hX hbl hbA hS (k := i + 2) (by omega) hL hp2 dL_law_2607 ?_
    refine lv_aload_n hx hb dL_law_2608 rfl (lv_at hl 3 rfl) ?_
    have hPc := hP.sub (ws' := [(h0, eE h1 h2 kn), (h1, eR hw1 hc1 hb1 a1 r1), (hw1, eW true), (hc1, eA cy f1), (hb1, eA cy g1), (h2, eR hw2 hc2 hb2 a2 r2), (hw2, eW false), (hc2, eA cy f2), (hb2, eA cy g2), (ho, eO nv sv)]) [0, 1, 2, 3, 4, 5, 6, 7, 8, 9] rfl
    have hDc := hD.sub (ws' := [(h0, eE h1 h2 kn), (h1, eR hw1 hc1 hb1 a1 r1), (hw1, eW true), (hc1, eA cy f1), (hb1, eA cy g1), (h2, eR hw2 hc2 hb2 a2 r2), (hw2, eW false), (hc2, eA cy f2), (hb2, eA cy g2), (ho, eO nv sv)]) [0, 1, 2, 3, 4, 5, 6, 7, 8, 9] (by decide +kernel) rfl
    have hKc := hK.sub (tys' := [(cy, .long)]) [0] rfl
    have hFc := va_free (wc := [(h0, eE h1 h2 kn), (h1, eR hw1 hc1 hb1 a1 r1), (hw1, eW true), (hc1, eA cy f1), (hb1, eA cy g1), (h2, eR hw2 hc2 hb2 a2 r2), (hw2, eW false), (hc2, eA cy f2), (hb2, eA cy g2), (ho, eO nv sv)]) hD hS hA [0, 1, 2, 3, 4, 5, 6, 7, 8, 9] rfl
    refine va_calli (vx_runSW (As := [.ref h0, .int 0, .int p2, .ref ho]) (rest := []) ⟨hx, hb, hml, hown, hts⟩ (k_L_narrowEnd l hfl dC dI cy h0 h1 hw1 hc1 hb1 h2 hw2 hc2 hb2 a1 r1 f1 g1 a2 r2 f2 g2 kn ho nv sv H.size N false p2) (vx_cwSW 4 hts gL_law_L_narrowEnd rfl rfl rfl (by decide +kernel) ⟨Nat.le_of_ble_eq_true rfl, Nat.le_of_ble_eq_true rfl⟩) (xL.preS hKc hPc hDc hAN (Nat.le_trans hN hS.1) (hG.kept hS hAN) hnc) rfl rfl hl.1 rfl (lv_room (Nat.le_of_ble_eq_true rfl)) dL_law_2609 ⟨(show _ ≤ 716141 by omega), (show _ ≤ 6947682 by omega)⟩) hS (fun q _ h => hFc q h) hFc (fun r_2 u t H locs ht hvm hw hB hz hk hS => ?_)
    replace hw : r_2 = (o_L_narrowEnd a2 f2 nv false p2).1 := hw
    subst r_2
    obtain ⟨hP1, hD1⟩ := hB
    rw [ht] at hP1
    obtain ⟨hP, hD⟩ := va_join (wr := [(m0, eM m1 m2 th (r1 + r2) kn), (m1, eMR true mc1 a1), (mc1, eA cy f1), (m2, eMR false mc2 a2), (mc2, eA cy f2)]) (w1 := [(h0, eE h1 h2 kn), (h1, eR hw1 hc1 hb1 a1 r1), (hw1, eW true), (hc1, eA cy f1), (hb1, eA cy g1), (h2, eR hw2 hc2 hb2 (o_L_narrowEnd a2 f2 nv false p2).2.1 r2), (hw2, eW false), (hc2, eA cy (o_L_narrowEnd a2 f2 nv false p2).2.2.1), (hb2, eA cy g2), (ho, eO (o_L_narrowEnd a2 f2 nv false p2).2.2.2 sv)]) hP hD [0, 1, 2, 3, 4, 5, 6, 7, 8, 9] [10, 11, 12, 13, 14] rfl rfl (by decide +kernel) (by decide +kernel) hk hFc hP1 hD1
    have hP := hP.sub (ws' := [(h0, eE h1 h2 kn), (h1, eR hw1 hc1 hb1 a1 r1), (hw1, eW true), (hc1, eA cy f1), (hb1, eA cy g1), (h2, eR hw2 hc2 hb2 (o_L_narrowEnd a2 f2 nv false p2).2.1 r2), (hw2, eW false), (hc2, eA cy (o_L_narrowEnd a2 f2 nv false p2).2.2.1), (hb2, eA cy g2), (ho, eO (o_L_narrowEnd a2 f2 nv false p2).2.2.2 sv), (m0, eM m1 m2 th (r1 + r2) kn), (m1, eMR true mc1 a1), (mc1, eA cy f1), (m2, eMR false mc2 a2), (mc2, eA cy f2)]) [5, 6, 7, 8, 9, 10, 11, 12, 13, 14, 0, 1, 2, 3, 4] rfl
    have hD := hD.sub (ws' := [(h0, eE h1 h2 kn), (h1, eR hw1 hc1 hb1 a1 r1), (hw1, eW true), (hc1, eA cy f1), (hb1, eA cy g1), (h2, eR hw2 hc2 hb2 (o_L_narrowEnd a2 f2 nv false p2).2.1 r2), (hw2, eW false), (hc2, eA cy (o_L_narrowEnd a2 f2 nv false p2).2.2.1), (hb2, eA cy g2), (ho, eO (o_L_narrowEnd a2 f2 nv false p2).2.2.2 sv), (m0, eM m1 m2 th (r1 + r2) kn), (m1, eMR true mc1 a1), (mc1, eA cy f1), (m2, eMR false mc2 a2), (mc2, eA cy f2)]) [5, 6, 7, 8, 9, 10, 11, 12, 13, 14, 0, 1, 2, 3, 4] (by decide +kernel) rfl
    refine lv_istore (lv' := [(5, .int ((o_L_narrowEnd a2 f2 nv false p2).1)), (0, .ref b), (1, .ref h0), (2, .ref m0), (3, .ref ho), (4, .int (nI i))]) hx hb dL_law_2612 hl (by decide +kernel) rfl (fun ls hl => ?_)
    refine lv_aload_n hx hb dL_law_2614 rfl (lv_at hl 3 rfl) ?_
    refine lv_aload_n hx hb dL_law_2615 rfl (lv_at hl 1 rfl) ?_
    refine lv_iload hx hb dL_law_2616 (lv_at hl 5 rfl) ?_
    refine lv_iconst (v := 1) hx hb dL_law_2618 (by decide +kernel) ?_
    refine lv_iadd hx hb dL_law_2619 ?_
    rw [nI_1 i]
    refine xa_sld hx hb hX hbl hbA hS (k := i + 1) (by omega) hL hp1 dL_law_2620 ?_
    refine lv_if_eq (tgt := 2628) hx hb dL_law_2621 (by decide +kernel) (fun c9 => ?_) (fun c9 => absurd c_1 c9)
    refine lv_iconst (v := 0) hx hb dL_law_2628 (by decide +kernel) ?_
    refine lv_aload_n hx hb dL_law_2629 rfl (lv_at hl 1 rfl) ?_
    refine lv_iload hx hb dL_law_2630 (lv_at hl 5 rfl) ?_
    refine lv_iconst (v := 2) hx hb dL_law_2632 (by decide +kernel) ?_
    refine lv_iadd hx hb dL_law_2633 ?_
    rw [nI_p2 i]
    refine xa_sld hx hb hX hbl hbA hS (k := i + 2) (by omega) hL hp2 dL_law_2634 ?_
    have hPc := hP.sub (ws' := [(m0, eM m1 m2 th (r1 + r2) kn), (m1, eMR true mc1 a1), (mc1, eA cy f1), (m2, eMR false mc2 a2), (mc2, eA cy f2)]) [10, 11, 12, 13, 14] rfl
    have hDc := hD.sub (ws' := [(m0, eM m1 m2 th (r1 + r2) kn), (m1, eMR true mc1 a1), (mc1, eA cy f1), (m2, eMR false mc2 a2), (mc2, eA cy f2)]) [10, 11, 12, 13, 14] (by decide +kernel) rfl
    have hKc := hK.sub (tys' := [(cy, .long)]) [0] rfl
    have hFc := va_free (wc := [(m0, eM m1 m2 th (r1 + r2) kn), (m1, eMR true mc1 a1), (mc1, eA cy f1), (m2, eMR false mc2 a2), (mc2, eA cy f2)]) hD hS hA [10, 11, 12, 13, 14] rfl
    refine va_calli (va_runV (As := [.int 0, .int p2]) (rest := []) ⟨hx, hb, hml, hown, hts⟩ (k_X5_narrowEnd l dC dI cy m0 m1 mc1 m2 mc2 a1 f1 a2 f2 th (r1 + r2) kn H.size N false p2) (cwV 2 hts gL_law_X5_narrowEnd rfl rfl rfl (by decide +kernel) ⟨Nat.le_of_ble_eq_true rfl, Nat.le_of_ble_eq_true rfl⟩) (xM.preV hKc hPc hDc hAN (Nat.le_trans hN hS.1) (hG.kept hS hAN) (ci := 7) (q0 := 0) rfl rfl) rfl rfl hl.1 rfl (lv_room (Nat.le_of_ble_eq_true rfl)) dL_law_2635 ⟨(show _ ≤ 716141 by omega), (show _ ≤ 6947682 by omega)⟩) hS (fun q _ h => hFc q h) hFc (fun r_3 u t H locs ht hvm hw hB hz hk hS => ?_)
    replace hw : r_3 = (o_X5_narrowEnd a2 f2 false p2).1 := hw
    subst r_3
    obtain ⟨hP1, hD1⟩ := hB
    rw [ht] at hP1
    obtain ⟨hP, hD⟩ := va_join (wr := [(h0, eE h1 h2 kn), (h1, eR hw1 hc1 hb1 a1 r1), (hw1, eW true), (hc1, eA cy f1), (hb1, eA cy g1), (h2, eR hw2 hc2 hb2 (o_L_narrowEnd a2 f2 nv false p2).2.1 r2), (hw2, eW false), (hc2, eA cy (o_L_narrowEnd a2 f2 nv false p2).2.2.1), (hb2, eA cy g2), (ho, eO (o_L_narrowEnd a2 f2 nv false p2).2.2.2 sv)]) (w1 := [(m0, eM m1 m2 (o_X5_narrowEnd a2 f2 false p2).2.2.2 (r1 + r2) kn), (m1, eMR true mc1 a1), (mc1, eA cy f1), (m2, eMR false mc2 (o_X5_narrowEnd a2 f2 false p2).2.1), (mc2, eA cy (o_X5_narrowEnd a2 f2 false p2).2.2.1)]) hP hD [10, 11, 12, 13, 14] [0, 1, 2, 3, 4, 5, 6, 7, 8, 9] rfl rfl (by decide +kernel) (by decide +kernel) hk hFc hP1 hD1
    have hP := hP.sub (ws' := [(h0, eE h1 h2 kn), (h1, eR hw1 hc1 hb1 a1 r1), (hw1, eW true), (hc1, eA cy f1), (hb1, eA cy g1), (h2, eR hw2 hc2 hb2 (o_L_narrowEnd a2 f2 nv false p2).2.1 r2), (hw2, eW false), (hc2, eA cy (o_L_narrowEnd a2 f2 nv false p2).2.2.1), (hb2, eA cy g2), (ho, eO (o_L_narrowEnd a2 f2 nv false p2).2.2.2 sv), (m0, eM m1 m2 (o_X5_narrowEnd a2 f2 false p2).2.2.2 (r1 + r2) kn), (m1, eMR true mc1 a1), (mc1, eA cy f1), (m2, eMR false mc2 (o_X5_narrowEnd a2 f2 false p2).2.1), (mc2, eA cy (o_X5_narrowEnd a2 f2 false p2).2.2.1)]) [0, 1, 2, 3, 4, 5, 6, 7, 8, 9, 10, 11, 12, 13, 14] rfl
    have hD := hD.sub (ws' := [(h0, eE h1 h2 kn), (h1, eR hw1 hc1 hb1 a1 r1), (hw1, eW true), (hc1, eA cy f1), (hb1, eA cy g1), (h2, eR hw2 hc2 hb2 (o_L_narrowEnd a2 f2 nv false p2).2.1 r2), (hw2, eW false), (hc2, eA cy (o_L_narrowEnd a2 f2 nv false p2).2.2.1), (hb2, eA cy g2), (ho, eO (o_L_narrowEnd a2 f2 nv false p2).2.2.2 sv), (m0, eM m1 m2 (o_X5_narrowEnd a2 f2 false p2).2.2.2 (r1 + r2) kn), (m1, eMR true mc1 a1), (mc1, eA cy f1), (m2, eMR false mc2 (o_X5_narrowEnd a2 f2 false p2).2.1), (mc2, eA cy (o_X5_narrowEnd a2 f2 false p2).2.2.1)]) [0, 1, 2, 3, 4, 5, 6, 7, 8, 9, 10, 11, 12, 13, 14] (by decide +kernel) rfl
    refine lv_istore (lv' := [(6, .int ((o_X5_narrowEnd a2 f2 false p2).1)), (5, .int ((o_L_narrowEnd a2 f2 nv false p2).1)), (0, .ref b), (1, .ref h0), (2, .ref m0), (3, .ref ho), (4, .int (nI i))]) hx hb dL_law_2638 hl (by decide +kernel) rfl (fun ls hl => ?_)
    refine lv_aload_n hx hb dL_law_2640 rfl (lv_at hl 4 rfl) ?_
    have hPc := hP.sub (ws' := [(m0, eM m1 m2 (o_X5_narrowEnd a2 f2 false p2).2.2.2 (r1 + r2) kn)]) [10] rfl
    have hKc := hK.sub (tys' := []) [] rfl
    refine va_calli (va_runV (As := []) (rest := []) ⟨hx, hb, hml, hown, hts⟩ (k_X5_thrown l dC dI m0 m1 m2 ((o_X5_narrowEnd a2 f2 false p2).2.2.2) (r1 + r2) kn H.size) (cwV 0 hts gL_law_X5_thrown rfl rfl rfl (by decide +kernel) ⟨Nat.le_of_ble_eq_true rfl, Nat.le_of_ble_eq_true rfl⟩) (xB.preV hKc hPc (ci := 7) (q0 := 0) rfl rfl) rfl rfl hl.1 rfl (lv_room (Nat.le_of_ble_eq_true rfl)) dL_law_2641 ⟨(show _ ≤ 716141 by omega), (show _ ≤ 6947682 by omega)⟩) hS xA_old (fun q h => hA q (Nat.le_trans hS.1 h)) (fun r_4 u t H locs ht hvm hw hB hz hk hS => ?_)
    replace hw : r_4 = (o_X5_thrown ((o_X5_narrowEnd a2 f2 false p2).2.2.2)) := hw
    subst r_4
    have hP := xP_keep hP hk
    refine lv_iload hx hb dL_law_2644 (lv_at hl 1 rfl) ?_
    refine lv_icmp_eq (tgt := 2651) hx hb dL_law_2646 (by decide +kernel) (fun c9 => ?_) (fun c9 => absurd (show o_X5_thrown _ = _ from (qx_narrowEnd).symm) c9)
    refine lv_iload hx hb dL_law_2651 (lv_at hl 1 rfl) ?_
    refine lv_if_ne (tgt := 2669) hx hb dL_law_2653 (by decide +kernel) (fun c_5 => ?_) (fun c_5 => ?_)
    · skip
      refine lv_goto (tgt := 3660) hx hb dL_law_2669 (by decide +kernel) ?_
      refine W.widen (k := cells + 760) (n := slots + 4500) (by omega) (by omega) ?_
      have qe_b2 : (o_X5_narrowEnd a2 f2 false p2).2.1 = (o_L_narrowEnd a2 f2 nv false p2).2.1 := (by have hm := ml_narrowEnd a2 nv false p2 hka2; rw [hm.1] <;> rfl)
      have qe_e2 : (o_X5_narrowEnd a2 f2 false p2).2.2.1 = (o_L_narrowEnd a2 f2 nv false p2).2.2.1 := (by have hm := ml_narrowEnd a2 nv false p2 hka2; rw [hm.1] <;> rfl)
      have qk_2 : okA false ((o_L_narrowEnd a2 f2 nv false p2).2.2.1) := (by have hm := ml_narrowEnd a2 nv false p2 hka2; rw [hm.1]; exact hm.2)
      exact K a1 r1 f1 g1 ((o_L_narrowEnd a2 f2 nv false p2).2.1) r2 ((o_L_narrowEnd a2 f2 nv false p2).2.2.1) g2 kn ((o_L_narrowEnd a2 f2 nv false p2).2.2.2) sv ((o_X5_narrowEnd a2 f2 false p2).2.2.2) a1 f1 ((o_X5_narrowEnd a2 f2 false p2).2.1) ((o_X5_narrowEnd a2 f2 false p2).2.2.1) (r1 + r2) kn _ _ _ rfl rfl qe_b2 qe_e2 rfl rfl hka1 qk_2 hP hD hS (lv_sub hl [2, 3, 4, 5, 6] rfl)
    · skip
      refine lv_aload_n hx hb dL_law_2656 rfl (lv_at hl 5 rfl) ?_
      refine va_getN (D := (dC, dI)) (ci := 5) (v := .long ((o_L_narrowEnd a2 f2 nv false p2).2.2.2)) (C := RX3) (T := TX3) (N := 2) hx hb hts (by decide +kernel) hown hK hP 9 rfl rfl 0 (by decide +kernel) (va_Nw.use rfl (hG.1 (.fieldLinkNest RL 13 "EdgefloatsLaw$Out" "n" "J" RL) (List.mem_of_getElem? (i := 6) rfl))) (fun _ h9 => h9) rfl dL_law_2657 ?_
      refine lv_iload hx hb dL_law_2660 (lv_at hl 0 rfl) ?_
      refine lv_i2l (v := (((o_X5_narrowEnd a2 f2 false p2).1).toInt64)) hx hb dL_law_2662 rfl ?_
      refine xc_eq (tgt := 2669) hx hb dL_law_2663 dL_law_2664 (by decide +kernel) (fun c9 => ?_) (fun c9 => absurd ((qn_narrowEnd).trans (if_pos ((qx_narrowEnd).symm.trans c_5))) c9)
      refine lv_goto (tgt := 3660) hx hb dL_law_2669 (by decide +kernel) ?_
      refine W.widen (k := cells + 760) (n := slots + 4500) (by omega) (by omega) ?_
      have qe_b2 : (o_X5_narrowEnd a2 f2 false p2).2.1 = (o_L_narrowEnd a2 f2 nv false p2).2.1 := (by have hm := ml_narrowEnd a2 nv false p2 hka2; rw [hm.1] <;> rfl)
      have qe_e2 : (o_X5_narrowEnd a2 f2 false p2).2.2.1 = (o_L_narrowEnd a2 f2 nv false p2).2.2.1 := (by have hm := ml_narrowEnd a2 nv false p2 hka2; rw [hm.1] <;> rfl)
      have qk_2 : okA false ((o_L_narrowEnd a2 f2 nv false p2).2.2.1) := (by have hm := ml_narrowEnd a2 nv false p2 hka2; rw [hm.1]; exact hm.2)
      exact K a1 r1 f1 g1 ((o_L_narrowEnd a2 f2 nv false p2).2.1) r2 ((o_L_narrowEnd a2 f2 nv false p2).2.2.1) g2 kn ((o_L_narrowEnd a2 f2 nv false p2).2.2.2) sv ((o_X5_narrowEnd a2 f2 false p2).2.2.2) a1 f1 ((o_X5_narrowEnd a2 f2 false p2).2.1) ((o_X5_narrowEnd a2 f2 false p2).2.2.1) (r1 + r2) kn _ _ _ rfl rfl qe_b2 qe_e2 rfl rfl hka1 qk_2 hP hD hS (lv_sub hl [2, 3, 4, 5, 6] rfl)
  · skip
    refine lv_iconst (v := 1) hx hb dL_law_2597 (by decide +kernel) ?_
    refine lv_goto (tgt := 2602) hx hb dL_law_2598 (by decide +kernel) ?_
    refine lv_aload_n hx hb dL_law_2602 rfl (lv_at hl 0 rfl) ?_
    refine lv_iload hx hb dL_law_2603 (lv_at hl 4 rfl) ?_
    refine lv_iconst (v := 2) hx hb dL_law_2605 (by decide +kernel) ?_
    refine lv_iadd hx hb dL_law_2606 ?_
    rw [nI_p2 i]
    refine xa_sld hx hb hX hbl hbA hS (k := i + 2) (by omega) hL hp2 dL_law_2607 ?_
    refine lv_aload_n hx hb dL_law_2608 rfl (lv_at hl 3 rfl) ?_
    have hPc := hP.sub (ws' := [(h0, eE h1 h2 kn), (h1, eR hw1 hc1 hb1 a1 r1), (hw1, eW true), (hc1, eA cy f1), (hb1, eA cy g1), (h2, eR hw2 hc2 hb2 a2 r2), (hw2, eW false), (hc2, eA cy f2), (hb2, eA cy g2), (ho, eO nv sv)]) [0, 1, 2, 3, 4, 5, 6, 7, 8, 9] rfl
    have hDc := hD.sub (ws' := [(h0, eE h1 h2 kn), (h1, eR hw1 hc1 hb1 a1 r1), (hw1, eW true), (hc1, eA cy f1), (hb1, eA cy g1), (h2, eR hw2 hc2 hb2 a2 r2), (hw2, eW false), (hc2, eA cy f2), (hb2, eA cy g2), (ho, eO nv sv)]) [0, 1, 2, 3, 4, 5, 6, 7, 8, 9] (by decide +kernel) rfl
    have hKc := hK.sub (tys' := [(cy, .long)]) [0] rfl
    have hFc := va_free (wc := [(h0, eE h1 h2 kn), (h1, eR hw1 hc1 hb1 a1 r1), (hw1, eW true), (hc1, eA cy f1), (hb1, eA cy g1), (h2, eR hw2 hc2 hb2 a2 r2), (hw2, eW false), (hc2, eA cy f2), (hb2, eA cy g2), (ho, eO nv sv)]) hD hS hA [0, 1, 2, 3, 4, 5, 6, 7, 8, 9] rfl
    refine va_calli (vx_runSW (As := [.ref h0, .int 1, .int p2, .ref ho]) (rest := []) ⟨hx, hb, hml, hown, hts⟩ (k_L_narrowEnd l hfl dC dI cy h0 h1 hw1 hc1 hb1 h2 hw2 hc2 hb2 a1 r1 f1 g1 a2 r2 f2 g2 kn ho nv sv H.size N true p2) (vx_cwSW 4 hts gL_law_L_narrowEnd rfl rfl rfl (by decide +kernel) ⟨Nat.le_of_ble_eq_true rfl, Nat.le_of_ble_eq_true rfl⟩) (xL.preS hKc hPc hDc hAN (Nat.le_trans hN hS.1) (hG.kept hS hAN) hnc) rfl rfl hl.1 rfl (lv_room (Nat.le_of_ble_eq_true rfl)) dL_law_2609 ⟨(show _ ≤ 716141 by omega), (show _ ≤ 6947682 by omega)⟩) hS (fun q _ h => hFc q h) hFc (fun r_6 u t H locs ht hvm hw hB hz hk hS => ?_)
    replace hw : r_6 = (o_L_narrowEnd a2 f2 nv true p2).1 := hw
    subst r_6
    obtain ⟨hP1, hD1⟩ := hB
    rw [ht] at hP1
    obtain ⟨hP, hD⟩ := va_join (wr := [(m0, eM m1 m2 th (r1 + r2) kn), (m1, eMR true mc1 a1), (mc1, eA cy f1), (m2, eMR false mc2 a2), (mc2, eA cy f2)]) (w1 := [(h0, eE h1 h2 kn), (h1, eR hw1 hc1 hb1 a1 r1), (hw1, eW true), (hc1, eA cy f1), (hb1, eA cy g1), (h2, eR hw2 hc2 hb2 (o_L_narrowEnd a2 f2 nv true p2).2.1 r2), (hw2, eW false), (hc2, eA cy (o_L_narrowEnd a2 f2 nv true p2).2.2.1), (hb2, eA cy g2), (ho, eO (o_L_narrowEnd a2 f2 nv true p2).2.2.2 sv)]) hP hD [0, 1, 2, 3, 4, 5, 6, 7, 8, 9] [10, 11, 12, 13, 14] rfl rfl (by decide +kernel) (by decide +kernel) hk hFc hP1 hD1
    have hP := hP.sub (ws' := [(h0, eE h1 h2 kn), (h1, eR hw1 hc1 hb1 a1 r1), (hw1, eW true), (hc1, eA cy f1), (hb1, eA cy g1), (h2, eR hw2 hc2 hb2 (o_L_narrowEnd a2 f2 nv true p2).2.1 r2), (hw2, eW false), (hc2, eA cy (o_L_narrowEnd a2 f2 nv true p2).2.2.1), (hb2, eA cy g2), (ho, eO (o_L_narrowEnd a2 f2 nv true p2).2.2.2 sv), (m0, eM m1 m2 th (r1 + r2) kn), (m1, eMR true mc1 a1), (mc1, eA cy f1), (m2, eMR false mc2 a2), (mc2, eA cy f2)]) [5, 6, 7, 8, 9, 10, 11, 12, 13, 14, 0, 1, 2, 3, 4] rfl
    have hD := hD.sub (ws' := [(h0, eE h1 h2 kn), (h1, eR hw1 hc1 hb1 a1 r1), (hw1, eW true), (hc1, eA cy f1), (hb1, eA cy g1), (h2, eR hw2 hc2 hb2 (o_L_narrowEnd a2 f2 nv true p2).2.1 r2), (hw2, eW false), (hc2, eA cy (o_L_narrowEnd a2 f2 nv true p2).2.2.1), (hb2, eA cy g2), (ho, eO (o_L_narrowEnd a2 f2 nv true p2).2.2.2 sv), (m0, eM m1 m2 th (r1 + r2) kn), (m1, eMR true mc1 a1), (mc1, eA cy f1), (m2, eMR false mc2 a2), (mc2, eA cy f2)]) [5, 6, 7, 8, 9, 10, 11, 12, 13, 14, 0, 1, 2, 3, 4] (by decide +kernel) rfl
    refine lv_istore (lv' := [(5, .int ((o_L_narrowEnd a2 f2 nv true p2).1)), (0, .ref b), (1, .ref h0), (2, .ref m0), (3, .ref ho), (4, .int (nI i))]) hx hb dL_law_2612 hl (by decide +kernel) rfl (fun ls hl => ?_)
    refine lv_aload_n hx hb dL_law_2614 rfl (lv_at hl 3 rfl) ?_
    refine lv_aload_n hx hb dL_law_2615 rfl (lv_at hl 1 rfl) ?_
    refine lv_iload hx hb dL_law_2616 (lv_at hl 5 rfl) ?_
    refine lv_iconst (v := 1) hx hb dL_law_2618 (by decide +kernel) ?_
    refine lv_iadd hx hb dL_law_2619 ?_
    rw [nI_1 i]
    refine xa_sld hx hb hX hbl hbA hS (k := i + 1) (by omega) hL hp1 dL_law_2620 ?_
    refine lv_if_eq (tgt := 2628) hx hb dL_law_2621 (by decide +kernel) (fun c9 => absurd c9 c_1) (fun c9 => ?_)
    refine lv_iconst (v := 1) hx hb dL_law_2624 (by decide +kernel) ?_
    refine lv_goto (tgt := 2629) hx hb dL_law_2625 (by decide +kernel) ?_
    refine lv_aload_n hx hb dL_law_2629 rfl (lv_at hl 1 rfl) ?_
    refine lv_iload hx hb dL_law_2630 (lv_at hl 5 rfl) ?_
    refine lv_iconst (v := 2) hx hb dL_law_2632 (by decide +kernel) ?_
    refine lv_iadd hx hb dL_law_2633 ?_
    rw [nI_p2 i]
    refine xa_sld hx hb hX hbl hbA hS (k := i + 2) (by omega) hL hp2 dL_law_2634 ?_
    have hPc := hP.sub (ws' := [(m0, eM m1 m2 th (r1 + r2) kn), (m1, eMR true mc1 a1), (mc1, eA cy f1), (m2, eMR false mc2 a2), (mc2, eA cy f2)]) [10, 11, 12, 13, 14] rfl
    have hDc := hD.sub (ws' := [(m0, eM m1 m2 th (r1 + r2) kn), (m1, eMR true mc1 a1), (mc1, eA cy f1), (m2, eMR false mc2 a2), (mc2, eA cy f2)]) [10, 11, 12, 13, 14] (by decide +kernel) rfl
    have hKc := hK.sub (tys' := [(cy, .long)]) [0] rfl
    have hFc := va_free (wc := [(m0, eM m1 m2 th (r1 + r2) kn), (m1, eMR true mc1 a1), (mc1, eA cy f1), (m2, eMR false mc2 a2), (mc2, eA cy f2)]) hD hS hA [10, 11, 12, 13, 14] rfl
    refine va_calli (va_runV (As := [.int 1, .int p2]) (rest := []) ⟨hx, hb, hml, hown, hts⟩ (k_X5_narrowEnd l dC dI cy m0 m1 mc1 m2 mc2 a1 f1 a2 f2 th (r1 + r2) kn H.size N true p2) (cwV 2 hts gL_law_X5_narrowEnd rfl rfl rfl (by decide +kernel) ⟨Nat.le_of_ble_eq_true rfl, Nat.le_of_ble_eq_true rfl⟩) (xM.preV hKc hPc hDc hAN (Nat.le_trans hN hS.1) (hG.kept hS hAN) (ci := 7) (q0 := 0) rfl rfl) rfl rfl hl.1 rfl (lv_room (Nat.le_of_ble_eq_true rfl)) dL_law_2635 ⟨(show _ ≤ 716141 by omega), (show _ ≤ 6947682 by omega)⟩) hS (fun q _ h => hFc q h) hFc (fun r_7 u t H locs ht hvm hw hB hz hk hS => ?_)
    replace hw : r_7 = (o_X5_narrowEnd a2 f2 true p2).1 := hw
    subst r_7
    obtain ⟨hP1, hD1⟩ := hB
    rw [ht] at hP1
    obtain ⟨hP, hD⟩ := va_join (wr := [(h0, eE h1 h2 kn), (h1, eR hw1 hc1 hb1 a1 r1), (hw1, eW true), (hc1, eA cy f1), (hb1, eA cy g1), (h2, eR hw2 hc2 hb2 (o_L_narrowEnd a2 f2 nv true p2).2.1 r2), (hw2, eW false), (hc2, eA cy (o_L_narrowEnd a2 f2 nv true p2).2.2.1), (hb2, eA cy g2), (ho, eO (o_L_narrowEnd a2 f2 nv true p2).2.2.2 sv)]) (w1 := [(m0, eM m1 m2 (o_X5_narrowEnd a2 f2 true p2).2.2.2 (r1 + r2) kn), (m1, eMR true mc1 a1), (mc1, eA cy f1), (m2, eMR false mc2 (o_X5_narrowEnd a2 f2 true p2).2.1), (mc2, eA cy (o_X5_narrowEnd a2 f2 true p2).2.2.1)]) hP hD [10, 11, 12, 13, 14] [0, 1, 2, 3, 4, 5, 6, 7, 8, 9] rfl rfl (by decide +kernel) (by decide +kernel) hk hFc hP1 hD1
    have hP := hP.sub (ws' := [(h0, eE h1 h2 kn), (h1, eR hw1 hc1 hb1 a1 r1), (hw1, eW true), (hc1, eA cy f1), (hb1, eA cy g1), (h2, eR hw2 hc2 hb2 (o_L_narrowEnd a2 f2 nv true p2).2.1 r2), (hw2, eW false), (hc2, eA cy (o_L_narrowEnd a2 f2 nv true p2).2.2.1), (hb2, eA cy g2), (ho, eO (o_L_narrowEnd a2 f2 nv true p2).2.2.2 sv), (m0, eM m1 m2 (o_X5_narrowEnd a2 f2 true p2).2.2.2 (r1 + r2) kn), (m1, eMR true mc1 a1), (mc1, eA cy f1), (m2, eMR false mc2 (o_X5_narrowEnd a2 f2 true p2).2.1), (mc2, eA cy (o_X5_narrowEnd a2 f2 true p2).2.2.1)]) [0, 1, 2, 3, 4, 5, 6, 7, 8, 9, 10, 11, 12, 13, 14] rfl
    have hD := hD.sub (ws' := [(h0, eE h1 h2 kn), (h1, eR hw1 hc1 hb1 a1 r1), (hw1, eW true), (hc1, eA cy f1), (hb1, eA cy g1), (h2, eR hw2 hc2 hb2 (o_L_narrowEnd a2 f2 nv true p2).2.1 r2), (hw2, eW false), (hc2, eA cy (o_L_narrowEnd a2 f2 nv true p2).2.2.1), (hb2, eA cy g2), (ho, eO (o_L_narrowEnd a2 f2 nv true p2).2.2.2 sv), (m0, eM m1 m2 (o_X5_narrowEnd a2 f2 true p2).2.2.2 (r1 + r2) kn), (m1, eMR true mc1 a1), (mc1, eA cy f1), (m2, eMR false mc2 (o_X5_narrowEnd a2 f2 true p2).2.1), (mc2, eA cy (o_X5_narrowEnd a2 f2 true p2).2.2.1)]) [0, 1, 2, 3, 4, 5, 6, 7, 8, 9, 10, 11, 12, 13, 14] (by decide +kernel) rfl
    refine lv_istore (lv' := [(6, .int ((o_X5_narrowEnd a2 f2 true p2).1)), (5, .int ((o_L_narrowEnd a2 f2 nv true p2).1)), (0, .ref b), (1, .ref h0), (2, .ref m0), (3, .ref ho), (4, .int (nI i))]) hx hb dL_law_2638 hl (by decide +kernel) rfl (fun ls hl => ?_)
    refine lv_aload_n hx hb dL_law_2640 rfl (lv_at hl 4 rfl) ?_
    have hPc := hP.sub (ws' := [(m0, eM m1 m2 (o_X5_narrowEnd a2 f2 true p2).2.2.2 (r1 + r2) kn)]) [10] rfl
    have hKc := hK.sub (tys' := []) [] rfl
    refine va_calli (va_runV (As := []) (rest := []) ⟨hx, hb, hml, hown, hts⟩ (k_X5_thrown l dC dI m0 m1 m2 ((o_X5_narrowEnd a2 f2 true p2).2.2.2) (r1 + r2) kn H.size) (cwV 0 hts gL_law_X5_thrown rfl rfl rfl (by decide +kernel) ⟨Nat.le_of_ble_eq_true rfl, Nat.le_of_ble_eq_true rfl⟩) (xB.preV hKc hPc (ci := 7) (q0 := 0) rfl rfl) rfl rfl hl.1 rfl (lv_room (Nat.le_of_ble_eq_true rfl)) dL_law_2641 ⟨(show _ ≤ 716141 by omega), (show _ ≤ 6947682 by omega)⟩) hS xA_old (fun q h => hA q (Nat.le_trans hS.1 h)) (fun r_8 u t H locs ht hvm hw hB hz hk hS => ?_)
    replace hw : r_8 = (o_X5_thrown ((o_X5_narrowEnd a2 f2 true p2).2.2.2)) := hw
    subst r_8
    have hP := xP_keep hP hk
    refine lv_iload hx hb dL_law_2644 (lv_at hl 1 rfl) ?_
    refine lv_icmp_eq (tgt := 2651) hx hb dL_law_2646 (by decide +kernel) (fun c9 => ?_) (fun c9 => absurd (show o_X5_thrown _ = _ from (qx_narrowEnd_1).symm) c9)
    refine lv_iload hx hb dL_law_2651 (lv_at hl 1 rfl) ?_
    refine lv_if_ne (tgt := 2669) hx hb dL_law_2653 (by decide +kernel) (fun c_9 => ?_) (fun c_9 => ?_)
    · skip
      refine lv_goto (tgt := 3660) hx hb dL_law_2669 (by decide +kernel) ?_
      refine W.widen (k := cells + 760) (n := slots + 4500) (by omega) (by omega) ?_
      have qe_b2 : (o_X5_narrowEnd a2 f2 true p2).2.1 = (o_L_narrowEnd a2 f2 nv true p2).2.1 := (by have hm := ml_narrowEnd a2 nv true p2 hka2; rw [hm.1] <;> rfl)
      have qe_e2 : (o_X5_narrowEnd a2 f2 true p2).2.2.1 = (o_L_narrowEnd a2 f2 nv true p2).2.2.1 := (by have hm := ml_narrowEnd a2 nv true p2 hka2; rw [hm.1] <;> rfl)
      have qk_2 : okA false ((o_L_narrowEnd a2 f2 nv true p2).2.2.1) := (by have hm := ml_narrowEnd a2 nv true p2 hka2; rw [hm.1]; exact hm.2)
      exact K a1 r1 f1 g1 ((o_L_narrowEnd a2 f2 nv true p2).2.1) r2 ((o_L_narrowEnd a2 f2 nv true p2).2.2.1) g2 kn ((o_L_narrowEnd a2 f2 nv true p2).2.2.2) sv ((o_X5_narrowEnd a2 f2 true p2).2.2.2) a1 f1 ((o_X5_narrowEnd a2 f2 true p2).2.1) ((o_X5_narrowEnd a2 f2 true p2).2.2.1) (r1 + r2) kn _ _ _ rfl rfl qe_b2 qe_e2 rfl rfl hka1 qk_2 hP hD hS (lv_sub hl [2, 3, 4, 5, 6] rfl)
    · skip
      refine lv_aload_n hx hb dL_law_2656 rfl (lv_at hl 5 rfl) ?_
      refine va_getN (D := (dC, dI)) (ci := 5) (v := .long ((o_L_narrowEnd a2 f2 nv true p2).2.2.2)) (C := RX3) (T := TX3) (N := 2) hx hb hts (by decide +kernel) hown hK hP 9 rfl rfl 0 (by decide +kernel) (va_Nw.use rfl (hG.1 (.fieldLinkNest RL 13 "EdgefloatsLaw$Out" "n" "J" RL) (List.mem_of_getElem? (i := 6) rfl))) (fun _ h9 => h9) rfl dL_law_2657 ?_
      refine lv_iload hx hb dL_law_2660 (lv_at hl 0 rfl) ?_
      refine lv_i2l (v := (((o_X5_narrowEnd a2 f2 true p2).1).toInt64)) hx hb dL_law_2662 rfl ?_
      refine xc_eq (tgt := 2669) hx hb dL_law_2663 dL_law_2664 (by decide +kernel) (fun c9 => ?_) (fun c9 => absurd ((qn_narrowEnd_1).trans (if_pos ((qx_narrowEnd_1).symm.trans c_9))) c9)
      refine lv_goto (tgt := 3660) hx hb dL_law_2669 (by decide +kernel) ?_
      refine W.widen (k := cells + 760) (n := slots + 4500) (by omega) (by omega) ?_
      have qe_b2 : (o_X5_narrowEnd a2 f2 true p2).2.1 = (o_L_narrowEnd a2 f2 nv true p2).2.1 := (by have hm := ml_narrowEnd a2 nv true p2 hka2; rw [hm.1] <;> rfl)
      have qe_e2 : (o_X5_narrowEnd a2 f2 true p2).2.2.1 = (o_L_narrowEnd a2 f2 nv true p2).2.2.1 := (by have hm := ml_narrowEnd a2 nv true p2 hka2; rw [hm.1] <;> rfl)
      have qk_2 : okA false ((o_L_narrowEnd a2 f2 nv true p2).2.2.1) := (by have hm := ml_narrowEnd a2 nv true p2 hka2; rw [hm.1]; exact hm.2)
      exact K a1 r1 f1 g1 ((o_L_narrowEnd a2 f2 nv true p2).2.1) r2 ((o_L_narrowEnd a2 f2 nv true p2).2.2.1) g2 kn ((o_L_narrowEnd a2 f2 nv true p2).2.2.2) sv ((o_X5_narrowEnd a2 f2 true p2).2.2.2) a1 f1 ((o_X5_narrowEnd a2 f2 true p2).2.1) ((o_X5_narrowEnd a2 f2 true p2).2.2.1) (r1 + r2) kn _ _ _ rfl rfl qe_b2 qe_e2 rfl rfl hka1 qk_2 hP hD hS (lv_sub hl [2, 3, 4, 5, 6] rfl)
set_option maxHeartbeats 4000000 in
set_option maxRecDepth 100000 in
theorem st_33 (l : Launch) (p : Program) (e : Env) (s : State) (m : MethodId) (below : List Frame) (meth : Method) (c : Code) (b L N : Nat) (xs : Nat → Int32) (A : Nat → Prop) (dC : Nat → ClassId) (dI : Nat → Nat → Nat) (cy cB : ClassId) (h0 h1 hw1 hc1 hb1 h2 hw2 hc2 hb2 ho m0 m1 mc1 m2 mc2 : Nat) (C0 : lw_C l p e s m below meth c b L N xs A dC dI cy cB) (i : Nat) (hi : i + 4 ≤ L) (p1 p2 p3 : Int32) (hp1 : xs (i + 1) = p1) (hp2 : xs (i + 2) = p2) (hp3 : xs (i + 3) = p3) (cells slots : Nat) (hcs : cells + 760 ≤ 716141) (hss : slots + 4500 ≤ 6947682) (K : lw_K l p e s m below meth c b L N xs A dC dI cy cB h0 h1 hw1 hc1 hb1 h2 hw2 hc2 hb2 ho m0 m1 mc1 m2 mc2 i (cells + 760) (slots + 4500) 3660) (a1 : Int32) (r1 : Int32) (f1 : Nat → Int64) (g1 : Nat → Int64) (a2 : Int32) (r2 : Int32) (f2 : Nat → Int64) (g2 : Nat → Int64) (kn : Int32) (nv : Int64) (sv : Value) (th : Int32) (H : Heap) (locs : List Loc) (ls : Array Slot) (hka1 : okA true f1) (hka2 : okA false f2) (hP : va_P (dC, dI) xCl [(h0, eE h1 h2 kn), (h1, eR hw1 hc1 hb1 a1 r1), (hw1, eW true), (hc1, eA cy f1), (hb1, eA cy g1), (h2, eR hw2 hc2 hb2 a2 r2), (hw2, eW false), (hc2, eA cy f2), (hb2, eA cy g2), (ho, eO nv sv), (m0, eM m1 m2 th (r1 + r2) kn), (m1, eMR true mc1 a1), (mc1, eA cy f1), (m2, eMR false mc2 a2), (mc2, eA cy f2)] H) (hD : va_D A [(h0, eE h1 h2 kn), (h1, eR hw1 hc1 hb1 a1 r1), (hw1, eW true), (hc1, eA cy f1), (hb1, eA cy g1), (h2, eR hw2 hc2 hb2 a2 r2), (hw2, eW false), (hc2, eA cy f2), (hb2, eA cy g2), (ho, eO nv sv), (m0, eM m1 m2 th (r1 + r2) kn), (m1, eMR true mc1 a1), (mc1, eA cy f1), (m2, eMR false mc2 a2), (mc2, eA cy f2)]) (hS : va_S A s.heap H locs) (hl : lv_has ls 7 [(0, .ref b), (1, .ref h0), (2, .ref m0), (3, .ref ho), (4, .int (nI i))]) : W p l e room_1 s m #[Value.ref b] below meth c H locs cells slots (lw_Z below #[Value.ref b] s) (F0 m 2672 ls []) := by
  obtain ⟨hfl, hx, hb, hr, hml, hown, hts, hX, hbl, hbA, hlocks, hK, hG, hnc, hA, hAN, hN, hL, hT, hNs⟩ := id C0
  have hok2 := me_okF hka2
  have hsp1 : ∀ k, k < 8 → o_X1_isSpoiled true (f1 k) = false := fun k hk => (hka1 k hk).2
  have hsp2 : ∀ k, k < 8 → o_X1_isSpoiled false (f2 k) = false := fun k hk => (hka2 k hk).2
  have qx_digits : (o_L_digits f2 nv p1).1 = (o_X5_digits f2 p1).2 := by have hm := ml_digits nv p1 hka2; rw [hm] <;> rfl
  have qn_digits : (o_L_digits f2 nv p1).2 = if (o_X5_digits f2 p1).2 = 0 then ((o_X5_digits f2 p1).1).toInt64 else nv := by have hm := ml_digits nv p1 hka2; rw [hm] <;> rfl
  refine lv_aload_n hx hb dL_law_2672 rfl (lv_at hl 1 rfl) ?_
  refine lv_aload_n hx hb dL_law_2673 rfl (lv_at hl 0 rfl) ?_
  refine lv_iload hx hb dL_law_2674 (lv_at hl 4 rfl) ?_
  refine lv_iconst (v := 1) hx hb dL_law_2676 (by decide +kernel) ?_
  refine lv_iadd hx hb dL_law_2677 ?_
  rw [nI_1 i]
  refine xa_sld hx hb hX hbl hbA hS (k := i + 1) (by omega) hL hp1 dL_law_2678 ?_
  refine lv_aload_n hx hb dL_law_2679 rfl (lv_at hl 3 rfl) ?_
  have hPc := hP.sub (ws' := [(h0, eE h1 h2 kn), (h1, eR hw1 hc1 hb1 a1 r1), (hw1, eW true), (hc1, eA cy f1), (hb1, eA cy g1), (h2, eR hw2 hc2 hb2 a2 r2), (hw2, eW false), (hc2, eA cy f2), (hb2, eA cy g2), (ho, eO nv sv)]) [0, 1, 2, 3, 4, 5, 6, 7, 8, 9] rfl
  have hDc := hD.sub (ws' := [(h0, eE h1 h2 kn), (h1, eR hw1 hc1 hb1 a1 r1), (hw1, eW true), (hc1, eA cy f1), (hb1, eA cy g1), (h2, eR hw2 hc2 hb2 a2 r2), (hw2, eW false), (hc2, eA cy f2), (hb2, eA cy g2), (ho, eO nv sv)]) [0, 1, 2, 3, 4, 5, 6, 7, 8, 9] (by decide +kernel) rfl
  have hKc := hK.sub (tys' := [(cy, .long)]) [0] rfl
  have hFc := va_free (wc := [(h0, eE h1 h2 kn), (h1, eR hw1 hc1 hb1 a1 r1), (hw1, eW true), (hc1, eA cy f1), (hb1, eA cy g1), (h2, eR hw2 hc2 hb2 a2 r2), (hw2, eW false), (hc2, eA cy f2), (hb2, eA cy g2), (ho, eO nv sv)]) hD hS hA [0, 1, 2, 3, 4, 5, 6, 7, 8, 9] rfl
  refine va_calli (vx_runSW (As := [.ref h0, .int p1, .ref ho]) (rest := []) ⟨hx, hb, hml, hown, hts⟩ (k_L_digits l hfl dC dI cy h0 h1 hw1 hc1 hb1 h2 hw2 hc2 hb2 a1 r1 f1 g1 a2 r2 f2 g2 kn ho nv sv H.size N p1) (vx_cwSW 3 hts gL_law_L_digits rfl rfl rfl (by decide +kernel) ⟨Nat.le_of_ble_eq_true rfl, Nat.le_of_ble_eq_true rfl⟩) (xL.preS hKc hPc hDc hAN (Nat.le_trans hN hS.1) (hG.kept hS hAN) hnc) rfl rfl hl.1 rfl (lv_room (Nat.le_of_ble_eq_true rfl)) dL_law_2680 ⟨(show _ ≤ 716141 by omega), (show _ ≤ 6947682 by omega)⟩) hS (fun q _ h => hFc q h) hFc (fun r_1 u t H locs ht hvm hw hB hz hk hS => ?_)
  replace hw : r_1 = (o_L_digits f2 nv p1).1 := hw
  subst r_1
  obtain ⟨hP1, hD1⟩ := hB
  rw [ht] at hP1
  obtain ⟨hP, hD⟩ := va_join (wr := [(m0, eM m1 m2 th (r1 + r2) kn), (m1, eMR true mc1 a1), (mc1, eA cy f1), (m2, eMR false mc2 a2), (mc2, eA cy f2)]) (w1 := [(h0, eE h1 h2 kn), (h1, eR hw1 hc1 hb1 a1 r1), (hw1, eW true), (hc1, eA cy f1), (hb1, eA cy g1), (h2, eR hw2 hc2 hb2 a2 r2), (hw2, eW false), (hc2, eA cy f2), (hb2, eA cy g2), (ho, eO (o_L_digits f2 nv p1).2 sv)]) hP hD [0, 1, 2, 3, 4, 5, 6, 7, 8, 9] [10, 11, 12, 13, 14] rfl rfl (by decide +kernel) (by decide +kernel) hk hFc hP1 hD1
  have hP := hP.sub (ws' := [(h0, eE h1 h2 kn), (h1, eR hw1 hc1 hb1 a1 r1), (hw1, eW true), (hc1, eA cy f1), (hb1, eA cy g1), (h2, eR hw2 hc2 hb2 a2 r2), (hw2, eW false), (hc2, eA cy f2), (hb2, eA cy g2), (ho, eO (o_L_digits f2 nv p1).2 sv), (m0, eM m1 m2 th (r1 + r2) kn), (m1, eMR true mc1 a1), (mc1, eA cy f1), (m2, eMR false mc2 a2), (mc2, eA cy f2)]) [5, 6, 7, 8, 9, 10, 11, 12, 13, 14, 0, 1, 2, 3, 4] rfl
  have hD := hD.sub (ws' := [(h0, eE h1 h2 kn), (h1, eR hw1 hc1 hb1 a1 r1), (hw1, eW true), (hc1, eA cy f1), (hb1, eA cy g1), (h2, eR hw2 hc2 hb2 a2 r2), (hw2, eW false), (hc2, eA cy f2), (hb2, eA cy g2), (ho, eO (o_L_digits f2 nv p1).2 sv), (m0, eM m1 m2 th (r1 + r2) kn), (m1, eMR true mc1 a1), (mc1, eA cy f1), (m2, eMR false mc2 a2), (mc2, eA cy f2)]) [5, 6, 7, 8, 9, 10, 11, 12, 13, 14, 0, 1, 2, 3, 4] (by decide +kernel) rfl
  refine lv_istore (lv' := [(5, .int ((o_L_digits f2 nv p1).1)), (0, .ref b), (1, .ref h0), (2, .ref m0), (3, .ref ho), (4, .int (nI i))]) hx hb dL_law_2683 hl (by decide +kernel) rfl (fun ls hl => ?_)
  refine lv_aload_n hx hb dL_law_2685 rfl (lv_at hl 3 rfl) ?_
  refine lv_aload_n hx hb dL_law_2686 rfl (lv_at hl 1 rfl) ?_
  refine lv_iload hx hb dL_law_2687 (lv_at hl 5 rfl) ?_
  refine lv_iconst (v := 1) hx hb dL_law_2689 (by decide +kernel) ?_
  refine lv_iadd hx hb dL_law_2690 ?_
  rw [nI_1 i]
  refine xa_sld hx hb hX hbl hbA hS (k := i + 1) (by omega) hL hp1 dL_law_2691 ?_
  have hPc := hP.sub (ws' := [(m0, eM m1 m2 th (r1 + r2) kn), (m1, eMR true mc1 a1), (mc1, eA cy f1), (m2, eMR false mc2 a2), (mc2, eA cy f2)]) [10, 11, 12, 13, 14] rfl
  have hDc := hD.sub (ws' := [(m0, eM m1 m2 th (r1 + r2) kn), (m1, eMR true mc1 a1), (mc1, eA cy f1), (m2, eMR false mc2 a2), (mc2, eA cy f2)]) [10, 11, 12, 13, 14] (by decide +kernel) rfl
  have hKc := hK.sub (tys' := [(cy, .long)]) [0] rfl
  have hFc := va_free (wc := [(m0, eM m1 m2 th (r1 + r2) kn), (m1, eMR true mc1 a1), (mc1, eA cy f1), (m2, eMR false mc2 a2), (mc2, eA cy f2)]) hD hS hA [10, 11, 12, 13, 14] rfl
  refine va_calli (va_runV (As := [.int p1]) (rest := []) ⟨hx, hb, hml, hown, hts⟩ (k_X5_digits l dC dI cy m0 m1 mc1 m2 mc2 a1 f1 a2 f2 th (r1 + r2) kn H.size N p1) (cwV 1 hts gL_law_X5_digits rfl rfl rfl (by decide +kernel) ⟨Nat.le_of_ble_eq_true rfl, Nat.le_of_ble_eq_true rfl⟩) (xM.preV hKc hPc hDc hAN (Nat.le_trans hN hS.1) (hG.kept hS hAN) (ci := 7) (q0 := 0) rfl rfl) rfl rfl hl.1 rfl (lv_room (Nat.le_of_ble_eq_true rfl)) dL_law_2692 ⟨(show _ ≤ 716141 by omega), (show _ ≤ 6947682 by omega)⟩) hS (fun q _ h => hFc q h) hFc (fun r_2 u t H locs ht hvm hw hB hz hk hS => ?_)
  replace hw : r_2 = (o_X5_digits f2 p1).1 := hw
  subst r_2
  obtain ⟨hP1, hD1⟩ := hB
  rw [ht] at hP1
  obtain ⟨hP, hD⟩ := va_join (wr := [(h0, eE h1 h2 kn), (h1, eR hw1 hc1 hb1 a1 r1), (hw1, eW true), (hc1, eA cy f1), (hb1, eA cy g1), (h2, eR hw2 hc2 hb2 a2 r2), (hw2, eW false), (hc2, eA cy f2), (hb2, eA cy g2), (ho, eO (o_L_digits f2 nv p1).2 sv)]) (w1 := [(m0, eM m1 m2 (o_X5_digits f2 p1).2 (r1 + r2) kn), (m1, eMR true mc1 a1), (mc1, eA cy f1), (m2, eMR false mc2 a2), (mc2, eA cy f2)]) hP hD [10, 11, 12, 13, 14] [0, 1, 2, 3, 4, 5, 6, 7, 8, 9] rfl rfl (by decide +kernel) (by decide +kernel) hk hFc hP1 hD1
  have hP := hP.sub (ws' := [(h0, eE h1 h2 kn), (h1, eR hw1 hc1 hb1 a1 r1), (hw1, eW true), (hc1, eA cy f1), (hb1, eA cy g1), (h2, eR hw2 hc2 hb2 a2 r2), (hw2, eW false), (hc2, eA cy f2), (hb2, eA cy g2), (ho, eO (o_L_digits f2 nv p1).2 sv), (m0, eM m1 m2 (o_X5_digits f2 p1).2 (r1 + r2) kn), (m1, eMR true mc1 a1), (mc1, eA cy f1), (m2, eMR false mc2 a2), (mc2, eA cy f2)]) [0, 1, 2, 3, 4, 5, 6, 7, 8, 9, 10, 11, 12, 13, 14] rfl
  have hD := hD.sub (ws' := [(h0, eE h1 h2 kn), (h1, eR hw1 hc1 hb1 a1 r1), (hw1, eW true), (hc1, eA cy f1), (hb1, eA cy g1), (h2, eR hw2 hc2 hb2 a2 r2), (hw2, eW false), (hc2, eA cy f2), (hb2, eA cy g2), (ho, eO (o_L_digits f2 nv p1).2 sv), (m0, eM m1 m2 (o_X5_digits f2 p1).2 (r1 + r2) kn), (m1, eMR true mc1 a1), (mc1, eA cy f1), (m2, eMR false mc2 a2), (mc2, eA cy f2)]) [0, 1, 2, 3, 4, 5, 6, 7, 8, 9, 10, 11, 12, 13, 14] (by decide +kernel) rfl
  refine lv_istore (lv' := [(6, .int ((o_X5_digits f2 p1).1)), (5, .int ((o_L_digits f2 nv p1).1)), (0, .ref b), (1, .ref h0), (2, .ref m0), (3, .ref ho), (4, .int (nI i))]) hx hb dL_law_2695 hl (by decide +kernel) rfl (fun ls hl => ?_)
  refine lv_aload_n hx hb dL_law_2697 rfl (lv_at hl 4 rfl) ?_
  have hPc := hP.sub (ws' := [(m0, eM m1 m2 (o_X5_digits f2 p1).2 (r1 + r2) kn)]) [10] rfl
  have hKc := hK.sub (tys' := []) [] rfl
  refine va_calli (va_runV (As := []) (rest := []) ⟨hx, hb, hml, hown, hts⟩ (k_X5_thrown l dC dI m0 m1 m2 ((o_X5_digits f2 p1).2) (r1 + r2) kn H.size) (cwV 0 hts gL_law_X5_thrown rfl rfl rfl (by decide +kernel) ⟨Nat.le_of_ble_eq_true rfl, Nat.le_of_ble_eq_true rfl⟩) (xB.preV hKc hPc (ci := 7) (q0 := 0) rfl rfl) rfl rfl hl.1 rfl (lv_room (Nat.le_of_ble_eq_true rfl)) dL_law_2698 ⟨(show _ ≤ 716141 by omega), (show _ ≤ 6947682 by omega)⟩) hS xA_old (fun q h => hA q (Nat.le_trans hS.1 h)) (fun r_3 u t H locs ht hvm hw hB hz hk hS => ?_)
  replace hw : r_3 = (o_X5_thrown ((o_X5_digits f2 p1).2)) := hw
  subst r_3
  have hP := xP_keep hP hk
  refine lv_iload hx hb dL_law_2701 (lv_at hl 1 rfl) ?_
  refine lv_icmp_eq (tgt := 2708) hx hb dL_law_2703 (by decide +kernel) (fun c9 => ?_) (fun c9 => absurd (show o_X5_thrown _ = _ from (qx_digits).symm) c9)
  refine lv_iload hx hb dL_law_2708 (lv_at hl 1 rfl) ?_
  refine lv_if_ne (tgt := 2726) hx hb dL_law_2710 (by decide +kernel) (fun c_4 => ?_) (fun c_4 => ?_)
  · skip
    refine lv_goto (tgt := 3660) hx hb dL_law_2726 (by decide +kernel) ?_
    refine W.widen (k := cells + 760) (n := slots + 4500) (by omega) (by omega) ?_
    exact K a1 r1 f1 g1 a2 r2 f2 g2 kn ((o_L_digits f2 nv p1).2) sv ((o_X5_digits f2 p1).2) a1 f1 a2 f2 (r1 + r2) kn _ _ _ rfl rfl rfl rfl rfl rfl hka1 hka2 hP hD hS (lv_sub hl [2, 3, 4, 5, 6] rfl)
  · skip
    refine lv_aload_n hx hb dL_law_2713 rfl (lv_at hl 5 rfl) ?_
    refine va_getN (D := (dC, dI)) (ci := 5) (v := .long ((o_L_digits f2 nv p1).2)) (C := RX3) (T := TX3) (N := 2) hx hb hts (by decide +kernel) hown hK hP 9 rfl rfl 0 (by decide +kernel) (va_Nw.use rfl (hG.1 (.fieldLinkNest RL 13 "EdgefloatsLaw$Out" "n" "J" RL) (List.mem_of_getElem? (i := 6) rfl))) (fun _ h9 => h9) rfl dL_law_2714 ?_
    refine lv_iload hx hb dL_law_2717 (lv_at hl 0 rfl) ?_
    refine lv_i2l (v := (((o_X5_digits f2 p1).1).toInt64)) hx hb dL_law_2719 rfl ?_
    refine xc_eq (tgt := 2726) hx hb dL_law_2720 dL_law_2721 (by decide +kernel) (fun c9 => ?_) (fun c9 => absurd ((qn_digits).trans (if_pos ((qx_digits).symm.trans c_4))) c9)
    refine lv_goto (tgt := 3660) hx hb dL_law_2726 (by decide +kernel) ?_
    refine W.widen (k := cells + 760) (n := slots + 4500) (by omega) (by omega) ?_
    exact K a1 r1 f1 g1 a2 r2 f2 g2 kn ((o_L_digits f2 nv p1).2) sv ((o_X5_digits f2 p1).2) a1 f1 a2 f2 (r1 + r2) kn _ _ _ rfl rfl rfl rfl rfl rfl hka1 hka2 hP hD hS (lv_sub hl [2, 3, 4, 5, 6] rfl)
set_option maxHeartbeats 4000000 in
set_option maxRecDepth 100000 in
theorem st_34 (l : Launch) (p : Program) (e : Env) (s : State) (m : MethodId) (below : List Frame) (meth : Method) (c : Code) (b L N : Nat) (xs : Nat → Int32) (A : Nat → Prop) (dC : Nat → ClassId) (dI : Nat → Nat → Nat) (cy cB : ClassId) (h0 h1 hw1 hc1 hb1 h2 hw2 hc2 hb2 ho m0 m1 mc1 m2 mc2 : Nat) (C0 : lw_C l p e s m below meth c b L N xs A dC dI cy cB) (i : Nat) (hi : i + 4 ≤ L) (p1 p2 p3 : Int32) (hp1 : xs (i + 1) = p1) (hp2 : xs (i + 2) = p2) (hp3 : xs (i + 3) = p3) (cells slots : Nat) (hcs : cells + 760 ≤ 716141) (hss : slots + 4500 ≤ 6947682) (K : lw_K l p e s m below meth c b L N xs A dC dI cy cB h0 h1 hw1 hc1 hb1 h2 hw2 hc2 hb2 ho m0 m1 mc1 m2 mc2 i (cells + 760) (slots + 4500) 3660) (a1 : Int32) (r1 : Int32) (f1 : Nat → Int64) (g1 : Nat → Int64) (a2 : Int32) (r2 : Int32) (f2 : Nat → Int64) (g2 : Nat → Int64) (kn : Int32) (nv : Int64) (sv : Value) (th : Int32) (H : Heap) (locs : List Loc) (ls : Array Slot) (hka1 : okA true f1) (hka2 : okA false f2) (hP : va_P (dC, dI) xCl [(h0, eE h1 h2 kn), (h1, eR hw1 hc1 hb1 a1 r1), (hw1, eW true), (hc1, eA cy f1), (hb1, eA cy g1), (h2, eR hw2 hc2 hb2 a2 r2), (hw2, eW false), (hc2, eA cy f2), (hb2, eA cy g2), (ho, eO nv sv), (m0, eM m1 m2 th (r1 + r2) kn), (m1, eMR true mc1 a1), (mc1, eA cy f1), (m2, eMR false mc2 a2), (mc2, eA cy f2)] H) (hD : va_D A [(h0, eE h1 h2 kn), (h1, eR hw1 hc1 hb1 a1 r1), (hw1, eW true), (hc1, eA cy f1), (hb1, eA cy g1), (h2, eR hw2 hc2 hb2 a2 r2), (hw2, eW false), (hc2, eA cy f2), (hb2, eA cy g2), (ho, eO nv sv), (m0, eM m1 m2 th (r1 + r2) kn), (m1, eMR true mc1 a1), (mc1, eA cy f1), (m2, eMR false mc2 a2), (mc2, eA cy f2)]) (hS : va_S A s.heap H locs) (hl : lv_has ls 7 [(0, .ref b), (1, .ref h0), (2, .ref m0), (3, .ref ho), (4, .int (nI i))]) : W p l e room_1 s m #[Value.ref b] below meth c H locs cells slots (lw_Z below #[Value.ref b] s) (F0 m 2729 ls []) := by
  obtain ⟨hfl, hx, hb, hr, hml, hown, hts, hX, hbl, hbA, hlocks, hK, hG, hnc, hA, hAN, hN, hL, hT, hNs⟩ := id C0
  have hok2 := me_okF hka2
  have hsp1 : ∀ k, k < 8 → o_X1_isSpoiled true (f1 k) = false := fun k hk => (hka1 k hk).2
  have hsp2 : ∀ k, k < 8 → o_X1_isSpoiled false (f2 k) = false := fun k hk => (hka2 k hk).2
  rcases me_cell p1 with ⟨hcz, hno, -⟩ | ⟨hcz, hno⟩
  · skip
    refine lv_aload_n hx hb dL_law_2729 rfl (lv_at hl 1 rfl) ?_
    refine lv_aload_n hx hb dL_law_2730 rfl (lv_at hl 0 rfl) ?_
    refine lv_iload hx hb dL_law_2731 (lv_at hl 4 rfl) ?_
    refine lv_iconst (v := 1) hx hb dL_law_2733 (by decide +kernel) ?_
    refine lv_iadd hx hb dL_law_2734 ?_
    rw [nI_1 i]
    refine xa_sld hx hb hX hbl hbA hS (k := i + 1) (by omega) hL hp1 dL_law_2735 ?_
    refine lv_aload_n hx hb dL_law_2736 rfl (lv_at hl 3 rfl) ?_
    have hPc := hP.sub (ws' := [(h0, eE h1 h2 kn), (h1, eR hw1 hc1 hb1 a1 r1), (hw1, eW true), (hc1, eA cy f1), (hb1, eA cy g1), (h2, eR hw2 hc2 hb2 a2 r2), (hw2, eW false), (hc2, eA cy f2), (hb2, eA cy g2), (ho, eO nv sv)]) [0, 1, 2, 3, 4, 5, 6, 7, 8, 9] rfl
    have hDc := hD.sub (ws' := [(h0, eE h1 h2 kn), (h1, eR hw1 hc1 hb1 a1 r1), (hw1, eW true), (hc1, eA cy f1), (hb1, eA cy g1), (h2, eR hw2 hc2 hb2 a2 r2), (hw2, eW false), (hc2, eA cy f2), (hb2, eA cy g2), (ho, eO nv sv)]) [0, 1, 2, 3, 4, 5, 6, 7, 8, 9] (by decide +kernel) rfl
    have hKc := hK.sub (tys' := [(cy, .long), (cB, .byte)]) [0, 1] rfl
    have hFc := va_free (wc := [(h0, eE h1 h2 kn), (h1, eR hw1 hc1 hb1 a1 r1), (hw1, eW true), (hc1, eA cy f1), (hb1, eA cy g1), (h2, eR hw2 hc2 hb2 a2 r2), (hw2, eW false), (hc2, eA cy f2), (hb2, eA cy g2), (ho, eO nv sv)]) hD hS hA [0, 1, 2, 3, 4, 5, 6, 7, 8, 9] rfl
    refine va_calli (vx_runSW (As := [.ref h0, .int p1, .ref ho]) (rest := []) ⟨hx, hb, hml, hown, hts⟩ (kka_L_narrowText l hfl dC dI cy cB h0 h1 hw1 hc1 hb1 h2 hw2 hc2 hb2 a1 r1 f1 g1 a2 r2 f2 g2 kn ho nv sv H.size N p1 hok2 hcz) (vx_cwSW 3 hts gL_law_L_narrowText rfl rfl rfl (by decide +kernel) ⟨Nat.le_of_ble_eq_true rfl, Nat.le_of_ble_eq_true rfl⟩) (xU.preS hKc hPc hDc hAN (Nat.le_trans hN hS.1) (hG.kept hS hAN) (hT.kept hS hAN) hnc) rfl rfl hl.1 rfl (lv_room (Nat.le_of_ble_eq_true rfl)) dL_law_2737 ⟨(show _ ≤ 716141 by omega), (show _ ≤ 6947682 by omega)⟩) hS (fun q _ h => hFc q h) hFc (fun r_1 u_2 t H locs ht hvm hw hB hz hk hS => ?_)
    obtain ⟨hP1, hD1⟩ := hB
    rw [ht] at hP1
    obtain ⟨sr, sva, sna, sfa⟩ := u_2
    obtain ⟨hr9, hn9, hL9⟩ : r_1 = 0 ∧ sna ≤ 34 ∧ tL (tTx false (f2 p1.toNatClampNeg)) sna sfa := hw
    subst hr9
    obtain ⟨hP, hD⟩ := va_join (wr := [(m0, eM m1 m2 th (r1 + r2) kn), (m1, eMR true mc1 a1), (mc1, eA cy f1), (m2, eMR false mc2 a2), (mc2, eA cy f2)]) (w1 := [(h0, eE h1 h2 kn), (h1, eR hw1 hc1 hb1 a1 r1), (hw1, eW true), (hc1, eA cy f1), (hb1, eA cy g1), (h2, eR hw2 hc2 hb2 a2 r2), (hw2, eW false), (hc2, eA cy f2), (hb2, eA cy g2), (ho, eO nv (.ref sr)), (sr, .inr (0, [.ref sva, .int 0, .int 0, .int 0])), (sva, eY cB sna sfa)]) hP hD [0, 1, 2, 3, 4, 5, 6, 7, 8, 9] [10, 11, 12, 13, 14] rfl rfl (by decide +kernel) (by decide +kernel) hk hFc hP1 hD1
    have hP := hP.sub (ws' := [(h0, eE h1 h2 kn), (h1, eR hw1 hc1 hb1 a1 r1), (hw1, eW true), (hc1, eA cy f1), (hb1, eA cy g1), (h2, eR hw2 hc2 hb2 a2 r2), (hw2, eW false), (hc2, eA cy f2), (hb2, eA cy g2), (ho, eO nv (.ref sr)), (m0, eM m1 m2 th (r1 + r2) kn), (m1, eMR true mc1 a1), (mc1, eA cy f1), (m2, eMR false mc2 a2), (mc2, eA cy f2), (sr, .inr (0, [.ref sva, .int 0, .int 0, .int 0])), (sva, eY cB sna sfa)]) [5, 6, 7, 8, 9, 10, 11, 12, 13, 14, 0, 1, 2, 3, 4, 15, 16] rfl
    have hD := hD.sub (ws' := [(h0, eE h1 h2 kn), (h1, eR hw1 hc1 hb1 a1 r1), (hw1, eW true), (hc1, eA cy f1), (hb1, eA cy g1), (h2, eR hw2 hc2 hb2 a2 r2), (hw2, eW false), (hc2, eA cy f2), (hb2, eA cy g2), (ho, eO nv (.ref sr)), (m0, eM m1 m2 th (r1 + r2) kn), (m1, eMR true mc1 a1), (mc1, eA cy f1), (m2, eMR false mc2 a2), (mc2, eA cy f2), (sr, .inr (0, [.ref sva, .int 0, .int 0, .int 0])), (sva, eY cB sna sfa)]) [5, 6, 7, 8, 9, 10, 11, 12, 13, 14, 0, 1, 2, 3, 4, 15, 16] (by decide +kernel) rfl
    refine lv_istore (lv' := [(5, .int 0), (0, .ref b), (1, .ref h0), (2, .ref m0), (3, .ref ho), (4, .int (nI i))]) hx hb dL_law_2740 hl (by decide +kernel) rfl (fun ls hl => ?_)
    refine lv_aload_n hx hb dL_law_2742 rfl (lv_at hl 3 rfl) ?_
    refine lv_aload_n hx hb dL_law_2743 rfl (lv_at hl 1 rfl) ?_
    refine lv_iload hx hb dL_law_2744 (lv_at hl 5 rfl) ?_
    refine lv_iconst (v := 1) hx hb dL_law_2746 (by decide +kernel) ?_
    refine lv_iadd hx hb dL_law_2747 ?_
    rw [nI_1 i]
    refine xa_sld hx hb hX hbl hbA hS (k := i + 1) (by omega) hL hp1 dL_law_2748 ?_
    have hPc := hP.sub (ws' := [(m0, eM m1 m2 th (r1 + r2) kn), (m1, eMR true mc1 a1), (mc1, eA cy f1), (m2, eMR false mc2 a2), (mc2, eA cy f2)]) [10, 11, 12, 13, 14] rfl
    have hDc := hD.sub (ws' := [(m0, eM m1 m2 th (r1 + r2) kn), (m1, eMR true mc1 a1), (mc1, eA cy f1), (m2, eMR false mc2 a2), (mc2, eA cy f2)]) [10, 11, 12, 13, 14] (by decide +kernel) rfl
    have hKc := hK.sub (tys' := [(cy, .long), (cB, .byte)]) [0, 1] rfl
    have hFc := va_free (wc := [(m0, eM m1 m2 th (r1 + r2) kn), (m1, eMR true mc1 a1), (mc1, eA cy f1), (m2, eMR false mc2 a2), (mc2, eA cy f2)]) hD hS hA [10, 11, 12, 13, 14] rfl
    refine va_callr (va_runV (As := [.int p1]) (rest := []) ⟨hx, hb, hml, hown, hts⟩ (kka_X5_narrowText l dC dI cy cB m0 m1 mc1 m2 mc2 a1 f1 a2 f2 th (r1 + r2) kn p1 H.size N hok2 hno) (cwV 1 hts gL_law_X5_narrowText rfl rfl rfl (by decide +kernel) ⟨Nat.le_of_ble_eq_true rfl, Nat.le_of_ble_eq_true rfl⟩) (xT.preV (ci := 7) (q0 := 0) hKc hPc hDc hAN (Nat.le_trans hN hS.1) (hG.kept hS hAN) (hT.kept hS hAN) rfl rfl) rfl rfl hl.1 rfl (lv_room (Nat.le_of_ble_eq_true rfl)) dL_law_2749 ⟨(show _ ≤ 716141 by omega), (show _ ≤ 6947682 by omega)⟩) hS (fun q _ h => hFc q h) hFc (fun u_4 r_3 t H locs ht hvm hw hB hz hk hS => ?_)
    obtain ⟨hP1, hD1⟩ := hB
    rw [ht] at hP1
    obtain ⟨th9, tva, tna, tfa⟩ := u_4
    obtain ⟨ht9, hn8, hL8⟩ : th9 = (o_X5_fails (o_X5_isNo p1) false).2 ∧ tna ≤ 34 ∧ tL (tTx false (f2 p1.toNatClampNeg)) tna tfa := hw
    obtain ⟨hP, hD⟩ := va_join (wr := [(h0, eE h1 h2 kn), (h1, eR hw1 hc1 hb1 a1 r1), (hw1, eW true), (hc1, eA cy f1), (hb1, eA cy g1), (h2, eR hw2 hc2 hb2 a2 r2), (hw2, eW false), (hc2, eA cy f2), (hb2, eA cy g2), (ho, eO nv (.ref sr)), (sr, .inr (0, [.ref sva, .int 0, .int 0, .int 0])), (sva, eY cB sna sfa)]) (w1 := [(m0, eM m1 m2 th9 (r1 + r2) kn), (m1, eMR true mc1 a1), (mc1, eA cy f1), (m2, eMR false mc2 a2), (mc2, eA cy f2), (r_3, .inr (0, [.ref tva, .int 0, .int 0, .int 0])), (tva, eY cB tna tfa)]) hP hD [10, 11, 12, 13, 14] [0, 1, 2, 3, 4, 5, 6, 7, 8, 9, 15, 16] rfl rfl (by decide +kernel) (by decide +kernel) hk hFc hP1 hD1
    have hP := hP.sub (ws' := [(h0, eE h1 h2 kn), (h1, eR hw1 hc1 hb1 a1 r1), (hw1, eW true), (hc1, eA cy f1), (hb1, eA cy g1), (h2, eR hw2 hc2 hb2 a2 r2), (hw2, eW false), (hc2, eA cy f2), (hb2, eA cy g2), (ho, eO nv (.ref sr)), (m0, eM m1 m2 th9 (r1 + r2) kn), (m1, eMR true mc1 a1), (mc1, eA cy f1), (m2, eMR false mc2 a2), (mc2, eA cy f2), (sr, .inr (0, [.ref sva, .int 0, .int 0, .int 0])), (sva, eY cB sna sfa), (r_3, .inr (0, [.ref tva, .int 0, .int 0, .int 0])), (tva, eY cB tna tfa)]) [0, 1, 2, 3, 4, 5, 6, 7, 8, 9, 12, 13, 14, 15, 16, 10, 11, 17, 18] rfl
    have hD := hD.sub (ws' := [(h0, eE h1 h2 kn), (h1, eR hw1 hc1 hb1 a1 r1), (hw1, eW true), (hc1, eA cy f1), (hb1, eA cy g1), (h2, eR hw2 hc2 hb2 a2 r2), (hw2, eW false), (hc2, eA cy f2), (hb2, eA cy g2), (ho, eO nv (.ref sr)), (m0, eM m1 m2 th9 (r1 + r2) kn), (m1, eMR true mc1 a1), (mc1, eA cy f1), (m2, eMR false mc2 a2), (mc2, eA cy f2), (sr, .inr (0, [.ref sva, .int 0, .int 0, .int 0])), (sva, eY cB sna sfa), (r_3, .inr (0, [.ref tva, .int 0, .int 0, .int 0])), (tva, eY cB tna tfa)]) [0, 1, 2, 3, 4, 5, 6, 7, 8, 9, 12, 13, 14, 15, 16, 10, 11, 17, 18] (by decide +kernel) rfl
    refine lv_astore (lv' := [(6, .ref r_3), (5, .int 0), (0, .ref b), (1, .ref h0), (2, .ref m0), (3, .ref ho), (4, .int (nI i))]) hx hb dL_law_2752 hl (by decide +kernel) rfl (fun ls hl => ?_)
    refine lv_aload_n hx hb dL_law_2754 rfl (lv_at hl 4 rfl) ?_
    have hPc := hP.sub (ws' := [(m0, eM m1 m2 th9 (r1 + r2) kn)]) [10] rfl
    have hKc := hK.sub (tys' := []) [] rfl
    refine va_calli (va_runV (As := []) (rest := []) ⟨hx, hb, hml, hown, hts⟩ (k_X5_thrown l dC dI m0 m1 m2 th9 (r1 + r2) kn H.size) (cwV 0 hts gL_law_X5_thrown rfl rfl rfl (by decide +kernel) ⟨Nat.le_of_ble_eq_true rfl, Nat.le_of_ble_eq_true rfl⟩) (xB.preV hKc hPc (ci := 7) (q0 := 0) rfl rfl) rfl rfl hl.1 rfl (lv_room (Nat.le_of_ble_eq_true rfl)) dL_law_2755 ⟨(show _ ≤ 716141 by omega), (show _ ≤ 6947682 by omega)⟩) hS xA_old (fun q h => hA q (Nat.le_trans hS.1 h)) (fun r_5 u t H locs ht hvm hw hB hz hk hS => ?_)
    replace hw : r_5 = (o_X5_thrown th9) := hw
    subst r_5
    have hP := xP_keep hP hk
    refine lv_iload hx hb dL_law_2758 (lv_at hl 1 rfl) ?_
    refine lv_icmp_eq (tgt := 2765) hx hb dL_law_2760 (by decide +kernel) (fun c9 => ?_) (fun c9 => absurd (show o_X5_thrown _ = _ from ht9.trans (by rw [hno]; rfl)) c9)
    refine lv_iload hx hb dL_law_2765 (lv_at hl 1 rfl) ?_
    refine lv_if_ne (tgt := 2784) hx hb dL_law_2767 (by decide +kernel) (fun c9 => absurd c9 (by decide +kernel)) (fun _ => ?_)
    refine lv_aload_n hx hb dL_law_2770 rfl (lv_at hl 5 rfl) ?_
    refine va_getN (D := (dC, dI)) (ci := 5) (v := .ref sr) (C := RX3) (T := TX3) (N := 2) hx hb hts (by decide +kernel) hown hK hP 9 rfl rfl 1 (by decide +kernel) (va_Nw.use rfl (hG.1 (.fieldLinkNest RL 63 "EdgefloatsLaw$Out" "s" "Ljava/lang/String;" RL) (List.mem_of_getElem? (i := 7) rfl))) (fun _ h9 => h9) rfl dL_law_2771 ?_
    refine lv_aload hx hb dL_law_2774 (lv_at hl 0 rfl) ?_
    obtain ⟨hm9, he9⟩ := tL_eq hL9 hL8
    have hm8 := hm9.symm
    subst hm8
    have hPc := hP.sub (ws' := [(sr, .inr (0, [.ref sva, .int 0, .int 0, .int 0])), (sva, eY cB sna sfa), (r_3, .inr (0, [.ref tva, .int 0, .int 0, .int 0])), (tva, eY cB sna tfa)]) [15, 16, 17, 18] rfl
    have hDc := hD.sub (ws' := [(sr, .inr (0, [.ref sva, .int 0, .int 0, .int 0])), (sva, eY cB sna sfa), (r_3, .inr (0, [.ref tva, .int 0, .int 0, .int 0])), (tva, eY cB sna tfa)]) [15, 16, 17, 18] (by decide +kernel) rfl
    have hKc := hK.sub (tys' := [(cB, .byte)]) [1] rfl
    have hFc := va_free (wc := [(sr, .inr (0, [.ref sva, .int 0, .int 0, .int 0])), (sva, eY cB sna sfa), (r_3, .inr (0, [.ref tva, .int 0, .int 0, .int 0])), (tva, eY cB sna tfa)]) hD hS hA [15, 16, 17, 18] rfl
    refine va_calli (va_runV (As := [.ref r_3]) (rest := []) ⟨hx, hb, hml, hown, hts⟩ (kk_J0_equals_9ea2d l dC dI cB sr r_3 sva tva sna sfa tfa H.size N hn9 he9) (cwV 1 hts gL_law_J0_equals_9ea2d rfl rfl rfl (by decide +kernel) ⟨Nat.le_of_ble_eq_true rfl, Nat.le_of_ble_eq_true rfl⟩) (xT.preV (ci := 0) (q0 := 0) hKc hPc hDc hAN (Nat.le_trans hN hS.1) (hG.kept hS hAN) (hT.kept hS hAN) rfl rfl) rfl rfl hl.1 rfl (lv_room (Nat.le_of_ble_eq_true rfl)) dL_law_2776 ⟨(show _ ≤ 716141 by omega), (show _ ≤ 6947682 by omega)⟩) hS (fun q _ h => hFc q h) hFc (fun r_6 u_7 t H locs ht hvm hw hB hz hk hS => ?_)
    obtain ⟨hP1, hD1⟩ := hB
    rw [ht] at hP1
    obtain ⟨hP, hD⟩ := va_join (wr := [(h0, eE h1 h2 kn), (h1, eR hw1 hc1 hb1 a1 r1), (hw1, eW true), (hc1, eA cy f1), (hb1, eA cy g1), (h2, eR hw2 hc2 hb2 a2 r2), (hw2, eW false), (hc2, eA cy f2), (hb2, eA cy g2), (ho, eO nv (.ref sr)), (m0, eM m1 m2 th9 (r1 + r2) kn), (m1, eMR true mc1 a1), (mc1, eA cy f1), (m2, eMR false mc2 a2), (mc2, eA cy f2)]) (w1 := [(sr, .inr (0, [.ref sva, .int 0, .int 0, .int 0])), (sva, eY cB sna sfa), (r_3, .inr (0, [.ref tva, .int 0, .int 0, .int 0])), (tva, eY cB sna tfa)]) hP hD [15, 16, 17, 18] [0, 1, 2, 3, 4, 5, 6, 7, 8, 9, 10, 11, 12, 13, 14] rfl rfl (by decide +kernel) (by decide +kernel) hk hFc hP1 hD1
    have hP := hP.sub (ws' := [(h0, eE h1 h2 kn), (h1, eR hw1 hc1 hb1 a1 r1), (hw1, eW true), (hc1, eA cy f1), (hb1, eA cy g1), (h2, eR hw2 hc2 hb2 a2 r2), (hw2, eW false), (hc2, eA cy f2), (hb2, eA cy g2), (ho, eO nv (.ref sr)), (m0, eM m1 m2 th9 (r1 + r2) kn), (m1, eMR true mc1 a1), (mc1, eA cy f1), (m2, eMR false mc2 a2), (mc2, eA cy f2), (sr, .inr (0, [.ref sva, .int 0, .int 0, .int 0])), (sva, eY cB sna sfa), (r_3, .inr (0, [.ref tva, .int 0, .int 0, .int 0])), (tva, eY cB sna tfa)]) [0, 1, 2, 3, 4, 5, 6, 7, 8, 9, 10, 11, 12, 13, 14, 15, 16, 17, 18] rfl
    have hD := hD.sub (ws' := [(h0, eE h1 h2 kn), (h1, eR hw1 hc1 hb1 a1 r1), (hw1, eW true), (hc1, eA cy f1), (hb1, eA cy g1), (h2, eR hw2 hc2 hb2 a2 r2), (hw2, eW false), (hc2, eA cy f2), (hb2, eA cy g2), (ho, eO nv (.ref sr)), (m0, eM m1 m2 th9 (r1 + r2) kn), (m1, eMR true mc1 a1), (mc1, eA cy f1), (m2, eMR false mc2 a2), (mc2, eA cy f2), (sr, .inr (0, [.ref sva, .int 0, .int 0, .int 0])), (sva, eY cB sna sfa), (r_3, .inr (0, [.ref tva, .int 0, .int 0, .int 0])), (tva, eY cB sna tfa)]) [0, 1, 2, 3, 4, 5, 6, 7, 8, 9, 10, 11, 12, 13, 14, 15, 16, 17, 18] (by decide +kernel) rfl
    have hr8 : r_6 = 1 := hw
    subst hr8
    refine lv_if_ne (tgt := 2784) hx hb dL_law_2779 (by decide +kernel) (fun _ => ?_) (fun c9 => absurd c9 (by decide +kernel))
    refine lv_goto (tgt := 3660) hx hb dL_law_2784 (by decide +kernel) ?_
    refine W.widen (k := cells + 760) (n := slots + 4500) (by omega) (by omega) ?_
    have hP := hP.sub (ws' := [(h0, eE h1 h2 kn), (h1, eR hw1 hc1 hb1 a1 r1), (hw1, eW true), (hc1, eA cy f1), (hb1, eA cy g1), (h2, eR hw2 hc2 hb2 a2 r2), (hw2, eW false), (hc2, eA cy f2), (hb2, eA cy g2), (ho, eO nv (.ref sr)), (m0, eM m1 m2 th9 (r1 + r2) kn), (m1, eMR true mc1 a1), (mc1, eA cy f1), (m2, eMR false mc2 a2), (mc2, eA cy f2)]) [0, 1, 2, 3, 4, 5, 6, 7, 8, 9, 10, 11, 12, 13, 14] rfl
    have hD := hD.sub (ws' := [(h0, eE h1 h2 kn), (h1, eR hw1 hc1 hb1 a1 r1), (hw1, eW true), (hc1, eA cy f1), (hb1, eA cy g1), (h2, eR hw2 hc2 hb2 a2 r2), (hw2, eW false), (hc2, eA cy f2), (hb2, eA cy g2), (ho, eO nv (.ref sr)), (m0, eM m1 m2 th9 (r1 + r2) kn), (m1, eMR true mc1 a1), (mc1, eA cy f1), (m2, eMR false mc2 a2), (mc2, eA cy f2)]) [0, 1, 2, 3, 4, 5, 6, 7, 8, 9, 10, 11, 12, 13, 14] (by decide +kernel) rfl
    exact K a1 r1 f1 g1 a2 r2 f2 g2 kn nv (.ref sr) th9 a1 f1 a2 f2 (r1 + r2) kn _ _ _ rfl rfl rfl rfl rfl rfl hka1 hka2 hP hD hS (lv_sub hl [2, 3, 4, 5, 6] rfl)
  · skip
    refine lv_aload_n hx hb dL_law_2729 rfl (lv_at hl 1 rfl) ?_
    refine lv_aload_n hx hb dL_law_2730 rfl (lv_at hl 0 rfl) ?_
    refine lv_iload hx hb dL_law_2731 (lv_at hl 4 rfl) ?_
    refine lv_iconst (v := 1) hx hb dL_law_2733 (by decide +kernel) ?_
    refine lv_iadd hx hb dL_law_2734 ?_
    rw [nI_1 i]
    refine xa_sld hx hb hX hbl hbA hS (k := i + 1) (by omega) hL hp1 dL_law_2735 ?_
    refine lv_aload_n hx hb dL_law_2736 rfl (lv_at hl 3 rfl) ?_
    have hPc := hP.sub (ws' := [(h0, eE h1 h2 kn), (h1, eR hw1 hc1 hb1 a1 r1), (hw1, eW true), (hc1, eA cy f1), (hb1, eA cy g1), (h2, eR hw2 hc2 hb2 a2 r2), (hw2, eW false), (hc2, eA cy f2), (hb2, eA cy g2), (ho, eO nv sv)]) [0, 1, 2, 3, 4, 5, 6, 7, 8, 9] rfl
    have hDc := hD.sub (ws' := [(h0, eE h1 h2 kn), (h1, eR hw1 hc1 hb1 a1 r1), (hw1, eW true), (hc1, eA cy f1), (hb1, eA cy g1), (h2, eR hw2 hc2 hb2 a2 r2), (hw2, eW false), (hc2, eA cy f2), (hb2, eA cy g2), (ho, eO nv sv)]) [0, 1, 2, 3, 4, 5, 6, 7, 8, 9] (by decide +kernel) rfl
    have hKc := hK.sub (tys' := [(cy, .long), (cB, .byte)]) [0, 1] rfl
    have hFc := va_free (wc := [(h0, eE h1 h2 kn), (h1, eR hw1 hc1 hb1 a1 r1), (hw1, eW true), (hc1, eA cy f1), (hb1, eA cy g1), (h2, eR hw2 hc2 hb2 a2 r2), (hw2, eW false), (hc2, eA cy f2), (hb2, eA cy g2), (ho, eO nv sv)]) hD hS hA [0, 1, 2, 3, 4, 5, 6, 7, 8, 9] rfl
    refine va_calli (vx_runSW (As := [.ref h0, .int p1, .ref ho]) (rest := []) ⟨hx, hb, hml, hown, hts⟩ (kkb_L_narrowText l hfl dC dI cy cB h0 h1 hw1 hc1 hb1 h2 hw2 hc2 hb2 a1 r1 f1 g1 a2 r2 f2 g2 kn ho nv sv H.size N p1 hok2 hcz) (vx_cwSW 3 hts gL_law_L_narrowText rfl rfl rfl (by decide +kernel) ⟨Nat.le_of_ble_eq_true rfl, Nat.le_of_ble_eq_true rfl⟩) (xU.preS hKc hPc hDc hAN (Nat.le_trans hN hS.1) (hG.kept hS hAN) (hT.kept hS hAN) hnc) rfl rfl hl.1 rfl (lv_room (Nat.le_of_ble_eq_true rfl)) dL_law_2737 ⟨(show _ ≤ 716141 by omega), (show _ ≤ 6947682 by omega)⟩) hS (fun q _ h => hFc q h) hFc (fun r_8 u_9 t H locs ht hvm hw hB hz hk hS => ?_)
    obtain ⟨hP1, hD1⟩ := hB
    rw [ht] at hP1
    have hr9 : r_8 = 1 := hw
    subst hr9
    obtain ⟨hP, hD⟩ := va_join (wr := [(m0, eM m1 m2 th (r1 + r2) kn), (m1, eMR true mc1 a1), (mc1, eA cy f1), (m2, eMR false mc2 a2), (mc2, eA cy f2)]) (w1 := [(h0, eE h1 h2 kn), (h1, eR hw1 hc1 hb1 a1 r1), (hw1, eW true), (hc1, eA cy f1), (hb1, eA cy g1), (h2, eR hw2 hc2 hb2 a2 r2), (hw2, eW false), (hc2, eA cy f2), (hb2, eA cy g2), (ho, eO nv sv)]) hP hD [0, 1, 2, 3, 4, 5, 6, 7, 8, 9] [10, 11, 12, 13, 14] rfl rfl (by decide +kernel) (by decide +kernel) hk hFc hP1 hD1
    have hP := hP.sub (ws' := [(h0, eE h1 h2 kn), (h1, eR hw1 hc1 hb1 a1 r1), (hw1, eW true), (hc1, eA cy f1), (hb1, eA cy g1), (h2, eR hw2 hc2 hb2 a2 r2), (hw2, eW false), (hc2, eA cy f2), (hb2, eA cy g2), (ho, eO nv sv), (m0, eM m1 m2 th (r1 + r2) kn), (m1, eMR true mc1 a1), (mc1, eA cy f1), (m2, eMR false mc2 a2), (mc2, eA cy f2)]) [5, 6, 7, 8, 9, 10, 11, 12, 13, 14, 0, 1, 2, 3, 4] rfl
    have hD := hD.sub (ws' := [(h0, eE h1 h2 kn), (h1, eR hw1 hc1 hb1 a1 r1), (hw1, eW true), (hc1, eA cy f1), (hb1, eA cy g1), (h2, eR hw2 hc2 hb2 a2 r2), (hw2, eW false), (hc2, eA cy f2), (hb2, eA cy g2), (ho, eO nv sv), (m0, eM m1 m2 th (r1 + r2) kn), (m1, eMR true mc1 a1), (mc1, eA cy f1), (m2, eMR false mc2 a2), (mc2, eA cy f2)]) [5, 6, 7, 8, 9, 10, 11, 12, 13, 14, 0, 1, 2, 3, 4] (by decide +kernel) rfl
    refine lv_istore (lv' := [(5, .int 1), (0, .ref b), (1, .ref h0), (2, .ref m0), (3, .ref ho), (4, .int (nI i))]) hx hb dL_law_2740 hl (by decide +kernel) rfl (fun ls hl => ?_)
    refine lv_aload_n hx hb dL_law_2742 rfl (lv_at hl 3 rfl) ?_
    refine lv_aload_n hx hb dL_law_2743 rfl (lv_at hl 1 rfl) ?_
    refine lv_iload hx hb dL_law_2744 (lv_at hl 5 rfl) ?_
    refine lv_iconst (v := 1) hx hb dL_law_2746 (by decide +kernel) ?_
    refine lv_iadd hx hb dL_law_2747 ?_
    rw [nI_1 i]
    refine xa_sld hx hb hX hbl hbA hS (k := i + 1) (by omega) hL hp1 dL_law_2748 ?_
    have hPc := hP.sub (ws' := [(m0, eM m1 m2 th (r1 + r2) kn), (m1, eMR true mc1 a1), (mc1, eA cy f1), (m2, eMR false mc2 a2), (mc2, eA cy f2)]) [10, 11, 12, 13, 14] rfl
    have hDc := hD.sub (ws' := [(m0, eM m1 m2 th (r1 + r2) kn), (m1, eMR true mc1 a1), (mc1, eA cy f1), (m2, eMR false mc2 a2), (mc2, eA cy f2)]) [10, 11, 12, 13, 14] (by decide +kernel) rfl
    have hKc := hK.sub (tys' := [(cy, .long), (cB, .byte)]) [0, 1] rfl
    have hFc := va_free (wc := [(m0, eM m1 m2 th (r1 + r2) kn), (m1, eMR true mc1 a1), (mc1, eA cy f1), (m2, eMR false mc2 a2), (mc2, eA cy f2)]) hD hS hA [10, 11, 12, 13, 14] rfl
    refine va_callr (va_runV (As := [.int p1]) (rest := []) ⟨hx, hb, hml, hown, hts⟩ (kkb_X5_narrowText l dC dI cy cB m0 m1 mc1 m2 mc2 a1 f1 a2 f2 th (r1 + r2) kn p1 H.size N hok2) (cwV 1 hts gL_law_X5_narrowText rfl rfl rfl (by decide +kernel) ⟨Nat.le_of_ble_eq_true rfl, Nat.le_of_ble_eq_true rfl⟩) (xT.preV (ci := 7) (q0 := 0) hKc hPc hDc hAN (Nat.le_trans hN hS.1) (hG.kept hS hAN) (hT.kept hS hAN) rfl rfl) rfl rfl hl.1 rfl (lv_room (Nat.le_of_ble_eq_true rfl)) dL_law_2749 ⟨(show _ ≤ 716141 by omega), (show _ ≤ 6947682 by omega)⟩) hS (fun q _ h => hFc q h) hFc (fun u_11 r_10 t H locs ht hvm hw hB hz hk hS => ?_)
    obtain ⟨hP1, hD1⟩ := hB
    rw [ht] at hP1
    obtain ⟨th9, hth9⟩ : ∃ z : Int32, z = u_11 := ⟨_, rfl⟩
    rw [← hth9] at hP1 hD1
    have ht9 : th9 = (o_X5_fails (o_X5_isNo p1) false).2 := hth9.trans hw
    obtain ⟨hP, hD⟩ := va_join (wr := [(h0, eE h1 h2 kn), (h1, eR hw1 hc1 hb1 a1 r1), (hw1, eW true), (hc1, eA cy f1), (hb1, eA cy g1), (h2, eR hw2 hc2 hb2 a2 r2), (hw2, eW false), (hc2, eA cy f2), (hb2, eA cy g2), (ho, eO nv sv)]) (w1 := [(m0, eM m1 m2 th9 (r1 + r2) kn), (m1, eMR true mc1 a1), (mc1, eA cy f1), (m2, eMR false mc2 a2), (mc2, eA cy f2)]) hP hD [10, 11, 12, 13, 14] [0, 1, 2, 3, 4, 5, 6, 7, 8, 9] rfl rfl (by decide +kernel) (by decide +kernel) hk hFc hP1 hD1
    have hP := hP.sub (ws' := [(h0, eE h1 h2 kn), (h1, eR hw1 hc1 hb1 a1 r1), (hw1, eW true), (hc1, eA cy f1), (hb1, eA cy g1), (h2, eR hw2 hc2 hb2 a2 r2), (hw2, eW false), (hc2, eA cy f2), (hb2, eA cy g2), (ho, eO nv sv), (m0, eM m1 m2 th9 (r1 + r2) kn), (m1, eMR true mc1 a1), (mc1, eA cy f1), (m2, eMR false mc2 a2), (mc2, eA cy f2)]) [0, 1, 2, 3, 4, 5, 6, 7, 8, 9, 10, 11, 12, 13, 14] rfl
    have hD := hD.sub (ws' := [(h0, eE h1 h2 kn), (h1, eR hw1 hc1 hb1 a1 r1), (hw1, eW true), (hc1, eA cy f1), (hb1, eA cy g1), (h2, eR hw2 hc2 hb2 a2 r2), (hw2, eW false), (hc2, eA cy f2), (hb2, eA cy g2), (ho, eO nv sv), (m0, eM m1 m2 th9 (r1 + r2) kn), (m1, eMR true mc1 a1), (mc1, eA cy f1), (m2, eMR false mc2 a2), (mc2, eA cy f2)]) [0, 1, 2, 3, 4, 5, 6, 7, 8, 9, 10, 11, 12, 13, 14] (by decide +kernel) rfl
    refine lv_astore (lv' := [(6, .ref r_10), (5, .int 1), (0, .ref b), (1, .ref h0), (2, .ref m0), (3, .ref ho), (4, .int (nI i))]) hx hb dL_law_2752 hl (by decide +kernel) rfl (fun ls hl => ?_)
    refine lv_aload_n hx hb dL_law_2754 rfl (lv_at hl 4 rfl) ?_
    have hPc := hP.sub (ws' := [(m0, eM m1 m2 th9 (r1 + r2) kn)]) [10] rfl
    have hKc := hK.sub (tys' := []) [] rfl
    refine va_calli (va_runV (As := []) (rest := []) ⟨hx, hb, hml, hown, hts⟩ (k_X5_thrown l dC dI m0 m1 m2 th9 (r1 + r2) kn H.size) (cwV 0 hts gL_law_X5_thrown rfl rfl rfl (by decide +kernel) ⟨Nat.le_of_ble_eq_true rfl, Nat.le_of_ble_eq_true rfl⟩) (xB.preV hKc hPc (ci := 7) (q0 := 0) rfl rfl) rfl rfl hl.1 rfl (lv_room (Nat.le_of_ble_eq_true rfl)) dL_law_2755 ⟨(show _ ≤ 716141 by omega), (show _ ≤ 6947682 by omega)⟩) hS xA_old (fun q h => hA q (Nat.le_trans hS.1 h)) (fun r_12 u t H locs ht hvm hw hB hz hk hS => ?_)
    replace hw : r_12 = (o_X5_thrown th9) := hw
    subst r_12
    have hP := xP_keep hP hk
    refine lv_iload hx hb dL_law_2758 (lv_at hl 1 rfl) ?_
    refine lv_icmp_eq (tgt := 2765) hx hb dL_law_2760 (by decide +kernel) (fun c9 => ?_) (fun c9 => absurd (show o_X5_thrown _ = _ from ht9.trans (by rw [hno]; rfl)) c9)
    refine lv_iload hx hb dL_law_2765 (lv_at hl 1 rfl) ?_
    refine lv_if_ne (tgt := 2784) hx hb dL_law_2767 (by decide +kernel) (fun _ => ?_) (fun c9 => absurd c9 (by decide +kernel))
    refine lv_goto (tgt := 3660) hx hb dL_law_2784 (by decide +kernel) ?_
    refine W.widen (k := cells + 760) (n := slots + 4500) (by omega) (by omega) ?_
    exact K a1 r1 f1 g1 a2 r2 f2 g2 kn nv sv th9 a1 f1 a2 f2 (r1 + r2) kn _ _ _ rfl rfl rfl rfl rfl rfl hka1 hka2 hP hD hS (lv_sub hl [2, 3, 4, 5, 6] rfl)
set_option maxHeartbeats 4000000 in
set_option maxRecDepth 100000 in
theorem st_35 (l : Launch) (p : Program) (e : Env) (s : State) (m : MethodId) (below : List Frame) (meth : Method) (c : Code) (b L N : Nat) (xs : Nat → Int32) (A : Nat → Prop) (dC : Nat → ClassId) (dI : Nat → Nat → Nat) (cy cB : ClassId) (h0 h1 hw1 hc1 hb1 h2 hw2 hc2 hb2 ho m0 m1 mc1 m2 mc2 : Nat) (C0 : lw_C l p e s m below meth c b L N xs A dC dI cy cB) (i : Nat) (hi : i + 4 ≤ L) (p1 p2 p3 : Int32) (hp1 : xs (i + 1) = p1) (hp2 : xs (i + 2) = p2) (hp3 : xs (i + 3) = p3) (cells slots : Nat) (hcs : cells + 760 ≤ 716141) (hss : slots + 4500 ≤ 6947682) (K : lw_K l p e s m below meth c b L N xs A dC dI cy cB h0 h1 hw1 hc1 hb1 h2 hw2 hc2 hb2 ho m0 m1 mc1 m2 mc2 i (cells + 760) (slots + 4500) 3660) (a1 : Int32) (r1 : Int32) (f1 : Nat → Int64) (g1 : Nat → Int64) (a2 : Int32) (r2 : Int32) (f2 : Nat → Int64) (g2 : Nat → Int64) (kn : Int32) (nv : Int64) (sv : Value) (th : Int32) (H : Heap) (locs : List Loc) (ls : Array Slot) (hka1 : okA true f1) (hka2 : okA false f2) (hP : va_P (dC, dI) xCl [(h0, eE h1 h2 kn), (h1, eR hw1 hc1 hb1 a1 r1), (hw1, eW true), (hc1, eA cy f1), (hb1, eA cy g1), (h2, eR hw2 hc2 hb2 a2 r2), (hw2, eW false), (hc2, eA cy f2), (hb2, eA cy g2), (ho, eO nv sv), (m0, eM m1 m2 th (r1 + r2) kn), (m1, eMR true mc1 a1), (mc1, eA cy f1), (m2, eMR false mc2 a2), (mc2, eA cy f2)] H) (hD : va_D A [(h0, eE h1 h2 kn), (h1, eR hw1 hc1 hb1 a1 r1), (hw1, eW true), (hc1, eA cy f1), (hb1, eA cy g1), (h2, eR hw2 hc2 hb2 a2 r2), (hw2, eW false), (hc2, eA cy f2), (hb2, eA cy g2), (ho, eO nv sv), (m0, eM m1 m2 th (r1 + r2) kn), (m1, eMR true mc1 a1), (mc1, eA cy f1), (m2, eMR false mc2 a2), (mc2, eA cy f2)]) (hS : va_S A s.heap H locs) (hl : lv_has ls 7 [(0, .ref b), (1, .ref h0), (2, .ref m0), (3, .ref ho), (4, .int (nI i))]) : W p l e room_1 s m #[Value.ref b] below meth c H locs cells slots (lw_Z below #[Value.ref b] s) (F0 m 2787 ls []) := by
  obtain ⟨hfl, hx, hb, hr, hml, hown, hts, hX, hbl, hbA, hlocks, hK, hG, hnc, hA, hAN, hN, hL, hT, hNs⟩ := id C0
  have hok2 := me_okF hka2
  have hsp1 : ∀ k, k < 8 → o_X1_isSpoiled true (f1 k) = false := fun k hk => (hka1 k hk).2
  have hsp2 : ∀ k, k < 8 → o_X1_isSpoiled false (f2 k) = false := fun k hk => (hka2 k hk).2
  have qx_narrowOrder : (o_L_narrowOrder f2 nv p1 p2 p3).1 = (o_X5_narrowOrder f2 p1 p2 p3).2 := by have hm := ml_narrowOrder nv p1 p2 p3 hka2; rw [hm] <;> rfl
  have qn_narrowOrder : (o_L_narrowOrder f2 nv p1 p2 p3).2 = if (o_X5_narrowOrder f2 p1 p2 p3).2 = 0 then ((o_X5_narrowOrder f2 p1 p2 p3).1).toInt64 else nv := by have hm := ml_narrowOrder nv p1 p2 p3 hka2; rw [hm] <;> rfl
  refine lv_aload_n hx hb dL_law_2787 rfl (lv_at hl 1 rfl) ?_
  refine lv_aload_n hx hb dL_law_2788 rfl (lv_at hl 0 rfl) ?_
  refine lv_iload hx hb dL_law_2789 (lv_at hl 4 rfl) ?_
  refine lv_iconst (v := 1) hx hb dL_law_2791 (by decide +kernel) ?_
  refine lv_iadd hx hb dL_law_2792 ?_
  rw [nI_1 i]
  refine xa_sld hx hb hX hbl hbA hS (k := i + 1) (by omega) hL hp1 dL_law_2793 ?_
  refine lv_aload_n hx hb dL_law_2794 rfl (lv_at hl 0 rfl) ?_
  refine lv_iload hx hb dL_law_2795 (lv_at hl 4 rfl) ?_
  refine lv_iconst (v := 2) hx hb dL_law_2797 (by decide +kernel) ?_
  refine lv_iadd hx hb dL_law_2798 ?_
  rw [nI_p2 i]
  refine xa_sld hx hb hX hbl hbA hS (k := i + 2) (by omega) hL hp2 dL_law_2799 ?_
  refine lv_aload_n hx hb dL_law_2800 rfl (lv_at hl 0 rfl) ?_
  refine lv_iload hx hb dL_law_2801 (lv_at hl 4 rfl) ?_
  refine lv_iconst (v := 3) hx hb dL_law_2803 (by decide +kernel) ?_
  refine lv_iadd hx hb dL_law_2804 ?_
  rw [nI_p3 i]
  refine xa_sld hx hb hX hbl hbA hS (k := i + 3) (by omega) hL hp3 dL_law_2805 ?_
  refine lv_aload_n hx hb dL_law_2806 rfl (lv_at hl 3 rfl) ?_
  have hPc := hP.sub (ws' := [(h0, eE h1 h2 kn), (h1, eR hw1 hc1 hb1 a1 r1), (hw1, eW true), (hc1, eA cy f1), (hb1, eA cy g1), (h2, eR hw2 hc2 hb2 a2 r2), (hw2, eW false), (hc2, eA cy f2), (hb2, eA cy g2), (ho, eO nv sv)]) [0, 1, 2, 3, 4, 5, 6, 7, 8, 9] rfl
  have hDc := hD.sub (ws' := [(h0, eE h1 h2 kn), (h1, eR hw1 hc1 hb1 a1 r1), (hw1, eW true), (hc1, eA cy f1), (hb1, eA cy g1), (h2, eR hw2 hc2 hb2 a2 r2), (hw2, eW false), (hc2, eA cy f2), (hb2, eA cy g2), (ho, eO nv sv)]) [0, 1, 2, 3, 4, 5, 6, 7, 8, 9] (by decide +kernel) rfl
  have hKc := hK.sub (tys' := [(cy, .long)]) [0] rfl
  have hFc := va_free (wc := [(h0, eE h1 h2 kn), (h1, eR hw1 hc1 hb1 a1 r1), (hw1, eW true), (hc1, eA cy f1), (hb1, eA cy g1), (h2, eR hw2 hc2 hb2 a2 r2), (hw2, eW false), (hc2, eA cy f2), (hb2, eA cy g2), (ho, eO nv sv)]) hD hS hA [0, 1, 2, 3, 4, 5, 6, 7, 8, 9] rfl
  refine va_calli (vx_runSW (As := [.ref h0, .int p1, .int p2, .int p3, .ref ho]) (rest := []) ⟨hx, hb, hml, hown, hts⟩ (k_L_narrowOrder l hfl dC dI cy h0 h1 hw1 hc1 hb1 h2 hw2 hc2 hb2 a1 r1 f1 g1 a2 r2 f2 g2 kn ho nv sv H.size N p1 p2 p3) (vx_cwSW 5 hts gL_law_L_narrowOrder rfl rfl rfl (by decide +kernel) ⟨Nat.le_of_ble_eq_true rfl, Nat.le_of_ble_eq_true rfl⟩) (xL.preS hKc hPc hDc hAN (Nat.le_trans hN hS.1) (hG.kept hS hAN) hnc) rfl rfl hl.1 rfl (lv_room (Nat.le_of_ble_eq_true rfl)) dL_law_2807 ⟨(show _ ≤ 716141 by omega), (show _ ≤ 6947682 by omega)⟩) hS (fun q _ h => hFc q h) hFc (fun r_1 u t H locs ht hvm hw hB hz hk hS => ?_)
  replace hw : r_1 = (o_L_narrowOrder f2 nv p1 p2 p3).1 := hw
  subst r_1
  obtain ⟨hP1, hD1⟩ := hB
  rw [ht] at hP1
  obtain ⟨hP, hD⟩ := va_join (wr := [(m0, eM m1 m2 th (r1 + r2) kn), (m1, eMR true mc1 a1), (mc1, eA cy f1), (m2, eMR false mc2 a2), (mc2, eA cy f2)]) (w1 := [(h0, eE h1 h2 kn), (h1, eR hw1 hc1 hb1 a1 r1), (hw1, eW true), (hc1, eA cy f1), (hb1, eA cy g1), (h2, eR hw2 hc2 hb2 a2 r2), (hw2, eW false), (hc2, eA cy f2), (hb2, eA cy g2), (ho, eO (o_L_narrowOrder f2 nv p1 p2 p3).2 sv)]) hP hD [0, 1, 2, 3, 4, 5, 6, 7, 8, 9] [10, 11, 12, 13, 14] rfl rfl (by decide +kernel) (by decide +kernel) hk hFc hP1 hD1
  have hP := hP.sub (ws' := [(h0, eE h1 h2 kn), (h1, eR hw1 hc1 hb1 a1 r1), (hw1, eW true), (hc1, eA cy f1), (hb1, eA cy g1), (h2, eR hw2 hc2 hb2 a2 r2), (hw2, eW false), (hc2, eA cy f2), (hb2, eA cy g2), (ho, eO (o_L_narrowOrder f2 nv p1 p2 p3).2 sv), (m0, eM m1 m2 th (r1 + r2) kn), (m1, eMR true mc1 a1), (mc1, eA cy f1), (m2, eMR false mc2 a2), (mc2, eA cy f2)]) [5, 6, 7, 8, 9, 10, 11, 12, 13, 14, 0, 1, 2, 3, 4] rfl
  have hD := hD.sub (ws' := [(h0, eE h1 h2 kn), (h1, eR hw1 hc1 hb1 a1 r1), (hw1, eW true), (hc1, eA cy f1), (hb1, eA cy g1), (h2, eR hw2 hc2 hb2 a2 r2), (hw2, eW false), (hc2, eA cy f2), (hb2, eA cy g2), (ho, eO (o_L_narrowOrder f2 nv p1 p2 p3).2 sv), (m0, eM m1 m2 th (r1 + r2) kn), (m1, eMR true mc1 a1), (mc1, eA cy f1), (m2, eMR false mc2 a2), (mc2, eA cy f2)]) [5, 6, 7, 8, 9, 10, 11, 12, 13, 14, 0, 1, 2, 3, 4] (by decide +kernel) rfl
  refine lv_istore (lv' := [(5, .int ((o_L_narrowOrder f2 nv p1 p2 p3).1)), (0, .ref b), (1, .ref h0), (2, .ref m0), (3, .ref ho), (4, .int (nI i))]) hx hb dL_law_2810 hl (by decide +kernel) rfl (fun ls hl => ?_)
  refine lv_aload_n hx hb dL_law_2812 rfl (lv_at hl 3 rfl) ?_
  refine lv_aload_n hx hb dL_law_2813 rfl (lv_at hl 1 rfl) ?_
  refine lv_iload hx hb dL_law_2814 (lv_at hl 5 rfl) ?_
  refine lv_iconst (v := 1) hx hb dL_law_2816 (by decide +kernel) ?_
  refine lv_iadd hx hb dL_law_2817 ?_
  rw [nI_1 i]
  refine xa_sld hx hb hX hbl hbA hS (k := i + 1) (by omega) hL hp1 dL_law_2818 ?_
  refine lv_aload_n hx hb dL_law_2819 rfl (lv_at hl 1 rfl) ?_
  refine lv_iload hx hb dL_law_2820 (lv_at hl 5 rfl) ?_
  refine lv_iconst (v := 2) hx hb dL_law_2822 (by decide +kernel) ?_
  refine lv_iadd hx hb dL_law_2823 ?_
  rw [nI_p2 i]
  refine xa_sld hx hb hX hbl hbA hS (k := i + 2) (by omega) hL hp2 dL_law_2824 ?_
  refine lv_aload_n hx hb dL_law_2825 rfl (lv_at hl 1 rfl) ?_
  refine lv_iload hx hb dL_law_2826 (lv_at hl 5 rfl) ?_
  refine lv_iconst (v := 3) hx hb dL_law_2828 (by decide +kernel) ?_
  refine lv_iadd hx hb dL_law_2829 ?_
  rw [nI_p3 i]
  refine xa_sld hx hb hX hbl hbA hS (k := i + 3) (by omega) hL hp3 dL_law_2830 ?_
  have hPc := hP.sub (ws' := [(m0, eM m1 m2 th (r1 + r2) kn), (m1, eMR true mc1 a1), (mc1, eA cy f1), (m2, eMR false mc2 a2), (mc2, eA cy f2)]) [10, 11, 12, 13, 14] rfl
  have hDc := hD.sub (ws' := [(m0, eM m1 m2 th (r1 + r2) kn), (m1, eMR true mc1 a1), (mc1, eA cy f1), (m2, eMR false mc2 a2), (mc2, eA cy f2)]) [10, 11, 12, 13, 14] (by decide +kernel) rfl
  have hKc := hK.sub (tys' := [(cy, .long)]) [0] rfl
  have hFc := va_free (wc := [(m0, eM m1 m2 th (r1 + r2) kn), (m1, eMR true mc1 a1), (mc1, eA cy f1), (m2, eMR false mc2 a2), (mc2, eA cy f2)]) hD hS hA [10, 11, 12, 13, 14] rfl
  refine va_calli (va_runV (As := [.int p1, .int p2, .int p3]) (rest := []) ⟨hx, hb, hml, hown, hts⟩ (k_X5_narrowOrder l dC dI cy m0 m1 mc1 m2 mc2 a1 f1 a2 f2 th (r1 + r2) kn H.size N p1 p2 p3) (cwV 3 hts gL_law_X5_narrowOrder rfl rfl rfl (by decide +kernel) ⟨Nat.le_of_ble_eq_true rfl, Nat.le_of_ble_eq_true rfl⟩) (xM.preV hKc hPc hDc hAN (Nat.le_trans hN hS.1) (hG.kept hS hAN) (ci := 7) (q0 := 0) rfl rfl) rfl rfl hl.1 rfl (lv_room (Nat.le_of_ble_eq_true rfl)) dL_law_2831 ⟨(show _ ≤ 716141 by omega), (show _ ≤ 6947682 by omega)⟩) hS (fun q _ h => hFc q h) hFc (fun r_2 u t H locs ht hvm hw hB hz hk hS => ?_)
  replace hw : r_2 = (o_X5_narrowOrder f2 p1 p2 p3).1 := hw
  subst r_2
  obtain ⟨hP1, hD1⟩ := hB
  rw [ht] at hP1
  obtain ⟨hP, hD⟩ := va_join (wr := [(h0, eE h1 h2 kn), (h1, eR hw1 hc1 hb1 a1 r1), (hw1, eW true), (hc1, eA cy f1), (hb1, eA cy g1), (h2, eR hw2 hc2 hb2 a2 r2), (hw2, eW false), (hc2, eA cy f2), (hb2, eA cy g2), (ho, eO (o_L_narrowOrder f2 nv p1 p2 p3).2 sv)]) (w1 := [(m0, eM m1 m2 (o_X5_narrowOrder f2 p1 p2 p3).2 (r1 + r2) kn), (m1, eMR true mc1 a1), (mc1, eA cy f1), (m2, eMR false mc2 a2), (mc2, eA cy f2)]) hP hD [10, 11, 12, 13, 14] [0, 1, 2, 3, 4, 5, 6, 7, 8, 9] rfl rfl (by decide +kernel) (by decide +kernel) hk hFc hP1 hD1
  have hP := hP.sub (ws' := [(h0, eE h1 h2 kn), (h1, eR hw1 hc1 hb1 a1 r1), (hw1, eW true), (hc1, eA cy f1), (hb1, eA cy g1), (h2, eR hw2 hc2 hb2 a2 r2), (hw2, eW false), (hc2, eA cy f2), (hb2, eA cy g2), (ho, eO (o_L_narrowOrder f2 nv p1 p2 p3).2 sv), (m0, eM m1 m2 (o_X5_narrowOrder f2 p1 p2 p3).2 (r1 + r2) kn), (m1, eMR true mc1 a1), (mc1, eA cy f1), (m2, eMR false mc2 a2), (mc2, eA cy f2)]) [0, 1, 2, 3, 4, 5, 6, 7, 8, 9, 10, 11, 12, 13, 14] rfl
  have hD := hD.sub (ws' := [(h0, eE h1 h2 kn), (h1, eR hw1 hc1 hb1 a1 r1), (hw1, eW true), (hc1, eA cy f1), (hb1, eA cy g1), (h2, eR hw2 hc2 hb2 a2 r2), (hw2, eW false), (hc2, eA cy f2), (hb2, eA cy g2), (ho, eO (o_L_narrowOrder f2 nv p1 p2 p3).2 sv), (m0, eM m1 m2 (o_X5_narrowOrder f2 p1 p2 p3).2 (r1 + r2) kn), (m1, eMR true mc1 a1), (mc1, eA cy f1), (m2, eMR false mc2 a2), (mc2, eA cy f2)]) [0, 1, 2, 3, 4, 5, 6, 7, 8, 9, 10, 11, 12, 13, 14] (by decide +kernel) rfl
  refine lv_istore (lv' := [(6, .int ((o_X5_narrowOrder f2 p1 p2 p3).1)), (5, .int ((o_L_narrowOrder f2 nv p1 p2 p3).1)), (0, .ref b), (1, .ref h0), (2, .ref m0), (3, .ref ho), (4, .int (nI i))]) hx hb dL_law_2834 hl (by decide +kernel) rfl (fun ls hl => ?_)
  refine lv_aload_n hx hb dL_law_2836 rfl (lv_at hl 4 rfl) ?_
  have hPc := hP.sub (ws' := [(m0, eM m1 m2 (o_X5_narrowOrder f2 p1 p2 p3).2 (r1 + r2) kn)]) [10] rfl
  have hKc := hK.sub (tys' := []) [] rfl
  refine va_calli (va_runV (As := []) (rest := []) ⟨hx, hb, hml, hown, hts⟩ (k_X5_thrown l dC dI m0 m1 m2 ((o_X5_narrowOrder f2 p1 p2 p3).2) (r1 + r2) kn H.size) (cwV 0 hts gL_law_X5_thrown rfl rfl rfl (by decide +kernel) ⟨Nat.le_of_ble_eq_true rfl, Nat.le_of_ble_eq_true rfl⟩) (xB.preV hKc hPc (ci := 7) (q0 := 0) rfl rfl) rfl rfl hl.1 rfl (lv_room (Nat.le_of_ble_eq_true rfl)) dL_law_2837 ⟨(show _ ≤ 716141 by omega), (show _ ≤ 6947682 by omega)⟩) hS xA_old (fun q h => hA q (Nat.le_trans hS.1 h)) (fun r_3 u t H locs ht hvm hw hB hz hk hS => ?_)
  replace hw : r_3 = (o_X5_thrown ((o_X5_narrowOrder f2 p1 p2 p3).2)) := hw
  subst r_3
  have hP := xP_keep hP hk
  refine lv_iload hx hb dL_law_2840 (lv_at hl 1 rfl) ?_
  refine lv_icmp_eq (tgt := 2847) hx hb dL_law_2842 (by decide +kernel) (fun c9 => ?_) (fun c9 => absurd (show o_X5_thrown _ = _ from (qx_narrowOrder).symm) c9)
  refine lv_iload hx hb dL_law_2847 (lv_at hl 1 rfl) ?_
  refine lv_if_ne (tgt := 2865) hx hb dL_law_2849 (by decide +kernel) (fun c_4 => ?_) (fun c_4 => ?_)
  · skip
    refine lv_goto (tgt := 3660) hx hb dL_law_2865 (by decide +kernel) ?_
    refine W.widen (k := cells + 760) (n := slots + 4500) (by omega) (by omega) ?_
    exact K a1 r1 f1 g1 a2 r2 f2 g2 kn ((o_L_narrowOrder f2 nv p1 p2 p3).2) sv ((o_X5_narrowOrder f2 p1 p2 p3).2) a1 f1 a2 f2 (r1 + r2) kn _ _ _ rfl rfl rfl rfl rfl rfl hka1 hka2 hP hD hS (lv_sub hl [2, 3, 4, 5, 6] rfl)
  · skip
    refine lv_aload_n hx hb dL_law_2852 rfl (lv_at hl 5 rfl) ?_
    refine va_getN (D := (dC, dI)) (ci := 5) (v := .long ((o_L_narrowOrder f2 nv p1 p2 p3).2)) (C := RX3) (T := TX3) (N := 2) hx hb hts (by decide +kernel) hown hK hP 9 rfl rfl 0 (by decide +kernel) (va_Nw.use rfl (hG.1 (.fieldLinkNest RL 13 "EdgefloatsLaw$Out" "n" "J" RL) (List.mem_of_getElem? (i := 6) rfl))) (fun _ h9 => h9) rfl dL_law_2853 ?_
    refine lv_iload hx hb dL_law_2856 (lv_at hl 0 rfl) ?_
    refine lv_i2l (v := (((o_X5_narrowOrder f2 p1 p2 p3).1).toInt64)) hx hb dL_law_2858 rfl ?_
    refine xc_eq (tgt := 2865) hx hb dL_law_2859 dL_law_2860 (by decide +kernel) (fun c9 => ?_) (fun c9 => absurd ((qn_narrowOrder).trans (if_pos ((qx_narrowOrder).symm.trans c_4))) c9)
    refine lv_goto (tgt := 3660) hx hb dL_law_2865 (by decide +kernel) ?_
    refine W.widen (k := cells + 760) (n := slots + 4500) (by omega) (by omega) ?_
    exact K a1 r1 f1 g1 a2 r2 f2 g2 kn ((o_L_narrowOrder f2 nv p1 p2 p3).2) sv ((o_X5_narrowOrder f2 p1 p2 p3).2) a1 f1 a2 f2 (r1 + r2) kn _ _ _ rfl rfl rfl rfl rfl rfl hka1 hka2 hP hD hS (lv_sub hl [2, 3, 4, 5, 6] rfl)
set_option maxHeartbeats 4000000 in
set_option maxRecDepth 100000 in
theorem st_36 (l : Launch) (p : Program) (e : Env) (s : State) (m : MethodId) (below : List Frame) (meth : Method) (c : Code) (b L N : Nat) (xs : Nat → Int32) (A : Nat → Prop) (dC : Nat → ClassId) (dI : Nat → Nat → Nat) (cy cB : ClassId) (h0 h1 hw1 hc1 hb1 h2 hw2 hc2 hb2 ho m0 m1 mc1 m2 mc2 : Nat) (C0 : lw_C l p e s m below meth c b L N xs A dC dI cy cB) (i : Nat) (hi : i + 4 ≤ L) (p1 p2 p3 : Int32) (hp1 : xs (i + 1) = p1) (hp2 : xs (i + 2) = p2) (hp3 : xs (i + 3) = p3) (cells slots : Nat) (hcs : cells + 760 ≤ 716141) (hss : slots + 4500 ≤ 6947682) (K : lw_K l p e s m below meth c b L N xs A dC dI cy cB h0 h1 hw1 hc1 hb1 h2 hw2 hc2 hb2 ho m0 m1 mc1 m2 mc2 i (cells + 760) (slots + 4500) 3660) (a1 : Int32) (r1 : Int32) (f1 : Nat → Int64) (g1 : Nat → Int64) (a2 : Int32) (r2 : Int32) (f2 : Nat → Int64) (g2 : Nat → Int64) (kn : Int32) (nv : Int64) (sv : Value) (th : Int32) (H : Heap) (locs : List Loc) (ls : Array Slot) (hka1 : okA true f1) (hka2 : okA false f2) (hP : va_P (dC, dI) xCl [(h0, eE h1 h2 kn), (h1, eR hw1 hc1 hb1 a1 r1), (hw1, eW true), (hc1, eA cy f1), (hb1, eA cy g1), (h2, eR hw2 hc2 hb2 a2 r2), (hw2, eW false), (hc2, eA cy f2), (hb2, eA cy g2), (ho, eO nv sv), (m0, eM m1 m2 th (r1 + r2) kn), (m1, eMR true mc1 a1), (mc1, eA cy f1), (m2, eMR false mc2 a2), (mc2, eA cy f2)] H) (hD : va_D A [(h0, eE h1 h2 kn), (h1, eR hw1 hc1 hb1 a1 r1), (hw1, eW true), (hc1, eA cy f1), (hb1, eA cy g1), (h2, eR hw2 hc2 hb2 a2 r2), (hw2, eW false), (hc2, eA cy f2), (hb2, eA cy g2), (ho, eO nv sv), (m0, eM m1 m2 th (r1 + r2) kn), (m1, eMR true mc1 a1), (mc1, eA cy f1), (m2, eMR false mc2 a2), (mc2, eA cy f2)]) (hS : va_S A s.heap H locs) (hl : lv_has ls 7 [(0, .ref b), (1, .ref h0), (2, .ref m0), (3, .ref ho), (4, .int (nI i))]) : W p l e room_1 s m #[Value.ref b] below meth c H locs cells slots (lw_Z below #[Value.ref b] s) (F0 m 2868 ls []) := by
  obtain ⟨hfl, hx, hb, hr, hml, hown, hts, hX, hbl, hbA, hlocks, hK, hG, hnc, hA, hAN, hN, hL, hT, hNs⟩ := id C0
  have hok2 := me_okF hka2
  have hsp1 : ∀ k, k < 8 → o_X1_isSpoiled true (f1 k) = false := fun k hk => (hka1 k hk).2
  have hsp2 : ∀ k, k < 8 → o_X1_isSpoiled false (f2 k) = false := fun k hk => (hka2 k hk).2
  have qx_narrowSame : (o_L_narrowSame f2 nv p1 p2 p3).1 = (o_X5_narrowSame f2 p1 p2 p3).2 := by have hm := ml_narrowSame nv p1 p2 p3 hka2; rw [hm] <;> rfl
  have qn_narrowSame : (o_L_narrowSame f2 nv p1 p2 p3).2 = if (o_X5_narrowSame f2 p1 p2 p3).2 = 0 then (if (o_X5_narrowSame f2 p1 p2 p3).1 = true then 1 else 0) else nv := by have hm := ml_narrowSame nv p1 p2 p3 hka2; rw [hm] <;> rfl
  refine lv_aload_n hx hb dL_law_2868 rfl (lv_at hl 1 rfl) ?_
  refine lv_aload_n hx hb dL_law_2869 rfl (lv_at hl 0 rfl) ?_
  refine lv_iload hx hb dL_law_2870 (lv_at hl 4 rfl) ?_
  refine lv_iconst (v := 1) hx hb dL_law_2872 (by decide +kernel) ?_
  refine lv_iadd hx hb dL_law_2873 ?_
  rw [nI_1 i]
  refine xa_sld hx hb hX hbl hbA hS (k := i + 1) (by omega) hL hp1 dL_law_2874 ?_
  refine lv_aload_n hx hb dL_law_2875 rfl (lv_at hl 0 rfl) ?_
  refine lv_iload hx hb dL_law_2876 (lv_at hl 4 rfl) ?_
  refine lv_iconst (v := 2) hx hb dL_law_2878 (by decide +kernel) ?_
  refine lv_iadd hx hb dL_law_2879 ?_
  rw [nI_p2 i]
  refine xa_sld hx hb hX hbl hbA hS (k := i + 2) (by omega) hL hp2 dL_law_2880 ?_
  refine lv_aload_n hx hb dL_law_2881 rfl (lv_at hl 0 rfl) ?_
  refine lv_iload hx hb dL_law_2882 (lv_at hl 4 rfl) ?_
  refine lv_iconst (v := 3) hx hb dL_law_2884 (by decide +kernel) ?_
  refine lv_iadd hx hb dL_law_2885 ?_
  rw [nI_p3 i]
  refine xa_sld hx hb hX hbl hbA hS (k := i + 3) (by omega) hL hp3 dL_law_2886 ?_
  refine lv_aload_n hx hb dL_law_2887 rfl (lv_at hl 3 rfl) ?_
  have hPc := hP.sub (ws' := [(h0, eE h1 h2 kn), (h1, eR hw1 hc1 hb1 a1 r1), (hw1, eW true), (hc1, eA cy f1), (hb1, eA cy g1), (h2, eR hw2 hc2 hb2 a2 r2), (hw2, eW false), (hc2, eA cy f2), (hb2, eA cy g2), (ho, eO nv sv)]) [0, 1, 2, 3, 4, 5, 6, 7, 8, 9] rfl
  have hDc := hD.sub (ws' := [(h0, eE h1 h2 kn), (h1, eR hw1 hc1 hb1 a1 r1), (hw1, eW true), (hc1, eA cy f1), (hb1, eA cy g1), (h2, eR hw2 hc2 hb2 a2 r2), (hw2, eW false), (hc2, eA cy f2), (hb2, eA cy g2), (ho, eO nv sv)]) [0, 1, 2, 3, 4, 5, 6, 7, 8, 9] (by decide +kernel) rfl
  have hKc := hK.sub (tys' := [(cy, .long)]) [0] rfl
  have hFc := va_free (wc := [(h0, eE h1 h2 kn), (h1, eR hw1 hc1 hb1 a1 r1), (hw1, eW true), (hc1, eA cy f1), (hb1, eA cy g1), (h2, eR hw2 hc2 hb2 a2 r2), (hw2, eW false), (hc2, eA cy f2), (hb2, eA cy g2), (ho, eO nv sv)]) hD hS hA [0, 1, 2, 3, 4, 5, 6, 7, 8, 9] rfl
  refine va_calli (vx_runSW (As := [.ref h0, .int p1, .int p2, .int p3, .ref ho]) (rest := []) ⟨hx, hb, hml, hown, hts⟩ (k_L_narrowSame l hfl dC dI cy h0 h1 hw1 hc1 hb1 h2 hw2 hc2 hb2 a1 r1 f1 g1 a2 r2 f2 g2 kn ho nv sv H.size N p1 p2 p3) (vx_cwSW 5 hts gL_law_L_narrowSame rfl rfl rfl (by decide +kernel) ⟨Nat.le_of_ble_eq_true rfl, Nat.le_of_ble_eq_true rfl⟩) (xL.preS hKc hPc hDc hAN (Nat.le_trans hN hS.1) (hG.kept hS hAN) hnc) rfl rfl hl.1 rfl (lv_room (Nat.le_of_ble_eq_true rfl)) dL_law_2888 ⟨(show _ ≤ 716141 by omega), (show _ ≤ 6947682 by omega)⟩) hS (fun q _ h => hFc q h) hFc (fun r_1 u t H locs ht hvm hw hB hz hk hS => ?_)
  replace hw : r_1 = (o_L_narrowSame f2 nv p1 p2 p3).1 := hw
  subst r_1
  obtain ⟨hP1, hD1⟩ := hB
  rw [ht] at hP1
  obtain ⟨hP, hD⟩ := va_join (wr := [(m0, eM m1 m2 th (r1 + r2) kn), (m1, eMR true mc1 a1), (mc1, eA cy f1), (m2, eMR false mc2 a2), (mc2, eA cy f2)]) (w1 := [(h0, eE h1 h2 kn), (h1, eR hw1 hc1 hb1 a1 r1), (hw1, eW true), (hc1, eA cy f1), (hb1, eA cy g1), (h2, eR hw2 hc2 hb2 a2 r2), (hw2, eW false), (hc2, eA cy f2), (hb2, eA cy g2), (ho, eO (o_L_narrowSame f2 nv p1 p2 p3).2 sv)]) hP hD [0, 1, 2, 3, 4, 5, 6, 7, 8, 9] [10, 11, 12, 13, 14] rfl rfl (by decide +kernel) (by decide +kernel) hk hFc hP1 hD1
  have hP := hP.sub (ws' := [(h0, eE h1 h2 kn), (h1, eR hw1 hc1 hb1 a1 r1), (hw1, eW true), (hc1, eA cy f1), (hb1, eA cy g1), (h2, eR hw2 hc2 hb2 a2 r2), (hw2, eW false), (hc2, eA cy f2), (hb2, eA cy g2), (ho, eO (o_L_narrowSame f2 nv p1 p2 p3).2 sv), (m0, eM m1 m2 th (r1 + r2) kn), (m1, eMR true mc1 a1), (mc1, eA cy f1), (m2, eMR false mc2 a2), (mc2, eA cy f2)]) [5, 6, 7, 8, 9, 10, 11, 12, 13, 14, 0, 1, 2, 3, 4] rfl
  have hD := hD.sub (ws' := [(h0, eE h1 h2 kn), (h1, eR hw1 hc1 hb1 a1 r1), (hw1, eW true), (hc1, eA cy f1), (hb1, eA cy g1), (h2, eR hw2 hc2 hb2 a2 r2), (hw2, eW false), (hc2, eA cy f2), (hb2, eA cy g2), (ho, eO (o_L_narrowSame f2 nv p1 p2 p3).2 sv), (m0, eM m1 m2 th (r1 + r2) kn), (m1, eMR true mc1 a1), (mc1, eA cy f1), (m2, eMR false mc2 a2), (mc2, eA cy f2)]) [5, 6, 7, 8, 9, 10, 11, 12, 13, 14, 0, 1, 2, 3, 4] (by decide +kernel) rfl
  refine lv_istore (lv' := [(5, .int ((o_L_narrowSame f2 nv p1 p2 p3).1)), (0, .ref b), (1, .ref h0), (2, .ref m0), (3, .ref ho), (4, .int (nI i))]) hx hb dL_law_2891 hl (by decide +kernel) rfl (fun ls hl => ?_)
  refine lv_aload_n hx hb dL_law_2893 rfl (lv_at hl 3 rfl) ?_
  refine lv_aload_n hx hb dL_law_2894 rfl (lv_at hl 1 rfl) ?_
  refine lv_iload hx hb dL_law_2895 (lv_at hl 5 rfl) ?_
  refine lv_iconst (v := 1) hx hb dL_law_2897 (by decide +kernel) ?_
  refine lv_iadd hx hb dL_law_2898 ?_
  rw [nI_1 i]
  refine xa_sld hx hb hX hbl hbA hS (k := i + 1) (by omega) hL hp1 dL_law_2899 ?_
  refine lv_aload_n hx hb dL_law_2900 rfl (lv_at hl 1 rfl) ?_
  refine lv_iload hx hb dL_law_2901 (lv_at hl 5 rfl) ?_
  refine lv_iconst (v := 2) hx hb dL_law_2903 (by decide +kernel) ?_
  refine lv_iadd hx hb dL_law_2904 ?_
  rw [nI_p2 i]
  refine xa_sld hx hb hX hbl hbA hS (k := i + 2) (by omega) hL hp2 dL_law_2905 ?_
  refine lv_aload_n hx hb dL_law_2906 rfl (lv_at hl 1 rfl) ?_
  refine lv_iload hx hb dL_law_2907 (lv_at hl 5 rfl) ?_
  refine lv_iconst (v := 3) hx hb dL_law_2909 (by decide +kernel) ?_
  refine lv_iadd hx hb dL_law_2910 ?_
  rw [nI_p3 i]
  refine xa_sld hx hb hX hbl hbA hS (k := i + 3) (by omega) hL hp3 dL_law_2911 ?_
  have hPc := hP.sub (ws' := [(m0, eM m1 m2 th (r1 + r2) kn), (m1, eMR true mc1 a1), (mc1, eA cy f1), (m2, eMR false mc2 a2), (mc2, eA cy f2)]) [10, 11, 12, 13, 14] rfl
  have hDc := hD.sub (ws' := [(m0, eM m1 m2 th (r1 + r2) kn), (m1, eMR true mc1 a1), (mc1, eA cy f1), (m2, eMR false mc2 a2), (mc2, eA cy f2)]) [10, 11, 12, 13, 14] (by decide +kernel) rfl
  have hKc := hK.sub (tys' := [(cy, .long)]) [0] rfl
  have hFc := va_free (wc := [(m0, eM m1 m2 th (r1 + r2) kn), (m1, eMR true mc1 a1), (mc1, eA cy f1), (m2, eMR false mc2 a2), (mc2, eA cy f2)]) hD hS hA [10, 11, 12, 13, 14] rfl
  refine va_calli (va_runV (As := [.int p1, .int p2, .int p3]) (rest := []) ⟨hx, hb, hml, hown, hts⟩ (k_X5_narrowSame l dC dI cy m0 m1 mc1 m2 mc2 a1 f1 a2 f2 th (r1 + r2) kn H.size N p1 p2 p3) (cwV 3 hts gL_law_X5_narrowSame rfl rfl rfl (by decide +kernel) ⟨Nat.le_of_ble_eq_true rfl, Nat.le_of_ble_eq_true rfl⟩) (xM.preV hKc hPc hDc hAN (Nat.le_trans hN hS.1) (hG.kept hS hAN) (ci := 7) (q0 := 0) rfl rfl) rfl rfl hl.1 rfl (lv_room (Nat.le_of_ble_eq_true rfl)) dL_law_2912 ⟨(show _ ≤ 716141 by omega), (show _ ≤ 6947682 by omega)⟩) hS (fun q _ h => hFc q h) hFc (fun r_2 u t H locs ht hvm hw hB hz hk hS => ?_)
  replace hw : r_2 = b2i ((o_X5_narrowSame f2 p1 p2 p3).1) := hw
  subst r_2
  obtain ⟨hP1, hD1⟩ := hB
  rw [ht] at hP1
  obtain ⟨hP, hD⟩ := va_join (wr := [(h0, eE h1 h2 kn), (h1, eR hw1 hc1 hb1 a1 r1), (hw1, eW true), (hc1, eA cy f1), (hb1, eA cy g1), (h2, eR hw2 hc2 hb2 a2 r2), (hw2, eW false), (hc2, eA cy f2), (hb2, eA cy g2), (ho, eO (o_L_narrowSame f2 nv p1 p2 p3).2 sv)]) (w1 := [(m0, eM m1 m2 (o_X5_narrowSame f2 p1 p2 p3).2 (r1 + r2) kn), (m1, eMR true mc1 a1), (mc1, eA cy f1), (m2, eMR false mc2 a2), (mc2, eA cy f2)]) hP hD [10, 11, 12, 13, 14] [0, 1, 2, 3, 4, 5, 6, 7, 8, 9] rfl rfl (by decide +kernel) (by decide +kernel) hk hFc hP1 hD1
  have hP := hP.sub (ws' := [(h0, eE h1 h2 kn), (h1, eR hw1 hc1 hb1 a1 r1), (hw1, eW true), (hc1, eA cy f1), (hb1, eA cy g1), (h2, eR hw2 hc2 hb2 a2 r2), (hw2, eW false), (hc2, eA cy f2), (hb2, eA cy g2), (ho, eO (o_L_narrowSame f2 nv p1 p2 p3).2 sv), (m0, eM m1 m2 (o_X5_narrowSame f2 p1 p2 p3).2 (r1 + r2) kn), (m1, eMR true mc1 a1), (mc1, eA cy f1), (m2, eMR false mc2 a2), (mc2, eA cy f2)]) [0, 1, 2, 3, 4, 5, 6, 7, 8, 9, 10, 11, 12, 13, 14] rfl
  have hD := hD.sub (ws' := [(h0, eE h1 h2 kn), (h1, eR hw1 hc1 hb1 a1 r1), (hw1, eW true), (hc1, eA cy f1), (hb1, eA cy g1), (h2, eR hw2 hc2 hb2 a2 r2), (hw2, eW false), (hc2, eA cy f2), (hb2, eA cy g2), (ho, eO (o_L_narrowSame f2 nv p1 p2 p3).2 sv), (m0, eM m1 m2 (o_X5_narrowSame f2 p1 p2 p3).2 (r1 + r2) kn), (m1, eMR true mc1 a1), (mc1, eA cy f1), (m2, eMR false mc2 a2), (mc2, eA cy f2)]) [0, 1, 2, 3, 4, 5, 6, 7, 8, 9, 10, 11, 12, 13, 14] (by decide +kernel) rfl
  refine lv_istore (lv' := [(6, .int (b2i ((o_X5_narrowSame f2 p1 p2 p3).1))), (5, .int ((o_L_narrowSame f2 nv p1 p2 p3).1)), (0, .ref b), (1, .ref h0), (2, .ref m0), (3, .ref ho), (4, .int (nI i))]) hx hb dL_law_2915 hl (by decide +kernel) rfl (fun ls hl => ?_)
  refine lv_aload_n hx hb dL_law_2917 rfl (lv_at hl 4 rfl) ?_
  have hPc := hP.sub (ws' := [(m0, eM m1 m2 (o_X5_narrowSame f2 p1 p2 p3).2 (r1 + r2) kn)]) [10] rfl
  have hKc := hK.sub (tys' := []) [] rfl
  refine va_calli (va_runV (As := []) (rest := []) ⟨hx, hb, hml, hown, hts⟩ (k_X5_thrown l dC dI m0 m1 m2 ((o_X5_narrowSame f2 p1 p2 p3).2) (r1 + r2) kn H.size) (cwV 0 hts gL_law_X5_thrown rfl rfl rfl (by decide +kernel) ⟨Nat.le_of_ble_eq_true rfl, Nat.le_of_ble_eq_true rfl⟩) (xB.preV hKc hPc (ci := 7) (q0 := 0) rfl rfl) rfl rfl hl.1 rfl (lv_room (Nat.le_of_ble_eq_true rfl)) dL_law_2918 ⟨(show _ ≤ 716141 by omega), (show _ ≤ 6947682 by omega)⟩) hS xA_old (fun q h => hA q (Nat.le_trans hS.1 h)) (fun r_3 u t H locs ht hvm hw hB hz hk hS => ?_)
  replace hw : r_3 = (o_X5_thrown ((o_X5_narrowSame f2 p1 p2 p3).2)) := hw
  subst r_3
  have hP := xP_keep hP hk
  refine lv_iload hx hb dL_law_2921 (lv_at hl 1 rfl) ?_
  refine lv_icmp_eq (tgt := 2928) hx hb dL_law_2923 (by decide +kernel) (fun c9 => ?_) (fun c9 => absurd (show o_X5_thrown _ = _ from (qx_narrowSame).symm) c9)
  refine lv_iload hx hb dL_law_2928 (lv_at hl 1 rfl) ?_
  refine lv_if_ne (tgt := 2953) hx hb dL_law_2930 (by decide +kernel) (fun c_4 => ?_) (fun c_4 => ?_)
  · skip
    refine lv_goto (tgt := 3660) hx hb dL_law_2953 (by decide +kernel) ?_
    refine W.widen (k := cells + 760) (n := slots + 4500) (by omega) (by omega) ?_
    exact K a1 r1 f1 g1 a2 r2 f2 g2 kn ((o_L_narrowSame f2 nv p1 p2 p3).2) sv ((o_X5_narrowSame f2 p1 p2 p3).2) a1 f1 a2 f2 (r1 + r2) kn _ _ _ rfl rfl rfl rfl rfl rfl hka1 hka2 hP hD hS (lv_sub hl [2, 3, 4, 5, 6] rfl)
  · skip
    refine lv_aload_n hx hb dL_law_2933 rfl (lv_at hl 5 rfl) ?_
    refine va_getN (D := (dC, dI)) (ci := 5) (v := .long ((o_L_narrowSame f2 nv p1 p2 p3).2)) (C := RX3) (T := TX3) (N := 2) hx hb hts (by decide +kernel) hown hK hP 9 rfl rfl 0 (by decide +kernel) (va_Nw.use rfl (hG.1 (.fieldLinkNest RL 13 "EdgefloatsLaw$Out" "n" "J" RL) (List.mem_of_getElem? (i := 6) rfl))) (fun _ h9 => h9) rfl dL_law_2934 ?_
    refine lv_iload hx hb dL_law_2937 (lv_at hl 0 rfl) ?_
    refine xz_eq (tgt := 2946) hx hb dL_law_2939 (by decide +kernel) (fun c_5 => ?_) (fun c_5 => ?_)
    · skip
      refine lv_lconst (v := 0) hx hb dL_law_2946 (by decide +kernel) ?_
      refine xc_eq (tgt := 2953) hx hb dL_law_2947 dL_law_2948 (by decide +kernel) (fun c9 => ?_) (fun c9 => absurd (((qn_narrowSame).trans (if_pos ((qx_narrowSame).symm.trans c_4))).trans (if_neg c_5)) c9)
      refine lv_goto (tgt := 3660) hx hb dL_law_2953 (by decide +kernel) ?_
      refine W.widen (k := cells + 760) (n := slots + 4500) (by omega) (by omega) ?_
      exact K a1 r1 f1 g1 a2 r2 f2 g2 kn ((o_L_narrowSame f2 nv p1 p2 p3).2) sv ((o_X5_narrowSame f2 p1 p2 p3).2) a1 f1 a2 f2 (r1 + r2) kn _ _ _ rfl rfl rfl rfl rfl rfl hka1 hka2 hP hD hS (lv_sub hl [2, 3, 4, 5, 6] rfl)
    · skip
      refine lv_lconst (v := 1) hx hb dL_law_2942 (by decide +kernel) ?_
      refine lv_goto (tgt := 2947) hx hb dL_law_2943 (by decide +kernel) ?_
      refine xc_eq (tgt := 2953) hx hb dL_law_2947 dL_law_2948 (by decide +kernel) (fun c9 => ?_) (fun c9 => absurd (((qn_narrowSame).trans (if_pos ((qx_narrowSame).symm.trans c_4))).trans (if_pos c_5)) c9)
      refine lv_goto (tgt := 3660) hx hb dL_law_2953 (by decide +kernel) ?_
      refine W.widen (k := cells + 760) (n := slots + 4500) (by omega) (by omega) ?_
      exact K a1 r1 f1 g1 a2 r2 f2 g2 kn ((o_L_narrowSame f2 nv p1 p2 p3).2) sv ((o_X5_narrowSame f2 p1 p2 p3).2) a1 f1 a2 f2 (r1 + r2) kn _ _ _ rfl rfl rfl rfl rfl rfl hka1 hka2 hP hD hS (lv_sub hl [2, 3, 4, 5, 6] rfl)
set_option maxHeartbeats 4000000 in
set_option maxRecDepth 100000 in
theorem st_37 (l : Launch) (p : Program) (e : Env) (s : State) (m : MethodId) (below : List Frame) (meth : Method) (c : Code) (b L N : Nat) (xs : Nat → Int32) (A : Nat → Prop) (dC : Nat → ClassId) (dI : Nat → Nat → Nat) (cy cB : ClassId) (h0 h1 hw1 hc1 hb1 h2 hw2 hc2 hb2 ho m0 m1 mc1 m2 mc2 : Nat) (C0 : lw_C l p e s m below meth c b L N xs A dC dI cy cB) (i : Nat) (hi : i + 4 ≤ L) (p1 p2 p3 : Int32) (hp1 : xs (i + 1) = p1) (hp2 : xs (i + 2) = p2) (hp3 : xs (i + 3) = p3) (cells slots : Nat) (hcs : cells + 760 ≤ 716141) (hss : slots + 4500 ≤ 6947682) (K : lw_K l p e s m below meth c b L N xs A dC dI cy cB h0 h1 hw1 hc1 hb1 h2 hw2 hc2 hb2 ho m0 m1 mc1 m2 mc2 i (cells + 760) (slots + 4500) 3660) (a1 : Int32) (r1 : Int32) (f1 : Nat → Int64) (g1 : Nat → Int64) (a2 : Int32) (r2 : Int32) (f2 : Nat → Int64) (g2 : Nat → Int64) (kn : Int32) (nv : Int64) (sv : Value) (th : Int32) (H : Heap) (locs : List Loc) (ls : Array Slot) (hka1 : okA true f1) (hka2 : okA false f2) (hP : va_P (dC, dI) xCl [(h0, eE h1 h2 kn), (h1, eR hw1 hc1 hb1 a1 r1), (hw1, eW true), (hc1, eA cy f1), (hb1, eA cy g1), (h2, eR hw2 hc2 hb2 a2 r2), (hw2, eW false), (hc2, eA cy f2), (hb2, eA cy g2), (ho, eO nv sv), (m0, eM m1 m2 th (r1 + r2) kn), (m1, eMR true mc1 a1), (mc1, eA cy f1), (m2, eMR false mc2 a2), (mc2, eA cy f2)] H) (hD : va_D A [(h0, eE h1 h2 kn), (h1, eR hw1 hc1 hb1 a1 r1), (hw1, eW true), (hc1, eA cy f1), (hb1, eA cy g1), (h2, eR hw2 hc2 hb2 a2 r2), (hw2, eW false), (hc2, eA cy f2), (hb2, eA cy g2), (ho, eO nv sv), (m0, eM m1 m2 th (r1 + r2) kn), (m1, eMR true mc1 a1), (mc1, eA cy f1), (m2, eMR false mc2 a2), (mc2, eA cy f2)]) (hS : va_S A s.heap H locs) (hl : lv_has ls 7 [(0, .ref b), (1, .ref h0), (2, .ref m0), (3, .ref ho), (4, .int (nI i))]) : W p l e room_1 s m #[Value.ref b] below meth c H locs cells slots (lw_Z below #[Value.ref b] s) (F0 m 2956 ls []) := by
  obtain ⟨hfl, hx, hb, hr, hml, hown, hts, hX, hbl, hbA, hlocks, hK, hG, hnc, hA, hAN, hN, hL, hT, hNs⟩ := id C0
  have hok2 := me_okF hka2
  have hsp1 : ∀ k, k < 8 → o_X1_isSpoiled true (f1 k) = false := fun k hk => (hka1 k hk).2
  have hsp2 : ∀ k, k < 8 → o_X1_isSpoiled false (f2 k) = false := fun k hk => (hka2 k hk).2
  have qx_narrowOther : (o_L_narrowOther nv p1 p2).1 = (o_X5_narrowOther p1 p2).2 := by have hm := ml_narrowOther nv p1 p2; rw [hm] <;> rfl
  have qn_narrowOther : (o_L_narrowOther nv p1 p2).2 = if (o_X5_narrowOther p1 p2).2 = 0 then (if (o_X5_narrowOther p1 p2).1 = true then 1 else 0) else nv := by have hm := ml_narrowOther nv p1 p2; rw [hm] <;> rfl
  refine lv_aload_n hx hb dL_law_2956 rfl (lv_at hl 1 rfl) ?_
  refine lv_aload_n hx hb dL_law_2957 rfl (lv_at hl 0 rfl) ?_
  refine lv_iload hx hb dL_law_2958 (lv_at hl 4 rfl) ?_
  refine lv_iconst (v := 1) hx hb dL_law_2960 (by decide +kernel) ?_
  refine lv_iadd hx hb dL_law_2961 ?_
  rw [nI_1 i]
  refine xa_sld hx hb hX hbl hbA hS (k := i + 1) (by omega) hL hp1 dL_law_2962 ?_
  refine lv_aload_n hx hb dL_law_2963 rfl (lv_at hl 0 rfl) ?_
  refine lv_iload hx hb dL_law_2964 (lv_at hl 4 rfl) ?_
  refine lv_iconst (v := 2) hx hb dL_law_2966 (by decide +kernel) ?_
  refine lv_iadd hx hb dL_law_2967 ?_
  rw [nI_p2 i]
  refine xa_sld hx hb hX hbl hbA hS (k := i + 2) (by omega) hL hp2 dL_law_2968 ?_
  refine lv_aload_n hx hb dL_law_2969 rfl (lv_at hl 3 rfl) ?_
  have hPc := hP.sub (ws' := [(h0, eE h1 h2 kn), (h1, eR hw1 hc1 hb1 a1 r1), (hw1, eW true), (hc1, eA cy f1), (hb1, eA cy g1), (h2, eR hw2 hc2 hb2 a2 r2), (hw2, eW false), (hc2, eA cy f2), (hb2, eA cy g2), (ho, eO nv sv)]) [0, 1, 2, 3, 4, 5, 6, 7, 8, 9] rfl
  have hDc := hD.sub (ws' := [(h0, eE h1 h2 kn), (h1, eR hw1 hc1 hb1 a1 r1), (hw1, eW true), (hc1, eA cy f1), (hb1, eA cy g1), (h2, eR hw2 hc2 hb2 a2 r2), (hw2, eW false), (hc2, eA cy f2), (hb2, eA cy g2), (ho, eO nv sv)]) [0, 1, 2, 3, 4, 5, 6, 7, 8, 9] (by decide +kernel) rfl
  have hKc := hK.sub (tys' := [(cy, .long)]) [0] rfl
  have hFc := va_free (wc := [(h0, eE h1 h2 kn), (h1, eR hw1 hc1 hb1 a1 r1), (hw1, eW true), (hc1, eA cy f1), (hb1, eA cy g1), (h2, eR hw2 hc2 hb2 a2 r2), (hw2, eW false), (hc2, eA cy f2), (hb2, eA cy g2), (ho, eO nv sv)]) hD hS hA [0, 1, 2, 3, 4, 5, 6, 7, 8, 9] rfl
  refine va_calli (vx_runSW (As := [.ref h0, .int p1, .int p2, .ref ho]) (rest := []) ⟨hx, hb, hml, hown, hts⟩ (k_L_narrowOther l hfl dC dI cy h0 h1 hw1 hc1 hb1 h2 hw2 hc2 hb2 a1 r1 f1 g1 a2 r2 f2 g2 kn ho nv sv H.size N p1 p2) (vx_cwSW 4 hts gL_law_L_narrowOther rfl rfl rfl (by decide +kernel) ⟨Nat.le_of_ble_eq_true rfl, Nat.le_of_ble_eq_true rfl⟩) (xL.preS hKc hPc hDc hAN (Nat.le_trans hN hS.1) (hG.kept hS hAN) hnc) rfl rfl hl.1 rfl (lv_room (Nat.le_of_ble_eq_true rfl)) dL_law_2970 ⟨(show _ ≤ 716141 by omega), (show _ ≤ 6947682 by omega)⟩) hS (fun q _ h => hFc q h) hFc (fun r_1 u t H locs ht hvm hw hB hz hk hS => ?_)
  replace hw : r_1 = (o_L_narrowOther nv p1 p2).1 := hw
  subst r_1
  obtain ⟨hP1, hD1⟩ := hB
  rw [ht] at hP1
  obtain ⟨hP, hD⟩ := va_join (wr := [(m0, eM m1 m2 th (r1 + r2) kn), (m1, eMR true mc1 a1), (mc1, eA cy f1), (m2, eMR false mc2 a2), (mc2, eA cy f2)]) (w1 := [(h0, eE h1 h2 kn), (h1, eR hw1 hc1 hb1 a1 r1), (hw1, eW true), (hc1, eA cy f1), (hb1, eA cy g1), (h2, eR hw2 hc2 hb2 a2 r2), (hw2, eW false), (hc2, eA cy f2), (hb2, eA cy g2), (ho, eO (o_L_narrowOther nv p1 p2).2 sv)]) hP hD [0, 1, 2, 3, 4, 5, 6, 7, 8, 9] [10, 11, 12, 13, 14] rfl rfl (by decide +kernel) (by decide +kernel) hk hFc hP1 hD1
  have hP := hP.sub (ws' := [(h0, eE h1 h2 kn), (h1, eR hw1 hc1 hb1 a1 r1), (hw1, eW true), (hc1, eA cy f1), (hb1, eA cy g1), (h2, eR hw2 hc2 hb2 a2 r2), (hw2, eW false), (hc2, eA cy f2), (hb2, eA cy g2), (ho, eO (o_L_narrowOther nv p1 p2).2 sv), (m0, eM m1 m2 th (r1 + r2) kn), (m1, eMR true mc1 a1), (mc1, eA cy f1), (m2, eMR false mc2 a2), (mc2, eA cy f2)]) [5, 6, 7, 8, 9, 10, 11, 12, 13, 14, 0, 1, 2, 3, 4] rfl
  have hD := hD.sub (ws' := [(h0, eE h1 h2 kn), (h1, eR hw1 hc1 hb1 a1 r1), (hw1, eW true), (hc1, eA cy f1), (hb1, eA cy g1), (h2, eR hw2 hc2 hb2 a2 r2), (hw2, eW false), (hc2, eA cy f2), (hb2, eA cy g2), (ho, eO (o_L_narrowOther nv p1 p2).2 sv), (m0, eM m1 m2 th (r1 + r2) kn), (m1, eMR true mc1 a1), (mc1, eA cy f1), (m2, eMR false mc2 a2), (mc2, eA cy f2)]) [5, 6, 7, 8, 9, 10, 11, 12, 13, 14, 0, 1, 2, 3, 4] (by decide +kernel) rfl
  refine lv_istore (lv' := [(5, .int ((o_L_narrowOther nv p1 p2).1)), (0, .ref b), (1, .ref h0), (2, .ref m0), (3, .ref ho), (4, .int (nI i))]) hx hb dL_law_2973 hl (by decide +kernel) rfl (fun ls hl => ?_)
  refine lv_aload_n hx hb dL_law_2975 rfl (lv_at hl 3 rfl) ?_
  refine lv_aload_n hx hb dL_law_2976 rfl (lv_at hl 1 rfl) ?_
  refine lv_iload hx hb dL_law_2977 (lv_at hl 5 rfl) ?_
  refine lv_iconst (v := 1) hx hb dL_law_2979 (by decide +kernel) ?_
  refine lv_iadd hx hb dL_law_2980 ?_
  rw [nI_1 i]
  refine xa_sld hx hb hX hbl hbA hS (k := i + 1) (by omega) hL hp1 dL_law_2981 ?_
  refine lv_aload_n hx hb dL_law_2982 rfl (lv_at hl 1 rfl) ?_
  refine lv_iload hx hb dL_law_2983 (lv_at hl 5 rfl) ?_
  refine lv_iconst (v := 2) hx hb dL_law_2985 (by decide +kernel) ?_
  refine lv_iadd hx hb dL_law_2986 ?_
  rw [nI_p2 i]
  refine xa_sld hx hb hX hbl hbA hS (k := i + 2) (by omega) hL hp2 dL_law_2987 ?_
  have hPc := hP.sub (ws' := [(m0, eM m1 m2 th (r1 + r2) kn), (m1, eMR true mc1 a1), (mc1, eA cy f1), (m2, eMR false mc2 a2), (mc2, eA cy f2)]) [10, 11, 12, 13, 14] rfl
  have hDc := hD.sub (ws' := [(m0, eM m1 m2 th (r1 + r2) kn), (m1, eMR true mc1 a1), (mc1, eA cy f1), (m2, eMR false mc2 a2), (mc2, eA cy f2)]) [10, 11, 12, 13, 14] (by decide +kernel) rfl
  have hKc := hK.sub (tys' := [(cy, .long)]) [0] rfl
  have hFc := va_free (wc := [(m0, eM m1 m2 th (r1 + r2) kn), (m1, eMR true mc1 a1), (mc1, eA cy f1), (m2, eMR false mc2 a2), (mc2, eA cy f2)]) hD hS hA [10, 11, 12, 13, 14] rfl
  refine va_calli (va_runV (As := [.int p1, .int p2]) (rest := []) ⟨hx, hb, hml, hown, hts⟩ (k_X5_narrowOther l dC dI cy m0 m1 mc1 m2 mc2 a1 f1 a2 f2 th (r1 + r2) kn H.size N p1 p2) (cwV 2 hts gL_law_X5_narrowOther rfl rfl rfl (by decide +kernel) ⟨Nat.le_of_ble_eq_true rfl, Nat.le_of_ble_eq_true rfl⟩) (xM.preV hKc hPc hDc hAN (Nat.le_trans hN hS.1) (hG.kept hS hAN) (ci := 7) (q0 := 0) rfl rfl) rfl rfl hl.1 rfl (lv_room (Nat.le_of_ble_eq_true rfl)) dL_law_2988 ⟨(show _ ≤ 716141 by omega), (show _ ≤ 6947682 by omega)⟩) hS (fun q _ h => hFc q h) hFc (fun r_2 u t H locs ht hvm hw hB hz hk hS => ?_)
  replace hw : r_2 = b2i ((o_X5_narrowOther p1 p2).1) := hw
  subst r_2
  obtain ⟨hP1, hD1⟩ := hB
  rw [ht] at hP1
  obtain ⟨hP, hD⟩ := va_join (wr := [(h0, eE h1 h2 kn), (h1, eR hw1 hc1 hb1 a1 r1), (hw1, eW true), (hc1, eA cy f1), (hb1, eA cy g1), (h2, eR hw2 hc2 hb2 a2 r2), (hw2, eW false), (hc2, eA cy f2), (hb2, eA cy g2), (ho, eO (o_L_narrowOther nv p1 p2).2 sv)]) (w1 := [(m0, eM m1 m2 (o_X5_narrowOther p1 p2).2 (r1 + r2) kn), (m1, eMR true mc1 a1), (mc1, eA cy f1), (m2, eMR false mc2 a2), (mc2, eA cy f2)]) hP hD [10, 11, 12, 13, 14] [0, 1, 2, 3, 4, 5, 6, 7, 8, 9] rfl rfl (by decide +kernel) (by decide +kernel) hk hFc hP1 hD1
  have hP := hP.sub (ws' := [(h0, eE h1 h2 kn), (h1, eR hw1 hc1 hb1 a1 r1), (hw1, eW true), (hc1, eA cy f1), (hb1, eA cy g1), (h2, eR hw2 hc2 hb2 a2 r2), (hw2, eW false), (hc2, eA cy f2), (hb2, eA cy g2), (ho, eO (o_L_narrowOther nv p1 p2).2 sv), (m0, eM m1 m2 (o_X5_narrowOther p1 p2).2 (r1 + r2) kn), (m1, eMR true mc1 a1), (mc1, eA cy f1), (m2, eMR false mc2 a2), (mc2, eA cy f2)]) [0, 1, 2, 3, 4, 5, 6, 7, 8, 9, 10, 11, 12, 13, 14] rfl
  have hD := hD.sub (ws' := [(h0, eE h1 h2 kn), (h1, eR hw1 hc1 hb1 a1 r1), (hw1, eW true), (hc1, eA cy f1), (hb1, eA cy g1), (h2, eR hw2 hc2 hb2 a2 r2), (hw2, eW false), (hc2, eA cy f2), (hb2, eA cy g2), (ho, eO (o_L_narrowOther nv p1 p2).2 sv), (m0, eM m1 m2 (o_X5_narrowOther p1 p2).2 (r1 + r2) kn), (m1, eMR true mc1 a1), (mc1, eA cy f1), (m2, eMR false mc2 a2), (mc2, eA cy f2)]) [0, 1, 2, 3, 4, 5, 6, 7, 8, 9, 10, 11, 12, 13, 14] (by decide +kernel) rfl
  refine lv_istore (lv' := [(6, .int (b2i ((o_X5_narrowOther p1 p2).1))), (5, .int ((o_L_narrowOther nv p1 p2).1)), (0, .ref b), (1, .ref h0), (2, .ref m0), (3, .ref ho), (4, .int (nI i))]) hx hb dL_law_2991 hl (by decide +kernel) rfl (fun ls hl => ?_)
  refine lv_aload_n hx hb dL_law_2993 rfl (lv_at hl 4 rfl) ?_
  have hPc := hP.sub (ws' := [(m0, eM m1 m2 (o_X5_narrowOther p1 p2).2 (r1 + r2) kn)]) [10] rfl
  have hKc := hK.sub (tys' := []) [] rfl
  refine va_calli (va_runV (As := []) (rest := []) ⟨hx, hb, hml, hown, hts⟩ (k_X5_thrown l dC dI m0 m1 m2 ((o_X5_narrowOther p1 p2).2) (r1 + r2) kn H.size) (cwV 0 hts gL_law_X5_thrown rfl rfl rfl (by decide +kernel) ⟨Nat.le_of_ble_eq_true rfl, Nat.le_of_ble_eq_true rfl⟩) (xB.preV hKc hPc (ci := 7) (q0 := 0) rfl rfl) rfl rfl hl.1 rfl (lv_room (Nat.le_of_ble_eq_true rfl)) dL_law_2994 ⟨(show _ ≤ 716141 by omega), (show _ ≤ 6947682 by omega)⟩) hS xA_old (fun q h => hA q (Nat.le_trans hS.1 h)) (fun r_3 u t H locs ht hvm hw hB hz hk hS => ?_)
  replace hw : r_3 = (o_X5_thrown ((o_X5_narrowOther p1 p2).2)) := hw
  subst r_3
  have hP := xP_keep hP hk
  refine lv_iload hx hb dL_law_2997 (lv_at hl 1 rfl) ?_
  refine lv_icmp_eq (tgt := 3004) hx hb dL_law_2999 (by decide +kernel) (fun c9 => ?_) (fun c9 => absurd (show o_X5_thrown _ = _ from (qx_narrowOther).symm) c9)
  refine lv_iload hx hb dL_law_3004 (lv_at hl 1 rfl) ?_
  refine lv_if_ne (tgt := 3029) hx hb dL_law_3006 (by decide +kernel) (fun c_4 => ?_) (fun c_4 => ?_)
  · skip
    refine lv_goto (tgt := 3660) hx hb dL_law_3029 (by decide +kernel) ?_
    refine W.widen (k := cells + 760) (n := slots + 4500) (by omega) (by omega) ?_
    exact K a1 r1 f1 g1 a2 r2 f2 g2 kn ((o_L_narrowOther nv p1 p2).2) sv ((o_X5_narrowOther p1 p2).2) a1 f1 a2 f2 (r1 + r2) kn _ _ _ rfl rfl rfl rfl rfl rfl hka1 hka2 hP hD hS (lv_sub hl [2, 3, 4, 5, 6] rfl)
  · skip
    refine lv_aload_n hx hb dL_law_3009 rfl (lv_at hl 5 rfl) ?_
    refine va_getN (D := (dC, dI)) (ci := 5) (v := .long ((o_L_narrowOther nv p1 p2).2)) (C := RX3) (T := TX3) (N := 2) hx hb hts (by decide +kernel) hown hK hP 9 rfl rfl 0 (by decide +kernel) (va_Nw.use rfl (hG.1 (.fieldLinkNest RL 13 "EdgefloatsLaw$Out" "n" "J" RL) (List.mem_of_getElem? (i := 6) rfl))) (fun _ h9 => h9) rfl dL_law_3010 ?_
    refine lv_iload hx hb dL_law_3013 (lv_at hl 0 rfl) ?_
    refine xz_eq (tgt := 3022) hx hb dL_law_3015 (by decide +kernel) (fun c_5 => ?_) (fun c_5 => ?_)
    · skip
      refine lv_lconst (v := 0) hx hb dL_law_3022 (by decide +kernel) ?_
      refine xc_eq (tgt := 3029) hx hb dL_law_3023 dL_law_3024 (by decide +kernel) (fun c9 => ?_) (fun c9 => absurd (((qn_narrowOther).trans (if_pos ((qx_narrowOther).symm.trans c_4))).trans (if_neg c_5)) c9)
      refine lv_goto (tgt := 3660) hx hb dL_law_3029 (by decide +kernel) ?_
      refine W.widen (k := cells + 760) (n := slots + 4500) (by omega) (by omega) ?_
      exact K a1 r1 f1 g1 a2 r2 f2 g2 kn ((o_L_narrowOther nv p1 p2).2) sv ((o_X5_narrowOther p1 p2).2) a1 f1 a2 f2 (r1 + r2) kn _ _ _ rfl rfl rfl rfl rfl rfl hka1 hka2 hP hD hS (lv_sub hl [2, 3, 4, 5, 6] rfl)
    · skip
      refine lv_lconst (v := 1) hx hb dL_law_3018 (by decide +kernel) ?_
      refine lv_goto (tgt := 3023) hx hb dL_law_3019 (by decide +kernel) ?_
      refine xc_eq (tgt := 3029) hx hb dL_law_3023 dL_law_3024 (by decide +kernel) (fun c9 => ?_) (fun c9 => absurd (((qn_narrowOther).trans (if_pos ((qx_narrowOther).symm.trans c_4))).trans (if_pos c_5)) c9)
      refine lv_goto (tgt := 3660) hx hb dL_law_3029 (by decide +kernel) ?_
      refine W.widen (k := cells + 760) (n := slots + 4500) (by omega) (by omega) ?_
      exact K a1 r1 f1 g1 a2 r2 f2 g2 kn ((o_L_narrowOther nv p1 p2).2) sv ((o_X5_narrowOther p1 p2).2) a1 f1 a2 f2 (r1 + r2) kn _ _ _ rfl rfl rfl rfl rfl rfl hka1 hka2 hP hD hS (lv_sub hl [2, 3, 4, 5, 6] rfl)
set_option maxHeartbeats 4000000 in
set_option maxRecDepth 100000 in
theorem st_38 (l : Launch) (p : Program) (e : Env) (s : State) (m : MethodId) (below : List Frame) (meth : Method) (c : Code) (b L N : Nat) (xs : Nat → Int32) (A : Nat → Prop) (dC : Nat → ClassId) (dI : Nat → Nat → Nat) (cy cB : ClassId) (h0 h1 hw1 hc1 hb1 h2 hw2 hc2 hb2 ho m0 m1 mc1 m2 mc2 : Nat) (C0 : lw_C l p e s m below meth c b L N xs A dC dI cy cB) (i : Nat) (hi : i + 4 ≤ L) (p1 p2 p3 : Int32) (hp1 : xs (i + 1) = p1) (hp2 : xs (i + 2) = p2) (hp3 : xs (i + 3) = p3) (cells slots : Nat) (hcs : cells + 760 ≤ 716141) (hss : slots + 4500 ≤ 6947682) (K : lw_K l p e s m below meth c b L N xs A dC dI cy cB h0 h1 hw1 hc1 hb1 h2 hw2 hc2 hb2 ho m0 m1 mc1 m2 mc2 i (cells + 760) (slots + 4500) 3660) (a1 : Int32) (r1 : Int32) (f1 : Nat → Int64) (g1 : Nat → Int64) (a2 : Int32) (r2 : Int32) (f2 : Nat → Int64) (g2 : Nat → Int64) (kn : Int32) (nv : Int64) (sv : Value) (th : Int32) (H : Heap) (locs : List Loc) (ls : Array Slot) (hka1 : okA true f1) (hka2 : okA false f2) (hP : va_P (dC, dI) xCl [(h0, eE h1 h2 kn), (h1, eR hw1 hc1 hb1 a1 r1), (hw1, eW true), (hc1, eA cy f1), (hb1, eA cy g1), (h2, eR hw2 hc2 hb2 a2 r2), (hw2, eW false), (hc2, eA cy f2), (hb2, eA cy g2), (ho, eO nv sv), (m0, eM m1 m2 th (r1 + r2) kn), (m1, eMR true mc1 a1), (mc1, eA cy f1), (m2, eMR false mc2 a2), (mc2, eA cy f2)] H) (hD : va_D A [(h0, eE h1 h2 kn), (h1, eR hw1 hc1 hb1 a1 r1), (hw1, eW true), (hc1, eA cy f1), (hb1, eA cy g1), (h2, eR hw2 hc2 hb2 a2 r2), (hw2, eW false), (hc2, eA cy f2), (hb2, eA cy g2), (ho, eO nv sv), (m0, eM m1 m2 th (r1 + r2) kn), (m1, eMR true mc1 a1), (mc1, eA cy f1), (m2, eMR false mc2 a2), (mc2, eA cy f2)]) (hS : va_S A s.heap H locs) (hl : lv_has ls 7 [(0, .ref b), (1, .ref h0), (2, .ref m0), (3, .ref ho), (4, .int (nI i))]) : W p l e room_1 s m #[Value.ref b] below meth c H locs cells slots (lw_Z below #[Value.ref b] s) (F0 m 3032 ls []) := by
  obtain ⟨hfl, hx, hb, hr, hml, hown, hts, hX, hbl, hbA, hlocks, hK, hG, hnc, hA, hAN, hN, hL, hT, hNs⟩ := id C0
  have hok2 := me_okF hka2
  have hsp1 : ∀ k, k < 8 → o_X1_isSpoiled true (f1 k) = false := fun k hk => (hka1 k hk).2
  have hsp2 : ∀ k, k < 8 → o_X1_isSpoiled false (f2 k) = false := fun k hk => (hka2 k hk).2
  have qx_narrowLike : (o_L_narrowLike f2 nv p1 p2).1 = (o_X5_narrowLike f2 p1 p2).2 := by have hm := ml_narrowLike nv p1 p2 hka2; rw [hm] <;> rfl
  have qn_narrowLike : (o_L_narrowLike f2 nv p1 p2).2 = if (o_X5_narrowLike f2 p1 p2).2 = 0 then (if (o_X5_narrowLike f2 p1 p2).1 = true then 1 else 0) else nv := by have hm := ml_narrowLike nv p1 p2 hka2; rw [hm] <;> rfl
  refine lv_aload_n hx hb dL_law_3032 rfl (lv_at hl 1 rfl) ?_
  refine lv_aload_n hx hb dL_law_3033 rfl (lv_at hl 0 rfl) ?_
  refine lv_iload hx hb dL_law_3034 (lv_at hl 4 rfl) ?_
  refine lv_iconst (v := 1) hx hb dL_law_3036 (by decide +kernel) ?_
  refine lv_iadd hx hb dL_law_3037 ?_
  rw [nI_1 i]
  refine xa_sld hx hb hX hbl hbA hS (k := i + 1) (by omega) hL hp1 dL_law_3038 ?_
  refine lv_aload_n hx hb dL_law_3039 rfl (lv_at hl 0 rfl) ?_
  refine lv_iload hx hb dL_law_3040 (lv_at hl 4 rfl) ?_
  refine lv_iconst (v := 2) hx hb dL_law_3042 (by decide +kernel) ?_
  refine lv_iadd hx hb dL_law_3043 ?_
  rw [nI_p2 i]
  refine xa_sld hx hb hX hbl hbA hS (k := i + 2) (by omega) hL hp2 dL_law_3044 ?_
  refine lv_aload_n hx hb dL_law_3045 rfl (lv_at hl 3 rfl) ?_
  have hPc := hP.sub (ws' := [(h0, eE h1 h2 kn), (h1, eR hw1 hc1 hb1 a1 r1), (hw1, eW true), (hc1, eA cy f1), (hb1, eA cy g1), (h2, eR hw2 hc2 hb2 a2 r2), (hw2, eW false), (hc2, eA cy f2), (hb2, eA cy g2), (ho, eO nv sv)]) [0, 1, 2, 3, 4, 5, 6, 7, 8, 9] rfl
  have hDc := hD.sub (ws' := [(h0, eE h1 h2 kn), (h1, eR hw1 hc1 hb1 a1 r1), (hw1, eW true), (hc1, eA cy f1), (hb1, eA cy g1), (h2, eR hw2 hc2 hb2 a2 r2), (hw2, eW false), (hc2, eA cy f2), (hb2, eA cy g2), (ho, eO nv sv)]) [0, 1, 2, 3, 4, 5, 6, 7, 8, 9] (by decide +kernel) rfl
  have hKc := hK.sub (tys' := [(cy, .long)]) [0] rfl
  have hFc := va_free (wc := [(h0, eE h1 h2 kn), (h1, eR hw1 hc1 hb1 a1 r1), (hw1, eW true), (hc1, eA cy f1), (hb1, eA cy g1), (h2, eR hw2 hc2 hb2 a2 r2), (hw2, eW false), (hc2, eA cy f2), (hb2, eA cy g2), (ho, eO nv sv)]) hD hS hA [0, 1, 2, 3, 4, 5, 6, 7, 8, 9] rfl
  refine va_calli (vx_runSW (As := [.ref h0, .int p1, .int p2, .ref ho]) (rest := []) ⟨hx, hb, hml, hown, hts⟩ (k_L_narrowLike l hfl dC dI cy h0 h1 hw1 hc1 hb1 h2 hw2 hc2 hb2 a1 r1 f1 g1 a2 r2 f2 g2 kn ho nv sv H.size N p1 p2) (vx_cwSW 4 hts gL_law_L_narrowLike rfl rfl rfl (by decide +kernel) ⟨Nat.le_of_ble_eq_true rfl, Nat.le_of_ble_eq_true rfl⟩) (xL.preS hKc hPc hDc hAN (Nat.le_trans hN hS.1) (hG.kept hS hAN) hnc) rfl rfl hl.1 rfl (lv_room (Nat.le_of_ble_eq_true rfl)) dL_law_3046 ⟨(show _ ≤ 716141 by omega), (show _ ≤ 6947682 by omega)⟩) hS (fun q _ h => hFc q h) hFc (fun r_1 u t H locs ht hvm hw hB hz hk hS => ?_)
  replace hw : r_1 = (o_L_narrowLike f2 nv p1 p2).1 := hw
  subst r_1
  obtain ⟨hP1, hD1⟩ := hB
  rw [ht] at hP1
  obtain ⟨hP, hD⟩ := va_join (wr := [(m0, eM m1 m2 th (r1 + r2) kn), (m1, eMR true mc1 a1), (mc1, eA cy f1), (m2, eMR false mc2 a2), (mc2, eA cy f2)]) (w1 := [(h0, eE h1 h2 kn), (h1, eR hw1 hc1 hb1 a1 r1), (hw1, eW true), (hc1, eA cy f1), (hb1, eA cy g1), (h2, eR hw2 hc2 hb2 a2 r2), (hw2, eW false), (hc2, eA cy f2), (hb2, eA cy g2), (ho, eO (o_L_narrowLike f2 nv p1 p2).2 sv)]) hP hD [0, 1, 2, 3, 4, 5, 6, 7, 8, 9] [10, 11, 12, 13, 14] rfl rfl (by decide +kernel) (by decide +kernel) hk hFc hP1 hD1
  have hP := hP.sub (ws' := [(h0, eE h1 h2 kn), (h1, eR hw1 hc1 hb1 a1 r1), (hw1, eW true), (hc1, eA cy f1), (hb1, eA cy g1), (h2, eR hw2 hc2 hb2 a2 r2), (hw2, eW false), (hc2, eA cy f2), (hb2, eA cy g2), (ho, eO (o_L_narrowLike f2 nv p1 p2).2 sv), (m0, eM m1 m2 th (r1 + r2) kn), (m1, eMR true mc1 a1), (mc1, eA cy f1), (m2, eMR false mc2 a2), (mc2, eA cy f2)]) [5, 6, 7, 8, 9, 10, 11, 12, 13, 14, 0, 1, 2, 3, 4] rfl
  have hD := hD.sub (ws' := [(h0, eE h1 h2 kn), (h1, eR hw1 hc1 hb1 a1 r1), (hw1, eW true), (hc1, eA cy f1), (hb1, eA cy g1), (h2, eR hw2 hc2 hb2 a2 r2), (hw2, eW false), (hc2, eA cy f2), (hb2, eA cy g2), (ho, eO (o_L_narrowLike f2 nv p1 p2).2 sv), (m0, eM m1 m2 th (r1 + r2) kn), (m1, eMR true mc1 a1), (mc1, eA cy f1), (m2, eMR false mc2 a2), (mc2, eA cy f2)]) [5, 6, 7, 8, 9, 10, 11, 12, 13, 14, 0, 1, 2, 3, 4] (by decide +kernel) rfl
  refine lv_istore (lv' := [(5, .int ((o_L_narrowLike f2 nv p1 p2).1)), (0, .ref b), (1, .ref h0), (2, .ref m0), (3, .ref ho), (4, .int (nI i))]) hx hb dL_law_3049 hl (by decide +kernel) rfl (fun ls hl => ?_)
  refine lv_aload_n hx hb dL_law_3051 rfl (lv_at hl 3 rfl) ?_
  refine lv_aload_n hx hb dL_law_3052 rfl (lv_at hl 1 rfl) ?_
  refine lv_iload hx hb dL_law_3053 (lv_at hl 5 rfl) ?_
  refine lv_iconst (v := 1) hx hb dL_law_3055 (by decide +kernel) ?_
  refine lv_iadd hx hb dL_law_3056 ?_
  rw [nI_1 i]
  refine xa_sld hx hb hX hbl hbA hS (k := i + 1) (by omega) hL hp1 dL_law_3057 ?_
  refine lv_aload_n hx hb dL_law_3058 rfl (lv_at hl 1 rfl) ?_
  refine lv_iload hx hb dL_law_3059 (lv_at hl 5 rfl) ?_
  refine lv_iconst (v := 2) hx hb dL_law_3061 (by decide +kernel) ?_
  refine lv_iadd hx hb dL_law_3062 ?_
  rw [nI_p2 i]
  refine xa_sld hx hb hX hbl hbA hS (k := i + 2) (by omega) hL hp2 dL_law_3063 ?_
  have hPc := hP.sub (ws' := [(m0, eM m1 m2 th (r1 + r2) kn), (m1, eMR true mc1 a1), (mc1, eA cy f1), (m2, eMR false mc2 a2), (mc2, eA cy f2)]) [10, 11, 12, 13, 14] rfl
  have hDc := hD.sub (ws' := [(m0, eM m1 m2 th (r1 + r2) kn), (m1, eMR true mc1 a1), (mc1, eA cy f1), (m2, eMR false mc2 a2), (mc2, eA cy f2)]) [10, 11, 12, 13, 14] (by decide +kernel) rfl
  have hKc := hK.sub (tys' := [(cy, .long)]) [0] rfl
  have hFc := va_free (wc := [(m0, eM m1 m2 th (r1 + r2) kn), (m1, eMR true mc1 a1), (mc1, eA cy f1), (m2, eMR false mc2 a2), (mc2, eA cy f2)]) hD hS hA [10, 11, 12, 13, 14] rfl
  refine va_calli (va_runV (As := [.int p1, .int p2]) (rest := []) ⟨hx, hb, hml, hown, hts⟩ (k_X5_narrowLike l dC dI cy m0 m1 mc1 m2 mc2 a1 f1 a2 f2 th (r1 + r2) kn H.size N p1 p2) (cwV 2 hts gL_law_X5_narrowLike rfl rfl rfl (by decide +kernel) ⟨Nat.le_of_ble_eq_true rfl, Nat.le_of_ble_eq_true rfl⟩) (xM.preV hKc hPc hDc hAN (Nat.le_trans hN hS.1) (hG.kept hS hAN) (ci := 7) (q0 := 0) rfl rfl) rfl rfl hl.1 rfl (lv_room (Nat.le_of_ble_eq_true rfl)) dL_law_3064 ⟨(show _ ≤ 716141 by omega), (show _ ≤ 6947682 by omega)⟩) hS (fun q _ h => hFc q h) hFc (fun r_2 u t H locs ht hvm hw hB hz hk hS => ?_)
  replace hw : r_2 = b2i ((o_X5_narrowLike f2 p1 p2).1) := hw
  subst r_2
  obtain ⟨hP1, hD1⟩ := hB
  rw [ht] at hP1
  obtain ⟨hP, hD⟩ := va_join (wr := [(h0, eE h1 h2 kn), (h1, eR hw1 hc1 hb1 a1 r1), (hw1, eW true), (hc1, eA cy f1), (hb1, eA cy g1), (h2, eR hw2 hc2 hb2 a2 r2), (hw2, eW false), (hc2, eA cy f2), (hb2, eA cy g2), (ho, eO (o_L_narrowLike f2 nv p1 p2).2 sv)]) (w1 := [(m0, eM m1 m2 (o_X5_narrowLike f2 p1 p2).2 (r1 + r2) kn), (m1, eMR true mc1 a1), (mc1, eA cy f1), (m2, eMR false mc2 a2), (mc2, eA cy f2)]) hP hD [10, 11, 12, 13, 14] [0, 1, 2, 3, 4, 5, 6, 7, 8, 9] rfl rfl (by decide +kernel) (by decide +kernel) hk hFc hP1 hD1
  have hP := hP.sub (ws' := [(h0, eE h1 h2 kn), (h1, eR hw1 hc1 hb1 a1 r1), (hw1, eW true), (hc1, eA cy f1), (hb1, eA cy g1), (h2, eR hw2 hc2 hb2 a2 r2), (hw2, eW false), (hc2, eA cy f2), (hb2, eA cy g2), (ho, eO (o_L_narrowLike f2 nv p1 p2).2 sv), (m0, eM m1 m2 (o_X5_narrowLike f2 p1 p2).2 (r1 + r2) kn), (m1, eMR true mc1 a1), (mc1, eA cy f1), (m2, eMR false mc2 a2), (mc2, eA cy f2)]) [0, 1, 2, 3, 4, 5, 6, 7, 8, 9, 10, 11, 12, 13, 14] rfl
  have hD := hD.sub (ws' := [(h0, eE h1 h2 kn), (h1, eR hw1 hc1 hb1 a1 r1), (hw1, eW true), (hc1, eA cy f1), (hb1, eA cy g1), (h2, eR hw2 hc2 hb2 a2 r2), (hw2, eW false), (hc2, eA cy f2), (hb2, eA cy g2), (ho, eO (o_L_narrowLike f2 nv p1 p2).2 sv), (m0, eM m1 m2 (o_X5_narrowLike f2 p1 p2).2 (r1 + r2) kn), (m1, eMR true mc1 a1), (mc1, eA cy f1), (m2, eMR false mc2 a2), (mc2, eA cy f2)]) [0, 1, 2, 3, 4, 5, 6, 7, 8, 9, 10, 11, 12, 13, 14] (by decide +kernel) rfl
  refine lv_istore (lv' := [(6, .int (b2i ((o_X5_narrowLike f2 p1 p2).1))), (5, .int ((o_L_narrowLike f2 nv p1 p2).1)), (0, .ref b), (1, .ref h0), (2, .ref m0), (3, .ref ho), (4, .int (nI i))]) hx hb dL_law_3067 hl (by decide +kernel) rfl (fun ls hl => ?_)
  refine lv_aload_n hx hb dL_law_3069 rfl (lv_at hl 4 rfl) ?_
  have hPc := hP.sub (ws' := [(m0, eM m1 m2 (o_X5_narrowLike f2 p1 p2).2 (r1 + r2) kn)]) [10] rfl
  have hKc := hK.sub (tys' := []) [] rfl
  refine va_calli (va_runV (As := []) (rest := []) ⟨hx, hb, hml, hown, hts⟩ (k_X5_thrown l dC dI m0 m1 m2 ((o_X5_narrowLike f2 p1 p2).2) (r1 + r2) kn H.size) (cwV 0 hts gL_law_X5_thrown rfl rfl rfl (by decide +kernel) ⟨Nat.le_of_ble_eq_true rfl, Nat.le_of_ble_eq_true rfl⟩) (xB.preV hKc hPc (ci := 7) (q0 := 0) rfl rfl) rfl rfl hl.1 rfl (lv_room (Nat.le_of_ble_eq_true rfl)) dL_law_3070 ⟨(show _ ≤ 716141 by omega), (show _ ≤ 6947682 by omega)⟩) hS xA_old (fun q h => hA q (Nat.le_trans hS.1 h)) (fun r_3 u t H locs ht hvm hw hB hz hk hS => ?_)
  replace hw : r_3 = (o_X5_thrown ((o_X5_narrowLike f2 p1 p2).2)) := hw
  subst r_3
  have hP := xP_keep hP hk
  refine lv_iload hx hb dL_law_3073 (lv_at hl 1 rfl) ?_
  refine lv_icmp_eq (tgt := 3080) hx hb dL_law_3075 (by decide +kernel) (fun c9 => ?_) (fun c9 => absurd (show o_X5_thrown _ = _ from (qx_narrowLike).symm) c9)
  refine lv_iload hx hb dL_law_3080 (lv_at hl 1 rfl) ?_
  refine lv_if_ne (tgt := 3105) hx hb dL_law_3082 (by decide +kernel) (fun c_4 => ?_) (fun c_4 => ?_)
  · skip
    refine lv_goto (tgt := 3660) hx hb dL_law_3105 (by decide +kernel) ?_
    refine W.widen (k := cells + 760) (n := slots + 4500) (by omega) (by omega) ?_
    exact K a1 r1 f1 g1 a2 r2 f2 g2 kn ((o_L_narrowLike f2 nv p1 p2).2) sv ((o_X5_narrowLike f2 p1 p2).2) a1 f1 a2 f2 (r1 + r2) kn _ _ _ rfl rfl rfl rfl rfl rfl hka1 hka2 hP hD hS (lv_sub hl [2, 3, 4, 5, 6] rfl)
  · skip
    refine lv_aload_n hx hb dL_law_3085 rfl (lv_at hl 5 rfl) ?_
    refine va_getN (D := (dC, dI)) (ci := 5) (v := .long ((o_L_narrowLike f2 nv p1 p2).2)) (C := RX3) (T := TX3) (N := 2) hx hb hts (by decide +kernel) hown hK hP 9 rfl rfl 0 (by decide +kernel) (va_Nw.use rfl (hG.1 (.fieldLinkNest RL 13 "EdgefloatsLaw$Out" "n" "J" RL) (List.mem_of_getElem? (i := 6) rfl))) (fun _ h9 => h9) rfl dL_law_3086 ?_
    refine lv_iload hx hb dL_law_3089 (lv_at hl 0 rfl) ?_
    refine xz_eq (tgt := 3098) hx hb dL_law_3091 (by decide +kernel) (fun c_5 => ?_) (fun c_5 => ?_)
    · skip
      refine lv_lconst (v := 0) hx hb dL_law_3098 (by decide +kernel) ?_
      refine xc_eq (tgt := 3105) hx hb dL_law_3099 dL_law_3100 (by decide +kernel) (fun c9 => ?_) (fun c9 => absurd (((qn_narrowLike).trans (if_pos ((qx_narrowLike).symm.trans c_4))).trans (if_neg c_5)) c9)
      refine lv_goto (tgt := 3660) hx hb dL_law_3105 (by decide +kernel) ?_
      refine W.widen (k := cells + 760) (n := slots + 4500) (by omega) (by omega) ?_
      exact K a1 r1 f1 g1 a2 r2 f2 g2 kn ((o_L_narrowLike f2 nv p1 p2).2) sv ((o_X5_narrowLike f2 p1 p2).2) a1 f1 a2 f2 (r1 + r2) kn _ _ _ rfl rfl rfl rfl rfl rfl hka1 hka2 hP hD hS (lv_sub hl [2, 3, 4, 5, 6] rfl)
    · skip
      refine lv_lconst (v := 1) hx hb dL_law_3094 (by decide +kernel) ?_
      refine lv_goto (tgt := 3099) hx hb dL_law_3095 (by decide +kernel) ?_
      refine xc_eq (tgt := 3105) hx hb dL_law_3099 dL_law_3100 (by decide +kernel) (fun c9 => ?_) (fun c9 => absurd (((qn_narrowLike).trans (if_pos ((qx_narrowLike).symm.trans c_4))).trans (if_pos c_5)) c9)
      refine lv_goto (tgt := 3660) hx hb dL_law_3105 (by decide +kernel) ?_
      refine W.widen (k := cells + 760) (n := slots + 4500) (by omega) (by omega) ?_
      exact K a1 r1 f1 g1 a2 r2 f2 g2 kn ((o_L_narrowLike f2 nv p1 p2).2) sv ((o_X5_narrowLike f2 p1 p2).2) a1 f1 a2 f2 (r1 + r2) kn _ _ _ rfl rfl rfl rfl rfl rfl hka1 hka2 hP hD hS (lv_sub hl [2, 3, 4, 5, 6] rfl)
set_option maxHeartbeats 4000000 in
set_option maxRecDepth 100000 in
theorem st_39 (l : Launch) (p : Program) (e : Env) (s : State) (m : MethodId) (below : List Frame) (meth : Method) (c : Code) (b L N : Nat) (xs : Nat → Int32) (A : Nat → Prop) (dC : Nat → ClassId) (dI : Nat → Nat → Nat) (cy cB : ClassId) (h0 h1 hw1 hc1 hb1 h2 hw2 hc2 hb2 ho m0 m1 mc1 m2 mc2 : Nat) (C0 : lw_C l p e s m below meth c b L N xs A dC dI cy cB) (i : Nat) (hi : i + 4 ≤ L) (p1 p2 p3 : Int32) (hp1 : xs (i + 1) = p1) (hp2 : xs (i + 2) = p2) (hp3 : xs (i + 3) = p3) (cells slots : Nat) (hcs : cells + 760 ≤ 716141) (hss : slots + 4500 ≤ 6947682) (K : lw_K l p e s m below meth c b L N xs A dC dI cy cB h0 h1 hw1 hc1 hb1 h2 hw2 hc2 hb2 ho m0 m1 mc1 m2 mc2 i (cells + 760) (slots + 4500) 3660) (a1 : Int32) (r1 : Int32) (f1 : Nat → Int64) (g1 : Nat → Int64) (a2 : Int32) (r2 : Int32) (f2 : Nat → Int64) (g2 : Nat → Int64) (kn : Int32) (nv : Int64) (sv : Value) (th : Int32) (H : Heap) (locs : List Loc) (ls : Array Slot) (hka1 : okA true f1) (hka2 : okA false f2) (hP : va_P (dC, dI) xCl [(h0, eE h1 h2 kn), (h1, eR hw1 hc1 hb1 a1 r1), (hw1, eW true), (hc1, eA cy f1), (hb1, eA cy g1), (h2, eR hw2 hc2 hb2 a2 r2), (hw2, eW false), (hc2, eA cy f2), (hb2, eA cy g2), (ho, eO nv sv), (m0, eM m1 m2 th (r1 + r2) kn), (m1, eMR true mc1 a1), (mc1, eA cy f1), (m2, eMR false mc2 a2), (mc2, eA cy f2)] H) (hD : va_D A [(h0, eE h1 h2 kn), (h1, eR hw1 hc1 hb1 a1 r1), (hw1, eW true), (hc1, eA cy f1), (hb1, eA cy g1), (h2, eR hw2 hc2 hb2 a2 r2), (hw2, eW false), (hc2, eA cy f2), (hb2, eA cy g2), (ho, eO nv sv), (m0, eM m1 m2 th (r1 + r2) kn), (m1, eMR true mc1 a1), (mc1, eA cy f1), (m2, eMR false mc2 a2), (mc2, eA cy f2)]) (hS : va_S A s.heap H locs) (hl : lv_has ls 7 [(0, .ref b), (1, .ref h0), (2, .ref m0), (3, .ref ho), (4, .int (nI i))]) : W p l e room_1 s m #[Value.ref b] below meth c H locs cells slots (lw_Z below #[Value.ref b] s) (F0 m 3108 ls []) := by
  obtain ⟨hfl, hx, hb, hr, hml, hown, hts, hX, hbl, hbA, hlocks, hK, hG, hnc, hA, hAN, hN, hL, hT, hNs⟩ := id C0
  have hok2 := me_okF hka2
  have hsp1 : ∀ k, k < 8 → o_X1_isSpoiled true (f1 k) = false := fun k hk => (hka1 k hk).2
  have hsp2 : ∀ k, k < 8 → o_X1_isSpoiled false (f2 k) = false := fun k hk => (hka2 k hk).2
  have qx_narrowBelow : (o_L_narrowBelow f2 nv p1 p2 false).1 = (o_X5_narrowBelow f2 p1 p2 false).2 := by have hm := ml_narrowBelow nv p1 p2 false hka2; rw [hm] <;> rfl
  have qn_narrowBelow : (o_L_narrowBelow f2 nv p1 p2 false).2 = if (o_X5_narrowBelow f2 p1 p2 false).2 = 0 then (if (o_X5_narrowBelow f2 p1 p2 false).1 = true then 1 else 0) else nv := by have hm := ml_narrowBelow nv p1 p2 false hka2; rw [hm] <;> rfl
  have qx_narrowBelow_1 : (o_L_narrowBelow f2 nv p1 p2 true).1 = (o_X5_narrowBelow f2 p1 p2 true).2 := by have hm := ml_narrowBelow nv p1 p2 true hka2; rw [hm] <;> rfl
  have qn_narrowBelow_1 : (o_L_narrowBelow f2 nv p1 p2 true).2 = if (o_X5_narrowBelow f2 p1 p2 true).2 = 0 then (if (o_X5_narrowBelow f2 p1 p2 true).1 = true then 1 else 0) else nv := by have hm := ml_narrowBelow nv p1 p2 true hka2; rw [hm] <;> rfl
  refine lv_aload_n hx hb dL_law_3108 rfl (lv_at hl 1 rfl) ?_
  refine lv_aload_n hx hb dL_law_3109 rfl (lv_at hl 0 rfl) ?_
  refine lv_iload hx hb dL_law_3110 (lv_at hl 4 rfl) ?_
  refine lv_iconst (v := 1) hx hb dL_law_3112 (by decide +kernel) ?_
  refine lv_iadd hx hb dL_law_3113 ?_
  rw [nI_1 i]
  refine xa_sld hx hb hX hbl hbA hS (k := i + 1) (by omega) hL hp1 dL_law_3114 ?_
  refine lv_aload_n hx hb dL_law_3115 rfl (lv_at hl 0 rfl) ?_
  refine lv_iload hx hb dL_law_3116 (lv_at hl 4 rfl) ?_
  refine lv_iconst (v := 2) hx hb dL_law_3118 (by decide +kernel) ?_
  refine lv_iadd hx hb dL_law_3119 ?_
  rw [nI_p2 i]
  refine xa_sld hx hb hX hbl hbA hS (k := i + 2) (by omega) hL hp2 dL_law_3120 ?_
  refine lv_aload_n hx hb dL_law_3121 rfl (lv_at hl 0 rfl) ?_
  refine lv_iload hx hb dL_law_3122 (lv_at hl 4 rfl) ?_
  refine lv_iconst (v := 3) hx hb dL_law_3124 (by decide +kernel) ?_
  refine lv_iadd hx hb dL_law_3125 ?_
  rw [nI_p3 i]
  refine xa_sld hx hb hX hbl hbA hS (k := i + 3) (by omega) hL hp3 dL_law_3126 ?_
  refine lv_if_eq (tgt := 3134) hx hb dL_law_3127 (by decide +kernel) (fun c_1 => ?_) (fun c_1 => ?_)
  · skip
    refine lv_iconst (v := 0) hx hb dL_law_3134 (by decide +kernel) ?_
    refine lv_aload_n hx hb dL_law_3135 rfl (lv_at hl 3 rfl) ?_
    have hPc := hP.sub (ws' := [(h0, eE h1 h2 kn), (h1, eR hw1 hc1 hb1 a1 r1), (hw1, eW true), (hc1, eA cy f1), (hb1, eA cy g1), (h2, eR hw2 hc2 hb2 a2 r2), (hw2, eW false), (hc2, eA cy f2), (hb2, eA cy g2), (ho, eO nv sv)]) [0, 1, 2, 3, 4, 5, 6, 7, 8, 9] rfl
    have hDc := hD.sub (ws' := [(h0, eE h1 h2 kn), (h1, eR hw1 hc1 hb1 a1 r1), (hw1, eW true), (hc1, eA cy f1), (hb1, eA cy g1), (h2, eR hw2 hc2 hb2 a2 r2), (hw2, eW false), (hc2, eA cy f2), (hb2, eA cy g2), (ho, eO nv sv)]) [0, 1, 2, 3, 4, 5, 6, 7, 8, 9] (by decide +kernel) rfl
    have hKc := hK.sub (tys' := [(cy, .long)]) [0] rfl
    have hFc := va_free (wc := [(h0, eE h1 h2 kn), (h1, eR hw1 hc1 hb1 a1 r1), (hw1, eW true), (hc1, eA cy f1), (hb1, eA cy g1), (h2, eR hw2 hc2 hb2 a2 r2), (hw2, eW false), (hc2, eA cy f2), (hb2, eA cy g2), (ho, eO nv sv)]) hD hS hA [0, 1, 2, 3, 4, 5, 6, 7, 8, 9] rfl
    refine va_calli (vx_runSW (As := [.ref h0, .int p1, .int p2, .int 0, .ref ho]) (rest := []) ⟨hx, hb, hml, hown, hts⟩ (k_L_narrowBelow l hfl dC dI cy h0 h1 hw1 hc1 hb1 h2 hw2 hc2 hb2 a1 r1 f1 g1 a2 r2 f2 g2 kn ho nv sv H.size N p1 p2 false) (vx_cwSW 5 hts gL_law_L_narrowBelow rfl rfl rfl (by decide +kernel) ⟨Nat.le_of_ble_eq_true rfl, Nat.le_of_ble_eq_true rfl⟩) (xL.preS hKc hPc hDc hAN (Nat.le_trans hN hS.1) (hG.kept hS hAN) hnc) rfl rfl hl.1 rfl (lv_room (Nat.le_of_ble_eq_true rfl)) dL_law_3136 ⟨(show _ ≤ 716141 by omega), (show _ ≤ 6947682 by omega)⟩) hS (fun q _ h => hFc q h) hFc (fun r_2 u t H locs ht hvm hw hB hz hk hS => ?_)
    replace hw : r_2 = (o_L_narrowBelow f2 nv p1 p2 false).1 := hw
    subst r_2
    obtain ⟨hP1, hD1⟩ := hB
    rw [ht] at hP1
    obtain ⟨hP, hD⟩ := va_join (wr := [(m0, eM m1 m2 th (r1 + r2) kn), (m1, eMR true mc1 a1), (mc1, eA cy f1), (m2, eMR false mc2 a2), (mc2, eA cy f2)]) (w1 := [(h0, eE h1 h2 kn), (h1, eR hw1 hc1 hb1 a1 r1), (hw1, eW true), (hc1, eA cy f1), (hb1, eA cy g1), (h2, eR hw2 hc2 hb2 a2 r2), (hw2, eW false), (hc2, eA cy f2), (hb2, eA cy g2), (ho, eO (o_L_narrowBelow f2 nv p1 p2 false).2 sv)]) hP hD [0, 1, 2, 3, 4, 5, 6, 7, 8, 9] [10, 11, 12, 13, 14] rfl rfl (by decide +kernel) (by decide +kernel) hk hFc hP1 hD1
    have hP := hP.sub (ws' := [(h0, eE h1 h2 kn), (h1, eR hw1 hc1 hb1 a1 r1), (hw1, eW true), (hc1, eA cy f1), (hb1, eA cy g1), (h2, eR hw2 hc2 hb2 a2 r2), (hw2, eW false), (hc2, eA cy f2), (hb2, eA cy g2), (ho, eO (o_L_narrowBelow f2 nv p1 p2 false).2 sv), (m0, eM m1 m2 th (r1 + r2) kn), (m1, eMR true mc1 a1), (mc1, eA cy f1), (m2, eMR false mc2 a2), (mc2, eA cy f2)]) [5, 6, 7, 8, 9, 10, 11, 12, 13, 14, 0, 1, 2, 3, 4] rfl
    have hD := hD.sub (ws' := [(h0, eE h1 h2 kn), (h1, eR hw1 hc1 hb1 a1 r1), (hw1, eW true), (hc1, eA cy f1), (hb1, eA cy g1), (h2, eR hw2 hc2 hb2 a2 r2), (hw2, eW false), (hc2, eA cy f2), (hb2, eA cy g2), (ho, eO (o_L_narrowBelow f2 nv p1 p2 false).2 sv), (m0, eM m1 m2 th (r1 + r2) kn), (m1, eMR true mc1 a1), (mc1, eA cy f1), (m2, eMR false mc2 a2), (mc2, eA cy f2)]) [5, 6, 7, 8, 9, 10, 11, 12, 13, 14, 0, 1, 2, 3, 4] (by decide +kernel) rfl
    refine lv_istore (lv' := [(5, .int ((o_L_narrowBelow f2 nv p1 p2 false).1)), (0, .ref b), (1, .ref h0), (2, .ref m0), (3, .ref ho), (4, .int (nI i))]) hx hb dL_law_3139 hl (by decide +kernel) rfl (fun ls hl => ?_)
    refine lv_aload_n hx hb dL_law_3141 rfl (lv_at hl 3 rfl) ?_
    refine lv_aload_n hx hb dL_law_3142 rfl (lv_at hl 1 rfl) ?_
    refine lv_iload hx hb dL_law_3143 (lv_at hl 5 rfl) ?_
    refine lv_iconst (v := 1) hx hb dL_law_3145 (by decide +kernel) ?_
    refine lv_iadd hx hb dL_law_3146 ?_
    rw [nI_1 i]
    refine xa_sld hx hb hX hbl hbA hS (k := i + 1) (by omega) hL hp1 dL_law_3147 ?_
    refine lv_aload_n hx hb dL_law_3148 rfl (lv_at hl 1 rfl) ?_
    refine lv_iload hx hb dL_law_3149 (lv_at hl 5 rfl) ?_
    refine lv_iconst (v := 2) hx hb dL_law_3151 (by decide +kernel) ?_
    refine lv_iadd hx hb dL_law_3152 ?_
    rw [nI_p2 i]
    refine xa_sld hx hb hX hbl hbA hS (k := i + 2) (by omega) hL hp2 dL_law_3153 ?_
    refine lv_aload_n hx hb dL_law_3154 rfl (lv_at hl 1 rfl) ?_
    refine lv_iload hx hb dL_law_3155 (lv_at hl 5 rfl) ?_
    refine lv_iconst (v := 3) hx hb dL_law_3157 (by decide +kernel) ?_
    refine lv_iadd hx hb dL_law_3158 ?_
    rw [nI_p3 i]
    refine xa_sld hx hb hX hbl hbA hS (k := i + 3) (by omega) hL hp3 dL_law_3159 ?_
    refine lv_if_eq (tgt := 3167) hx hb dL_law_3160 (by decide +kernel) (fun c9 => ?_) (fun c9 => absurd c_1 c9)
    refine lv_iconst (v := 0) hx hb dL_law_3167 (by decide +kernel) ?_
    have hPc := hP.sub (ws' := [(m0, eM m1 m2 th (r1 + r2) kn), (m1, eMR true mc1 a1), (mc1, eA cy f1), (m2, eMR false mc2 a2), (mc2, eA cy f2)]) [10, 11, 12, 13, 14] rfl
    have hDc := hD.sub (ws' := [(m0, eM m1 m2 th (r1 + r2) kn), (m1, eMR true mc1 a1), (mc1, eA cy f1), (m2, eMR false mc2 a2), (mc2, eA cy f2)]) [10, 11, 12, 13, 14] (by decide +kernel) rfl
    have hKc := hK.sub (tys' := [(cy, .long)]) [0] rfl
    have hFc := va_free (wc := [(m0, eM m1 m2 th (r1 + r2) kn), (m1, eMR true mc1 a1), (mc1, eA cy f1), (m2, eMR false mc2 a2), (mc2, eA cy f2)]) hD hS hA [10, 11, 12, 13, 14] rfl
    refine va_calli (va_runV (As := [.int p1, .int p2, .int 0]) (rest := []) ⟨hx, hb, hml, hown, hts⟩ (k_X5_narrowBelow l dC dI cy m0 m1 mc1 m2 mc2 a1 f1 a2 f2 th (r1 + r2) kn H.size N p1 p2 false) (cwV 3 hts gL_law_X5_narrowBelow rfl rfl rfl (by decide +kernel) ⟨Nat.le_of_ble_eq_true rfl, Nat.le_of_ble_eq_true rfl⟩) (xM.preV hKc hPc hDc hAN (Nat.le_trans hN hS.1) (hG.kept hS hAN) (ci := 7) (q0 := 0) rfl rfl) rfl rfl hl.1 rfl (lv_room (Nat.le_of_ble_eq_true rfl)) dL_law_3168 ⟨(show _ ≤ 716141 by omega), (show _ ≤ 6947682 by omega)⟩) hS (fun q _ h => hFc q h) hFc (fun r_3 u t H locs ht hvm hw hB hz hk hS => ?_)
    replace hw : r_3 = b2i ((o_X5_narrowBelow f2 p1 p2 false).1) := hw
    subst r_3
    obtain ⟨hP1, hD1⟩ := hB
    rw [ht] at hP1
    obtain ⟨hP, hD⟩ := va_join (wr := [(h0, eE h1 h2 kn), (h1, eR hw1 hc1 hb1 a1 r1), (hw1, eW true), (hc1, eA cy f1), (hb1, eA cy g1), (h2, eR hw2 hc2 hb2 a2 r2), (hw2, eW false), (hc2, eA cy f2), (hb2, eA cy g2), (ho, eO (o_L_narrowBelow f2 nv p1 p2 false).2 sv)]) (w1 := [(m0, eM m1 m2 (o_X5_narrowBelow f2 p1 p2 false).2 (r1 + r2) kn), (m1, eMR true mc1 a1), (mc1, eA cy f1), (m2, eMR false mc2 a2), (mc2, eA cy f2)]) hP hD [10, 11, 12, 13, 14] [0, 1, 2, 3, 4, 5, 6, 7, 8, 9] rfl rfl (by decide +kernel) (by decide +kernel) hk hFc hP1 hD1
    have hP := hP.sub (ws' := [(h0, eE h1 h2 kn), (h1, eR hw1 hc1 hb1 a1 r1), (hw1, eW true), (hc1, eA cy f1), (hb1, eA cy g1), (h2, eR hw2 hc2 hb2 a2 r2), (hw2, eW false), (hc2, eA cy f2), (hb2, eA cy g2), (ho, eO (o_L_narrowBelow f2 nv p1 p2 false).2 sv), (m0, eM m1 m2 (o_X5_narrowBelow f2 p1 p2 false).2 (r1 + r2) kn), (m1, eMR true mc1 a1), (mc1, eA cy f1), (m2, eMR false mc2 a2), (mc2, eA cy f2)]) [0, 1, 2, 3, 4, 5, 6, 7, 8, 9, 10, 11, 12, 13, 14] rfl
    have hD := hD.sub (ws' := [(h0, eE h1 h2 kn), (h1, eR hw1 hc1 hb1 a1 r1), (hw1, eW true), (hc1, eA cy f1), (hb1, eA cy g1), (h2, eR hw2 hc2 hb2 a2 r2), (hw2, eW false), (hc2, eA cy f2), (hb2, eA cy g2), (ho, eO (o_L_narrowBelow f2 nv p1 p2 false).2 sv), (m0, eM m1 m2 (o_X5_narrowBelow f2 p1 p2 false).2 (r1 + r2) kn), (m1, eMR true mc1 a1), (mc1, eA cy f1), (m2, eMR false mc2 a2), (mc2, eA cy f2)]) [0, 1, 2, 3, 4, 5, 6, 7, 8, 9, 10, 11, 12, 13, 14] (by decide +kernel) rfl
    refine lv_istore (lv' := [(6, .int (b2i ((o_X5_narrowBelow f2 p1 p2 false).1))), (5, .int ((o_L_narrowBelow f2 nv p1 p2 false).1)), (0, .ref b), (1, .ref h0), (2, .ref m0), (3, .ref ho), (4, .int (nI i))]) hx hb dL_law_3171 hl (by decide +kernel) rfl (fun ls hl => ?_)
    refine lv_aload_n hx hb dL_law_3173 rfl (lv_at hl 4 rfl) ?_
    have hPc := hP.sub (ws' := [(m0, eM m1 m2 (o_X5_narrowBelow f2 p1 p2 false).2 (r1 + r2) kn)]) [10] rfl
    have hKc := hK.sub (tys' := []) [] rfl
    refine va_calli (va_runV (As := []) (rest := []) ⟨hx, hb, hml, hown, hts⟩ (k_X5_thrown l dC dI m0 m1 m2 ((o_X5_narrowBelow f2 p1 p2 false).2) (r1 + r2) kn H.size) (cwV 0 hts gL_law_X5_thrown rfl rfl rfl (by decide +kernel) ⟨Nat.le_of_ble_eq_true rfl, Nat.le_of_ble_eq_true rfl⟩) (xB.preV hKc hPc (ci := 7) (q0 := 0) rfl rfl) rfl rfl hl.1 rfl (lv_room (Nat.le_of_ble_eq_true rfl)) dL_law_3174 ⟨(show _ ≤ 716141 by omega), (show _ ≤ 6947682 by omega)⟩) hS xA_old (fun q h => hA q (Nat.le_trans hS.1 h)) (fun r_4 u t H locs ht hvm hw hB hz hk hS => ?_)
    replace hw : r_4 = (o_X5_thrown ((o_X5_narrowBelow f2 p1 p2 false).2)) := hw
    subst r_4
    have hP := xP_keep hP hk
    refine lv_iload hx hb dL_law_3177 (lv_at hl 1 rfl) ?_
    refine lv_icmp_eq (tgt := 3184) hx hb dL_law_3179 (by decide +kernel) (fun c9 => ?_) (fun c9 => absurd (show o_X5_thrown _ = _ from (qx_narrowBelow).symm) c9)
    refine lv_iload hx hb dL_law_3184 (lv_at hl 1 rfl) ?_
    refine lv_if_ne (tgt := 3209) hx hb dL_law_3186 (by decide +kernel) (fun c_5 => ?_) (fun c_5 => ?_)
    · skip
      refine lv_goto (tgt := 3660) hx hb dL_law_3209 (by decide +kernel) ?_
      refine W.widen (k := cells + 760) (n := slots + 4500) (by omega) (by omega) ?_
      exact K a1 r1 f1 g1 a2 r2 f2 g2 kn ((o_L_narrowBelow f2 nv p1 p2 false).2) sv ((o_X5_narrowBelow f2 p1 p2 false).2) a1 f1 a2 f2 (r1 + r2) kn _ _ _ rfl rfl rfl rfl rfl rfl hka1 hka2 hP hD hS (lv_sub hl [2, 3, 4, 5, 6] rfl)
    · skip
      refine lv_aload_n hx hb dL_law_3189 rfl (lv_at hl 5 rfl) ?_
      refine va_getN (D := (dC, dI)) (ci := 5) (v := .long ((o_L_narrowBelow f2 nv p1 p2 false).2)) (C := RX3) (T := TX3) (N := 2) hx hb hts (by decide +kernel) hown hK hP 9 rfl rfl 0 (by decide +kernel) (va_Nw.use rfl (hG.1 (.fieldLinkNest RL 13 "EdgefloatsLaw$Out" "n" "J" RL) (List.mem_of_getElem? (i := 6) rfl))) (fun _ h9 => h9) rfl dL_law_3190 ?_
      refine lv_iload hx hb dL_law_3193 (lv_at hl 0 rfl) ?_
      refine xz_eq (tgt := 3202) hx hb dL_law_3195 (by decide +kernel) (fun c_6 => ?_) (fun c_6 => ?_)
      · skip
        refine lv_lconst (v := 0) hx hb dL_law_3202 (by decide +kernel) ?_
        refine xc_eq (tgt := 3209) hx hb dL_law_3203 dL_law_3204 (by decide +kernel) (fun c9 => ?_) (fun c9 => absurd (((qn_narrowBelow).trans (if_pos ((qx_narrowBelow).symm.trans c_5))).trans (if_neg c_6)) c9)
        refine lv_goto (tgt := 3660) hx hb dL_law_3209 (by decide +kernel) ?_
        refine W.widen (k := cells + 760) (n := slots + 4500) (by omega) (by omega) ?_
        exact K a1 r1 f1 g1 a2 r2 f2 g2 kn ((o_L_narrowBelow f2 nv p1 p2 false).2) sv ((o_X5_narrowBelow f2 p1 p2 false).2) a1 f1 a2 f2 (r1 + r2) kn _ _ _ rfl rfl rfl rfl rfl rfl hka1 hka2 hP hD hS (lv_sub hl [2, 3, 4, 5, 6] rfl)
      · skip
        refine lv_lconst (v := 1) hx hb dL_law_3198 (by decide +kernel) ?_
        refine lv_goto (tgt := 3203) hx hb dL_law_3199 (by decide +kernel) ?_
        refine xc_eq (tgt := 3209) hx hb dL_law_3203 dL_law_3204 (by decide +kernel) (fun c9 => ?_) (fun c9 => absurd (((qn_narrowBelow).trans (if_pos ((qx_narrowBelow).symm.trans c_5))).trans (if_pos c_6)) c9)
        refine lv_goto (tgt := 3660) hx hb dL_law_3209 (by decide +kernel) ?_
        refine W.widen (k := cells + 760) (n := slots + 4500) (by omega) (by omega) ?_
        exact K a1 r1 f1 g1 a2 r2 f2 g2 kn ((o_L_narrowBelow f2 nv p1 p2 false).2) sv ((o_X5_narrowBelow f2 p1 p2 false).2) a1 f1 a2 f2 (r1 + r2) kn _ _ _ rfl rfl rfl rfl rfl rfl hka1 hka2 hP hD hS (lv_sub hl [2, 3, 4, 5, 6] rfl)
  · skip
    refine lv_iconst (v := 1) hx hb dL_law_3130 (by decide +kernel) ?_
    refine lv_goto (tgt := 3135) hx hb dL_law_3131 (by decide +kernel) ?_
    refine lv_aload_n hx hb dL_law_3135 rfl (lv_at hl 3 rfl) ?_
    have hPc := hP.sub (ws' := [(h0, eE h1 h2 kn), (h1, eR hw1 hc1 hb1 a1 r1), (hw1, eW true), (hc1, eA cy f1), (hb1, eA cy g1), (h2, eR hw2 hc2 hb2 a2 r2), (hw2, eW false), (hc2, eA cy f2), (hb2, eA cy g2), (ho, eO nv sv)]) [0, 1, 2, 3, 4, 5, 6, 7, 8, 9] rfl
    have hDc := hD.sub (ws' := [(h0, eE h1 h2 kn), (h1, eR hw1 hc1 hb1 a1 r1), (hw1, eW true), (hc1, eA cy f1), (hb1, eA cy g1), (h2, eR hw2 hc2 hb2 a2 r2), (hw2, eW false), (hc2, eA cy f2), (hb2, eA cy g2), (ho, eO nv sv)]) [0, 1, 2, 3, 4, 5, 6, 7, 8, 9] (by decide +kernel) rfl
    have hKc := hK.sub (tys' := [(cy, .long)]) [0] rfl
    have hFc := va_free (wc := [(h0, eE h1 h2 kn), (h1, eR hw1 hc1 hb1 a1 r1), (hw1, eW true), (hc1, eA cy f1), (hb1, eA cy g1), (h2, eR hw2 hc2 hb2 a2 r2), (hw2, eW false), (hc2, eA cy f2), (hb2, eA cy g2), (ho, eO nv sv)]) hD hS hA [0, 1, 2, 3, 4, 5, 6, 7, 8, 9] rfl
    refine va_calli (vx_runSW (As := [.ref h0, .int p1, .int p2, .int 1, .ref ho]) (rest := []) ⟨hx, hb, hml, hown, hts⟩ (k_L_narrowBelow l hfl dC dI cy h0 h1 hw1 hc1 hb1 h2 hw2 hc2 hb2 a1 r1 f1 g1 a2 r2 f2 g2 kn ho nv sv H.size N p1 p2 true) (vx_cwSW 5 hts gL_law_L_narrowBelow rfl rfl rfl (by decide +kernel) ⟨Nat.le_of_ble_eq_true rfl, Nat.le_of_ble_eq_true rfl⟩) (xL.preS hKc hPc hDc hAN (Nat.le_trans hN hS.1) (hG.kept hS hAN) hnc) rfl rfl hl.1 rfl (lv_room (Nat.le_of_ble_eq_true rfl)) dL_law_3136 ⟨(show _ ≤ 716141 by omega), (show _ ≤ 6947682 by omega)⟩) hS (fun q _ h => hFc q h) hFc (fun r_7 u t H locs ht hvm hw hB hz hk hS => ?_)
    replace hw : r_7 = (o_L_narrowBelow f2 nv p1 p2 true).1 := hw
    subst r_7
    obtain ⟨hP1, hD1⟩ := hB
    rw [ht] at hP1
    obtain ⟨hP, hD⟩ := va_join (wr := [(m0, eM m1 m2 th (r1 + r2) kn), (m1, eMR true mc1 a1), (mc1, eA cy f1), (m2, eMR false mc2 a2), (mc2, eA cy f2)]) (w1 := [(h0, eE h1 h2 kn), (h1, eR hw1 hc1 hb1 a1 r1), (hw1, eW true), (hc1, eA cy f1), (hb1, eA cy g1), (h2, eR hw2 hc2 hb2 a2 r2), (hw2, eW false), (hc2, eA cy f2), (hb2, eA cy g2), (ho, eO (o_L_narrowBelow f2 nv p1 p2 true).2 sv)]) hP hD [0, 1, 2, 3, 4, 5, 6, 7, 8, 9] [10, 11, 12, 13, 14] rfl rfl (by decide +kernel) (by decide +kernel) hk hFc hP1 hD1
    have hP := hP.sub (ws' := [(h0, eE h1 h2 kn), (h1, eR hw1 hc1 hb1 a1 r1), (hw1, eW true), (hc1, eA cy f1), (hb1, eA cy g1), (h2, eR hw2 hc2 hb2 a2 r2), (hw2, eW false), (hc2, eA cy f2), (hb2, eA cy g2), (ho, eO (o_L_narrowBelow f2 nv p1 p2 true).2 sv), (m0, eM m1 m2 th (r1 + r2) kn), (m1, eMR true mc1 a1), (mc1, eA cy f1), (m2, eMR false mc2 a2), (mc2, eA cy f2)]) [5, 6, 7, 8, 9, 10, 11, 12, 13, 14, 0, 1, 2, 3, 4] rfl
    have hD := hD.sub (ws' := [(h0, eE h1 h2 kn), (h1, eR hw1 hc1 hb1 a1 r1), (hw1, eW true), (hc1, eA cy f1), (hb1, eA cy g1), (h2, eR hw2 hc2 hb2 a2 r2), (hw2, eW false), (hc2, eA cy f2), (hb2, eA cy g2), (ho, eO (o_L_narrowBelow f2 nv p1 p2 true).2 sv), (m0, eM m1 m2 th (r1 + r2) kn), (m1, eMR true mc1 a1), (mc1, eA cy f1), (m2, eMR false mc2 a2), (mc2, eA cy f2)]) [5, 6, 7, 8, 9, 10, 11, 12, 13, 14, 0, 1, 2, 3, 4] (by decide +kernel) rfl
    refine lv_istore (lv' := [(5, .int ((o_L_narrowBelow f2 nv p1 p2 true).1)), (0, .ref b), (1, .ref h0), (2, .ref m0), (3, .ref ho), (4, .int (nI i))]) hx hb dL_law_3139 hl (by decide +kernel) rfl (fun ls hl => ?_)
    refine lv_aload_n hx hb dL_law_3141 rfl (lv_at hl 3 rfl) ?_
    refine lv_aload_n hx hb dL_law_3142 rfl (lv_at hl 1 rfl) ?_
    refine lv_iload hx hb dL_law_3143 (lv_at hl 5 rfl) ?_
    refine lv_iconst (v := 1) hx hb dL_law_3145 (by decide +kernel) ?_
    refine lv_iadd hx hb dL_law_3146 ?_
    rw [nI_1 i]
    refine xa_sld hx hb hX hbl hbA hS (k := i + 1) (by omega) hL hp1 dL_law_3147 ?_
    refine lv_aload_n hx hb dL_law_3148 rfl (lv_at hl 1 rfl) ?_
    refine lv_iload hx hb dL_law_3149 (lv_at hl 5 rfl) ?_
    refine lv_iconst (v := 2) hx hb dL_law_3151 (by decide +kernel) ?_
    refine lv_iadd hx hb dL_law_3152 ?_
    rw [nI_p2 i]
    refine xa_sld hx hb hX hbl hbA hS (k := i + 2) (by omega) hL hp2 dL_law_3153 ?_
    refine lv_aload_n hx hb dL_law_3154 rfl (lv_at hl 1 rfl) ?_
    refine lv_iload hx hb dL_law_3155 (lv_at hl 5 rfl) ?_
    refine lv_iconst (v := 3) hx hb dL_law_3157 (by decide +kernel) ?_
    refine lv_iadd hx hb dL_law_3158 ?_
    rw [nI_p3 i]
    refine xa_sld hx hb hX hbl hbA hS (k := i + 3) (by omega) hL hp3 dL_law_3159 ?_
    refine lv_if_eq (tgt := 3167) hx hb dL_law_3160 (by decide +kernel) (fun c9 => absurd c9 c_1) (fun c9 => ?_)
    refine lv_iconst (v := 1) hx hb dL_law_3163 (by decide +kernel) ?_
    refine lv_goto (tgt := 3168) hx hb dL_law_3164 (by decide +kernel) ?_
    have hPc := hP.sub (ws' := [(m0, eM m1 m2 th (r1 + r2) kn), (m1, eMR true mc1 a1), (mc1, eA cy f1), (m2, eMR false mc2 a2), (mc2, eA cy f2)]) [10, 11, 12, 13, 14] rfl
    have hDc := hD.sub (ws' := [(m0, eM m1 m2 th (r1 + r2) kn), (m1, eMR true mc1 a1), (mc1, eA cy f1), (m2, eMR false mc2 a2), (mc2, eA cy f2)]) [10, 11, 12, 13, 14] (by decide +kernel) rfl
    have hKc := hK.sub (tys' := [(cy, .long)]) [0] rfl
    have hFc := va_free (wc := [(m0, eM m1 m2 th (r1 + r2) kn), (m1, eMR true mc1 a1), (mc1, eA cy f1), (m2, eMR false mc2 a2), (mc2, eA cy f2)]) hD hS hA [10, 11, 12, 13, 14] rfl
    refine va_calli (va_runV (As := [.int p1, .int p2, .int 1]) (rest := []) ⟨hx, hb, hml, hown, hts⟩ (k_X5_narrowBelow l dC dI cy m0 m1 mc1 m2 mc2 a1 f1 a2 f2 th (r1 + r2) kn H.size N p1 p2 true) (cwV 3 hts gL_law_X5_narrowBelow rfl rfl rfl (by decide +kernel) ⟨Nat.le_of_ble_eq_true rfl, Nat.le_of_ble_eq_true rfl⟩) (xM.preV hKc hPc hDc hAN (Nat.le_trans hN hS.1) (hG.kept hS hAN) (ci := 7) (q0 := 0) rfl rfl) rfl rfl hl.1 rfl (lv_room (Nat.le_of_ble_eq_true rfl)) dL_law_3168 ⟨(show _ ≤ 716141 by omega), (show _ ≤ 6947682 by omega)⟩) hS (fun q _ h => hFc q h) hFc (fun r_8 u t H locs ht hvm hw hB hz hk hS => ?_)
    replace hw : r_8 = b2i ((o_X5_narrowBelow f2 p1 p2 true).1) := hw
    subst r_8
    obtain ⟨hP1, hD1⟩ := hB
    rw [ht] at hP1
    obtain ⟨hP, hD⟩ := va_join (wr := [(h0, eE h1 h2 kn), (h1, eR hw1 hc1 hb1 a1 r1), (hw1, eW true), (hc1, eA cy f1), (hb1, eA cy g1), (h2, eR hw2 hc2 hb2 a2 r2), (hw2, eW false), (hc2, eA cy f2), (hb2, eA cy g2), (ho, eO (o_L_narrowBelow f2 nv p1 p2 true).2 sv)]) (w1 := [(m0, eM m1 m2 (o_X5_narrowBelow f2 p1 p2 true).2 (r1 + r2) kn), (m1, eMR true mc1 a1), (mc1, eA cy f1), (m2, eMR false mc2 a2), (mc2, eA cy f2)]) hP hD [10, 11, 12, 13, 14] [0, 1, 2, 3, 4, 5, 6, 7, 8, 9] rfl rfl (by decide +kernel) (by decide +kernel) hk hFc hP1 hD1
    have hP := hP.sub (ws' := [(h0, eE h1 h2 kn), (h1, eR hw1 hc1 hb1 a1 r1), (hw1, eW true), (hc1, eA cy f1), (hb1, eA cy g1), (h2, eR hw2 hc2 hb2 a2 r2), (hw2, eW false), (hc2, eA cy f2), (hb2, eA cy g2), (ho, eO (o_L_narrowBelow f2 nv p1 p2 true).2 sv), (m0, eM m1 m2 (o_X5_narrowBelow f2 p1 p2 true).2 (r1 + r2) kn), (m1, eMR true mc1 a1), (mc1, eA cy f1), (m2, eMR false mc2 a2), (mc2, eA cy f2)]) [0, 1, 2, 3, 4, 5, 6, 7, 8, 9, 10, 11, 12, 13, 14] rfl
    have hD := hD.sub (ws' := [(h0, eE h1 h2 kn), (h1, eR hw1 hc1 hb1 a1 r1), (hw1, eW true), (hc1, eA cy f1), (hb1, eA cy g1), (h2, eR hw2 hc2 hb2 a2 r2), (hw2, eW false), (hc2, eA cy f2), (hb2, eA cy g2), (ho, eO (o_L_narrowBelow f2 nv p1 p2 true).2 sv), (m0, eM m1 m2 (o_X5_narrowBelow f2 p1 p2 true).2 (r1 + r2) kn), (m1, eMR true mc1 a1), (mc1, eA cy f1), (m2, eMR false mc2 a2), (mc2, eA cy f2)]) [0, 1, 2, 3, 4, 5, 6, 7, 8, 9, 10, 11, 12, 13, 14] (by decide +kernel) rfl
    refine lv_istore (lv' := [(6, .int (b2i ((o_X5_narrowBelow f2 p1 p2 true).1))), (5, .int ((o_L_narrowBelow f2 nv p1 p2 true).1)), (0, .ref b), (1, .ref h0), (2, .ref m0), (3, .ref ho), (4, .int (nI i))]) hx hb dL_law_3171 hl (by decide +kernel) rfl (fun ls hl => ?_)
    refine lv_aload_n hx hb dL_law_3173 rfl (lv_at hl 4 rfl) ?_
    have hPc := hP.sub (ws' := [(m0, eM m1 m2 (o_X5_narrowBelow f2 p1 p2 true).2 (r1 + r2) kn)]) [10] rfl
    have hKc := hK.sub (tys' := []) [] rfl
    refine va_calli (va_runV (As := []) (rest := []) ⟨hx, hb, hml, hown, hts⟩ (k_X5_thrown l dC dI m0 m1 m2 ((o_X5_narrowBelow f2 p1 p2 true).2) (r1 + r2) kn H.size) (cwV 0 hts gL_law_X5_thrown rfl rfl rfl (by decide +kernel) ⟨Nat.le_of_ble_eq_true rfl, Nat.le_of_ble_eq_true rfl⟩) (xB.preV hKc hPc (ci := 7) (q0 := 0) rfl rfl) rfl rfl hl.1 rfl (lv_room (Nat.le_of_ble_eq_true rfl)) dL_law_3174 ⟨(show _ ≤ 716141 by omega), (show _ ≤ 6947682 by omega)⟩) hS xA_old (fun q h => hA q (Nat.le_trans hS.1 h)) (fun r_9 u t H locs ht hvm hw hB hz hk hS => ?_)
    replace hw : r_9 = (o_X5_thrown ((o_X5_narrowBelow f2 p1 p2 true).2)) := hw
    subst r_9
    have hP := xP_keep hP hk
    refine lv_iload hx hb dL_law_3177 (lv_at hl 1 rfl) ?_
    refine lv_icmp_eq (tgt := 3184) hx hb dL_law_3179 (by decide +kernel) (fun c9 => ?_) (fun c9 => absurd (show o_X5_thrown _ = _ from (qx_narrowBelow_1).symm) c9)
    refine lv_iload hx hb dL_law_3184 (lv_at hl 1 rfl) ?_
    refine lv_if_ne (tgt := 3209) hx hb dL_law_3186 (by decide +kernel) (fun c_10 => ?_) (fun c_10 => ?_)
    · skip
      refine lv_goto (tgt := 3660) hx hb dL_law_3209 (by decide +kernel) ?_
      refine W.widen (k := cells + 760) (n := slots + 4500) (by omega) (by omega) ?_
      exact K a1 r1 f1 g1 a2 r2 f2 g2 kn ((o_L_narrowBelow f2 nv p1 p2 true).2) sv ((o_X5_narrowBelow f2 p1 p2 true).2) a1 f1 a2 f2 (r1 + r2) kn _ _ _ rfl rfl rfl rfl rfl rfl hka1 hka2 hP hD hS (lv_sub hl [2, 3, 4, 5, 6] rfl)
    · skip
      refine lv_aload_n hx hb dL_law_3189 rfl (lv_at hl 5 rfl) ?_
      refine va_getN (D := (dC, dI)) (ci := 5) (v := .long ((o_L_narrowBelow f2 nv p1 p2 true).2)) (C := RX3) (T := TX3) (N := 2) hx hb hts (by decide +kernel) hown hK hP 9 rfl rfl 0 (by decide +kernel) (va_Nw.use rfl (hG.1 (.fieldLinkNest RL 13 "EdgefloatsLaw$Out" "n" "J" RL) (List.mem_of_getElem? (i := 6) rfl))) (fun _ h9 => h9) rfl dL_law_3190 ?_
      refine lv_iload hx hb dL_law_3193 (lv_at hl 0 rfl) ?_
      refine xz_eq (tgt := 3202) hx hb dL_law_3195 (by decide +kernel) (fun c_11 => ?_) (fun c_11 => ?_)
      · skip
        refine lv_lconst (v := 0) hx hb dL_law_3202 (by decide +kernel) ?_
        refine xc_eq (tgt := 3209) hx hb dL_law_3203 dL_law_3204 (by decide +kernel) (fun c9 => ?_) (fun c9 => absurd (((qn_narrowBelow_1).trans (if_pos ((qx_narrowBelow_1).symm.trans c_10))).trans (if_neg c_11)) c9)
        refine lv_goto (tgt := 3660) hx hb dL_law_3209 (by decide +kernel) ?_
        refine W.widen (k := cells + 760) (n := slots + 4500) (by omega) (by omega) ?_
        exact K a1 r1 f1 g1 a2 r2 f2 g2 kn ((o_L_narrowBelow f2 nv p1 p2 true).2) sv ((o_X5_narrowBelow f2 p1 p2 true).2) a1 f1 a2 f2 (r1 + r2) kn _ _ _ rfl rfl rfl rfl rfl rfl hka1 hka2 hP hD hS (lv_sub hl [2, 3, 4, 5, 6] rfl)
      · skip
        refine lv_lconst (v := 1) hx hb dL_law_3198 (by decide +kernel) ?_
        refine lv_goto (tgt := 3203) hx hb dL_law_3199 (by decide +kernel) ?_
        refine xc_eq (tgt := 3209) hx hb dL_law_3203 dL_law_3204 (by decide +kernel) (fun c9 => ?_) (fun c9 => absurd (((qn_narrowBelow_1).trans (if_pos ((qx_narrowBelow_1).symm.trans c_10))).trans (if_pos c_11)) c9)
        refine lv_goto (tgt := 3660) hx hb dL_law_3209 (by decide +kernel) ?_
        refine W.widen (k := cells + 760) (n := slots + 4500) (by omega) (by omega) ?_
        exact K a1 r1 f1 g1 a2 r2 f2 g2 kn ((o_L_narrowBelow f2 nv p1 p2 true).2) sv ((o_X5_narrowBelow f2 p1 p2 true).2) a1 f1 a2 f2 (r1 + r2) kn _ _ _ rfl rfl rfl rfl rfl rfl hka1 hka2 hP hD hS (lv_sub hl [2, 3, 4, 5, 6] rfl)
set_option maxHeartbeats 4000000 in
set_option maxRecDepth 100000 in
theorem st_40 (l : Launch) (p : Program) (e : Env) (s : State) (m : MethodId) (below : List Frame) (meth : Method) (c : Code) (b L N : Nat) (xs : Nat → Int32) (A : Nat → Prop) (dC : Nat → ClassId) (dI : Nat → Nat → Nat) (cy cB : ClassId) (h0 h1 hw1 hc1 hb1 h2 hw2 hc2 hb2 ho m0 m1 mc1 m2 mc2 : Nat) (C0 : lw_C l p e s m below meth c b L N xs A dC dI cy cB) (i : Nat) (hi : i + 4 ≤ L) (p1 p2 p3 : Int32) (hp1 : xs (i + 1) = p1) (hp2 : xs (i + 2) = p2) (hp3 : xs (i + 3) = p3) (cells slots : Nat) (hcs : cells + 760 ≤ 716141) (hss : slots + 4500 ≤ 6947682) (K : lw_K l p e s m below meth c b L N xs A dC dI cy cB h0 h1 hw1 hc1 hb1 h2 hw2 hc2 hb2 ho m0 m1 mc1 m2 mc2 i (cells + 760) (slots + 4500) 3660) (a1 : Int32) (r1 : Int32) (f1 : Nat → Int64) (g1 : Nat → Int64) (a2 : Int32) (r2 : Int32) (f2 : Nat → Int64) (g2 : Nat → Int64) (kn : Int32) (nv : Int64) (sv : Value) (th : Int32) (H : Heap) (locs : List Loc) (ls : Array Slot) (hka1 : okA true f1) (hka2 : okA false f2) (hP : va_P (dC, dI) xCl [(h0, eE h1 h2 kn), (h1, eR hw1 hc1 hb1 a1 r1), (hw1, eW true), (hc1, eA cy f1), (hb1, eA cy g1), (h2, eR hw2 hc2 hb2 a2 r2), (hw2, eW false), (hc2, eA cy f2), (hb2, eA cy g2), (ho, eO nv sv), (m0, eM m1 m2 th (r1 + r2) kn), (m1, eMR true mc1 a1), (mc1, eA cy f1), (m2, eMR false mc2 a2), (mc2, eA cy f2)] H) (hD : va_D A [(h0, eE h1 h2 kn), (h1, eR hw1 hc1 hb1 a1 r1), (hw1, eW true), (hc1, eA cy f1), (hb1, eA cy g1), (h2, eR hw2 hc2 hb2 a2 r2), (hw2, eW false), (hc2, eA cy f2), (hb2, eA cy g2), (ho, eO nv sv), (m0, eM m1 m2 th (r1 + r2) kn), (m1, eMR true mc1 a1), (mc1, eA cy f1), (m2, eMR false mc2 a2), (mc2, eA cy f2)]) (hS : va_S A s.heap H locs) (hl : lv_has ls 7 [(0, .ref b), (1, .ref h0), (2, .ref m0), (3, .ref ho), (4, .int (nI i))]) : W p l e room_1 s m #[Value.ref b] below meth c H locs cells slots (lw_Z below #[Value.ref b] s) (F0 m 3212 ls []) := by
  obtain ⟨hfl, hx, hb, hr, hml, hown, hts, hX, hbl, hbA, hlocks, hK, hG, hnc, hA, hAN, hN, hL, hT, hNs⟩ := id C0
  have hok2 := me_okF hka2
  have hsp1 : ∀ k, k < 8 → o_X1_isSpoiled true (f1 k) = false := fun k hk => (hka1 k hk).2
  have hsp2 : ∀ k, k < 8 → o_X1_isSpoiled false (f2 k) = false := fun k hk => (hka2 k hk).2
  have qx_narrowHash : (o_L_narrowHash f2 nv p1 p2).1 = (o_X5_narrowHash f2 p1 p2).2 := by have hm := ml_narrowHash nv p1 p2 hka2; rw [hm] <;> rfl
  have qn_narrowHash : (o_L_narrowHash f2 nv p1 p2).2 = if (o_X5_narrowHash f2 p1 p2).2 = 0 then ((o_X5_narrowHash f2 p1 p2).1).toInt64 else nv := by have hm := ml_narrowHash nv p1 p2 hka2; rw [hm] <;> rfl
  refine lv_aload_n hx hb dL_law_3212 rfl (lv_at hl 1 rfl) ?_
  refine lv_aload_n hx hb dL_law_3213 rfl (lv_at hl 0 rfl) ?_
  refine lv_iload hx hb dL_law_3214 (lv_at hl 4 rfl) ?_
  refine lv_iconst (v := 1) hx hb dL_law_3216 (by decide +kernel) ?_
  refine lv_iadd hx hb dL_law_3217 ?_
  rw [nI_1 i]
  refine xa_sld hx hb hX hbl hbA hS (k := i + 1) (by omega) hL hp1 dL_law_3218 ?_
  refine lv_aload_n hx hb dL_law_3219 rfl (lv_at hl 0 rfl) ?_
  refine lv_iload hx hb dL_law_3220 (lv_at hl 4 rfl) ?_
  refine lv_iconst (v := 2) hx hb dL_law_3222 (by decide +kernel) ?_
  refine lv_iadd hx hb dL_law_3223 ?_
  rw [nI_p2 i]
  refine xa_sld hx hb hX hbl hbA hS (k := i + 2) (by omega) hL hp2 dL_law_3224 ?_
  refine lv_aload_n hx hb dL_law_3225 rfl (lv_at hl 3 rfl) ?_
  have hPc := hP.sub (ws' := [(h0, eE h1 h2 kn), (h1, eR hw1 hc1 hb1 a1 r1), (hw1, eW true), (hc1, eA cy f1), (hb1, eA cy g1), (h2, eR hw2 hc2 hb2 a2 r2), (hw2, eW false), (hc2, eA cy f2), (hb2, eA cy g2), (ho, eO nv sv)]) [0, 1, 2, 3, 4, 5, 6, 7, 8, 9] rfl
  have hDc := hD.sub (ws' := [(h0, eE h1 h2 kn), (h1, eR hw1 hc1 hb1 a1 r1), (hw1, eW true), (hc1, eA cy f1), (hb1, eA cy g1), (h2, eR hw2 hc2 hb2 a2 r2), (hw2, eW false), (hc2, eA cy f2), (hb2, eA cy g2), (ho, eO nv sv)]) [0, 1, 2, 3, 4, 5, 6, 7, 8, 9] (by decide +kernel) rfl
  have hKc := hK.sub (tys' := [(cy, .long)]) [0] rfl
  have hFc := va_free (wc := [(h0, eE h1 h2 kn), (h1, eR hw1 hc1 hb1 a1 r1), (hw1, eW true), (hc1, eA cy f1), (hb1, eA cy g1), (h2, eR hw2 hc2 hb2 a2 r2), (hw2, eW false), (hc2, eA cy f2), (hb2, eA cy g2), (ho, eO nv sv)]) hD hS hA [0, 1, 2, 3, 4, 5, 6, 7, 8, 9] rfl
  refine va_calli (vx_runSW (As := [.ref h0, .int p1, .int p2, .ref ho]) (rest := []) ⟨hx, hb, hml, hown, hts⟩ (k_L_narrowHash l hfl dC dI cy h0 h1 hw1 hc1 hb1 h2 hw2 hc2 hb2 a1 r1 f1 g1 a2 r2 f2 g2 kn ho nv sv H.size N p1 p2) (vx_cwSW 4 hts gL_law_L_narrowHash rfl rfl rfl (by decide +kernel) ⟨Nat.le_of_ble_eq_true rfl, Nat.le_of_ble_eq_true rfl⟩) (xL.preS hKc hPc hDc hAN (Nat.le_trans hN hS.1) (hG.kept hS hAN) hnc) rfl rfl hl.1 rfl (lv_room (Nat.le_of_ble_eq_true rfl)) dL_law_3226 ⟨(show _ ≤ 716141 by omega), (show _ ≤ 6947682 by omega)⟩) hS (fun q _ h => hFc q h) hFc (fun r_1 u t H locs ht hvm hw hB hz hk hS => ?_)
  replace hw : r_1 = (o_L_narrowHash f2 nv p1 p2).1 := hw
  subst r_1
  obtain ⟨hP1, hD1⟩ := hB
  rw [ht] at hP1
  obtain ⟨hP, hD⟩ := va_join (wr := [(m0, eM m1 m2 th (r1 + r2) kn), (m1, eMR true mc1 a1), (mc1, eA cy f1), (m2, eMR false mc2 a2), (mc2, eA cy f2)]) (w1 := [(h0, eE h1 h2 kn), (h1, eR hw1 hc1 hb1 a1 r1), (hw1, eW true), (hc1, eA cy f1), (hb1, eA cy g1), (h2, eR hw2 hc2 hb2 a2 r2), (hw2, eW false), (hc2, eA cy f2), (hb2, eA cy g2), (ho, eO (o_L_narrowHash f2 nv p1 p2).2 sv)]) hP hD [0, 1, 2, 3, 4, 5, 6, 7, 8, 9] [10, 11, 12, 13, 14] rfl rfl (by decide +kernel) (by decide +kernel) hk hFc hP1 hD1
  have hP := hP.sub (ws' := [(h0, eE h1 h2 kn), (h1, eR hw1 hc1 hb1 a1 r1), (hw1, eW true), (hc1, eA cy f1), (hb1, eA cy g1), (h2, eR hw2 hc2 hb2 a2 r2), (hw2, eW false), (hc2, eA cy f2), (hb2, eA cy g2), (ho, eO (o_L_narrowHash f2 nv p1 p2).2 sv), (m0, eM m1 m2 th (r1 + r2) kn), (m1, eMR true mc1 a1), (mc1, eA cy f1), (m2, eMR false mc2 a2), (mc2, eA cy f2)]) [5, 6, 7, 8, 9, 10, 11, 12, 13, 14, 0, 1, 2, 3, 4] rfl
  have hD := hD.sub (ws' := [(h0, eE h1 h2 kn), (h1, eR hw1 hc1 hb1 a1 r1), (hw1, eW true), (hc1, eA cy f1), (hb1, eA cy g1), (h2, eR hw2 hc2 hb2 a2 r2), (hw2, eW false), (hc2, eA cy f2), (hb2, eA cy g2), (ho, eO (o_L_narrowHash f2 nv p1 p2).2 sv), (m0, eM m1 m2 th (r1 + r2) kn), (m1, eMR true mc1 a1), (mc1, eA cy f1), (m2, eMR false mc2 a2), (mc2, eA cy f2)]) [5, 6, 7, 8, 9, 10, 11, 12, 13, 14, 0, 1, 2, 3, 4] (by decide +kernel) rfl
  refine lv_istore (lv' := [(5, .int ((o_L_narrowHash f2 nv p1 p2).1)), (0, .ref b), (1, .ref h0), (2, .ref m0), (3, .ref ho), (4, .int (nI i))]) hx hb dL_law_3229 hl (by decide +kernel) rfl (fun ls hl => ?_)
  refine lv_aload_n hx hb dL_law_3231 rfl (lv_at hl 3 rfl) ?_
  refine lv_aload_n hx hb dL_law_3232 rfl (lv_at hl 1 rfl) ?_
  refine lv_iload hx hb dL_law_3233 (lv_at hl 5 rfl) ?_
  refine lv_iconst (v := 1) hx hb dL_law_3235 (by decide +kernel) ?_
  refine lv_iadd hx hb dL_law_3236 ?_
  rw [nI_1 i]
  refine xa_sld hx hb hX hbl hbA hS (k := i + 1) (by omega) hL hp1 dL_law_3237 ?_
  refine lv_aload_n hx hb dL_law_3238 rfl (lv_at hl 1 rfl) ?_
  refine lv_iload hx hb dL_law_3239 (lv_at hl 5 rfl) ?_
  refine lv_iconst (v := 2) hx hb dL_law_3241 (by decide +kernel) ?_
  refine lv_iadd hx hb dL_law_3242 ?_
  rw [nI_p2 i]
  refine xa_sld hx hb hX hbl hbA hS (k := i + 2) (by omega) hL hp2 dL_law_3243 ?_
  have hPc := hP.sub (ws' := [(m0, eM m1 m2 th (r1 + r2) kn), (m1, eMR true mc1 a1), (mc1, eA cy f1), (m2, eMR false mc2 a2), (mc2, eA cy f2)]) [10, 11, 12, 13, 14] rfl
  have hDc := hD.sub (ws' := [(m0, eM m1 m2 th (r1 + r2) kn), (m1, eMR true mc1 a1), (mc1, eA cy f1), (m2, eMR false mc2 a2), (mc2, eA cy f2)]) [10, 11, 12, 13, 14] (by decide +kernel) rfl
  have hKc := hK.sub (tys' := [(cy, .long)]) [0] rfl
  have hFc := va_free (wc := [(m0, eM m1 m2 th (r1 + r2) kn), (m1, eMR true mc1 a1), (mc1, eA cy f1), (m2, eMR false mc2 a2), (mc2, eA cy f2)]) hD hS hA [10, 11, 12, 13, 14] rfl
  refine va_calli (va_runV (As := [.int p1, .int p2]) (rest := []) ⟨hx, hb, hml, hown, hts⟩ (k_X5_narrowHash l dC dI cy m0 m1 mc1 m2 mc2 a1 f1 a2 f2 th (r1 + r2) kn H.size N p1 p2) (cwV 2 hts gL_law_X5_narrowHash rfl rfl rfl (by decide +kernel) ⟨Nat.le_of_ble_eq_true rfl, Nat.le_of_ble_eq_true rfl⟩) (xM.preV hKc hPc hDc hAN (Nat.le_trans hN hS.1) (hG.kept hS hAN) (ci := 7) (q0 := 0) rfl rfl) rfl rfl hl.1 rfl (lv_room (Nat.le_of_ble_eq_true rfl)) dL_law_3244 ⟨(show _ ≤ 716141 by omega), (show _ ≤ 6947682 by omega)⟩) hS (fun q _ h => hFc q h) hFc (fun r_2 u t H locs ht hvm hw hB hz hk hS => ?_)
  replace hw : r_2 = (o_X5_narrowHash f2 p1 p2).1 := hw
  subst r_2
  obtain ⟨hP1, hD1⟩ := hB
  rw [ht] at hP1
  obtain ⟨hP, hD⟩ := va_join (wr := [(h0, eE h1 h2 kn), (h1, eR hw1 hc1 hb1 a1 r1), (hw1, eW true), (hc1, eA cy f1), (hb1, eA cy g1), (h2, eR hw2 hc2 hb2 a2 r2), (hw2, eW false), (hc2, eA cy f2), (hb2, eA cy g2), (ho, eO (o_L_narrowHash f2 nv p1 p2).2 sv)]) (w1 := [(m0, eM m1 m2 (o_X5_narrowHash f2 p1 p2).2 (r1 + r2) kn), (m1, eMR true mc1 a1), (mc1, eA cy f1), (m2, eMR false mc2 a2), (mc2, eA cy f2)]) hP hD [10, 11, 12, 13, 14] [0, 1, 2, 3, 4, 5, 6, 7, 8, 9] rfl rfl (by decide +kernel) (by decide +kernel) hk hFc hP1 hD1
  have hP := hP.sub (ws' := [(h0, eE h1 h2 kn), (h1, eR hw1 hc1 hb1 a1 r1), (hw1, eW true), (hc1, eA cy f1), (hb1, eA cy g1), (h2, eR hw2 hc2 hb2 a2 r2), (hw2, eW false), (hc2, eA cy f2), (hb2, eA cy g2), (ho, eO (o_L_narrowHash f2 nv p1 p2).2 sv), (m0, eM m1 m2 (o_X5_narrowHash f2 p1 p2).2 (r1 + r2) kn), (m1, eMR true mc1 a1), (mc1, eA cy f1), (m2, eMR false mc2 a2), (mc2, eA cy f2)]) [0, 1, 2, 3, 4, 5, 6, 7, 8, 9, 10, 11, 12, 13, 14] rfl
  have hD := hD.sub (ws' := [(h0, eE h1 h2 kn), (h1, eR hw1 hc1 hb1 a1 r1), (hw1, eW true), (hc1, eA cy f1), (hb1, eA cy g1), (h2, eR hw2 hc2 hb2 a2 r2), (hw2, eW false), (hc2, eA cy f2), (hb2, eA cy g2), (ho, eO (o_L_narrowHash f2 nv p1 p2).2 sv), (m0, eM m1 m2 (o_X5_narrowHash f2 p1 p2).2 (r1 + r2) kn), (m1, eMR true mc1 a1), (mc1, eA cy f1), (m2, eMR false mc2 a2), (mc2, eA cy f2)]) [0, 1, 2, 3, 4, 5, 6, 7, 8, 9, 10, 11, 12, 13, 14] (by decide +kernel) rfl
  refine lv_istore (lv' := [(6, .int ((o_X5_narrowHash f2 p1 p2).1)), (5, .int ((o_L_narrowHash f2 nv p1 p2).1)), (0, .ref b), (1, .ref h0), (2, .ref m0), (3, .ref ho), (4, .int (nI i))]) hx hb dL_law_3247 hl (by decide +kernel) rfl (fun ls hl => ?_)
  refine lv_aload_n hx hb dL_law_3249 rfl (lv_at hl 4 rfl) ?_
  have hPc := hP.sub (ws' := [(m0, eM m1 m2 (o_X5_narrowHash f2 p1 p2).2 (r1 + r2) kn)]) [10] rfl
  have hKc := hK.sub (tys' := []) [] rfl
  refine va_calli (va_runV (As := []) (rest := []) ⟨hx, hb, hml, hown, hts⟩ (k_X5_thrown l dC dI m0 m1 m2 ((o_X5_narrowHash f2 p1 p2).2) (r1 + r2) kn H.size) (cwV 0 hts gL_law_X5_thrown rfl rfl rfl (by decide +kernel) ⟨Nat.le_of_ble_eq_true rfl, Nat.le_of_ble_eq_true rfl⟩) (xB.preV hKc hPc (ci := 7) (q0 := 0) rfl rfl) rfl rfl hl.1 rfl (lv_room (Nat.le_of_ble_eq_true rfl)) dL_law_3250 ⟨(show _ ≤ 716141 by omega), (show _ ≤ 6947682 by omega)⟩) hS xA_old (fun q h => hA q (Nat.le_trans hS.1 h)) (fun r_3 u t H locs ht hvm hw hB hz hk hS => ?_)
  replace hw : r_3 = (o_X5_thrown ((o_X5_narrowHash f2 p1 p2).2)) := hw
  subst r_3
  have hP := xP_keep hP hk
  refine lv_iload hx hb dL_law_3253 (lv_at hl 1 rfl) ?_
  refine lv_icmp_eq (tgt := 3260) hx hb dL_law_3255 (by decide +kernel) (fun c9 => ?_) (fun c9 => absurd (show o_X5_thrown _ = _ from (qx_narrowHash).symm) c9)
  refine lv_iload hx hb dL_law_3260 (lv_at hl 1 rfl) ?_
  refine lv_if_ne (tgt := 3278) hx hb dL_law_3262 (by decide +kernel) (fun c_4 => ?_) (fun c_4 => ?_)
  · skip
    refine lv_goto (tgt := 3660) hx hb dL_law_3278 (by decide +kernel) ?_
    refine W.widen (k := cells + 760) (n := slots + 4500) (by omega) (by omega) ?_
    exact K a1 r1 f1 g1 a2 r2 f2 g2 kn ((o_L_narrowHash f2 nv p1 p2).2) sv ((o_X5_narrowHash f2 p1 p2).2) a1 f1 a2 f2 (r1 + r2) kn _ _ _ rfl rfl rfl rfl rfl rfl hka1 hka2 hP hD hS (lv_sub hl [2, 3, 4, 5, 6] rfl)
  · skip
    refine lv_aload_n hx hb dL_law_3265 rfl (lv_at hl 5 rfl) ?_
    refine va_getN (D := (dC, dI)) (ci := 5) (v := .long ((o_L_narrowHash f2 nv p1 p2).2)) (C := RX3) (T := TX3) (N := 2) hx hb hts (by decide +kernel) hown hK hP 9 rfl rfl 0 (by decide +kernel) (va_Nw.use rfl (hG.1 (.fieldLinkNest RL 13 "EdgefloatsLaw$Out" "n" "J" RL) (List.mem_of_getElem? (i := 6) rfl))) (fun _ h9 => h9) rfl dL_law_3266 ?_
    refine lv_iload hx hb dL_law_3269 (lv_at hl 0 rfl) ?_
    refine lv_i2l (v := (((o_X5_narrowHash f2 p1 p2).1).toInt64)) hx hb dL_law_3271 rfl ?_
    refine xc_eq (tgt := 3278) hx hb dL_law_3272 dL_law_3273 (by decide +kernel) (fun c9 => ?_) (fun c9 => absurd ((qn_narrowHash).trans (if_pos ((qx_narrowHash).symm.trans c_4))) c9)
    refine lv_goto (tgt := 3660) hx hb dL_law_3278 (by decide +kernel) ?_
    refine W.widen (k := cells + 760) (n := slots + 4500) (by omega) (by omega) ?_
    exact K a1 r1 f1 g1 a2 r2 f2 g2 kn ((o_L_narrowHash f2 nv p1 p2).2) sv ((o_X5_narrowHash f2 p1 p2).2) a1 f1 a2 f2 (r1 + r2) kn _ _ _ rfl rfl rfl rfl rfl rfl hka1 hka2 hP hD hS (lv_sub hl [2, 3, 4, 5, 6] rfl)
set_option maxHeartbeats 4000000 in
set_option maxRecDepth 100000 in
theorem st_41 (l : Launch) (p : Program) (e : Env) (s : State) (m : MethodId) (below : List Frame) (meth : Method) (c : Code) (b L N : Nat) (xs : Nat → Int32) (A : Nat → Prop) (dC : Nat → ClassId) (dI : Nat → Nat → Nat) (cy cB : ClassId) (h0 h1 hw1 hc1 hb1 h2 hw2 hc2 hb2 ho m0 m1 mc1 m2 mc2 : Nat) (C0 : lw_C l p e s m below meth c b L N xs A dC dI cy cB) (i : Nat) (hi : i + 4 ≤ L) (p1 p2 p3 : Int32) (hp1 : xs (i + 1) = p1) (hp2 : xs (i + 2) = p2) (hp3 : xs (i + 3) = p3) (cells slots : Nat) (hcs : cells + 760 ≤ 716141) (hss : slots + 4500 ≤ 6947682) (K : lw_K l p e s m below meth c b L N xs A dC dI cy cB h0 h1 hw1 hc1 hb1 h2 hw2 hc2 hb2 ho m0 m1 mc1 m2 mc2 i (cells + 760) (slots + 4500) 3660) (a1 : Int32) (r1 : Int32) (f1 : Nat → Int64) (g1 : Nat → Int64) (a2 : Int32) (r2 : Int32) (f2 : Nat → Int64) (g2 : Nat → Int64) (kn : Int32) (nv : Int64) (sv : Value) (th : Int32) (H : Heap) (locs : List Loc) (ls : Array Slot) (hka1 : okA true f1) (hka2 : okA false f2) (hP : va_P (dC, dI) xCl [(h0, eE h1 h2 kn), (h1, eR hw1 hc1 hb1 a1 r1), (hw1, eW true), (hc1, eA cy f1), (hb1, eA cy g1), (h2, eR hw2 hc2 hb2 a2 r2), (hw2, eW false), (hc2, eA cy f2), (hb2, eA cy g2), (ho, eO nv sv), (m0, eM m1 m2 th (r1 + r2) kn), (m1, eMR true mc1 a1), (mc1, eA cy f1), (m2, eMR false mc2 a2), (mc2, eA cy f2)] H) (hD : va_D A [(h0, eE h1 h2 kn), (h1, eR hw1 hc1 hb1 a1 r1), (hw1, eW true), (hc1, eA cy f1), (hb1, eA cy g1), (h2, eR hw2 hc2 hb2 a2 r2), (hw2, eW false), (hc2, eA cy f2), (hb2, eA cy g2), (ho, eO nv sv), (m0, eM m1 m2 th (r1 + r2) kn), (m1, eMR true mc1 a1), (mc1, eA cy f1), (m2, eMR false mc2 a2), (mc2, eA cy f2)]) (hS : va_S A s.heap H locs) (hl : lv_has ls 7 [(0, .ref b), (1, .ref h0), (2, .ref m0), (3, .ref ho), (4, .int (nI i))]) : W p l e room_1 s m #[Value.ref b] below meth c H locs cells slots (lw_Z below #[Value.ref b] s) (F0 m 3281 ls []) := by
  obtain ⟨hfl, hx, hb, hr, hml, hown, hts, hX, hbl, hbA, hlocks, hK, hG, hnc, hA, hAN, hN, hL, hT, hNs⟩ := id C0
  have hok2 := me_okF hka2
  have hsp1 : ∀ k, k < 8 → o_X1_isSpoiled true (f1 k) = false := fun k hk => (hka1 k hk).2
  have hsp2 : ∀ k, k < 8 → o_X1_isSpoiled false (f2 k) = false := fun k hk => (hka2 k hk).2
  have qx_narrowEndless : (o_L_narrowEndless f2 nv p1 p2).1 = (o_X5_narrowEndless f2 p1 p2).2 := by have hm := ml_narrowEndless nv p1 p2 hka2; rw [hm] <;> rfl
  have qn_narrowEndless : (o_L_narrowEndless f2 nv p1 p2).2 = if (o_X5_narrowEndless f2 p1 p2).2 = 0 then (if (o_X5_narrowEndless f2 p1 p2).1 = true then 1 else 0) else nv := by have hm := ml_narrowEndless nv p1 p2 hka2; rw [hm] <;> rfl
  refine lv_aload_n hx hb dL_law_3281 rfl (lv_at hl 1 rfl) ?_
  refine lv_aload_n hx hb dL_law_3282 rfl (lv_at hl 0 rfl) ?_
  refine lv_iload hx hb dL_law_3283 (lv_at hl 4 rfl) ?_
  refine lv_iconst (v := 1) hx hb dL_law_3285 (by decide +kernel) ?_
  refine lv_iadd hx hb dL_law_3286 ?_
  rw [nI_1 i]
  refine xa_sld hx hb hX hbl hbA hS (k := i + 1) (by omega) hL hp1 dL_law_3287 ?_
  refine lv_aload_n hx hb dL_law_3288 rfl (lv_at hl 0 rfl) ?_
  refine lv_iload hx hb dL_law_3289 (lv_at hl 4 rfl) ?_
  refine lv_iconst (v := 2) hx hb dL_law_3291 (by decide +kernel) ?_
  refine lv_iadd hx hb dL_law_3292 ?_
  rw [nI_p2 i]
  refine xa_sld hx hb hX hbl hbA hS (k := i + 2) (by omega) hL hp2 dL_law_3293 ?_
  refine lv_aload_n hx hb dL_law_3294 rfl (lv_at hl 3 rfl) ?_
  have hPc := hP.sub (ws' := [(h0, eE h1 h2 kn), (h1, eR hw1 hc1 hb1 a1 r1), (hw1, eW true), (hc1, eA cy f1), (hb1, eA cy g1), (h2, eR hw2 hc2 hb2 a2 r2), (hw2, eW false), (hc2, eA cy f2), (hb2, eA cy g2), (ho, eO nv sv)]) [0, 1, 2, 3, 4, 5, 6, 7, 8, 9] rfl
  have hDc := hD.sub (ws' := [(h0, eE h1 h2 kn), (h1, eR hw1 hc1 hb1 a1 r1), (hw1, eW true), (hc1, eA cy f1), (hb1, eA cy g1), (h2, eR hw2 hc2 hb2 a2 r2), (hw2, eW false), (hc2, eA cy f2), (hb2, eA cy g2), (ho, eO nv sv)]) [0, 1, 2, 3, 4, 5, 6, 7, 8, 9] (by decide +kernel) rfl
  have hKc := hK.sub (tys' := [(cy, .long)]) [0] rfl
  have hFc := va_free (wc := [(h0, eE h1 h2 kn), (h1, eR hw1 hc1 hb1 a1 r1), (hw1, eW true), (hc1, eA cy f1), (hb1, eA cy g1), (h2, eR hw2 hc2 hb2 a2 r2), (hw2, eW false), (hc2, eA cy f2), (hb2, eA cy g2), (ho, eO nv sv)]) hD hS hA [0, 1, 2, 3, 4, 5, 6, 7, 8, 9] rfl
  refine va_calli (vx_runSW (As := [.ref h0, .int p1, .int p2, .ref ho]) (rest := []) ⟨hx, hb, hml, hown, hts⟩ (k_L_narrowEndless l hfl dC dI cy h0 h1 hw1 hc1 hb1 h2 hw2 hc2 hb2 a1 r1 f1 g1 a2 r2 f2 g2 kn ho nv sv H.size N p1 p2) (vx_cwSW 4 hts gL_law_L_narrowEndless rfl rfl rfl (by decide +kernel) ⟨Nat.le_of_ble_eq_true rfl, Nat.le_of_ble_eq_true rfl⟩) (xL.preS hKc hPc hDc hAN (Nat.le_trans hN hS.1) (hG.kept hS hAN) hnc) rfl rfl hl.1 rfl (lv_room (Nat.le_of_ble_eq_true rfl)) dL_law_3295 ⟨(show _ ≤ 716141 by omega), (show _ ≤ 6947682 by omega)⟩) hS (fun q _ h => hFc q h) hFc (fun r_1 u t H locs ht hvm hw hB hz hk hS => ?_)
  replace hw : r_1 = (o_L_narrowEndless f2 nv p1 p2).1 := hw
  subst r_1
  obtain ⟨hP1, hD1⟩ := hB
  rw [ht] at hP1
  obtain ⟨hP, hD⟩ := va_join (wr := [(m0, eM m1 m2 th (r1 + r2) kn), (m1, eMR true mc1 a1), (mc1, eA cy f1), (m2, eMR false mc2 a2), (mc2, eA cy f2)]) (w1 := [(h0, eE h1 h2 kn), (h1, eR hw1 hc1 hb1 a1 r1), (hw1, eW true), (hc1, eA cy f1), (hb1, eA cy g1), (h2, eR hw2 hc2 hb2 a2 r2), (hw2, eW false), (hc2, eA cy f2), (hb2, eA cy g2), (ho, eO (o_L_narrowEndless f2 nv p1 p2).2 sv)]) hP hD [0, 1, 2, 3, 4, 5, 6, 7, 8, 9] [10, 11, 12, 13, 14] rfl rfl (by decide +kernel) (by decide +kernel) hk hFc hP1 hD1
  have hP := hP.sub (ws' := [(h0, eE h1 h2 kn), (h1, eR hw1 hc1 hb1 a1 r1), (hw1, eW true), (hc1, eA cy f1), (hb1, eA cy g1), (h2, eR hw2 hc2 hb2 a2 r2), (hw2, eW false), (hc2, eA cy f2), (hb2, eA cy g2), (ho, eO (o_L_narrowEndless f2 nv p1 p2).2 sv), (m0, eM m1 m2 th (r1 + r2) kn), (m1, eMR true mc1 a1), (mc1, eA cy f1), (m2, eMR false mc2 a2), (mc2, eA cy f2)]) [5, 6, 7, 8, 9, 10, 11, 12, 13, 14, 0, 1, 2, 3, 4] rfl
  have hD := hD.sub (ws' := [(h0, eE h1 h2 kn), (h1, eR hw1 hc1 hb1 a1 r1), (hw1, eW true), (hc1, eA cy f1), (hb1, eA cy g1), (h2, eR hw2 hc2 hb2 a2 r2), (hw2, eW false), (hc2, eA cy f2), (hb2, eA cy g2), (ho, eO (o_L_narrowEndless f2 nv p1 p2).2 sv), (m0, eM m1 m2 th (r1 + r2) kn), (m1, eMR true mc1 a1), (mc1, eA cy f1), (m2, eMR false mc2 a2), (mc2, eA cy f2)]) [5, 6, 7, 8, 9, 10, 11, 12, 13, 14, 0, 1, 2, 3, 4] (by decide +kernel) rfl
  refine lv_istore (lv' := [(5, .int ((o_L_narrowEndless f2 nv p1 p2).1)), (0, .ref b), (1, .ref h0), (2, .ref m0), (3, .ref ho), (4, .int (nI i))]) hx hb dL_law_3298 hl (by decide +kernel) rfl (fun ls hl => ?_)
  refine lv_aload_n hx hb dL_law_3300 rfl (lv_at hl 3 rfl) ?_
  refine lv_aload_n hx hb dL_law_3301 rfl (lv_at hl 1 rfl) ?_
  refine lv_iload hx hb dL_law_3302 (lv_at hl 5 rfl) ?_
  refine lv_iconst (v := 1) hx hb dL_law_3304 (by decide +kernel) ?_
  refine lv_iadd hx hb dL_law_3305 ?_
  rw [nI_1 i]
  refine xa_sld hx hb hX hbl hbA hS (k := i + 1) (by omega) hL hp1 dL_law_3306 ?_
  refine lv_aload_n hx hb dL_law_3307 rfl (lv_at hl 1 rfl) ?_
  refine lv_iload hx hb dL_law_3308 (lv_at hl 5 rfl) ?_
  refine lv_iconst (v := 2) hx hb dL_law_3310 (by decide +kernel) ?_
  refine lv_iadd hx hb dL_law_3311 ?_
  rw [nI_p2 i]
  refine xa_sld hx hb hX hbl hbA hS (k := i + 2) (by omega) hL hp2 dL_law_3312 ?_
  have hPc := hP.sub (ws' := [(m0, eM m1 m2 th (r1 + r2) kn), (m1, eMR true mc1 a1), (mc1, eA cy f1), (m2, eMR false mc2 a2), (mc2, eA cy f2)]) [10, 11, 12, 13, 14] rfl
  have hDc := hD.sub (ws' := [(m0, eM m1 m2 th (r1 + r2) kn), (m1, eMR true mc1 a1), (mc1, eA cy f1), (m2, eMR false mc2 a2), (mc2, eA cy f2)]) [10, 11, 12, 13, 14] (by decide +kernel) rfl
  have hKc := hK.sub (tys' := [(cy, .long)]) [0] rfl
  have hFc := va_free (wc := [(m0, eM m1 m2 th (r1 + r2) kn), (m1, eMR true mc1 a1), (mc1, eA cy f1), (m2, eMR false mc2 a2), (mc2, eA cy f2)]) hD hS hA [10, 11, 12, 13, 14] rfl
  refine va_calli (va_runV (As := [.int p1, .int p2]) (rest := []) ⟨hx, hb, hml, hown, hts⟩ (k_X5_narrowEndless l dC dI cy m0 m1 mc1 m2 mc2 a1 f1 a2 f2 th (r1 + r2) kn H.size N p1 p2) (cwV 2 hts gL_law_X5_narrowEndless rfl rfl rfl (by decide +kernel) ⟨Nat.le_of_ble_eq_true rfl, Nat.le_of_ble_eq_true rfl⟩) (xM.preV hKc hPc hDc hAN (Nat.le_trans hN hS.1) (hG.kept hS hAN) (ci := 7) (q0 := 0) rfl rfl) rfl rfl hl.1 rfl (lv_room (Nat.le_of_ble_eq_true rfl)) dL_law_3313 ⟨(show _ ≤ 716141 by omega), (show _ ≤ 6947682 by omega)⟩) hS (fun q _ h => hFc q h) hFc (fun r_2 u t H locs ht hvm hw hB hz hk hS => ?_)
  replace hw : r_2 = b2i ((o_X5_narrowEndless f2 p1 p2).1) := hw
  subst r_2
  obtain ⟨hP1, hD1⟩ := hB
  rw [ht] at hP1
  obtain ⟨hP, hD⟩ := va_join (wr := [(h0, eE h1 h2 kn), (h1, eR hw1 hc1 hb1 a1 r1), (hw1, eW true), (hc1, eA cy f1), (hb1, eA cy g1), (h2, eR hw2 hc2 hb2 a2 r2), (hw2, eW false), (hc2, eA cy f2), (hb2, eA cy g2), (ho, eO (o_L_narrowEndless f2 nv p1 p2).2 sv)]) (w1 := [(m0, eM m1 m2 (o_X5_narrowEndless f2 p1 p2).2 (r1 + r2) kn), (m1, eMR true mc1 a1), (mc1, eA cy f1), (m2, eMR false mc2 a2), (mc2, eA cy f2)]) hP hD [10, 11, 12, 13, 14] [0, 1, 2, 3, 4, 5, 6, 7, 8, 9] rfl rfl (by decide +kernel) (by decide +kernel) hk hFc hP1 hD1
  have hP := hP.sub (ws' := [(h0, eE h1 h2 kn), (h1, eR hw1 hc1 hb1 a1 r1), (hw1, eW true), (hc1, eA cy f1), (hb1, eA cy g1), (h2, eR hw2 hc2 hb2 a2 r2), (hw2, eW false), (hc2, eA cy f2), (hb2, eA cy g2), (ho, eO (o_L_narrowEndless f2 nv p1 p2).2 sv), (m0, eM m1 m2 (o_X5_narrowEndless f2 p1 p2).2 (r1 + r2) kn), (m1, eMR true mc1 a1), (mc1, eA cy f1), (m2, eMR false mc2 a2), (mc2, eA cy f2)]) [0, 1, 2, 3, 4, 5, 6, 7, 8, 9, 10, 11, 12, 13, 14] rfl
  have hD := hD.sub (ws' := [(h0, eE h1 h2 kn), (h1, eR hw1 hc1 hb1 a1 r1), (hw1, eW true), (hc1, eA cy f1), (hb1, eA cy g1), (h2, eR hw2 hc2 hb2 a2 r2), (hw2, eW false), (hc2, eA cy f2), (hb2, eA cy g2), (ho, eO (o_L_narrowEndless f2 nv p1 p2).2 sv), (m0, eM m1 m2 (o_X5_narrowEndless f2 p1 p2).2 (r1 + r2) kn), (m1, eMR true mc1 a1), (mc1, eA cy f1), (m2, eMR false mc2 a2), (mc2, eA cy f2)]) [0, 1, 2, 3, 4, 5, 6, 7, 8, 9, 10, 11, 12, 13, 14] (by decide +kernel) rfl
  refine lv_istore (lv' := [(6, .int (b2i ((o_X5_narrowEndless f2 p1 p2).1))), (5, .int ((o_L_narrowEndless f2 nv p1 p2).1)), (0, .ref b), (1, .ref h0), (2, .ref m0), (3, .ref ho), (4, .int (nI i))]) hx hb dL_law_3316 hl (by decide +kernel) rfl (fun ls hl => ?_)
  refine lv_aload_n hx hb dL_law_3318 rfl (lv_at hl 4 rfl) ?_
  have hPc := hP.sub (ws' := [(m0, eM m1 m2 (o_X5_narrowEndless f2 p1 p2).2 (r1 + r2) kn)]) [10] rfl
  have hKc := hK.sub (tys' := []) [] rfl
  refine va_calli (va_runV (As := []) (rest := []) ⟨hx, hb, hml, hown, hts⟩ (k_X5_thrown l dC dI m0 m1 m2 ((o_X5_narrowEndless f2 p1 p2).2) (r1 + r2) kn H.size) (cwV 0 hts gL_law_X5_thrown rfl rfl rfl (by decide +kernel) ⟨Nat.le_of_ble_eq_true rfl, Nat.le_of_ble_eq_true rfl⟩) (xB.preV hKc hPc (ci := 7) (q0 := 0) rfl rfl) rfl rfl hl.1 rfl (lv_room (Nat.le_of_ble_eq_true rfl)) dL_law_3319 ⟨(show _ ≤ 716141 by omega), (show _ ≤ 6947682 by omega)⟩) hS xA_old (fun q h => hA q (Nat.le_trans hS.1 h)) (fun r_3 u t H locs ht hvm hw hB hz hk hS => ?_)
  replace hw : r_3 = (o_X5_thrown ((o_X5_narrowEndless f2 p1 p2).2)) := hw
  subst r_3
  have hP := xP_keep hP hk
  refine lv_iload hx hb dL_law_3322 (lv_at hl 1 rfl) ?_
  refine lv_icmp_eq (tgt := 3329) hx hb dL_law_3324 (by decide +kernel) (fun c9 => ?_) (fun c9 => absurd (show o_X5_thrown _ = _ from (qx_narrowEndless).symm) c9)
  refine lv_iload hx hb dL_law_3329 (lv_at hl 1 rfl) ?_
  refine lv_if_ne (tgt := 3354) hx hb dL_law_3331 (by decide +kernel) (fun c_4 => ?_) (fun c_4 => ?_)
  · skip
    refine lv_goto (tgt := 3660) hx hb dL_law_3354 (by decide +kernel) ?_
    refine W.widen (k := cells + 760) (n := slots + 4500) (by omega) (by omega) ?_
    exact K a1 r1 f1 g1 a2 r2 f2 g2 kn ((o_L_narrowEndless f2 nv p1 p2).2) sv ((o_X5_narrowEndless f2 p1 p2).2) a1 f1 a2 f2 (r1 + r2) kn _ _ _ rfl rfl rfl rfl rfl rfl hka1 hka2 hP hD hS (lv_sub hl [2, 3, 4, 5, 6] rfl)
  · skip
    refine lv_aload_n hx hb dL_law_3334 rfl (lv_at hl 5 rfl) ?_
    refine va_getN (D := (dC, dI)) (ci := 5) (v := .long ((o_L_narrowEndless f2 nv p1 p2).2)) (C := RX3) (T := TX3) (N := 2) hx hb hts (by decide +kernel) hown hK hP 9 rfl rfl 0 (by decide +kernel) (va_Nw.use rfl (hG.1 (.fieldLinkNest RL 13 "EdgefloatsLaw$Out" "n" "J" RL) (List.mem_of_getElem? (i := 6) rfl))) (fun _ h9 => h9) rfl dL_law_3335 ?_
    refine lv_iload hx hb dL_law_3338 (lv_at hl 0 rfl) ?_
    refine xz_eq (tgt := 3347) hx hb dL_law_3340 (by decide +kernel) (fun c_5 => ?_) (fun c_5 => ?_)
    · skip
      refine lv_lconst (v := 0) hx hb dL_law_3347 (by decide +kernel) ?_
      refine xc_eq (tgt := 3354) hx hb dL_law_3348 dL_law_3349 (by decide +kernel) (fun c9 => ?_) (fun c9 => absurd (((qn_narrowEndless).trans (if_pos ((qx_narrowEndless).symm.trans c_4))).trans (if_neg c_5)) c9)
      refine lv_goto (tgt := 3660) hx hb dL_law_3354 (by decide +kernel) ?_
      refine W.widen (k := cells + 760) (n := slots + 4500) (by omega) (by omega) ?_
      exact K a1 r1 f1 g1 a2 r2 f2 g2 kn ((o_L_narrowEndless f2 nv p1 p2).2) sv ((o_X5_narrowEndless f2 p1 p2).2) a1 f1 a2 f2 (r1 + r2) kn _ _ _ rfl rfl rfl rfl rfl rfl hka1 hka2 hP hD hS (lv_sub hl [2, 3, 4, 5, 6] rfl)
    · skip
      refine lv_lconst (v := 1) hx hb dL_law_3343 (by decide +kernel) ?_
      refine lv_goto (tgt := 3348) hx hb dL_law_3344 (by decide +kernel) ?_
      refine xc_eq (tgt := 3354) hx hb dL_law_3348 dL_law_3349 (by decide +kernel) (fun c9 => ?_) (fun c9 => absurd (((qn_narrowEndless).trans (if_pos ((qx_narrowEndless).symm.trans c_4))).trans (if_pos c_5)) c9)
      refine lv_goto (tgt := 3660) hx hb dL_law_3354 (by decide +kernel) ?_
      refine W.widen (k := cells + 760) (n := slots + 4500) (by omega) (by omega) ?_
      exact K a1 r1 f1 g1 a2 r2 f2 g2 kn ((o_L_narrowEndless f2 nv p1 p2).2) sv ((o_X5_narrowEndless f2 p1 p2).2) a1 f1 a2 f2 (r1 + r2) kn _ _ _ rfl rfl rfl rfl rfl rfl hka1 hka2 hP hD hS (lv_sub hl [2, 3, 4, 5, 6] rfl)
set_option maxHeartbeats 4000000 in
set_option maxRecDepth 100000 in
theorem st_42 (l : Launch) (p : Program) (e : Env) (s : State) (m : MethodId) (below : List Frame) (meth : Method) (c : Code) (b L N : Nat) (xs : Nat → Int32) (A : Nat → Prop) (dC : Nat → ClassId) (dI : Nat → Nat → Nat) (cy cB : ClassId) (h0 h1 hw1 hc1 hb1 h2 hw2 hc2 hb2 ho m0 m1 mc1 m2 mc2 : Nat) (C0 : lw_C l p e s m below meth c b L N xs A dC dI cy cB) (i : Nat) (hi : i + 4 ≤ L) (p1 p2 p3 : Int32) (hp1 : xs (i + 1) = p1) (hp2 : xs (i + 2) = p2) (hp3 : xs (i + 3) = p3) (cells slots : Nat) (hcs : cells + 760 ≤ 716141) (hss : slots + 4500 ≤ 6947682) (K : lw_K l p e s m below meth c b L N xs A dC dI cy cB h0 h1 hw1 hc1 hb1 h2 hw2 hc2 hb2 ho m0 m1 mc1 m2 mc2 i (cells + 760) (slots + 4500) 3660) (a1 : Int32) (r1 : Int32) (f1 : Nat → Int64) (g1 : Nat → Int64) (a2 : Int32) (r2 : Int32) (f2 : Nat → Int64) (g2 : Nat → Int64) (kn : Int32) (nv : Int64) (sv : Value) (th : Int32) (H : Heap) (locs : List Loc) (ls : Array Slot) (hka1 : okA true f1) (hka2 : okA false f2) (hP : va_P (dC, dI) xCl [(h0, eE h1 h2 kn), (h1, eR hw1 hc1 hb1 a1 r1), (hw1, eW true), (hc1, eA cy f1), (hb1, eA cy g1), (h2, eR hw2 hc2 hb2 a2 r2), (hw2, eW false), (hc2, eA cy f2), (hb2, eA cy g2), (ho, eO nv sv), (m0, eM m1 m2 th (r1 + r2) kn), (m1, eMR true mc1 a1), (mc1, eA cy f1), (m2, eMR false mc2 a2), (mc2, eA cy f2)] H) (hD : va_D A [(h0, eE h1 h2 kn), (h1, eR hw1 hc1 hb1 a1 r1), (hw1, eW true), (hc1, eA cy f1), (hb1, eA cy g1), (h2, eR hw2 hc2 hb2 a2 r2), (hw2, eW false), (hc2, eA cy f2), (hb2, eA cy g2), (ho, eO nv sv), (m0, eM m1 m2 th (r1 + r2) kn), (m1, eMR true mc1 a1), (mc1, eA cy f1), (m2, eMR false mc2 a2), (mc2, eA cy f2)]) (hS : va_S A s.heap H locs) (hl : lv_has ls 7 [(0, .ref b), (1, .ref h0), (2, .ref m0), (3, .ref ho), (4, .int (nI i))]) : W p l e room_1 s m #[Value.ref b] below meth c H locs cells slots (lw_Z below #[Value.ref b] s) (F0 m 3357 ls []) := by
  obtain ⟨hfl, hx, hb, hr, hml, hown, hts, hX, hbl, hbA, hlocks, hK, hG, hnc, hA, hAN, hN, hL, hT, hNs⟩ := id C0
  have hok2 := me_okF hka2
  have hsp1 : ∀ k, k < 8 → o_X1_isSpoiled true (f1 k) = false := fun k hk => (hka1 k hk).2
  have hsp2 : ∀ k, k < 8 → o_X1_isSpoiled false (f2 k) = false := fun k hk => (hka2 k hk).2
  have qx_narrowCount : (o_L_narrowCount f2 nv p1).1 = (o_X5_narrowCount f2 p1).2 := by have hm := ml_narrowCount nv p1 hka2; rw [hm] <;> rfl
  have qn_narrowCount : (o_L_narrowCount f2 nv p1).2 = if (o_X5_narrowCount f2 p1).2 = 0 then ((o_X5_narrowCount f2 p1).1).toInt64 else nv := by have hm := ml_narrowCount nv p1 hka2; rw [hm] <;> rfl
  refine lv_aload_n hx hb dL_law_3357 rfl (lv_at hl 1 rfl) ?_
  refine lv_aload_n hx hb dL_law_3358 rfl (lv_at hl 0 rfl) ?_
  refine lv_iload hx hb dL_law_3359 (lv_at hl 4 rfl) ?_
  refine lv_iconst (v := 1) hx hb dL_law_3361 (by decide +kernel) ?_
  refine lv_iadd hx hb dL_law_3362 ?_
  rw [nI_1 i]
  refine xa_sld hx hb hX hbl hbA hS (k := i + 1) (by omega) hL hp1 dL_law_3363 ?_
  refine lv_aload_n hx hb dL_law_3364 rfl (lv_at hl 3 rfl) ?_
  have hPc := hP.sub (ws' := [(h0, eE h1 h2 kn), (h1, eR hw1 hc1 hb1 a1 r1), (hw1, eW true), (hc1, eA cy f1), (hb1, eA cy g1), (h2, eR hw2 hc2 hb2 a2 r2), (hw2, eW false), (hc2, eA cy f2), (hb2, eA cy g2), (ho, eO nv sv)]) [0, 1, 2, 3, 4, 5, 6, 7, 8, 9] rfl
  have hDc := hD.sub (ws' := [(h0, eE h1 h2 kn), (h1, eR hw1 hc1 hb1 a1 r1), (hw1, eW true), (hc1, eA cy f1), (hb1, eA cy g1), (h2, eR hw2 hc2 hb2 a2 r2), (hw2, eW false), (hc2, eA cy f2), (hb2, eA cy g2), (ho, eO nv sv)]) [0, 1, 2, 3, 4, 5, 6, 7, 8, 9] (by decide +kernel) rfl
  have hKc := hK.sub (tys' := [(cy, .long)]) [0] rfl
  have hFc := va_free (wc := [(h0, eE h1 h2 kn), (h1, eR hw1 hc1 hb1 a1 r1), (hw1, eW true), (hc1, eA cy f1), (hb1, eA cy g1), (h2, eR hw2 hc2 hb2 a2 r2), (hw2, eW false), (hc2, eA cy f2), (hb2, eA cy g2), (ho, eO nv sv)]) hD hS hA [0, 1, 2, 3, 4, 5, 6, 7, 8, 9] rfl
  refine va_calli (vx_runSW (As := [.ref h0, .int p1, .ref ho]) (rest := []) ⟨hx, hb, hml, hown, hts⟩ (k_L_narrowCount l hfl dC dI cy h0 h1 hw1 hc1 hb1 h2 hw2 hc2 hb2 a1 r1 f1 g1 a2 r2 f2 g2 kn ho nv sv H.size N p1) (vx_cwSW 3 hts gL_law_L_narrowCount rfl rfl rfl (by decide +kernel) ⟨Nat.le_of_ble_eq_true rfl, Nat.le_of_ble_eq_true rfl⟩) (xL.preS hKc hPc hDc hAN (Nat.le_trans hN hS.1) (hG.kept hS hAN) hnc) rfl rfl hl.1 rfl (lv_room (Nat.le_of_ble_eq_true rfl)) dL_law_3365 ⟨(show _ ≤ 716141 by omega), (show _ ≤ 6947682 by omega)⟩) hS (fun q _ h => hFc q h) hFc (fun r_1 u t H locs ht hvm hw hB hz hk hS => ?_)
  replace hw : r_1 = (o_L_narrowCount f2 nv p1).1 := hw
  subst r_1
  obtain ⟨hP1, hD1⟩ := hB
  rw [ht] at hP1
  obtain ⟨hP, hD⟩ := va_join (wr := [(m0, eM m1 m2 th (r1 + r2) kn), (m1, eMR true mc1 a1), (mc1, eA cy f1), (m2, eMR false mc2 a2), (mc2, eA cy f2)]) (w1 := [(h0, eE h1 h2 kn), (h1, eR hw1 hc1 hb1 a1 r1), (hw1, eW true), (hc1, eA cy f1), (hb1, eA cy g1), (h2, eR hw2 hc2 hb2 a2 r2), (hw2, eW false), (hc2, eA cy f2), (hb2, eA cy g2), (ho, eO (o_L_narrowCount f2 nv p1).2 sv)]) hP hD [0, 1, 2, 3, 4, 5, 6, 7, 8, 9] [10, 11, 12, 13, 14] rfl rfl (by decide +kernel) (by decide +kernel) hk hFc hP1 hD1
  have hP := hP.sub (ws' := [(h0, eE h1 h2 kn), (h1, eR hw1 hc1 hb1 a1 r1), (hw1, eW true), (hc1, eA cy f1), (hb1, eA cy g1), (h2, eR hw2 hc2 hb2 a2 r2), (hw2, eW false), (hc2, eA cy f2), (hb2, eA cy g2), (ho, eO (o_L_narrowCount f2 nv p1).2 sv), (m0, eM m1 m2 th (r1 + r2) kn), (m1, eMR true mc1 a1), (mc1, eA cy f1), (m2, eMR false mc2 a2), (mc2, eA cy f2)]) [5, 6, 7, 8, 9, 10, 11, 12, 13, 14, 0, 1, 2, 3, 4] rfl
  have hD := hD.sub (ws' := [(h0, eE h1 h2 kn), (h1, eR hw1 hc1 hb1 a1 r1), (hw1, eW true), (hc1, eA cy f1), (hb1, eA cy g1), (h2, eR hw2 hc2 hb2 a2 r2), (hw2, eW false), (hc2, eA cy f2), (hb2, eA cy g2), (ho, eO (o_L_narrowCount f2 nv p1).2 sv), (m0, eM m1 m2 th (r1 + r2) kn), (m1, eMR true mc1 a1), (mc1, eA cy f1), (m2, eMR false mc2 a2), (mc2, eA cy f2)]) [5, 6, 7, 8, 9, 10, 11, 12, 13, 14, 0, 1, 2, 3, 4] (by decide +kernel) rfl
  refine lv_istore (lv' := [(5, .int ((o_L_narrowCount f2 nv p1).1)), (0, .ref b), (1, .ref h0), (2, .ref m0), (3, .ref ho), (4, .int (nI i))]) hx hb dL_law_3368 hl (by decide +kernel) rfl (fun ls hl => ?_)
  refine lv_aload_n hx hb dL_law_3370 rfl (lv_at hl 3 rfl) ?_
  refine lv_aload_n hx hb dL_law_3371 rfl (lv_at hl 1 rfl) ?_
  refine lv_iload hx hb dL_law_3372 (lv_at hl 5 rfl) ?_
  refine lv_iconst (v := 1) hx hb dL_law_3374 (by decide +kernel) ?_
  refine lv_iadd hx hb dL_law_3375 ?_
  rw [nI_1 i]
  refine xa_sld hx hb hX hbl hbA hS (k := i + 1) (by omega) hL hp1 dL_law_3376 ?_
  have hPc := hP.sub (ws' := [(m0, eM m1 m2 th (r1 + r2) kn), (m1, eMR true mc1 a1), (mc1, eA cy f1), (m2, eMR false mc2 a2), (mc2, eA cy f2)]) [10, 11, 12, 13, 14] rfl
  have hDc := hD.sub (ws' := [(m0, eM m1 m2 th (r1 + r2) kn), (m1, eMR true mc1 a1), (mc1, eA cy f1), (m2, eMR false mc2 a2), (mc2, eA cy f2)]) [10, 11, 12, 13, 14] (by decide +kernel) rfl
  have hKc := hK.sub (tys' := [(cy, .long)]) [0] rfl
  have hFc := va_free (wc := [(m0, eM m1 m2 th (r1 + r2) kn), (m1, eMR true mc1 a1), (mc1, eA cy f1), (m2, eMR false mc2 a2), (mc2, eA cy f2)]) hD hS hA [10, 11, 12, 13, 14] rfl
  refine va_calli (va_runV (As := [.int p1]) (rest := []) ⟨hx, hb, hml, hown, hts⟩ (k_X5_narrowCount l dC dI cy m0 m1 mc1 m2 mc2 a1 f1 a2 f2 th (r1 + r2) kn H.size N p1 hok2) (cwV 1 hts gL_law_X5_narrowCount rfl rfl rfl (by decide +kernel) ⟨Nat.le_of_ble_eq_true rfl, Nat.le_of_ble_eq_true rfl⟩) (xM.preV hKc hPc hDc hAN (Nat.le_trans hN hS.1) (hG.kept hS hAN) (ci := 7) (q0 := 0) rfl rfl) rfl rfl hl.1 rfl (lv_room (Nat.le_of_ble_eq_true rfl)) dL_law_3377 ⟨(show _ ≤ 716141 by omega), (show _ ≤ 6947682 by omega)⟩) hS (fun q _ h => hFc q h) hFc (fun r_2 u t H locs ht hvm hw hB hz hk hS => ?_)
  replace hw : r_2 = (o_X5_narrowCount f2 p1).1 := hw
  subst r_2
  obtain ⟨hP1, hD1⟩ := hB
  rw [ht] at hP1
  obtain ⟨hP, hD⟩ := va_join (wr := [(h0, eE h1 h2 kn), (h1, eR hw1 hc1 hb1 a1 r1), (hw1, eW true), (hc1, eA cy f1), (hb1, eA cy g1), (h2, eR hw2 hc2 hb2 a2 r2), (hw2, eW false), (hc2, eA cy f2), (hb2, eA cy g2), (ho, eO (o_L_narrowCount f2 nv p1).2 sv)]) (w1 := [(m0, eM m1 m2 (o_X5_narrowCount f2 p1).2 (r1 + r2) kn), (m1, eMR true mc1 a1), (mc1, eA cy f1), (m2, eMR false mc2 a2), (mc2, eA cy f2)]) hP hD [10, 11, 12, 13, 14] [0, 1, 2, 3, 4, 5, 6, 7, 8, 9] rfl rfl (by decide +kernel) (by decide +kernel) hk hFc hP1 hD1
  have hP := hP.sub (ws' := [(h0, eE h1 h2 kn), (h1, eR hw1 hc1 hb1 a1 r1), (hw1, eW true), (hc1, eA cy f1), (hb1, eA cy g1), (h2, eR hw2 hc2 hb2 a2 r2), (hw2, eW false), (hc2, eA cy f2), (hb2, eA cy g2), (ho, eO (o_L_narrowCount f2 nv p1).2 sv), (m0, eM m1 m2 (o_X5_narrowCount f2 p1).2 (r1 + r2) kn), (m1, eMR true mc1 a1), (mc1, eA cy f1), (m2, eMR false mc2 a2), (mc2, eA cy f2)]) [0, 1, 2, 3, 4, 5, 6, 7, 8, 9, 10, 11, 12, 13, 14] rfl
  have hD := hD.sub (ws' := [(h0, eE h1 h2 kn), (h1, eR hw1 hc1 hb1 a1 r1), (hw1, eW true), (hc1, eA cy f1), (hb1, eA cy g1), (h2, eR hw2 hc2 hb2 a2 r2), (hw2, eW false), (hc2, eA cy f2), (hb2, eA cy g2), (ho, eO (o_L_narrowCount f2 nv p1).2 sv), (m0, eM m1 m2 (o_X5_narrowCount f2 p1).2 (r1 + r2) kn), (m1, eMR true mc1 a1), (mc1, eA cy f1), (m2, eMR false mc2 a2), (mc2, eA cy f2)]) [0, 1, 2, 3, 4, 5, 6, 7, 8, 9, 10, 11, 12, 13, 14] (by decide +kernel) rfl
  refine lv_istore (lv' := [(6, .int ((o_X5_narrowCount f2 p1).1)), (5, .int ((o_L_narrowCount f2 nv p1).1)), (0, .ref b), (1, .ref h0), (2, .ref m0), (3, .ref ho), (4, .int (nI i))]) hx hb dL_law_3380 hl (by decide +kernel) rfl (fun ls hl => ?_)
  refine lv_aload_n hx hb dL_law_3382 rfl (lv_at hl 4 rfl) ?_
  have hPc := hP.sub (ws' := [(m0, eM m1 m2 (o_X5_narrowCount f2 p1).2 (r1 + r2) kn)]) [10] rfl
  have hKc := hK.sub (tys' := []) [] rfl
  refine va_calli (va_runV (As := []) (rest := []) ⟨hx, hb, hml, hown, hts⟩ (k_X5_thrown l dC dI m0 m1 m2 ((o_X5_narrowCount f2 p1).2) (r1 + r2) kn H.size) (cwV 0 hts gL_law_X5_thrown rfl rfl rfl (by decide +kernel) ⟨Nat.le_of_ble_eq_true rfl, Nat.le_of_ble_eq_true rfl⟩) (xB.preV hKc hPc (ci := 7) (q0 := 0) rfl rfl) rfl rfl hl.1 rfl (lv_room (Nat.le_of_ble_eq_true rfl)) dL_law_3383 ⟨(show _ ≤ 716141 by omega), (show _ ≤ 6947682 by omega)⟩) hS xA_old (fun q h => hA q (Nat.le_trans hS.1 h)) (fun r_3 u t H locs ht hvm hw hB hz hk hS => ?_)
  replace hw : r_3 = (o_X5_thrown ((o_X5_narrowCount f2 p1).2)) := hw
  subst r_3
  have hP := xP_keep hP hk
  refine lv_iload hx hb dL_law_3386 (lv_at hl 1 rfl) ?_
  refine lv_icmp_eq (tgt := 3393) hx hb dL_law_3388 (by decide +kernel) (fun c9 => ?_) (fun c9 => absurd (show o_X5_thrown _ = _ from (qx_narrowCount).symm) c9)
  refine lv_iload hx hb dL_law_3393 (lv_at hl 1 rfl) ?_
  refine lv_if_ne (tgt := 3411) hx hb dL_law_3395 (by decide +kernel) (fun c_4 => ?_) (fun c_4 => ?_)
  · skip
    refine lv_goto (tgt := 3660) hx hb dL_law_3411 (by decide +kernel) ?_
    refine W.widen (k := cells + 760) (n := slots + 4500) (by omega) (by omega) ?_
    exact K a1 r1 f1 g1 a2 r2 f2 g2 kn ((o_L_narrowCount f2 nv p1).2) sv ((o_X5_narrowCount f2 p1).2) a1 f1 a2 f2 (r1 + r2) kn _ _ _ rfl rfl rfl rfl rfl rfl hka1 hka2 hP hD hS (lv_sub hl [2, 3, 4, 5, 6] rfl)
  · skip
    refine lv_aload_n hx hb dL_law_3398 rfl (lv_at hl 5 rfl) ?_
    refine va_getN (D := (dC, dI)) (ci := 5) (v := .long ((o_L_narrowCount f2 nv p1).2)) (C := RX3) (T := TX3) (N := 2) hx hb hts (by decide +kernel) hown hK hP 9 rfl rfl 0 (by decide +kernel) (va_Nw.use rfl (hG.1 (.fieldLinkNest RL 13 "EdgefloatsLaw$Out" "n" "J" RL) (List.mem_of_getElem? (i := 6) rfl))) (fun _ h9 => h9) rfl dL_law_3399 ?_
    refine lv_iload hx hb dL_law_3402 (lv_at hl 0 rfl) ?_
    refine lv_i2l (v := (((o_X5_narrowCount f2 p1).1).toInt64)) hx hb dL_law_3404 rfl ?_
    refine xc_eq (tgt := 3411) hx hb dL_law_3405 dL_law_3406 (by decide +kernel) (fun c9 => ?_) (fun c9 => absurd ((qn_narrowCount).trans (if_pos ((qx_narrowCount).symm.trans c_4))) c9)
    refine lv_goto (tgt := 3660) hx hb dL_law_3411 (by decide +kernel) ?_
    refine W.widen (k := cells + 760) (n := slots + 4500) (by omega) (by omega) ?_
    exact K a1 r1 f1 g1 a2 r2 f2 g2 kn ((o_L_narrowCount f2 nv p1).2) sv ((o_X5_narrowCount f2 p1).2) a1 f1 a2 f2 (r1 + r2) kn _ _ _ rfl rfl rfl rfl rfl rfl hka1 hka2 hP hD hS (lv_sub hl [2, 3, 4, 5, 6] rfl)
set_option maxHeartbeats 4000000 in
set_option maxRecDepth 100000 in
theorem st_43 (l : Launch) (p : Program) (e : Env) (s : State) (m : MethodId) (below : List Frame) (meth : Method) (c : Code) (b L N : Nat) (xs : Nat → Int32) (A : Nat → Prop) (dC : Nat → ClassId) (dI : Nat → Nat → Nat) (cy cB : ClassId) (h0 h1 hw1 hc1 hb1 h2 hw2 hc2 hb2 ho m0 m1 mc1 m2 mc2 : Nat) (C0 : lw_C l p e s m below meth c b L N xs A dC dI cy cB) (i : Nat) (hi : i + 4 ≤ L) (p1 p2 p3 : Int32) (hp1 : xs (i + 1) = p1) (hp2 : xs (i + 2) = p2) (hp3 : xs (i + 3) = p3) (cells slots : Nat) (hcs : cells + 760 ≤ 716141) (hss : slots + 4500 ≤ 6947682) (K : lw_K l p e s m below meth c b L N xs A dC dI cy cB h0 h1 hw1 hc1 hb1 h2 hw2 hc2 hb2 ho m0 m1 mc1 m2 mc2 i (cells + 760) (slots + 4500) 3660) (a1 : Int32) (r1 : Int32) (f1 : Nat → Int64) (g1 : Nat → Int64) (a2 : Int32) (r2 : Int32) (f2 : Nat → Int64) (g2 : Nat → Int64) (kn : Int32) (nv : Int64) (sv : Value) (th : Int32) (H : Heap) (locs : List Loc) (ls : Array Slot) (hka1 : okA true f1) (hka2 : okA false f2) (hP : va_P (dC, dI) xCl [(h0, eE h1 h2 kn), (h1, eR hw1 hc1 hb1 a1 r1), (hw1, eW true), (hc1, eA cy f1), (hb1, eA cy g1), (h2, eR hw2 hc2 hb2 a2 r2), (hw2, eW false), (hc2, eA cy f2), (hb2, eA cy g2), (ho, eO nv sv), (m0, eM m1 m2 th (r1 + r2) kn), (m1, eMR true mc1 a1), (mc1, eA cy f1), (m2, eMR false mc2 a2), (mc2, eA cy f2)] H) (hD : va_D A [(h0, eE h1 h2 kn), (h1, eR hw1 hc1 hb1 a1 r1), (hw1, eW true), (hc1, eA cy f1), (hb1, eA cy g1), (h2, eR hw2 hc2 hb2 a2 r2), (hw2, eW false), (hc2, eA cy f2), (hb2, eA cy g2), (ho, eO nv sv), (m0, eM m1 m2 th (r1 + r2) kn), (m1, eMR true mc1 a1), (mc1, eA cy f1), (m2, eMR false mc2 a2), (mc2, eA cy f2)]) (hS : va_S A s.heap H locs) (hl : lv_has ls 7 [(0, .ref b), (1, .ref h0), (2, .ref m0), (3, .ref ho), (4, .int (nI i))]) : W p l e room_1 s m #[Value.ref b] below meth c H locs cells slots (lw_Z below #[Value.ref b] s) (F0 m 3414 ls []) := by
  obtain ⟨hfl, hx, hb, hr, hml, hown, hts, hX, hbl, hbA, hlocks, hK, hG, hnc, hA, hAN, hN, hL, hT, hNs⟩ := id C0
  have hok2 := me_okF hka2
  have hsp1 : ∀ k, k < 8 → o_X1_isSpoiled true (f1 k) = false := fun k hk => (hka1 k hk).2
  have hsp2 : ∀ k, k < 8 → o_X1_isSpoiled false (f2 k) = false := fun k hk => (hka2 k hk).2
  have qx_narrowFind : (o_L_narrowFind f2 nv p1 false).1 = (o_X5_narrowFind f2 p1 false).2 := by have hm := ml_narrowFind nv p1 false hka2; rw [hm] <;> rfl
  have qn_narrowFind : (o_L_narrowFind f2 nv p1 false).2 = if (o_X5_narrowFind f2 p1 false).2 = 0 then ((o_X5_narrowFind f2 p1 false).1).toInt64 else nv := by have hm := ml_narrowFind nv p1 false hka2; rw [hm] <;> rfl
  have qx_narrowFind_1 : (o_L_narrowFind f2 nv p1 true).1 = (o_X5_narrowFind f2 p1 true).2 := by have hm := ml_narrowFind nv p1 true hka2; rw [hm] <;> rfl
  have qn_narrowFind_1 : (o_L_narrowFind f2 nv p1 true).2 = if (o_X5_narrowFind f2 p1 true).2 = 0 then ((o_X5_narrowFind f2 p1 true).1).toInt64 else nv := by have hm := ml_narrowFind nv p1 true hka2; rw [hm] <;> rfl
  refine lv_aload_n hx hb dL_law_3414 rfl (lv_at hl 1 rfl) ?_
  refine lv_aload_n hx hb dL_law_3415 rfl (lv_at hl 0 rfl) ?_
  refine lv_iload hx hb dL_law_3416 (lv_at hl 4 rfl) ?_
  refine lv_iconst (v := 1) hx hb dL_law_3418 (by decide +kernel) ?_
  refine lv_iadd hx hb dL_law_3419 ?_
  rw [nI_1 i]
  refine xa_sld hx hb hX hbl hbA hS (k := i + 1) (by omega) hL hp1 dL_law_3420 ?_
  refine lv_aload_n hx hb dL_law_3421 rfl (lv_at hl 0 rfl) ?_
  refine lv_iload hx hb dL_law_3422 (lv_at hl 4 rfl) ?_
  refine lv_iconst (v := 2) hx hb dL_law_3424 (by decide +kernel) ?_
  refine lv_iadd hx hb dL_law_3425 ?_
  rw [nI_p2 i]
  refine xa_sld hx hb hX hbl hbA hS (k := i + 2) (by omega) hL hp2 dL_law_3426 ?_
  refine lv_if_eq (tgt := 3434) hx hb dL_law_3427 (by decide +kernel) (fun c_1 => ?_) (fun c_1 => ?_)
  · skip
    refine lv_iconst (v := 0) hx hb dL_law_3434 (by decide +kernel) ?_
    refine lv_aload_n hx hb dL_law_3435 rfl (lv_at hl 3 rfl) ?_
    have hPc := hP.sub (ws' := [(h0, eE h1 h2 kn), (h1, eR hw1 hc1 hb1 a1 r1), (hw1, eW true), (hc1, eA cy f1), (hb1, eA cy g1), (h2, eR hw2 hc2 hb2 a2 r2), (hw2, eW false), (hc2, eA cy f2), (hb2, eA cy g2), (ho, eO nv sv)]) [0, 1, 2, 3, 4, 5, 6, 7, 8, 9] rfl
    have hDc := hD.sub (ws' := [(h0, eE h1 h2 kn), (h1, eR hw1 hc1 hb1 a1 r1), (hw1, eW true), (hc1, eA cy f1), (hb1, eA cy g1), (h2, eR hw2 hc2 hb2 a2 r2), (hw2, eW false), (hc2, eA cy f2), (hb2, eA cy g2), (ho, eO nv sv)]) [0, 1, 2, 3, 4, 5, 6, 7, 8, 9] (by decide +kernel) rfl
    have hKc := hK.sub (tys' := [(cy, .long)]) [0] rfl
    have hFc := va_free (wc := [(h0, eE h1 h2 kn), (h1, eR hw1 hc1 hb1 a1 r1), (hw1, eW true), (hc1, eA cy f1), (hb1, eA cy g1), (h2, eR hw2 hc2 hb2 a2 r2), (hw2, eW false), (hc2, eA cy f2), (hb2, eA cy g2), (ho, eO nv sv)]) hD hS hA [0, 1, 2, 3, 4, 5, 6, 7, 8, 9] rfl
    refine va_calli (vx_runSW (As := [.ref h0, .int p1, .int 0, .ref ho]) (rest := []) ⟨hx, hb, hml, hown, hts⟩ (k_L_narrowFind l hfl dC dI cy h0 h1 hw1 hc1 hb1 h2 hw2 hc2 hb2 a1 r1 f1 g1 a2 r2 f2 g2 kn ho nv sv H.size N p1 false) (vx_cwSW 4 hts gL_law_L_narrowFind rfl rfl rfl (by decide +kernel) ⟨Nat.le_of_ble_eq_true rfl, Nat.le_of_ble_eq_true rfl⟩) (xL.preS hKc hPc hDc hAN (Nat.le_trans hN hS.1) (hG.kept hS hAN) hnc) rfl rfl hl.1 rfl (lv_room (Nat.le_of_ble_eq_true rfl)) dL_law_3436 ⟨(show _ ≤ 716141 by omega), (show _ ≤ 6947682 by omega)⟩) hS (fun q _ h => hFc q h) hFc (fun r_2 u t H locs ht hvm hw hB hz hk hS => ?_)
    replace hw : r_2 = (o_L_narrowFind f2 nv p1 false).1 := hw
    subst r_2
    obtain ⟨hP1, hD1⟩ := hB
    rw [ht] at hP1
    obtain ⟨hP, hD⟩ := va_join (wr := [(m0, eM m1 m2 th (r1 + r2) kn), (m1, eMR true mc1 a1), (mc1, eA cy f1), (m2, eMR false mc2 a2), (mc2, eA cy f2)]) (w1 := [(h0, eE h1 h2 kn), (h1, eR hw1 hc1 hb1 a1 r1), (hw1, eW true), (hc1, eA cy f1), (hb1, eA cy g1), (h2, eR hw2 hc2 hb2 a2 r2), (hw2, eW false), (hc2, eA cy f2), (hb2, eA cy g2), (ho, eO (o_L_narrowFind f2 nv p1 false).2 sv)]) hP hD [0, 1, 2, 3, 4, 5, 6, 7, 8, 9] [10, 11, 12, 13, 14] rfl rfl (by decide +kernel) (by decide +kernel) hk hFc hP1 hD1
    have hP := hP.sub (ws' := [(h0, eE h1 h2 kn), (h1, eR hw1 hc1 hb1 a1 r1), (hw1, eW true), (hc1, eA cy f1), (hb1, eA cy g1), (h2, eR hw2 hc2 hb2 a2 r2), (hw2, eW false), (hc2, eA cy f2), (hb2, eA cy g2), (ho, eO (o_L_narrowFind f2 nv p1 false).2 sv), (m0, eM m1 m2 th (r1 + r2) kn), (m1, eMR true mc1 a1), (mc1, eA cy f1), (m2, eMR false mc2 a2), (mc2, eA cy f2)]) [5, 6, 7, 8, 9, 10, 11, 12, 13, 14, 0, 1, 2, 3, 4] rfl
    have hD := hD.sub (ws' := [(h0, eE h1 h2 kn), (h1, eR hw1 hc1 hb1 a1 r1), (hw1, eW true), (hc1, eA cy f1), (hb1, eA cy g1), (h2, eR hw2 hc2 hb2 a2 r2), (hw2, eW false), (hc2, eA cy f2), (hb2, eA cy g2), (ho, eO (o_L_narrowFind f2 nv p1 false).2 sv), (m0, eM m1 m2 th (r1 + r2) kn), (m1, eMR true mc1 a1), (mc1, eA cy f1), (m2, eMR false mc2 a2), (mc2, eA cy f2)]) [5, 6, 7, 8, 9, 10, 11, 12, 13, 14, 0, 1, 2, 3, 4] (by decide +kernel) rfl
    refine lv_istore (lv' := [(5, .int ((o_L_narrowFind f2 nv p1 false).1)), (0, .ref b), (1, .ref h0), (2, .ref m0), (3, .ref ho), (4, .int (nI i))]) hx hb dL_law_3439 hl (by decide +kernel) rfl (fun ls hl => ?_)
    refine lv_aload_n hx hb dL_law_3441 rfl (lv_at hl 3 rfl) ?_
    refine lv_aload_n hx hb dL_law_3442 rfl (lv_at hl 1 rfl) ?_
    refine lv_iload hx hb dL_law_3443 (lv_at hl 5 rfl) ?_
    refine lv_iconst (v := 1) hx hb dL_law_3445 (by decide +kernel) ?_
    refine lv_iadd hx hb dL_law_3446 ?_
    rw [nI_1 i]
    refine xa_sld hx hb hX hbl hbA hS (k := i + 1) (by omega) hL hp1 dL_law_3447 ?_
    refine lv_aload_n hx hb dL_law_3448 rfl (lv_at hl 1 rfl) ?_
    refine lv_iload hx hb dL_law_3449 (lv_at hl 5 rfl) ?_
    refine lv_iconst (v := 2) hx hb dL_law_3451 (by decide +kernel) ?_
    refine lv_iadd hx hb dL_law_3452 ?_
    rw [nI_p2 i]
    refine xa_sld hx hb hX hbl hbA hS (k := i + 2) (by omega) hL hp2 dL_law_3453 ?_
    refine lv_if_eq (tgt := 3461) hx hb dL_law_3454 (by decide +kernel) (fun c9 => ?_) (fun c9 => absurd c_1 c9)
    refine lv_iconst (v := 0) hx hb dL_law_3461 (by decide +kernel) ?_
    have hPc := hP.sub (ws' := [(m0, eM m1 m2 th (r1 + r2) kn), (m1, eMR true mc1 a1), (mc1, eA cy f1), (m2, eMR false mc2 a2), (mc2, eA cy f2)]) [10, 11, 12, 13, 14] rfl
    have hDc := hD.sub (ws' := [(m0, eM m1 m2 th (r1 + r2) kn), (m1, eMR true mc1 a1), (mc1, eA cy f1), (m2, eMR false mc2 a2), (mc2, eA cy f2)]) [10, 11, 12, 13, 14] (by decide +kernel) rfl
    have hKc := hK.sub (tys' := [(cy, .long)]) [0] rfl
    have hFc := va_free (wc := [(m0, eM m1 m2 th (r1 + r2) kn), (m1, eMR true mc1 a1), (mc1, eA cy f1), (m2, eMR false mc2 a2), (mc2, eA cy f2)]) hD hS hA [10, 11, 12, 13, 14] rfl
    refine va_calli (va_runV (As := [.int p1, .int 0]) (rest := []) ⟨hx, hb, hml, hown, hts⟩ (k_X5_narrowFind l dC dI cy m0 m1 mc1 m2 mc2 a1 f1 a2 f2 th (r1 + r2) kn H.size N p1 false) (cwV 2 hts gL_law_X5_narrowFind rfl rfl rfl (by decide +kernel) ⟨Nat.le_of_ble_eq_true rfl, Nat.le_of_ble_eq_true rfl⟩) (xM.preV hKc hPc hDc hAN (Nat.le_trans hN hS.1) (hG.kept hS hAN) (ci := 7) (q0 := 0) rfl rfl) rfl rfl hl.1 rfl (lv_room (Nat.le_of_ble_eq_true rfl)) dL_law_3462 ⟨(show _ ≤ 716141 by omega), (show _ ≤ 6947682 by omega)⟩) hS (fun q _ h => hFc q h) hFc (fun r_3 u t H locs ht hvm hw hB hz hk hS => ?_)
    replace hw : r_3 = (o_X5_narrowFind f2 p1 false).1 := hw
    subst r_3
    obtain ⟨hP1, hD1⟩ := hB
    rw [ht] at hP1
    obtain ⟨hP, hD⟩ := va_join (wr := [(h0, eE h1 h2 kn), (h1, eR hw1 hc1 hb1 a1 r1), (hw1, eW true), (hc1, eA cy f1), (hb1, eA cy g1), (h2, eR hw2 hc2 hb2 a2 r2), (hw2, eW false), (hc2, eA cy f2), (hb2, eA cy g2), (ho, eO (o_L_narrowFind f2 nv p1 false).2 sv)]) (w1 := [(m0, eM m1 m2 (o_X5_narrowFind f2 p1 false).2 (r1 + r2) kn), (m1, eMR true mc1 a1), (mc1, eA cy f1), (m2, eMR false mc2 a2), (mc2, eA cy f2)]) hP hD [10, 11, 12, 13, 14] [0, 1, 2, 3, 4, 5, 6, 7, 8, 9] rfl rfl (by decide +kernel) (by decide +kernel) hk hFc hP1 hD1
    have hP := hP.sub (ws' := [(h0, eE h1 h2 kn), (h1, eR hw1 hc1 hb1 a1 r1), (hw1, eW true), (hc1, eA cy f1), (hb1, eA cy g1), (h2, eR hw2 hc2 hb2 a2 r2), (hw2, eW false), (hc2, eA cy f2), (hb2, eA cy g2), (ho, eO (o_L_narrowFind f2 nv p1 false).2 sv), (m0, eM m1 m2 (o_X5_narrowFind f2 p1 false).2 (r1 + r2) kn), (m1, eMR true mc1 a1), (mc1, eA cy f1), (m2, eMR false mc2 a2), (mc2, eA cy f2)]) [0, 1, 2, 3, 4, 5, 6, 7, 8, 9, 10, 11, 12, 13, 14] rfl
    have hD := hD.sub (ws' := [(h0, eE h1 h2 kn), (h1, eR hw1 hc1 hb1 a1 r1), (hw1, eW true), (hc1, eA cy f1), (hb1, eA cy g1), (h2, eR hw2 hc2 hb2 a2 r2), (hw2, eW false), (hc2, eA cy f2), (hb2, eA cy g2), (ho, eO (o_L_narrowFind f2 nv p1 false).2 sv), (m0, eM m1 m2 (o_X5_narrowFind f2 p1 false).2 (r1 + r2) kn), (m1, eMR true mc1 a1), (mc1, eA cy f1), (m2, eMR false mc2 a2), (mc2, eA cy f2)]) [0, 1, 2, 3, 4, 5, 6, 7, 8, 9, 10, 11, 12, 13, 14] (by decide +kernel) rfl
    refine lv_istore (lv' := [(6, .int ((o_X5_narrowFind f2 p1 false).1)), (5, .int ((o_L_narrowFind f2 nv p1 false).1)), (0, .ref b), (1, .ref h0), (2, .ref m0), (3, .ref ho), (4, .int (nI i))]) hx hb dL_law_3465 hl (by decide +kernel) rfl (fun ls hl => ?_)
    refine lv_aload_n hx hb dL_law_3467 rfl (lv_at hl 4 rfl) ?_
    have hPc := hP.sub (ws' := [(m0, eM m1 m2 (o_X5_narrowFind f2 p1 false).2 (r1 + r2) kn)]) [10] rfl
    have hKc := hK.sub (tys' := []) [] rfl
    refine va_calli (va_runV (As := []) (rest := []) ⟨hx, hb, hml, hown, hts⟩ (k_X5_thrown l dC dI m0 m1 m2 ((o_X5_narrowFind f2 p1 false).2) (r1 + r2) kn H.size) (cwV 0 hts gL_law_X5_thrown rfl rfl rfl (by decide +kernel) ⟨Nat.le_of_ble_eq_true rfl, Nat.le_of_ble_eq_true rfl⟩) (xB.preV hKc hPc (ci := 7) (q0 := 0) rfl rfl) rfl rfl hl.1 rfl (lv_room (Nat.le_of_ble_eq_true rfl)) dL_law_3468 ⟨(show _ ≤ 716141 by omega), (show _ ≤ 6947682 by omega)⟩) hS xA_old (fun q h => hA q (Nat.le_trans hS.1 h)) (fun r_4 u t H locs ht hvm hw hB hz hk hS => ?_)
    replace hw : r_4 = (o_X5_thrown ((o_X5_narrowFind f2 p1 false).2)) := hw
    subst r_4
    have hP := xP_keep hP hk
    refine lv_iload hx hb dL_law_3471 (lv_at hl 1 rfl) ?_
    refine lv_icmp_eq (tgt := 3478) hx hb dL_law_3473 (by decide +kernel) (fun c9 => ?_) (fun c9 => absurd (show o_X5_thrown _ = _ from (qx_narrowFind).symm) c9)
    refine lv_iload hx hb dL_law_3478 (lv_at hl 1 rfl) ?_
    refine lv_if_ne (tgt := 3496) hx hb dL_law_3480 (by decide +kernel) (fun c_5 => ?_) (fun c_5 => ?_)
    · skip
      refine lv_goto (tgt := 3660) hx hb dL_law_3496 (by decide +kernel) ?_
      refine W.widen (k := cells + 760) (n := slots + 4500) (by omega) (by omega) ?_
      exact K a1 r1 f1 g1 a2 r2 f2 g2 kn ((o_L_narrowFind f2 nv p1 false).2) sv ((o_X5_narrowFind f2 p1 false).2) a1 f1 a2 f2 (r1 + r2) kn _ _ _ rfl rfl rfl rfl rfl rfl hka1 hka2 hP hD hS (lv_sub hl [2, 3, 4, 5, 6] rfl)
    · skip
      refine lv_aload_n hx hb dL_law_3483 rfl (lv_at hl 5 rfl) ?_
      refine va_getN (D := (dC, dI)) (ci := 5) (v := .long ((o_L_narrowFind f2 nv p1 false).2)) (C := RX3) (T := TX3) (N := 2) hx hb hts (by decide +kernel) hown hK hP 9 rfl rfl 0 (by decide +kernel) (va_Nw.use rfl (hG.1 (.fieldLinkNest RL 13 "EdgefloatsLaw$Out" "n" "J" RL) (List.mem_of_getElem? (i := 6) rfl))) (fun _ h9 => h9) rfl dL_law_3484 ?_
      refine lv_iload hx hb dL_law_3487 (lv_at hl 0 rfl) ?_
      refine lv_i2l (v := (((o_X5_narrowFind f2 p1 false).1).toInt64)) hx hb dL_law_3489 rfl ?_
      refine xc_eq (tgt := 3496) hx hb dL_law_3490 dL_law_3491 (by decide +kernel) (fun c9 => ?_) (fun c9 => absurd ((qn_narrowFind).trans (if_pos ((qx_narrowFind).symm.trans c_5))) c9)
      refine lv_goto (tgt := 3660) hx hb dL_law_3496 (by decide +kernel) ?_
      refine W.widen (k := cells + 760) (n := slots + 4500) (by omega) (by omega) ?_
      exact K a1 r1 f1 g1 a2 r2 f2 g2 kn ((o_L_narrowFind f2 nv p1 false).2) sv ((o_X5_narrowFind f2 p1 false).2) a1 f1 a2 f2 (r1 + r2) kn _ _ _ rfl rfl rfl rfl rfl rfl hka1 hka2 hP hD hS (lv_sub hl [2, 3, 4, 5, 6] rfl)
  · skip
    refine lv_iconst (v := 1) hx hb dL_law_3430 (by decide +kernel) ?_
    refine lv_goto (tgt := 3435) hx hb dL_law_3431 (by decide +kernel) ?_
    refine lv_aload_n hx hb dL_law_3435 rfl (lv_at hl 3 rfl) ?_
    have hPc := hP.sub (ws' := [(h0, eE h1 h2 kn), (h1, eR hw1 hc1 hb1 a1 r1), (hw1, eW true), (hc1, eA cy f1), (hb1, eA cy g1), (h2, eR hw2 hc2 hb2 a2 r2), (hw2, eW false), (hc2, eA cy f2), (hb2, eA cy g2), (ho, eO nv sv)]) [0, 1, 2, 3, 4, 5, 6, 7, 8, 9] rfl
    have hDc := hD.sub (ws' := [(h0, eE h1 h2 kn), (h1, eR hw1 hc1 hb1 a1 r1), (hw1, eW true), (hc1, eA cy f1), (hb1, eA cy g1), (h2, eR hw2 hc2 hb2 a2 r2), (hw2, eW false), (hc2, eA cy f2), (hb2, eA cy g2), (ho, eO nv sv)]) [0, 1, 2, 3, 4, 5, 6, 7, 8, 9] (by decide +kernel) rfl
    have hKc := hK.sub (tys' := [(cy, .long)]) [0] rfl
    have hFc := va_free (wc := [(h0, eE h1 h2 kn), (h1, eR hw1 hc1 hb1 a1 r1), (hw1, eW true), (hc1, eA cy f1), (hb1, eA cy g1), (h2, eR hw2 hc2 hb2 a2 r2), (hw2, eW false), (hc2, eA cy f2), (hb2, eA cy g2), (ho, eO nv sv)]) hD hS hA [0, 1, 2, 3, 4, 5, 6, 7, 8, 9] rfl
    refine va_calli (vx_runSW (As := [.ref h0, .int p1, .int 1, .ref ho]) (rest := []) ⟨hx, hb, hml, hown, hts⟩ (k_L_narrowFind l hfl dC dI cy h0 h1 hw1 hc1 hb1 h2 hw2 hc2 hb2 a1 r1 f1 g1 a2 r2 f2 g2 kn ho nv sv H.size N p1 true) (vx_cwSW 4 hts gL_law_L_narrowFind rfl rfl rfl (by decide +kernel) ⟨Nat.le_of_ble_eq_true rfl, Nat.le_of_ble_eq_true rfl⟩) (xL.preS hKc hPc hDc hAN (Nat.le_trans hN hS.1) (hG.kept hS hAN) hnc) rfl rfl hl.1 rfl (lv_room (Nat.le_of_ble_eq_true rfl)) dL_law_3436 ⟨(show _ ≤ 716141 by omega), (show _ ≤ 6947682 by omega)⟩) hS (fun q _ h => hFc q h) hFc (fun r_6 u t H locs ht hvm hw hB hz hk hS => ?_)
    replace hw : r_6 = (o_L_narrowFind f2 nv p1 true).1 := hw
    subst r_6
    obtain ⟨hP1, hD1⟩ := hB
    rw [ht] at hP1
    obtain ⟨hP, hD⟩ := va_join (wr := [(m0, eM m1 m2 th (r1 + r2) kn), (m1, eMR true mc1 a1), (mc1, eA cy f1), (m2, eMR false mc2 a2), (mc2, eA cy f2)]) (w1 := [(h0, eE h1 h2 kn), (h1, eR hw1 hc1 hb1 a1 r1), (hw1, eW true), (hc1, eA cy f1), (hb1, eA cy g1), (h2, eR hw2 hc2 hb2 a2 r2), (hw2, eW false), (hc2, eA cy f2), (hb2, eA cy g2), (ho, eO (o_L_narrowFind f2 nv p1 true).2 sv)]) hP hD [0, 1, 2, 3, 4, 5, 6, 7, 8, 9] [10, 11, 12, 13, 14] rfl rfl (by decide +kernel) (by decide +kernel) hk hFc hP1 hD1
    have hP := hP.sub (ws' := [(h0, eE h1 h2 kn), (h1, eR hw1 hc1 hb1 a1 r1), (hw1, eW true), (hc1, eA cy f1), (hb1, eA cy g1), (h2, eR hw2 hc2 hb2 a2 r2), (hw2, eW false), (hc2, eA cy f2), (hb2, eA cy g2), (ho, eO (o_L_narrowFind f2 nv p1 true).2 sv), (m0, eM m1 m2 th (r1 + r2) kn), (m1, eMR true mc1 a1), (mc1, eA cy f1), (m2, eMR false mc2 a2), (mc2, eA cy f2)]) [5, 6, 7, 8, 9, 10, 11, 12, 13, 14, 0, 1, 2, 3, 4] rfl
    have hD := hD.sub (ws' := [(h0, eE h1 h2 kn), (h1, eR hw1 hc1 hb1 a1 r1), (hw1, eW true), (hc1, eA cy f1), (hb1, eA cy g1), (h2, eR hw2 hc2 hb2 a2 r2), (hw2, eW false), (hc2, eA cy f2), (hb2, eA cy g2), (ho, eO (o_L_narrowFind f2 nv p1 true).2 sv), (m0, eM m1 m2 th (r1 + r2) kn), (m1, eMR true mc1 a1), (mc1, eA cy f1), (m2, eMR false mc2 a2), (mc2, eA cy f2)]) [5, 6, 7, 8, 9, 10, 11, 12, 13, 14, 0, 1, 2, 3, 4] (by decide +kernel) rfl
    refine lv_istore (lv' := [(5, .int ((o_L_narrowFind f2 nv p1 true).1)), (0, .ref b), (1, .ref h0), (2, .ref m0), (3, .ref ho), (4, .int (nI i))]) hx hb dL_law_3439 hl (by decide +kernel) rfl (fun ls hl => ?_)
    refine lv_aload_n hx hb dL_law_3441 rfl (lv_at hl 3 rfl) ?_
    refine lv_aload_n hx hb dL_law_3442 rfl (lv_at hl 1 rfl) ?_
    refine lv_iload hx hb dL_law_3443 (lv_at hl 5 rfl) ?_
    refine lv_iconst (v := 1) hx hb dL_law_3445 (by decide +kernel) ?_
    refine lv_iadd hx hb dL_law_3446 ?_
    rw [nI_1 i]
    refine xa_sld hx hb hX hbl hbA hS (k := i + 1) (by omega) hL hp1 dL_law_3447 ?_
    refine lv_aload_n hx hb dL_law_3448 rfl (lv_at hl 1 rfl) ?_
    refine lv_iload hx hb dL_law_3449 (lv_at hl 5 rfl) ?_
    refine lv_iconst (v := 2) hx hb dL_law_3451 (by decide +kernel) ?_
    refine lv_iadd hx hb dL_law_3452 ?_
    rw [nI_p2 i]
    refine xa_sld hx hb hX hbl hbA hS (k := i + 2) (by omega) hL hp2 dL_law_3453 ?_
    refine lv_if_eq (tgt := 3461) hx hb dL_law_3454 (by decide +kernel) (fun c9 => absurd c9 c_1) (fun c9 => ?_)
    refine lv_iconst (v := 1) hx hb dL_law_3457 (by decide +kernel) ?_
    refine lv_goto (tgt := 3462) hx hb dL_law_3458 (by decide +kernel) ?_
    have hPc := hP.sub (ws' := [(m0, eM m1 m2 th (r1 + r2) kn), (m1, eMR true mc1 a1), (mc1, eA cy f1), (m2, eMR false mc2 a2), (mc2, eA cy f2)]) [10, 11, 12, 13, 14] rfl
    have hDc := hD.sub (ws' := [(m0, eM m1 m2 th (r1 + r2) kn), (m1, eMR true mc1 a1), (mc1, eA cy f1), (m2, eMR false mc2 a2), (mc2, eA cy f2)]) [10, 11, 12, 13, 14] (by decide +kernel) rfl
    have hKc := hK.sub (tys' := [(cy, .long)]) [0] rfl
    have hFc := va_free (wc := [(m0, eM m1 m2 th (r1 + r2) kn), (m1, eMR true mc1 a1), (mc1, eA cy f1), (m2, eMR false mc2 a2), (mc2, eA cy f2)]) hD hS hA [10, 11, 12, 13, 14] rfl
    refine va_calli (va_runV (As := [.int p1, .int 1]) (rest := []) ⟨hx, hb, hml, hown, hts⟩ (k_X5_narrowFind l dC dI cy m0 m1 mc1 m2 mc2 a1 f1 a2 f2 th (r1 + r2) kn H.size N p1 true) (cwV 2 hts gL_law_X5_narrowFind rfl rfl rfl (by decide +kernel) ⟨Nat.le_of_ble_eq_true rfl, Nat.le_of_ble_eq_true rfl⟩) (xM.preV hKc hPc hDc hAN (Nat.le_trans hN hS.1) (hG.kept hS hAN) (ci := 7) (q0 := 0) rfl rfl) rfl rfl hl.1 rfl (lv_room (Nat.le_of_ble_eq_true rfl)) dL_law_3462 ⟨(show _ ≤ 716141 by omega), (show _ ≤ 6947682 by omega)⟩) hS (fun q _ h => hFc q h) hFc (fun r_7 u t H locs ht hvm hw hB hz hk hS => ?_)
    replace hw : r_7 = (o_X5_narrowFind f2 p1 true).1 := hw
    subst r_7
    obtain ⟨hP1, hD1⟩ := hB
    rw [ht] at hP1
    obtain ⟨hP, hD⟩ := va_join (wr := [(h0, eE h1 h2 kn), (h1, eR hw1 hc1 hb1 a1 r1), (hw1, eW true), (hc1, eA cy f1), (hb1, eA cy g1), (h2, eR hw2 hc2 hb2 a2 r2), (hw2, eW false), (hc2, eA cy f2), (hb2, eA cy g2), (ho, eO (o_L_narrowFind f2 nv p1 true).2 sv)]) (w1 := [(m0, eM m1 m2 (o_X5_narrowFind f2 p1 true).2 (r1 + r2) kn), (m1, eMR true mc1 a1), (mc1, eA cy f1), (m2, eMR false mc2 a2), (mc2, eA cy f2)]) hP hD [10, 11, 12, 13, 14] [0, 1, 2, 3, 4, 5, 6, 7, 8, 9] rfl rfl (by decide +kernel) (by decide +kernel) hk hFc hP1 hD1
    have hP := hP.sub (ws' := [(h0, eE h1 h2 kn), (h1, eR hw1 hc1 hb1 a1 r1), (hw1, eW true), (hc1, eA cy f1), (hb1, eA cy g1), (h2, eR hw2 hc2 hb2 a2 r2), (hw2, eW false), (hc2, eA cy f2), (hb2, eA cy g2), (ho, eO (o_L_narrowFind f2 nv p1 true).2 sv), (m0, eM m1 m2 (o_X5_narrowFind f2 p1 true).2 (r1 + r2) kn), (m1, eMR true mc1 a1), (mc1, eA cy f1), (m2, eMR false mc2 a2), (mc2, eA cy f2)]) [0, 1, 2, 3, 4, 5, 6, 7, 8, 9, 10, 11, 12, 13, 14] rfl
    have hD := hD.sub (ws' := [(h0, eE h1 h2 kn), (h1, eR hw1 hc1 hb1 a1 r1), (hw1, eW true), (hc1, eA cy f1), (hb1, eA cy g1), (h2, eR hw2 hc2 hb2 a2 r2), (hw2, eW false), (hc2, eA cy f2), (hb2, eA cy g2), (ho, eO (o_L_narrowFind f2 nv p1 true).2 sv), (m0, eM m1 m2 (o_X5_narrowFind f2 p1 true).2 (r1 + r2) kn), (m1, eMR true mc1 a1), (mc1, eA cy f1), (m2, eMR false mc2 a2), (mc2, eA cy f2)]) [0, 1, 2, 3, 4, 5, 6, 7, 8, 9, 10, 11, 12, 13, 14] (by decide +kernel) rfl
    refine lv_istore (lv' := [(6, .int ((o_X5_narrowFind f2 p1 true).1)), (5, .int ((o_L_narrowFind f2 nv p1 true).1)), (0, .ref b), (1, .ref h0), (2, .ref m0), (3, .ref ho), (4, .int (nI i))]) hx hb dL_law_3465 hl (by decide +kernel) rfl (fun ls hl => ?_)
    refine lv_aload_n hx hb dL_law_3467 rfl (lv_at hl 4 rfl) ?_
    have hPc := hP.sub (ws' := [(m0, eM m1 m2 (o_X5_narrowFind f2 p1 true).2 (r1 + r2) kn)]) [10] rfl
    have hKc := hK.sub (tys' := []) [] rfl
    refine va_calli (va_runV (As := []) (rest := []) ⟨hx, hb, hml, hown, hts⟩ (k_X5_thrown l dC dI m0 m1 m2 ((o_X5_narrowFind f2 p1 true).2) (r1 + r2) kn H.size) (cwV 0 hts gL_law_X5_thrown rfl rfl rfl (by decide +kernel) ⟨Nat.le_of_ble_eq_true rfl, Nat.le_of_ble_eq_true rfl⟩) (xB.preV hKc hPc (ci := 7) (q0 := 0) rfl rfl) rfl rfl hl.1 rfl (lv_room (Nat.le_of_ble_eq_true rfl)) dL_law_3468 ⟨(show _ ≤ 716141 by omega), (show _ ≤ 6947682 by omega)⟩) hS xA_old (fun q h => hA q (Nat.le_trans hS.1 h)) (fun r_8 u t H locs ht hvm hw hB hz hk hS => ?_)
    replace hw : r_8 = (o_X5_thrown ((o_X5_narrowFind f2 p1 true).2)) := hw
    subst r_8
    have hP := xP_keep hP hk
    refine lv_iload hx hb dL_law_3471 (lv_at hl 1 rfl) ?_
    refine lv_icmp_eq (tgt := 3478) hx hb dL_law_3473 (by decide +kernel) (fun c9 => ?_) (fun c9 => absurd (show o_X5_thrown _ = _ from (qx_narrowFind_1).symm) c9)
    refine lv_iload hx hb dL_law_3478 (lv_at hl 1 rfl) ?_
    refine lv_if_ne (tgt := 3496) hx hb dL_law_3480 (by decide +kernel) (fun c_9 => ?_) (fun c_9 => ?_)
    · skip
      refine lv_goto (tgt := 3660) hx hb dL_law_3496 (by decide +kernel) ?_
      refine W.widen (k := cells + 760) (n := slots + 4500) (by omega) (by omega) ?_
      exact K a1 r1 f1 g1 a2 r2 f2 g2 kn ((o_L_narrowFind f2 nv p1 true).2) sv ((o_X5_narrowFind f2 p1 true).2) a1 f1 a2 f2 (r1 + r2) kn _ _ _ rfl rfl rfl rfl rfl rfl hka1 hka2 hP hD hS (lv_sub hl [2, 3, 4, 5, 6] rfl)
    · skip
      refine lv_aload_n hx hb dL_law_3483 rfl (lv_at hl 5 rfl) ?_
      refine va_getN (D := (dC, dI)) (ci := 5) (v := .long ((o_L_narrowFind f2 nv p1 true).2)) (C := RX3) (T := TX3) (N := 2) hx hb hts (by decide +kernel) hown hK hP 9 rfl rfl 0 (by decide +kernel) (va_Nw.use rfl (hG.1 (.fieldLinkNest RL 13 "EdgefloatsLaw$Out" "n" "J" RL) (List.mem_of_getElem? (i := 6) rfl))) (fun _ h9 => h9) rfl dL_law_3484 ?_
      refine lv_iload hx hb dL_law_3487 (lv_at hl 0 rfl) ?_
      refine lv_i2l (v := (((o_X5_narrowFind f2 p1 true).1).toInt64)) hx hb dL_law_3489 rfl ?_
      refine xc_eq (tgt := 3496) hx hb dL_law_3490 dL_law_3491 (by decide +kernel) (fun c9 => ?_) (fun c9 => absurd ((qn_narrowFind_1).trans (if_pos ((qx_narrowFind_1).symm.trans c_9))) c9)
      refine lv_goto (tgt := 3660) hx hb dL_law_3496 (by decide +kernel) ?_
      refine W.widen (k := cells + 760) (n := slots + 4500) (by omega) (by omega) ?_
      exact K a1 r1 f1 g1 a2 r2 f2 g2 kn ((o_L_narrowFind f2 nv p1 true).2) sv ((o_X5_narrowFind f2 p1 true).2) a1 f1 a2 f2 (r1 + r2) kn _ _ _ rfl rfl rfl rfl rfl rfl hka1 hka2 hP hD hS (lv_sub hl [2, 3, 4, 5, 6] rfl)
set_option maxHeartbeats 4000000 in
set_option maxRecDepth 100000 in
theorem st_44 (l : Launch) (p : Program) (e : Env) (s : State) (m : MethodId) (below : List Frame) (meth : Method) (c : Code) (b L N : Nat) (xs : Nat → Int32) (A : Nat → Prop) (dC : Nat → ClassId) (dI : Nat → Nat → Nat) (cy cB : ClassId) (h0 h1 hw1 hc1 hb1 h2 hw2 hc2 hb2 ho m0 m1 mc1 m2 mc2 : Nat) (C0 : lw_C l p e s m below meth c b L N xs A dC dI cy cB) (i : Nat) (hi : i + 4 ≤ L) (p1 p2 p3 : Int32) (hp1 : xs (i + 1) = p1) (hp2 : xs (i + 2) = p2) (hp3 : xs (i + 3) = p3) (cells slots : Nat) (hcs : cells + 760 ≤ 716141) (hss : slots + 4500 ≤ 6947682) (K : lw_K l p e s m below meth c b L N xs A dC dI cy cB h0 h1 hw1 hc1 hb1 h2 hw2 hc2 hb2 ho m0 m1 mc1 m2 mc2 i (cells + 760) (slots + 4500) 3660) (a1 : Int32) (r1 : Int32) (f1 : Nat → Int64) (g1 : Nat → Int64) (a2 : Int32) (r2 : Int32) (f2 : Nat → Int64) (g2 : Nat → Int64) (kn : Int32) (nv : Int64) (sv : Value) (th : Int32) (H : Heap) (locs : List Loc) (ls : Array Slot) (hka1 : okA true f1) (hka2 : okA false f2) (hP : va_P (dC, dI) xCl [(h0, eE h1 h2 kn), (h1, eR hw1 hc1 hb1 a1 r1), (hw1, eW true), (hc1, eA cy f1), (hb1, eA cy g1), (h2, eR hw2 hc2 hb2 a2 r2), (hw2, eW false), (hc2, eA cy f2), (hb2, eA cy g2), (ho, eO nv sv), (m0, eM m1 m2 th (r1 + r2) kn), (m1, eMR true mc1 a1), (mc1, eA cy f1), (m2, eMR false mc2 a2), (mc2, eA cy f2)] H) (hD : va_D A [(h0, eE h1 h2 kn), (h1, eR hw1 hc1 hb1 a1 r1), (hw1, eW true), (hc1, eA cy f1), (hb1, eA cy g1), (h2, eR hw2 hc2 hb2 a2 r2), (hw2, eW false), (hc2, eA cy f2), (hb2, eA cy g2), (ho, eO nv sv), (m0, eM m1 m2 th (r1 + r2) kn), (m1, eMR true mc1 a1), (mc1, eA cy f1), (m2, eMR false mc2 a2), (mc2, eA cy f2)]) (hS : va_S A s.heap H locs) (hl : lv_has ls 7 [(0, .ref b), (1, .ref h0), (2, .ref m0), (3, .ref ho), (4, .int (nI i))]) : W p l e room_1 s m #[Value.ref b] below meth c H locs cells slots (lw_Z below #[Value.ref b] s) (F0 m 3499 ls []) := by
  obtain ⟨hfl, hx, hb, hr, hml, hown, hts, hX, hbl, hbA, hlocks, hK, hG, hnc, hA, hAN, hN, hL, hT, hNs⟩ := id C0
  have hok2 := me_okF hka2
  have hsp1 : ∀ k, k < 8 → o_X1_isSpoiled true (f1 k) = false := fun k hk => (hka1 k hk).2
  have hsp2 : ∀ k, k < 8 → o_X1_isSpoiled false (f2 k) = false := fun k hk => (hka2 k hk).2
  have qx_narrowHas : (o_L_narrowHas f2 nv p1).1 = (o_X5_narrowHas f2 p1).2 := by have hm := ml_narrowHas nv p1 hka2; rw [hm] <;> rfl
  have qn_narrowHas : (o_L_narrowHas f2 nv p1).2 = if (o_X5_narrowHas f2 p1).2 = 0 then (if (o_X5_narrowHas f2 p1).1 = true then 1 else 0) else nv := by have hm := ml_narrowHas nv p1 hka2; rw [hm] <;> rfl
  refine lv_aload_n hx hb dL_law_3499 rfl (lv_at hl 1 rfl) ?_
  refine lv_aload_n hx hb dL_law_3500 rfl (lv_at hl 0 rfl) ?_
  refine lv_iload hx hb dL_law_3501 (lv_at hl 4 rfl) ?_
  refine lv_iconst (v := 1) hx hb dL_law_3503 (by decide +kernel) ?_
  refine lv_iadd hx hb dL_law_3504 ?_
  rw [nI_1 i]
  refine xa_sld hx hb hX hbl hbA hS (k := i + 1) (by omega) hL hp1 dL_law_3505 ?_
  refine lv_aload_n hx hb dL_law_3506 rfl (lv_at hl 3 rfl) ?_
  have hPc := hP.sub (ws' := [(h0, eE h1 h2 kn), (h1, eR hw1 hc1 hb1 a1 r1), (hw1, eW true), (hc1, eA cy f1), (hb1, eA cy g1), (h2, eR hw2 hc2 hb2 a2 r2), (hw2, eW false), (hc2, eA cy f2), (hb2, eA cy g2), (ho, eO nv sv)]) [0, 1, 2, 3, 4, 5, 6, 7, 8, 9] rfl
  have hDc := hD.sub (ws' := [(h0, eE h1 h2 kn), (h1, eR hw1 hc1 hb1 a1 r1), (hw1, eW true), (hc1, eA cy f1), (hb1, eA cy g1), (h2, eR hw2 hc2 hb2 a2 r2), (hw2, eW false), (hc2, eA cy f2), (hb2, eA cy g2), (ho, eO nv sv)]) [0, 1, 2, 3, 4, 5, 6, 7, 8, 9] (by decide +kernel) rfl
  have hKc := hK.sub (tys' := [(cy, .long)]) [0] rfl
  have hFc := va_free (wc := [(h0, eE h1 h2 kn), (h1, eR hw1 hc1 hb1 a1 r1), (hw1, eW true), (hc1, eA cy f1), (hb1, eA cy g1), (h2, eR hw2 hc2 hb2 a2 r2), (hw2, eW false), (hc2, eA cy f2), (hb2, eA cy g2), (ho, eO nv sv)]) hD hS hA [0, 1, 2, 3, 4, 5, 6, 7, 8, 9] rfl
  refine va_calli (vx_runSW (As := [.ref h0, .int p1, .ref ho]) (rest := []) ⟨hx, hb, hml, hown, hts⟩ (k_L_narrowHas l hfl dC dI cy h0 h1 hw1 hc1 hb1 h2 hw2 hc2 hb2 a1 r1 f1 g1 a2 r2 f2 g2 kn ho nv sv H.size N p1) (vx_cwSW 3 hts gL_law_L_narrowHas rfl rfl rfl (by decide +kernel) ⟨Nat.le_of_ble_eq_true rfl, Nat.le_of_ble_eq_true rfl⟩) (xL.preS hKc hPc hDc hAN (Nat.le_trans hN hS.1) (hG.kept hS hAN) hnc) rfl rfl hl.1 rfl (lv_room (Nat.le_of_ble_eq_true rfl)) dL_law_3507 ⟨(show _ ≤ 716141 by omega), (show _ ≤ 6947682 by omega)⟩) hS (fun q _ h => hFc q h) hFc (fun r_1 u t H locs ht hvm hw hB hz hk hS => ?_)
  replace hw : r_1 = (o_L_narrowHas f2 nv p1).1 := hw
  subst r_1
  obtain ⟨hP1, hD1⟩ := hB
  rw [ht] at hP1
  obtain ⟨hP, hD⟩ := va_join (wr := [(m0, eM m1 m2 th (r1 + r2) kn), (m1, eMR true mc1 a1), (mc1, eA cy f1), (m2, eMR false mc2 a2), (mc2, eA cy f2)]) (w1 := [(h0, eE h1 h2 kn), (h1, eR hw1 hc1 hb1 a1 r1), (hw1, eW true), (hc1, eA cy f1), (hb1, eA cy g1), (h2, eR hw2 hc2 hb2 a2 r2), (hw2, eW false), (hc2, eA cy f2), (hb2, eA cy g2), (ho, eO (o_L_narrowHas f2 nv p1).2 sv)]) hP hD [0, 1, 2, 3, 4, 5, 6, 7, 8, 9] [10, 11, 12, 13, 14] rfl rfl (by decide +kernel) (by decide +kernel) hk hFc hP1 hD1
  have hP := hP.sub (ws' := [(h0, eE h1 h2 kn), (h1, eR hw1 hc1 hb1 a1 r1), (hw1, eW true), (hc1, eA cy f1), (hb1, eA cy g1), (h2, eR hw2 hc2 hb2 a2 r2), (hw2, eW false), (hc2, eA cy f2), (hb2, eA cy g2), (ho, eO (o_L_narrowHas f2 nv p1).2 sv), (m0, eM m1 m2 th (r1 + r2) kn), (m1, eMR true mc1 a1), (mc1, eA cy f1), (m2, eMR false mc2 a2), (mc2, eA cy f2)]) [5, 6, 7, 8, 9, 10, 11, 12, 13, 14, 0, 1, 2, 3, 4] rfl
  have hD := hD.sub (ws' := [(h0, eE h1 h2 kn), (h1, eR hw1 hc1 hb1 a1 r1), (hw1, eW true), (hc1, eA cy f1), (hb1, eA cy g1), (h2, eR hw2 hc2 hb2 a2 r2), (hw2, eW false), (hc2, eA cy f2), (hb2, eA cy g2), (ho, eO (o_L_narrowHas f2 nv p1).2 sv), (m0, eM m1 m2 th (r1 + r2) kn), (m1, eMR true mc1 a1), (mc1, eA cy f1), (m2, eMR false mc2 a2), (mc2, eA cy f2)]) [5, 6, 7, 8, 9, 10, 11, 12, 13, 14, 0, 1, 2, 3, 4] (by decide +kernel) rfl
  refine lv_istore (lv' := [(5, .int ((o_L_narrowHas f2 nv p1).1)), (0, .ref b), (1, .ref h0), (2, .ref m0), (3, .ref ho), (4, .int (nI i))]) hx hb dL_law_3510 hl (by decide +kernel) rfl (fun ls hl => ?_)
  refine lv_aload_n hx hb dL_law_3512 rfl (lv_at hl 3 rfl) ?_
  refine lv_aload_n hx hb dL_law_3513 rfl (lv_at hl 1 rfl) ?_
  refine lv_iload hx hb dL_law_3514 (lv_at hl 5 rfl) ?_
  refine lv_iconst (v := 1) hx hb dL_law_3516 (by decide +kernel) ?_
  refine lv_iadd hx hb dL_law_3517 ?_
  rw [nI_1 i]
  refine xa_sld hx hb hX hbl hbA hS (k := i + 1) (by omega) hL hp1 dL_law_3518 ?_
  have hPc := hP.sub (ws' := [(m0, eM m1 m2 th (r1 + r2) kn), (m1, eMR true mc1 a1), (mc1, eA cy f1), (m2, eMR false mc2 a2), (mc2, eA cy f2)]) [10, 11, 12, 13, 14] rfl
  have hDc := hD.sub (ws' := [(m0, eM m1 m2 th (r1 + r2) kn), (m1, eMR true mc1 a1), (mc1, eA cy f1), (m2, eMR false mc2 a2), (mc2, eA cy f2)]) [10, 11, 12, 13, 14] (by decide +kernel) rfl
  have hKc := hK.sub (tys' := [(cy, .long)]) [0] rfl
  have hFc := va_free (wc := [(m0, eM m1 m2 th (r1 + r2) kn), (m1, eMR true mc1 a1), (mc1, eA cy f1), (m2, eMR false mc2 a2), (mc2, eA cy f2)]) hD hS hA [10, 11, 12, 13, 14] rfl
  refine va_calli (va_runV (As := [.int p1]) (rest := []) ⟨hx, hb, hml, hown, hts⟩ (k_X5_narrowHas l dC dI cy m0 m1 mc1 m2 mc2 a1 f1 a2 f2 th (r1 + r2) kn H.size N p1) (cwV 1 hts gL_law_X5_narrowHas rfl rfl rfl (by decide +kernel) ⟨Nat.le_of_ble_eq_true rfl, Nat.le_of_ble_eq_true rfl⟩) (xM.preV hKc hPc hDc hAN (Nat.le_trans hN hS.1) (hG.kept hS hAN) (ci := 7) (q0 := 0) rfl rfl) rfl rfl hl.1 rfl (lv_room (Nat.le_of_ble_eq_true rfl)) dL_law_3519 ⟨(show _ ≤ 716141 by omega), (show _ ≤ 6947682 by omega)⟩) hS (fun q _ h => hFc q h) hFc (fun r_2 u t H locs ht hvm hw hB hz hk hS => ?_)
  replace hw : r_2 = b2i ((o_X5_narrowHas f2 p1).1) := hw
  subst r_2
  obtain ⟨hP1, hD1⟩ := hB
  rw [ht] at hP1
  obtain ⟨hP, hD⟩ := va_join (wr := [(h0, eE h1 h2 kn), (h1, eR hw1 hc1 hb1 a1 r1), (hw1, eW true), (hc1, eA cy f1), (hb1, eA cy g1), (h2, eR hw2 hc2 hb2 a2 r2), (hw2, eW false), (hc2, eA cy f2), (hb2, eA cy g2), (ho, eO (o_L_narrowHas f2 nv p1).2 sv)]) (w1 := [(m0, eM m1 m2 (o_X5_narrowHas f2 p1).2 (r1 + r2) kn), (m1, eMR true mc1 a1), (mc1, eA cy f1), (m2, eMR false mc2 a2), (mc2, eA cy f2)]) hP hD [10, 11, 12, 13, 14] [0, 1, 2, 3, 4, 5, 6, 7, 8, 9] rfl rfl (by decide +kernel) (by decide +kernel) hk hFc hP1 hD1
  have hP := hP.sub (ws' := [(h0, eE h1 h2 kn), (h1, eR hw1 hc1 hb1 a1 r1), (hw1, eW true), (hc1, eA cy f1), (hb1, eA cy g1), (h2, eR hw2 hc2 hb2 a2 r2), (hw2, eW false), (hc2, eA cy f2), (hb2, eA cy g2), (ho, eO (o_L_narrowHas f2 nv p1).2 sv), (m0, eM m1 m2 (o_X5_narrowHas f2 p1).2 (r1 + r2) kn), (m1, eMR true mc1 a1), (mc1, eA cy f1), (m2, eMR false mc2 a2), (mc2, eA cy f2)]) [0, 1, 2, 3, 4, 5, 6, 7, 8, 9, 10, 11, 12, 13, 14] rfl
  have hD := hD.sub (ws' := [(h0, eE h1 h2 kn), (h1, eR hw1 hc1 hb1 a1 r1), (hw1, eW true), (hc1, eA cy f1), (hb1, eA cy g1), (h2, eR hw2 hc2 hb2 a2 r2), (hw2, eW false), (hc2, eA cy f2), (hb2, eA cy g2), (ho, eO (o_L_narrowHas f2 nv p1).2 sv), (m0, eM m1 m2 (o_X5_narrowHas f2 p1).2 (r1 + r2) kn), (m1, eMR true mc1 a1), (mc1, eA cy f1), (m2, eMR false mc2 a2), (mc2, eA cy f2)]) [0, 1, 2, 3, 4, 5, 6, 7, 8, 9, 10, 11, 12, 13, 14] (by decide +kernel) rfl
  refine lv_istore (lv' := [(6, .int (b2i ((o_X5_narrowHas f2 p1).1))), (5, .int ((o_L_narrowHas f2 nv p1).1)), (0, .ref b), (1, .ref h0), (2, .ref m0), (3, .ref ho), (4, .int (nI i))]) hx hb dL_law_3522 hl (by decide +kernel) rfl (fun ls hl => ?_)
  refine lv_aload_n hx hb dL_law_3524 rfl (lv_at hl 4 rfl) ?_
  have hPc := hP.sub (ws' := [(m0, eM m1 m2 (o_X5_narrowHas f2 p1).2 (r1 + r2) kn)]) [10] rfl
  have hKc := hK.sub (tys' := []) [] rfl
  refine va_calli (va_runV (As := []) (rest := []) ⟨hx, hb, hml, hown, hts⟩ (k_X5_thrown l dC dI m0 m1 m2 ((o_X5_narrowHas f2 p1).2) (r1 + r2) kn H.size) (cwV 0 hts gL_law_X5_thrown rfl rfl rfl (by decide +kernel) ⟨Nat.le_of_ble_eq_true rfl, Nat.le_of_ble_eq_true rfl⟩) (xB.preV hKc hPc (ci := 7) (q0 := 0) rfl rfl) rfl rfl hl.1 rfl (lv_room (Nat.le_of_ble_eq_true rfl)) dL_law_3525 ⟨(show _ ≤ 716141 by omega), (show _ ≤ 6947682 by omega)⟩) hS xA_old (fun q h => hA q (Nat.le_trans hS.1 h)) (fun r_3 u t H locs ht hvm hw hB hz hk hS => ?_)
  replace hw : r_3 = (o_X5_thrown ((o_X5_narrowHas f2 p1).2)) := hw
  subst r_3
  have hP := xP_keep hP hk
  refine lv_iload hx hb dL_law_3528 (lv_at hl 1 rfl) ?_
  refine lv_icmp_eq (tgt := 3535) hx hb dL_law_3530 (by decide +kernel) (fun c9 => ?_) (fun c9 => absurd (show o_X5_thrown _ = _ from (qx_narrowHas).symm) c9)
  refine lv_iload hx hb dL_law_3535 (lv_at hl 1 rfl) ?_
  refine lv_if_ne (tgt := 3560) hx hb dL_law_3537 (by decide +kernel) (fun c_4 => ?_) (fun c_4 => ?_)
  · skip
    refine lv_goto (tgt := 3660) hx hb dL_law_3560 (by decide +kernel) ?_
    refine W.widen (k := cells + 760) (n := slots + 4500) (by omega) (by omega) ?_
    exact K a1 r1 f1 g1 a2 r2 f2 g2 kn ((o_L_narrowHas f2 nv p1).2) sv ((o_X5_narrowHas f2 p1).2) a1 f1 a2 f2 (r1 + r2) kn _ _ _ rfl rfl rfl rfl rfl rfl hka1 hka2 hP hD hS (lv_sub hl [2, 3, 4, 5, 6] rfl)
  · skip
    refine lv_aload_n hx hb dL_law_3540 rfl (lv_at hl 5 rfl) ?_
    refine va_getN (D := (dC, dI)) (ci := 5) (v := .long ((o_L_narrowHas f2 nv p1).2)) (C := RX3) (T := TX3) (N := 2) hx hb hts (by decide +kernel) hown hK hP 9 rfl rfl 0 (by decide +kernel) (va_Nw.use rfl (hG.1 (.fieldLinkNest RL 13 "EdgefloatsLaw$Out" "n" "J" RL) (List.mem_of_getElem? (i := 6) rfl))) (fun _ h9 => h9) rfl dL_law_3541 ?_
    refine lv_iload hx hb dL_law_3544 (lv_at hl 0 rfl) ?_
    refine xz_eq (tgt := 3553) hx hb dL_law_3546 (by decide +kernel) (fun c_5 => ?_) (fun c_5 => ?_)
    · skip
      refine lv_lconst (v := 0) hx hb dL_law_3553 (by decide +kernel) ?_
      refine xc_eq (tgt := 3560) hx hb dL_law_3554 dL_law_3555 (by decide +kernel) (fun c9 => ?_) (fun c9 => absurd (((qn_narrowHas).trans (if_pos ((qx_narrowHas).symm.trans c_4))).trans (if_neg c_5)) c9)
      refine lv_goto (tgt := 3660) hx hb dL_law_3560 (by decide +kernel) ?_
      refine W.widen (k := cells + 760) (n := slots + 4500) (by omega) (by omega) ?_
      exact K a1 r1 f1 g1 a2 r2 f2 g2 kn ((o_L_narrowHas f2 nv p1).2) sv ((o_X5_narrowHas f2 p1).2) a1 f1 a2 f2 (r1 + r2) kn _ _ _ rfl rfl rfl rfl rfl rfl hka1 hka2 hP hD hS (lv_sub hl [2, 3, 4, 5, 6] rfl)
    · skip
      refine lv_lconst (v := 1) hx hb dL_law_3549 (by decide +kernel) ?_
      refine lv_goto (tgt := 3554) hx hb dL_law_3550 (by decide +kernel) ?_
      refine xc_eq (tgt := 3560) hx hb dL_law_3554 dL_law_3555 (by decide +kernel) (fun c9 => ?_) (fun c9 => absurd (((qn_narrowHas).trans (if_pos ((qx_narrowHas).symm.trans c_4))).trans (if_pos c_5)) c9)
      refine lv_goto (tgt := 3660) hx hb dL_law_3560 (by decide +kernel) ?_
      refine W.widen (k := cells + 760) (n := slots + 4500) (by omega) (by omega) ?_
      exact K a1 r1 f1 g1 a2 r2 f2 g2 kn ((o_L_narrowHas f2 nv p1).2) sv ((o_X5_narrowHas f2 p1).2) a1 f1 a2 f2 (r1 + r2) kn _ _ _ rfl rfl rfl rfl rfl rfl hka1 hka2 hP hD hS (lv_sub hl [2, 3, 4, 5, 6] rfl)
set_option maxHeartbeats 4000000 in
set_option maxRecDepth 100000 in
theorem st_45 (l : Launch) (p : Program) (e : Env) (s : State) (m : MethodId) (below : List Frame) (meth : Method) (c : Code) (b L N : Nat) (xs : Nat → Int32) (A : Nat → Prop) (dC : Nat → ClassId) (dI : Nat → Nat → Nat) (cy cB : ClassId) (h0 h1 hw1 hc1 hb1 h2 hw2 hc2 hb2 ho m0 m1 mc1 m2 mc2 : Nat) (C0 : lw_C l p e s m below meth c b L N xs A dC dI cy cB) (i : Nat) (hi : i + 4 ≤ L) (p1 p2 p3 : Int32) (hp1 : xs (i + 1) = p1) (hp2 : xs (i + 2) = p2) (hp3 : xs (i + 3) = p3) (cells slots : Nat) (hcs : cells + 760 ≤ 716141) (hss : slots + 4500 ≤ 6947682) (K : lw_K l p e s m below meth c b L N xs A dC dI cy cB h0 h1 hw1 hc1 hb1 h2 hw2 hc2 hb2 ho m0 m1 mc1 m2 mc2 i (cells + 760) (slots + 4500) 3660) (a1 : Int32) (r1 : Int32) (f1 : Nat → Int64) (g1 : Nat → Int64) (a2 : Int32) (r2 : Int32) (f2 : Nat → Int64) (g2 : Nat → Int64) (kn : Int32) (nv : Int64) (sv : Value) (th : Int32) (H : Heap) (locs : List Loc) (ls : Array Slot) (hka1 : okA true f1) (hka2 : okA false f2) (hP : va_P (dC, dI) xCl [(h0, eE h1 h2 kn), (h1, eR hw1 hc1 hb1 a1 r1), (hw1, eW true), (hc1, eA cy f1), (hb1, eA cy g1), (h2, eR hw2 hc2 hb2 a2 r2), (hw2, eW false), (hc2, eA cy f2), (hb2, eA cy g2), (ho, eO nv sv), (m0, eM m1 m2 th (r1 + r2) kn), (m1, eMR true mc1 a1), (mc1, eA cy f1), (m2, eMR false mc2 a2), (mc2, eA cy f2)] H) (hD : va_D A [(h0, eE h1 h2 kn), (h1, eR hw1 hc1 hb1 a1 r1), (hw1, eW true), (hc1, eA cy f1), (hb1, eA cy g1), (h2, eR hw2 hc2 hb2 a2 r2), (hw2, eW false), (hc2, eA cy f2), (hb2, eA cy g2), (ho, eO nv sv), (m0, eM m1 m2 th (r1 + r2) kn), (m1, eMR true mc1 a1), (mc1, eA cy f1), (m2, eMR false mc2 a2), (mc2, eA cy f2)]) (hS : va_S A s.heap H locs) (hl : lv_has ls 7 [(0, .ref b), (1, .ref h0), (2, .ref m0), (3, .ref ho), (4, .int (nI i))]) : W p l e room_1 s m #[Value.ref b] below meth c H locs cells slots (lw_Z below #[Value.ref b] s) (F0 m 3563 ls []) := by
  obtain ⟨hfl, hx, hb, hr, hml, hown, hts, hX, hbl, hbA, hlocks, hK, hG, hnc, hA, hAN, hN, hL, hT, hNs⟩ := id C0
  have hok2 := me_okF hka2
  have hsp1 : ∀ k, k < 8 → o_X1_isSpoiled true (f1 k) = false := fun k hk => (hka1 k hk).2
  have hsp2 : ∀ k, k < 8 → o_X1_isSpoiled false (f2 k) = false := fun k hk => (hka2 k hk).2
  have qx_house : (o_L_house a1 r1 a2 r2 kn nv p1).1 = (o_X5_house a1 a2 (r1 + r2) kn p1).2 := by have hm := ml_house a1 r1 a2 r2 kn nv p1; rw [hm] <;> rfl
  have qn_house : (o_L_house a1 r1 a2 r2 kn nv p1).2 = if (o_X5_house a1 a2 (r1 + r2) kn p1).2 = 0 then ((o_X5_house a1 a2 (r1 + r2) kn p1).1).toInt64 else nv := by have hm := ml_house a1 r1 a2 r2 kn nv p1; rw [hm] <;> rfl
  refine lv_aload_n hx hb dL_law_3563 rfl (lv_at hl 1 rfl) ?_
  refine lv_aload_n hx hb dL_law_3564 rfl (lv_at hl 0 rfl) ?_
  refine lv_iload hx hb dL_law_3565 (lv_at hl 4 rfl) ?_
  refine lv_iconst (v := 1) hx hb dL_law_3567 (by decide +kernel) ?_
  refine lv_iadd hx hb dL_law_3568 ?_
  rw [nI_1 i]
  refine xa_sld hx hb hX hbl hbA hS (k := i + 1) (by omega) hL hp1 dL_law_3569 ?_
  refine lv_aload_n hx hb dL_law_3570 rfl (lv_at hl 3 rfl) ?_
  have hPc := hP.sub (ws' := [(h0, eE h1 h2 kn), (h1, eR hw1 hc1 hb1 a1 r1), (hw1, eW true), (hc1, eA cy f1), (hb1, eA cy g1), (h2, eR hw2 hc2 hb2 a2 r2), (hw2, eW false), (hc2, eA cy f2), (hb2, eA cy g2), (ho, eO nv sv)]) [0, 1, 2, 3, 4, 5, 6, 7, 8, 9] rfl
  have hDc := hD.sub (ws' := [(h0, eE h1 h2 kn), (h1, eR hw1 hc1 hb1 a1 r1), (hw1, eW true), (hc1, eA cy f1), (hb1, eA cy g1), (h2, eR hw2 hc2 hb2 a2 r2), (hw2, eW false), (hc2, eA cy f2), (hb2, eA cy g2), (ho, eO nv sv)]) [0, 1, 2, 3, 4, 5, 6, 7, 8, 9] (by decide +kernel) rfl
  have hKc := hK.sub (tys' := [(cy, .long)]) [0] rfl
  have hFc := va_free (wc := [(h0, eE h1 h2 kn), (h1, eR hw1 hc1 hb1 a1 r1), (hw1, eW true), (hc1, eA cy f1), (hb1, eA cy g1), (h2, eR hw2 hc2 hb2 a2 r2), (hw2, eW false), (hc2, eA cy f2), (hb2, eA cy g2), (ho, eO nv sv)]) hD hS hA [0, 1, 2, 3, 4, 5, 6, 7, 8, 9] rfl
  refine va_calli (vx_runSW (As := [.ref h0, .int p1, .ref ho]) (rest := []) ⟨hx, hb, hml, hown, hts⟩ (k_L_house l hfl dC dI cy h0 h1 hw1 hc1 hb1 h2 hw2 hc2 hb2 a1 r1 f1 g1 a2 r2 f2 g2 kn ho nv sv H.size N p1) (vx_cwSW 3 hts gL_law_L_house rfl rfl rfl (by decide +kernel) ⟨Nat.le_of_ble_eq_true rfl, Nat.le_of_ble_eq_true rfl⟩) (xL.preS hKc hPc hDc hAN (Nat.le_trans hN hS.1) (hG.kept hS hAN) hnc) rfl rfl hl.1 rfl (lv_room (Nat.le_of_ble_eq_true rfl)) dL_law_3571 ⟨(show _ ≤ 716141 by omega), (show _ ≤ 6947682 by omega)⟩) hS (fun q _ h => hFc q h) hFc (fun r_1 u t H locs ht hvm hw hB hz hk hS => ?_)
  replace hw : r_1 = (o_L_house a1 r1 a2 r2 kn nv p1).1 := hw
  subst r_1
  obtain ⟨hP1, hD1⟩ := hB
  rw [ht] at hP1
  obtain ⟨hP, hD⟩ := va_join (wr := [(m0, eM m1 m2 th (r1 + r2) kn), (m1, eMR true mc1 a1), (mc1, eA cy f1), (m2, eMR false mc2 a2), (mc2, eA cy f2)]) (w1 := [(h0, eE h1 h2 kn), (h1, eR hw1 hc1 hb1 a1 r1), (hw1, eW true), (hc1, eA cy f1), (hb1, eA cy g1), (h2, eR hw2 hc2 hb2 a2 r2), (hw2, eW false), (hc2, eA cy f2), (hb2, eA cy g2), (ho, eO (o_L_house a1 r1 a2 r2 kn nv p1).2 sv)]) hP hD [0, 1, 2, 3, 4, 5, 6, 7, 8, 9] [10, 11, 12, 13, 14] rfl rfl (by decide +kernel) (by decide +kernel) hk hFc hP1 hD1
  have hP := hP.sub (ws' := [(h0, eE h1 h2 kn), (h1, eR hw1 hc1 hb1 a1 r1), (hw1, eW true), (hc1, eA cy f1), (hb1, eA cy g1), (h2, eR hw2 hc2 hb2 a2 r2), (hw2, eW false), (hc2, eA cy f2), (hb2, eA cy g2), (ho, eO (o_L_house a1 r1 a2 r2 kn nv p1).2 sv), (m0, eM m1 m2 th (r1 + r2) kn), (m1, eMR true mc1 a1), (mc1, eA cy f1), (m2, eMR false mc2 a2), (mc2, eA cy f2)]) [5, 6, 7, 8, 9, 10, 11, 12, 13, 14, 0, 1, 2, 3, 4] rfl
  have hD := hD.sub (ws' := [(h0, eE h1 h2 kn), (h1, eR hw1 hc1 hb1 a1 r1), (hw1, eW true), (hc1, eA cy f1), (hb1, eA cy g1), (h2, eR hw2 hc2 hb2 a2 r2), (hw2, eW false), (hc2, eA cy f2), (hb2, eA cy g2), (ho, eO (o_L_house a1 r1 a2 r2 kn nv p1).2 sv), (m0, eM m1 m2 th (r1 + r2) kn), (m1, eMR true mc1 a1), (mc1, eA cy f1), (m2, eMR false mc2 a2), (mc2, eA cy f2)]) [5, 6, 7, 8, 9, 10, 11, 12, 13, 14, 0, 1, 2, 3, 4] (by decide +kernel) rfl
  refine lv_istore (lv' := [(5, .int ((o_L_house a1 r1 a2 r2 kn nv p1).1)), (0, .ref b), (1, .ref h0), (2, .ref m0), (3, .ref ho), (4, .int (nI i))]) hx hb dL_law_3574 hl (by decide +kernel) rfl (fun ls hl => ?_)
  refine lv_aload_n hx hb dL_law_3576 rfl (lv_at hl 3 rfl) ?_
  refine lv_aload_n hx hb dL_law_3577 rfl (lv_at hl 1 rfl) ?_
  refine lv_iload hx hb dL_law_3578 (lv_at hl 5 rfl) ?_
  refine lv_iconst (v := 1) hx hb dL_law_3580 (by decide +kernel) ?_
  refine lv_iadd hx hb dL_law_3581 ?_
  rw [nI_1 i]
  refine xa_sld hx hb hX hbl hbA hS (k := i + 1) (by omega) hL hp1 dL_law_3582 ?_
  have hPc := hP.sub (ws' := [(m0, eM m1 m2 th (r1 + r2) kn), (m1, eMR true mc1 a1), (mc1, eA cy f1), (m2, eMR false mc2 a2), (mc2, eA cy f2)]) [10, 11, 12, 13, 14] rfl
  have hDc := hD.sub (ws' := [(m0, eM m1 m2 th (r1 + r2) kn), (m1, eMR true mc1 a1), (mc1, eA cy f1), (m2, eMR false mc2 a2), (mc2, eA cy f2)]) [10, 11, 12, 13, 14] (by decide +kernel) rfl
  have hKc := hK.sub (tys' := [(cy, .long)]) [0] rfl
  have hFc := va_free (wc := [(m0, eM m1 m2 th (r1 + r2) kn), (m1, eMR true mc1 a1), (mc1, eA cy f1), (m2, eMR false mc2 a2), (mc2, eA cy f2)]) hD hS hA [10, 11, 12, 13, 14] rfl
  refine va_calli (va_runV (As := [.int p1]) (rest := []) ⟨hx, hb, hml, hown, hts⟩ (k_X5_house l dC dI cy m0 m1 mc1 m2 mc2 a1 f1 a2 f2 th (r1 + r2) kn H.size N p1) (cwV 1 hts gL_law_X5_house rfl rfl rfl (by decide +kernel) ⟨Nat.le_of_ble_eq_true rfl, Nat.le_of_ble_eq_true rfl⟩) (xM.preV hKc hPc hDc hAN (Nat.le_trans hN hS.1) (hG.kept hS hAN) (ci := 7) (q0 := 0) rfl rfl) rfl rfl hl.1 rfl (lv_room (Nat.le_of_ble_eq_true rfl)) dL_law_3583 ⟨(show _ ≤ 716141 by omega), (show _ ≤ 6947682 by omega)⟩) hS (fun q _ h => hFc q h) hFc (fun r_2 u t H locs ht hvm hw hB hz hk hS => ?_)
  replace hw : r_2 = (o_X5_house a1 a2 (r1 + r2) kn p1).1 := hw
  subst r_2
  obtain ⟨hP1, hD1⟩ := hB
  rw [ht] at hP1
  obtain ⟨hP, hD⟩ := va_join (wr := [(h0, eE h1 h2 kn), (h1, eR hw1 hc1 hb1 a1 r1), (hw1, eW true), (hc1, eA cy f1), (hb1, eA cy g1), (h2, eR hw2 hc2 hb2 a2 r2), (hw2, eW false), (hc2, eA cy f2), (hb2, eA cy g2), (ho, eO (o_L_house a1 r1 a2 r2 kn nv p1).2 sv)]) (w1 := [(m0, eM m1 m2 (o_X5_house a1 a2 (r1 + r2) kn p1).2 (r1 + r2) kn), (m1, eMR true mc1 a1), (mc1, eA cy f1), (m2, eMR false mc2 a2), (mc2, eA cy f2)]) hP hD [10, 11, 12, 13, 14] [0, 1, 2, 3, 4, 5, 6, 7, 8, 9] rfl rfl (by decide +kernel) (by decide +kernel) hk hFc hP1 hD1
  have hP := hP.sub (ws' := [(h0, eE h1 h2 kn), (h1, eR hw1 hc1 hb1 a1 r1), (hw1, eW true), (hc1, eA cy f1), (hb1, eA cy g1), (h2, eR hw2 hc2 hb2 a2 r2), (hw2, eW false), (hc2, eA cy f2), (hb2, eA cy g2), (ho, eO (o_L_house a1 r1 a2 r2 kn nv p1).2 sv), (m0, eM m1 m2 (o_X5_house a1 a2 (r1 + r2) kn p1).2 (r1 + r2) kn), (m1, eMR true mc1 a1), (mc1, eA cy f1), (m2, eMR false mc2 a2), (mc2, eA cy f2)]) [0, 1, 2, 3, 4, 5, 6, 7, 8, 9, 10, 11, 12, 13, 14] rfl
  have hD := hD.sub (ws' := [(h0, eE h1 h2 kn), (h1, eR hw1 hc1 hb1 a1 r1), (hw1, eW true), (hc1, eA cy f1), (hb1, eA cy g1), (h2, eR hw2 hc2 hb2 a2 r2), (hw2, eW false), (hc2, eA cy f2), (hb2, eA cy g2), (ho, eO (o_L_house a1 r1 a2 r2 kn nv p1).2 sv), (m0, eM m1 m2 (o_X5_house a1 a2 (r1 + r2) kn p1).2 (r1 + r2) kn), (m1, eMR true mc1 a1), (mc1, eA cy f1), (m2, eMR false mc2 a2), (mc2, eA cy f2)]) [0, 1, 2, 3, 4, 5, 6, 7, 8, 9, 10, 11, 12, 13, 14] (by decide +kernel) rfl
  refine lv_istore (lv' := [(6, .int ((o_X5_house a1 a2 (r1 + r2) kn p1).1)), (5, .int ((o_L_house a1 r1 a2 r2 kn nv p1).1)), (0, .ref b), (1, .ref h0), (2, .ref m0), (3, .ref ho), (4, .int (nI i))]) hx hb dL_law_3586 hl (by decide +kernel) rfl (fun ls hl => ?_)
  refine lv_aload_n hx hb dL_law_3588 rfl (lv_at hl 4 rfl) ?_
  have hPc := hP.sub (ws' := [(m0, eM m1 m2 (o_X5_house a1 a2 (r1 + r2) kn p1).2 (r1 + r2) kn)]) [10] rfl
  have hKc := hK.sub (tys' := []) [] rfl
  refine va_calli (va_runV (As := []) (rest := []) ⟨hx, hb, hml, hown, hts⟩ (k_X5_thrown l dC dI m0 m1 m2 ((o_X5_house a1 a2 (r1 + r2) kn p1).2) (r1 + r2) kn H.size) (cwV 0 hts gL_law_X5_thrown rfl rfl rfl (by decide +kernel) ⟨Nat.le_of_ble_eq_true rfl, Nat.le_of_ble_eq_true rfl⟩) (xB.preV hKc hPc (ci := 7) (q0 := 0) rfl rfl) rfl rfl hl.1 rfl (lv_room (Nat.le_of_ble_eq_true rfl)) dL_law_3589 ⟨(show _ ≤ 716141 by omega), (show _ ≤ 6947682 by omega)⟩) hS xA_old (fun q h => hA q (Nat.le_trans hS.1 h)) (fun r_3 u t H locs ht hvm hw hB hz hk hS => ?_)
  replace hw : r_3 = (o_X5_thrown ((o_X5_house a1 a2 (r1 + r2) kn p1).2)) := hw
  subst r_3
  have hP := xP_keep hP hk
  refine lv_iload hx hb dL_law_3592 (lv_at hl 1 rfl) ?_
  refine lv_icmp_eq (tgt := 3599) hx hb dL_law_3594 (by decide +kernel) (fun c9 => ?_) (fun c9 => absurd (show o_X5_thrown _ = _ from (qx_house).symm) c9)
  refine lv_iload hx hb dL_law_3599 (lv_at hl 1 rfl) ?_
  refine lv_if_ne (tgt := 3617) hx hb dL_law_3601 (by decide +kernel) (fun c_4 => ?_) (fun c_4 => ?_)
  · skip
    refine lv_goto (tgt := 3660) hx hb dL_law_3617 (by decide +kernel) ?_
    refine W.widen (k := cells + 760) (n := slots + 4500) (by omega) (by omega) ?_
    exact K a1 r1 f1 g1 a2 r2 f2 g2 kn ((o_L_house a1 r1 a2 r2 kn nv p1).2) sv ((o_X5_house a1 a2 (r1 + r2) kn p1).2) a1 f1 a2 f2 (r1 + r2) kn _ _ _ rfl rfl rfl rfl rfl rfl hka1 hka2 hP hD hS (lv_sub hl [2, 3, 4, 5, 6] rfl)
  · skip
    refine lv_aload_n hx hb dL_law_3604 rfl (lv_at hl 5 rfl) ?_
    refine va_getN (D := (dC, dI)) (ci := 5) (v := .long ((o_L_house a1 r1 a2 r2 kn nv p1).2)) (C := RX3) (T := TX3) (N := 2) hx hb hts (by decide +kernel) hown hK hP 9 rfl rfl 0 (by decide +kernel) (va_Nw.use rfl (hG.1 (.fieldLinkNest RL 13 "EdgefloatsLaw$Out" "n" "J" RL) (List.mem_of_getElem? (i := 6) rfl))) (fun _ h9 => h9) rfl dL_law_3605 ?_
    refine lv_iload hx hb dL_law_3608 (lv_at hl 0 rfl) ?_
    refine lv_i2l (v := (((o_X5_house a1 a2 (r1 + r2) kn p1).1).toInt64)) hx hb dL_law_3610 rfl ?_
    refine xc_eq (tgt := 3617) hx hb dL_law_3611 dL_law_3612 (by decide +kernel) (fun c9 => ?_) (fun c9 => absurd ((qn_house).trans (if_pos ((qx_house).symm.trans c_4))) c9)
    refine lv_goto (tgt := 3660) hx hb dL_law_3617 (by decide +kernel) ?_
    refine W.widen (k := cells + 760) (n := slots + 4500) (by omega) (by omega) ?_
    exact K a1 r1 f1 g1 a2 r2 f2 g2 kn ((o_L_house a1 r1 a2 r2 kn nv p1).2) sv ((o_X5_house a1 a2 (r1 + r2) kn p1).2) a1 f1 a2 f2 (r1 + r2) kn _ _ _ rfl rfl rfl rfl rfl rfl hka1 hka2 hP hD hS (lv_sub hl [2, 3, 4, 5, 6] rfl)
set_option maxHeartbeats 4000000 in
set_option maxRecDepth 100000 in
theorem st_46 (l : Launch) (p : Program) (e : Env) (s : State) (m : MethodId) (below : List Frame) (meth : Method) (c : Code) (b L N : Nat) (xs : Nat → Int32) (A : Nat → Prop) (dC : Nat → ClassId) (dI : Nat → Nat → Nat) (cy cB : ClassId) (h0 h1 hw1 hc1 hb1 h2 hw2 hc2 hb2 ho m0 m1 mc1 m2 mc2 : Nat) (C0 : lw_C l p e s m below meth c b L N xs A dC dI cy cB) (i : Nat) (hi : i + 4 ≤ L) (p1 p2 p3 : Int32) (hp1 : xs (i + 1) = p1) (hp2 : xs (i + 2) = p2) (hp3 : xs (i + 3) = p3) (cells slots : Nat) (hcs : cells + 760 ≤ 716141) (hss : slots + 4500 ≤ 6947682) (K : lw_K l p e s m below meth c b L N xs A dC dI cy cB h0 h1 hw1 hc1 hb1 h2 hw2 hc2 hb2 ho m0 m1 mc1 m2 mc2 i (cells + 760) (slots + 4500) 3660) (a1 : Int32) (r1 : Int32) (f1 : Nat → Int64) (g1 : Nat → Int64) (a2 : Int32) (r2 : Int32) (f2 : Nat → Int64) (g2 : Nat → Int64) (kn : Int32) (nv : Int64) (sv : Value) (th : Int32) (H : Heap) (locs : List Loc) (ls : Array Slot) (hka1 : okA true f1) (hka2 : okA false f2) (hP : va_P (dC, dI) xCl [(h0, eE h1 h2 kn), (h1, eR hw1 hc1 hb1 a1 r1), (hw1, eW true), (hc1, eA cy f1), (hb1, eA cy g1), (h2, eR hw2 hc2 hb2 a2 r2), (hw2, eW false), (hc2, eA cy f2), (hb2, eA cy g2), (ho, eO nv sv), (m0, eM m1 m2 th (r1 + r2) kn), (m1, eMR true mc1 a1), (mc1, eA cy f1), (m2, eMR false mc2 a2), (mc2, eA cy f2)] H) (hD : va_D A [(h0, eE h1 h2 kn), (h1, eR hw1 hc1 hb1 a1 r1), (hw1, eW true), (hc1, eA cy f1), (hb1, eA cy g1), (h2, eR hw2 hc2 hb2 a2 r2), (hw2, eW false), (hc2, eA cy f2), (hb2, eA cy g2), (ho, eO nv sv), (m0, eM m1 m2 th (r1 + r2) kn), (m1, eMR true mc1 a1), (mc1, eA cy f1), (m2, eMR false mc2 a2), (mc2, eA cy f2)]) (hS : va_S A s.heap H locs) (hl : lv_has ls 7 [(0, .ref b), (1, .ref h0), (2, .ref m0), (3, .ref ho), (4, .int (nI i))]) : W p l e room_1 s m #[Value.ref b] below meth c H locs cells slots (lw_Z below #[Value.ref b] s) (F0 m 3620 ls []) := by
  obtain ⟨hfl, hx, hb, hr, hml, hown, hts, hX, hbl, hbA, hlocks, hK, hG, hnc, hA, hAN, hN, hL, hT, hNs⟩ := id C0
  have hok2 := me_okF hka2
  have hsp1 : ∀ k, k < 8 → o_X1_isSpoiled true (f1 k) = false := fun k hk => (hka1 k hk).2
  have hsp2 : ∀ k, k < 8 → o_X1_isSpoiled false (f2 k) = false := fun k hk => (hka2 k hk).2
  refine lv_aload_n hx hb dL_law_3620 rfl (lv_at hl 1 rfl) ?_
  have hPc := hP.sub (ws' := [(h0, eE h1 h2 kn), (h1, eR hw1 hc1 hb1 a1 r1), (hw1, eW true), (hc1, eA cy f1), (hb1, eA cy g1), (h2, eR hw2 hc2 hb2 a2 r2), (hw2, eW false), (hc2, eA cy f2), (hb2, eA cy g2)]) [0, 1, 2, 3, 4, 5, 6, 7, 8] rfl
  have hDc := hD.sub (ws' := [(h0, eE h1 h2 kn), (h1, eR hw1 hc1 hb1 a1 r1), (hw1, eW true), (hc1, eA cy f1), (hb1, eA cy g1), (h2, eR hw2 hc2 hb2 a2 r2), (hw2, eW false), (hc2, eA cy f2), (hb2, eA cy g2)]) [0, 1, 2, 3, 4, 5, 6, 7, 8] (by decide +kernel) rfl
  have hKc := hK.sub (tys' := [(cy, .long)]) [0] rfl
  have hFc := va_free (wc := [(h0, eE h1 h2 kn), (h1, eR hw1 hc1 hb1 a1 r1), (hw1, eW true), (hc1, eA cy f1), (hb1, eA cy g1), (h2, eR hw2 hc2 hb2 a2 r2), (hw2, eW false), (hc2, eA cy f2), (hb2, eA cy g2)]) hD hS hA [0, 1, 2, 3, 4, 5, 6, 7, 8] rfl
  refine va_calli (va_runV (As := []) (rest := []) ⟨hx, hb, hml, hown, hts⟩ (k_X2_knock l dC dI cy h0 h1 hw1 hc1 hb1 h2 hw2 hc2 hb2 a1 r1 f1 g1 a2 r2 f2 g2 kn H.size N) (cwV 0 hts gL_law_X2_knock rfl rfl rfl (by decide +kernel) ⟨Nat.le_of_ble_eq_true rfl, Nat.le_of_ble_eq_true rfl⟩) (xM.preV hKc hPc hDc hAN (Nat.le_trans hN hS.1) (hG.kept hS hAN) (ci := 4) (q0 := 0) rfl rfl) rfl rfl hl.1 rfl (lv_room (Nat.le_of_ble_eq_true rfl)) dL_law_3621 ⟨(show _ ≤ 716141 by omega), (show _ ≤ 6947682 by omega)⟩) hS (fun q _ h => hFc q h) hFc (fun r_1 u t H locs ht hvm hw hB hz hk hS => ?_)
  replace hw : r_1 = (o_X2_knock kn).1 := hw
  subst r_1
  obtain ⟨hP1, hD1⟩ := hB
  rw [ht] at hP1
  obtain ⟨hP, hD⟩ := va_join (wr := [(ho, eO nv sv), (m0, eM m1 m2 th (r1 + r2) kn), (m1, eMR true mc1 a1), (mc1, eA cy f1), (m2, eMR false mc2 a2), (mc2, eA cy f2)]) (w1 := [(h0, eE h1 h2 (o_X2_knock kn).2), (h1, eR hw1 hc1 hb1 a1 r1), (hw1, eW true), (hc1, eA cy f1), (hb1, eA cy g1), (h2, eR hw2 hc2 hb2 a2 r2), (hw2, eW false), (hc2, eA cy f2), (hb2, eA cy g2)]) hP hD [0, 1, 2, 3, 4, 5, 6, 7, 8] [9, 10, 11, 12, 13, 14] rfl rfl (by decide +kernel) (by decide +kernel) hk hFc hP1 hD1
  have hP := hP.sub (ws' := [(h0, eE h1 h2 (o_X2_knock kn).2), (h1, eR hw1 hc1 hb1 a1 r1), (hw1, eW true), (hc1, eA cy f1), (hb1, eA cy g1), (h2, eR hw2 hc2 hb2 a2 r2), (hw2, eW false), (hc2, eA cy f2), (hb2, eA cy g2), (ho, eO nv sv), (m0, eM m1 m2 th (r1 + r2) kn), (m1, eMR true mc1 a1), (mc1, eA cy f1), (m2, eMR false mc2 a2), (mc2, eA cy f2)]) [6, 7, 8, 9, 10, 11, 12, 13, 14, 0, 1, 2, 3, 4, 5] rfl
  have hD := hD.sub (ws' := [(h0, eE h1 h2 (o_X2_knock kn).2), (h1, eR hw1 hc1 hb1 a1 r1), (hw1, eW true), (hc1, eA cy f1), (hb1, eA cy g1), (h2, eR hw2 hc2 hb2 a2 r2), (hw2, eW false), (hc2, eA cy f2), (hb2, eA cy g2), (ho, eO nv sv), (m0, eM m1 m2 th (r1 + r2) kn), (m1, eMR true mc1 a1), (mc1, eA cy f1), (m2, eMR false mc2 a2), (mc2, eA cy f2)]) [6, 7, 8, 9, 10, 11, 12, 13, 14, 0, 1, 2, 3, 4, 5] (by decide +kernel) rfl
  refine lv_aload_n hx hb dL_law_3624 rfl (lv_at hl 2 rfl) ?_
  have hPc := hP.sub (ws' := [(m0, eM m1 m2 th (r1 + r2) kn)]) [10] rfl
  have hDc := hD.sub (ws' := [(m0, eM m1 m2 th (r1 + r2) kn)]) [10] (by decide +kernel) rfl
  have hKc := hK.sub (tys' := []) [] rfl
  have hFc := va_free (wc := [(m0, eM m1 m2 th (r1 + r2) kn)]) hD hS hA [10] rfl
  refine va_calli (va_runV (As := []) (rest := [.int ((o_X2_knock kn).1)]) ⟨hx, hb, hml, hown, hts⟩ (k_X5_knock l dC dI m0 m1 m2 th (r1 + r2) kn H.size N) (cwV 0 hts gL_law_X5_knock rfl rfl rfl (by decide +kernel) ⟨Nat.le_of_ble_eq_true rfl, Nat.le_of_ble_eq_true rfl⟩) (xM.preV hKc hPc hDc hAN (Nat.le_trans hN hS.1) (hG.kept hS hAN) (ci := 7) (q0 := 0) rfl rfl) rfl rfl hl.1 rfl (lv_room (Nat.le_of_ble_eq_true rfl)) dL_law_3625 ⟨(show _ ≤ 716141 by omega), (show _ ≤ 6947682 by omega)⟩) hS (fun q _ h => hFc q h) hFc (fun r_2 u t H locs ht hvm hw hB hz hk hS => ?_)
  replace hw : r_2 = (o_X5_knock kn).1 := hw
  subst r_2
  obtain ⟨hP1, hD1⟩ := hB
  rw [ht] at hP1
  obtain ⟨hP, hD⟩ := va_join (wr := [(h0, eE h1 h2 (o_X2_knock kn).2), (h1, eR hw1 hc1 hb1 a1 r1), (hw1, eW true), (hc1, eA cy f1), (hb1, eA cy g1), (h2, eR hw2 hc2 hb2 a2 r2), (hw2, eW false), (hc2, eA cy f2), (hb2, eA cy g2), (ho, eO nv sv), (m1, eMR true mc1 a1), (mc1, eA cy f1), (m2, eMR false mc2 a2), (mc2, eA cy f2)]) (w1 := [(m0, eM m1 m2 (o_X5_knock kn).2.1 (r1 + r2) (o_X5_knock kn).2.2)]) hP hD [10] [0, 1, 2, 3, 4, 5, 6, 7, 8, 9, 11, 12, 13, 14] rfl rfl (by decide +kernel) (by decide +kernel) hk hFc hP1 hD1
  have hP := hP.sub (ws' := [(h0, eE h1 h2 (o_X2_knock kn).2), (h1, eR hw1 hc1 hb1 a1 r1), (hw1, eW true), (hc1, eA cy f1), (hb1, eA cy g1), (h2, eR hw2 hc2 hb2 a2 r2), (hw2, eW false), (hc2, eA cy f2), (hb2, eA cy g2), (ho, eO nv sv), (m0, eM m1 m2 (o_X5_knock kn).2.1 (r1 + r2) (o_X5_knock kn).2.2), (m1, eMR true mc1 a1), (mc1, eA cy f1), (m2, eMR false mc2 a2), (mc2, eA cy f2)]) [0, 1, 2, 3, 4, 5, 6, 7, 8, 9, 14, 10, 11, 12, 13] rfl
  have hD := hD.sub (ws' := [(h0, eE h1 h2 (o_X2_knock kn).2), (h1, eR hw1 hc1 hb1 a1 r1), (hw1, eW true), (hc1, eA cy f1), (hb1, eA cy g1), (h2, eR hw2 hc2 hb2 a2 r2), (hw2, eW false), (hc2, eA cy f2), (hb2, eA cy g2), (ho, eO nv sv), (m0, eM m1 m2 (o_X5_knock kn).2.1 (r1 + r2) (o_X5_knock kn).2.2), (m1, eMR true mc1 a1), (mc1, eA cy f1), (m2, eMR false mc2 a2), (mc2, eA cy f2)]) [0, 1, 2, 3, 4, 5, 6, 7, 8, 9, 14, 10, 11, 12, 13] (by decide +kernel) rfl
  refine lv_icmp_eq (tgt := 3660) hx hb dL_law_3628 (by decide +kernel) (fun c9 => ?_) (fun c9 => absurd (by rfl) c9)
  refine W.widen (k := cells + 760) (n := slots + 4500) (by omega) (by omega) ?_
  exact K a1 r1 f1 g1 a2 r2 f2 g2 ((o_X2_knock kn).2) nv sv ((o_X5_knock kn).2.1) a1 f1 a2 f2 (r1 + r2) ((o_X5_knock kn).2.2) _ _ _ rfl rfl rfl rfl rfl (by rfl) hka1 hka2 hP hD hS (lv_sub hl [0, 1, 2, 3, 4] rfl)
set_option maxHeartbeats 4000000 in
set_option maxRecDepth 100000 in
theorem st_47 (l : Launch) (p : Program) (e : Env) (s : State) (m : MethodId) (below : List Frame) (meth : Method) (c : Code) (b L N : Nat) (xs : Nat → Int32) (A : Nat → Prop) (dC : Nat → ClassId) (dI : Nat → Nat → Nat) (cy cB : ClassId) (h0 h1 hw1 hc1 hb1 h2 hw2 hc2 hb2 ho m0 m1 mc1 m2 mc2 : Nat) (C0 : lw_C l p e s m below meth c b L N xs A dC dI cy cB) (i : Nat) (hi : i + 4 ≤ L) (p1 p2 p3 : Int32) (hp1 : xs (i + 1) = p1) (hp2 : xs (i + 2) = p2) (hp3 : xs (i + 3) = p3) (cells slots : Nat) (hcs : cells + 760 ≤ 716141) (hss : slots + 4500 ≤ 6947682) (K : lw_K l p e s m below meth c b L N xs A dC dI cy cB h0 h1 hw1 hc1 hb1 h2 hw2 hc2 hb2 ho m0 m1 mc1 m2 mc2 i (cells + 760) (slots + 4500) 3660) (a1 : Int32) (r1 : Int32) (f1 : Nat → Int64) (g1 : Nat → Int64) (a2 : Int32) (r2 : Int32) (f2 : Nat → Int64) (g2 : Nat → Int64) (kn : Int32) (nv : Int64) (sv : Value) (th : Int32) (H : Heap) (locs : List Loc) (ls : Array Slot) (hka1 : okA true f1) (hka2 : okA false f2) (hP : va_P (dC, dI) xCl [(h0, eE h1 h2 kn), (h1, eR hw1 hc1 hb1 a1 r1), (hw1, eW true), (hc1, eA cy f1), (hb1, eA cy g1), (h2, eR hw2 hc2 hb2 a2 r2), (hw2, eW false), (hc2, eA cy f2), (hb2, eA cy g2), (ho, eO nv sv), (m0, eM m1 m2 th (r1 + r2) kn), (m1, eMR true mc1 a1), (mc1, eA cy f1), (m2, eMR false mc2 a2), (mc2, eA cy f2)] H) (hD : va_D A [(h0, eE h1 h2 kn), (h1, eR hw1 hc1 hb1 a1 r1), (hw1, eW true), (hc1, eA cy f1), (hb1, eA cy g1), (h2, eR hw2 hc2 hb2 a2 r2), (hw2, eW false), (hc2, eA cy f2), (hb2, eA cy g2), (ho, eO nv sv), (m0, eM m1 m2 th (r1 + r2) kn), (m1, eMR true mc1 a1), (mc1, eA cy f1), (m2, eMR false mc2 a2), (mc2, eA cy f2)]) (hS : va_S A s.heap H locs) (hl : lv_has ls 7 [(0, .ref b), (1, .ref h0), (2, .ref m0), (3, .ref ho), (4, .int (nI i))]) : W p l e room_1 s m #[Value.ref b] below meth c H locs cells slots (lw_Z below #[Value.ref b] s) (F0 m 3633 ls []) := by
  obtain ⟨hfl, hx, hb, hr, hml, hown, hts, hX, hbl, hbA, hlocks, hK, hG, hnc, hA, hAN, hN, hL, hT, hNs⟩ := id C0
  have hok2 := me_okF hka2
  have hsp1 : ∀ k, k < 8 → o_X1_isSpoiled true (f1 k) = false := fun k hk => (hka1 k hk).2
  have hsp2 : ∀ k, k < 8 → o_X1_isSpoiled false (f2 k) = false := fun k hk => (hka2 k hk).2
  refine lv_aload_n hx hb dL_law_3633 rfl (lv_at hl 1 rfl) ?_
  have hPc := hP.sub (ws' := [(h0, eE h1 h2 kn), (h1, eR hw1 hc1 hb1 a1 r1), (hw1, eW true), (hc1, eA cy f1), (hb1, eA cy g1), (h2, eR hw2 hc2 hb2 a2 r2), (hw2, eW false), (hc2, eA cy f2), (hb2, eA cy g2)]) [0, 1, 2, 3, 4, 5, 6, 7, 8] rfl
  have hKc := hK.sub (tys' := [(cy, .long)]) [0] rfl
  refine va_calli (va_runV (As := []) (rest := []) ⟨hx, hb, hml, hown, hts⟩ (k_X2_isSound l dC dI cy h0 h1 hw1 hc1 hb1 h2 hw2 hc2 hb2 a1 r1 f1 g1 a2 r2 f2 g2 kn H.size hok2 hsp1 hsp2) (cwV 0 hts gL_law_X2_isSound rfl rfl rfl (by decide +kernel) ⟨Nat.le_of_ble_eq_true rfl, Nat.le_of_ble_eq_true rfl⟩) (xB.preV hKc hPc (ci := 4) (q0 := 0) rfl rfl) rfl rfl hl.1 rfl (lv_room (Nat.le_of_ble_eq_true rfl)) dL_law_3634 ⟨(show _ ≤ 716141 by omega), (show _ ≤ 6947682 by omega)⟩) hS xA_old (fun q h => hA q (Nat.le_trans hS.1 h)) (fun r_1 u t H locs ht hvm hw hB hz hk hS => ?_)
  replace hw : r_1 = b2i (o_X2_isSound) := hw
  subst r_1
  have hP := xP_keep hP hk
  refine lv_aload_n hx hb dL_law_3637 rfl (lv_at hl 2 rfl) ?_
  have hPc := hP.sub (ws' := [(m0, eM m1 m2 th (r1 + r2) kn)]) [10] rfl
  have hDc := hD.sub (ws' := [(m0, eM m1 m2 th (r1 + r2) kn)]) [10] (by decide +kernel) rfl
  have hKc := hK.sub (tys' := []) [] rfl
  have hFc := va_free (wc := [(m0, eM m1 m2 th (r1 + r2) kn)]) hD hS hA [10] rfl
  refine va_calli (va_runV (As := []) (rest := [.int (b2i (o_X2_isSound))]) ⟨hx, hb, hml, hown, hts⟩ (k_X5_isSound l dC dI m0 m1 m2 th (r1 + r2) kn H.size N) (cwV 0 hts gL_law_X5_isSound rfl rfl rfl (by decide +kernel) ⟨Nat.le_of_ble_eq_true rfl, Nat.le_of_ble_eq_true rfl⟩) (xM.preV hKc hPc hDc hAN (Nat.le_trans hN hS.1) (hG.kept hS hAN) (ci := 7) (q0 := 0) rfl rfl) rfl rfl hl.1 rfl (lv_room (Nat.le_of_ble_eq_true rfl)) dL_law_3638 ⟨(show _ ≤ 716141 by omega), (show _ ≤ 6947682 by omega)⟩) hS (fun q _ h => hFc q h) hFc (fun r_2 u t H locs ht hvm hw hB hz hk hS => ?_)
  replace hw : r_2 = b2i ((o_X5_isSound).1) := hw
  subst r_2
  obtain ⟨hP1, hD1⟩ := hB
  rw [ht] at hP1
  obtain ⟨hP, hD⟩ := va_join (wr := [(h0, eE h1 h2 kn), (h1, eR hw1 hc1 hb1 a1 r1), (hw1, eW true), (hc1, eA cy f1), (hb1, eA cy g1), (h2, eR hw2 hc2 hb2 a2 r2), (hw2, eW false), (hc2, eA cy f2), (hb2, eA cy g2), (ho, eO nv sv), (m1, eMR true mc1 a1), (mc1, eA cy f1), (m2, eMR false mc2 a2), (mc2, eA cy f2)]) (w1 := [(m0, eM m1 m2 (o_X5_isSound).2 (r1 + r2) kn)]) hP hD [10] [0, 1, 2, 3, 4, 5, 6, 7, 8, 9, 11, 12, 13, 14] rfl rfl (by decide +kernel) (by decide +kernel) hk hFc hP1 hD1
  have hP := hP.sub (ws' := [(h0, eE h1 h2 kn), (h1, eR hw1 hc1 hb1 a1 r1), (hw1, eW true), (hc1, eA cy f1), (hb1, eA cy g1), (h2, eR hw2 hc2 hb2 a2 r2), (hw2, eW false), (hc2, eA cy f2), (hb2, eA cy g2), (ho, eO nv sv), (m0, eM m1 m2 (o_X5_isSound).2 (r1 + r2) kn), (m1, eMR true mc1 a1), (mc1, eA cy f1), (m2, eMR false mc2 a2), (mc2, eA cy f2)]) [0, 1, 2, 3, 4, 5, 6, 7, 8, 9, 14, 10, 11, 12, 13] rfl
  have hD := hD.sub (ws' := [(h0, eE h1 h2 kn), (h1, eR hw1 hc1 hb1 a1 r1), (hw1, eW true), (hc1, eA cy f1), (hb1, eA cy g1), (h2, eR hw2 hc2 hb2 a2 r2), (hw2, eW false), (hc2, eA cy f2), (hb2, eA cy g2), (ho, eO nv sv), (m0, eM m1 m2 (o_X5_isSound).2 (r1 + r2) kn), (m1, eMR true mc1 a1), (mc1, eA cy f1), (m2, eMR false mc2 a2), (mc2, eA cy f2)]) [0, 1, 2, 3, 4, 5, 6, 7, 8, 9, 14, 10, 11, 12, 13] (by decide +kernel) rfl
  refine lv_icmp_eq (tgt := 3660) hx hb dL_law_3641 (by decide +kernel) (fun c9 => ?_) (fun c9 => absurd (by rfl) c9)
  refine W.widen (k := cells + 760) (n := slots + 4500) (by omega) (by omega) ?_
  exact K a1 r1 f1 g1 a2 r2 f2 g2 kn nv sv ((o_X5_isSound).2) a1 f1 a2 f2 (r1 + r2) kn _ _ _ rfl rfl rfl rfl rfl rfl hka1 hka2 hP hD hS (lv_sub hl [0, 1, 2, 3, 4] rfl)
set_option maxHeartbeats 4000000 in
set_option maxRecDepth 100000 in
theorem st_48 (l : Launch) (p : Program) (e : Env) (s : State) (m : MethodId) (below : List Frame) (meth : Method) (c : Code) (b L N : Nat) (xs : Nat → Int32) (A : Nat → Prop) (dC : Nat → ClassId) (dI : Nat → Nat → Nat) (cy cB : ClassId) (h0 h1 hw1 hc1 hb1 h2 hw2 hc2 hb2 ho m0 m1 mc1 m2 mc2 : Nat) (C0 : lw_C l p e s m below meth c b L N xs A dC dI cy cB) (i : Nat) (hi : i + 4 ≤ L) (p1 p2 p3 : Int32) (hp1 : xs (i + 1) = p1) (hp2 : xs (i + 2) = p2) (hp3 : xs (i + 3) = p3) (cells slots : Nat) (hcs : cells + 760 ≤ 716141) (hss : slots + 4500 ≤ 6947682) (K : lw_K l p e s m below meth c b L N xs A dC dI cy cB h0 h1 hw1 hc1 hb1 h2 hw2 hc2 hb2 ho m0 m1 mc1 m2 mc2 i (cells + 760) (slots + 4500) 3660) (a1 : Int32) (r1 : Int32) (f1 : Nat → Int64) (g1 : Nat → Int64) (a2 : Int32) (r2 : Int32) (f2 : Nat → Int64) (g2 : Nat → Int64) (kn : Int32) (nv : Int64) (sv : Value) (th : Int32) (H : Heap) (locs : List Loc) (ls : Array Slot) (hka1 : okA true f1) (hka2 : okA false f2) (hP : va_P (dC, dI) xCl [(h0, eE h1 h2 kn), (h1, eR hw1 hc1 hb1 a1 r1), (hw1, eW true), (hc1, eA cy f1), (hb1, eA cy g1), (h2, eR hw2 hc2 hb2 a2 r2), (hw2, eW false), (hc2, eA cy f2), (hb2, eA cy g2), (ho, eO nv sv), (m0, eM m1 m2 th (r1 + r2) kn), (m1, eMR true mc1 a1), (mc1, eA cy f1), (m2, eMR false mc2 a2), (mc2, eA cy f2)] H) (hD : va_D A [(h0, eE h1 h2 kn), (h1, eR hw1 hc1 hb1 a1 r1), (hw1, eW true), (hc1, eA cy f1), (hb1, eA cy g1), (h2, eR hw2 hc2 hb2 a2 r2), (hw2, eW false), (hc2, eA cy f2), (hb2, eA cy g2), (ho, eO nv sv), (m0, eM m1 m2 th (r1 + r2) kn), (m1, eMR true mc1 a1), (mc1, eA cy f1), (m2, eMR false mc2 a2), (mc2, eA cy f2)]) (hS : va_S A s.heap H locs) (hl : lv_has ls 7 [(0, .ref b), (1, .ref h0), (2, .ref m0), (3, .ref ho), (4, .int (nI i))]) : W p l e room_1 s m #[Value.ref b] below meth c H locs cells slots (lw_Z below #[Value.ref b] s) (F0 m 3646 ls []) := by
  obtain ⟨hfl, hx, hb, hr, hml, hown, hts, hX, hbl, hbA, hlocks, hK, hG, hnc, hA, hAN, hN, hL, hT, hNs⟩ := id C0
  have hok2 := me_okF hka2
  have hsp1 : ∀ k, k < 8 → o_X1_isSpoiled true (f1 k) = false := fun k hk => (hka1 k hk).2
  have hsp2 : ∀ k, k < 8 → o_X1_isSpoiled false (f2 k) = false := fun k hk => (hka2 k hk).2
  refine lv_aload_n hx hb dL_law_3646 rfl (lv_at hl 1 rfl) ?_
  have hPc := hP.sub (ws' := [(h0, eE h1 h2 kn), (h1, eR hw1 hc1 hb1 a1 r1), (hw1, eW true), (hc1, eA cy f1), (hb1, eA cy g1), (h2, eR hw2 hc2 hb2 a2 r2), (hw2, eW false), (hc2, eA cy f2), (hb2, eA cy g2)]) [0, 1, 2, 3, 4, 5, 6, 7, 8] rfl
  have hDc := hD.sub (ws' := [(h0, eE h1 h2 kn), (h1, eR hw1 hc1 hb1 a1 r1), (hw1, eW true), (hc1, eA cy f1), (hb1, eA cy g1), (h2, eR hw2 hc2 hb2 a2 r2), (hw2, eW false), (hc2, eA cy f2), (hb2, eA cy g2)]) [0, 1, 2, 3, 4, 5, 6, 7, 8] (by decide +kernel) rfl
  have hKc := hK.sub (tys' := [(cy, .long)]) [0] rfl
  refine va_calll (va_runV (As := []) (rest := []) ⟨hx, hb, hml, hown, hts⟩ (k_X2_digest l hfl dC dI cy h0 h1 hw1 hc1 hb1 h2 hw2 hc2 hb2 a1 r1 f1 g1 a2 r2 f2 g2 kn H.size N hok2 hsp1 hsp2) (cwV 0 hts gL_law_X2_digest rfl rfl rfl (by decide +kernel) ⟨Nat.le_of_ble_eq_true rfl, Nat.le_of_ble_eq_true rfl⟩) (xM.preV hKc hPc hDc hAN (Nat.le_trans hN hS.1) (hG.kept hS hAN) (ci := 4) (q0 := 0) rfl rfl) rfl rfl hl.1 rfl (lv_room (Nat.le_of_ble_eq_true rfl)) dL_law_3647 ⟨(show _ ≤ 716141 by omega), (show _ ≤ 6947682 by omega)⟩) hS xA_old (fun q h => hA q (Nat.le_trans hS.1 h)) (fun r_1 u t H locs ht hvm hw hB hz hk hS => ?_)
  replace hw : r_1 = (o_X2_digest a1 r1 f1 a2 r2 f2 kn) := hw
  subst r_1
  have hP := xP_keep hP hk
  refine lv_aload_n hx hb dL_law_3650 rfl (lv_at hl 2 rfl) ?_
  have hPc := hP.sub (ws' := [(m0, eM m1 m2 th (r1 + r2) kn), (m1, eMR true mc1 a1), (mc1, eA cy f1), (m2, eMR false mc2 a2), (mc2, eA cy f2)]) [10, 11, 12, 13, 14] rfl
  have hDc := hD.sub (ws' := [(m0, eM m1 m2 th (r1 + r2) kn), (m1, eMR true mc1 a1), (mc1, eA cy f1), (m2, eMR false mc2 a2), (mc2, eA cy f2)]) [10, 11, 12, 13, 14] (by decide +kernel) rfl
  have hKc := hK.sub (tys' := [(cy, .long)]) [0] rfl
  have hFc := va_free (wc := [(m0, eM m1 m2 th (r1 + r2) kn), (m1, eMR true mc1 a1), (mc1, eA cy f1), (m2, eMR false mc2 a2), (mc2, eA cy f2)]) hD hS hA [10, 11, 12, 13, 14] rfl
  refine va_calll (va_runV (As := []) (rest := [.long (o_X2_digest a1 r1 f1 a2 r2 f2 kn)]) ⟨hx, hb, hml, hown, hts⟩ (k_X5_digest l dC dI cy m0 m1 mc1 m2 mc2 a1 f1 a2 f2 th (r1 + r2) kn H.size N hok2) (cwV 0 hts gL_law_X5_digest rfl rfl rfl (by decide +kernel) ⟨Nat.le_of_ble_eq_true rfl, Nat.le_of_ble_eq_true rfl⟩) (xM.preV hKc hPc hDc hAN (Nat.le_trans hN hS.1) (hG.kept hS hAN) (ci := 7) (q0 := 0) rfl rfl) rfl rfl hl.1 rfl (lv_room (Nat.le_of_ble_eq_true rfl)) dL_law_3651 ⟨(show _ ≤ 716141 by omega), (show _ ≤ 6947682 by omega)⟩) hS (fun q _ h => hFc q h) hFc (fun r_2 u t H locs ht hvm hw hB hz hk hS => ?_)
  replace hw : r_2 = (o_X5_digest a1 f1 a2 f2 (r1 + r2) kn).1 := hw
  subst r_2
  obtain ⟨hP1, hD1⟩ := hB
  rw [ht] at hP1
  obtain ⟨hP, hD⟩ := va_join (wr := [(h0, eE h1 h2 kn), (h1, eR hw1 hc1 hb1 a1 r1), (hw1, eW true), (hc1, eA cy f1), (hb1, eA cy g1), (h2, eR hw2 hc2 hb2 a2 r2), (hw2, eW false), (hc2, eA cy f2), (hb2, eA cy g2), (ho, eO nv sv)]) (w1 := [(m0, eM m1 m2 (o_X5_digest a1 f1 a2 f2 (r1 + r2) kn).2 (r1 + r2) kn), (m1, eMR true mc1 a1), (mc1, eA cy f1), (m2, eMR false mc2 a2), (mc2, eA cy f2)]) hP hD [10, 11, 12, 13, 14] [0, 1, 2, 3, 4, 5, 6, 7, 8, 9] rfl rfl (by decide +kernel) (by decide +kernel) hk hFc hP1 hD1
  have hP := hP.sub (ws' := [(h0, eE h1 h2 kn), (h1, eR hw1 hc1 hb1 a1 r1), (hw1, eW true), (hc1, eA cy f1), (hb1, eA cy g1), (h2, eR hw2 hc2 hb2 a2 r2), (hw2, eW false), (hc2, eA cy f2), (hb2, eA cy g2), (ho, eO nv sv), (m0, eM m1 m2 (o_X5_digest a1 f1 a2 f2 (r1 + r2) kn).2 (r1 + r2) kn), (m1, eMR true mc1 a1), (mc1, eA cy f1), (m2, eMR false mc2 a2), (mc2, eA cy f2)]) [0, 1, 2, 3, 4, 5, 6, 7, 8, 9, 10, 11, 12, 13, 14] rfl
  have hD := hD.sub (ws' := [(h0, eE h1 h2 kn), (h1, eR hw1 hc1 hb1 a1 r1), (hw1, eW true), (hc1, eA cy f1), (hb1, eA cy g1), (h2, eR hw2 hc2 hb2 a2 r2), (hw2, eW false), (hc2, eA cy f2), (hb2, eA cy g2), (ho, eO nv sv), (m0, eM m1 m2 (o_X5_digest a1 f1 a2 f2 (r1 + r2) kn).2 (r1 + r2) kn), (m1, eMR true mc1 a1), (mc1, eA cy f1), (m2, eMR false mc2 a2), (mc2, eA cy f2)]) [0, 1, 2, 3, 4, 5, 6, 7, 8, 9, 10, 11, 12, 13, 14] (by decide +kernel) rfl
  refine xc_eq (tgt := 3660) hx hb dL_law_3654 dL_law_3655 (by decide +kernel) (fun c9 => ?_) (fun c9 => absurd (by have hm := mg_digest hka1 hka2 a1 r1 a2 r2 kn; rw [hm] <;> rfl) c9)
  refine W.widen (k := cells + 760) (n := slots + 4500) (by omega) (by omega) ?_
  exact K a1 r1 f1 g1 a2 r2 f2 g2 kn nv sv ((o_X5_digest a1 f1 a2 f2 (r1 + r2) kn).2) a1 f1 a2 f2 (r1 + r2) kn _ _ _ rfl rfl rfl rfl rfl rfl hka1 hka2 hP hD hS (lv_sub hl [0, 1, 2, 3, 4] rfl)
