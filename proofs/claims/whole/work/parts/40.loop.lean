theorem lw_gt {i L : Nat} (hi : i ≤ 2048) (hL : L ≤ 2048) : (Int32.ofNat L - 4 < nI i) ↔ ¬ (i + 4 ≤ L) := by
  have e1 : (nI i).toInt = (i : Int) := nI_toInt (by omega)
  have e2 : (Int32.ofNat L - 4).toInt = (L : Int) - 4 := pk_sub_toInt (a := L) (b := 4) (by omega) (by omega)
  rw [Int32.lt_iff_toInt_lt, e1, e2]
  omega
set_option maxHeartbeats 4000000 in
set_option maxRecDepth 100000 in
theorem lw_loop (l : Launch) (p : Program) (e : Env) (s : State) (m : MethodId) (below : List Frame) (meth : Method) (c : Code) (b L N : Nat) (xs : Nat → Int32) (A : Nat → Prop) (dC : Nat → ClassId) (dI : Nat → Nat → Nat) (cy cB : ClassId) (h0 h1 hw1 hc1 hb1 h2 hw2 hc2 hb2 ho m0 m1 mc1 m2 mc2 : Nat) (C0 : lw_C l p e s m below meth c b L N xs A dC dI cy cB) : ∀ (n i : Nat) (a1 : Int32) (r1 : Int32) (f1 : Nat → Int64) (g1 : Nat → Int64) (a2 : Int32) (r2 : Int32) (f2 : Nat → Int64) (g2 : Nat → Int64) (kn : Int32) (nv : Int64) (sv : Value) (th : Int32) (cells slots : Nat) (H : Heap) (locs : List Loc) (ls : Array Slot), L < i + 4 * n + 4 → i ≤ 2048 → cells + 760 * n ≤ 716141 → slots + 4500 * n ≤ 6947682 → okA true f1 → okA false f2 → va_P (dC, dI) xCl [(h0, eE h1 h2 kn), (h1, eR hw1 hc1 hb1 a1 r1), (hw1, eW true), (hc1, eA cy f1), (hb1, eA cy g1), (h2, eR hw2 hc2 hb2 a2 r2), (hw2, eW false), (hc2, eA cy f2), (hb2, eA cy g2), (ho, eO nv sv), (m0, eM m1 m2 th (r1 + r2) kn), (m1, eMR true mc1 a1), (mc1, eA cy f1), (m2, eMR false mc2 a2), (mc2, eA cy f2)] H → va_D A [(h0, eE h1 h2 kn), (h1, eR hw1 hc1 hb1 a1 r1), (hw1, eW true), (hc1, eA cy f1), (hb1, eA cy g1), (h2, eR hw2 hc2 hb2 a2 r2), (hw2, eW false), (hc2, eA cy f2), (hb2, eA cy g2), (ho, eO nv sv), (m0, eM m1 m2 th (r1 + r2) kn), (m1, eMR true mc1 a1), (mc1, eA cy f1), (m2, eMR false mc2 a2), (mc2, eA cy f2)] → va_S A s.heap H locs → lv_has ls 7 [(0, .ref b), (1, .ref h0), (2, .ref m0), (3, .ref ho), (4, .int (nI i))] → W p l e room_1 s m #[Value.ref b] below meth c H locs cells slots (lw_Z below #[Value.ref b] s) (F0 m 27 ls []) := by
  obtain ⟨hfl, hx, hb, hr, hml, hown, hts, hX, hbl, hbA, hlocks, hK, hG, hnc, hA, hAN, hN, hL, hT, hNs⟩ := id C0
  have hend : ∀ (i : Nat) (cells slots : Nat) (H : Heap) (locs : List Loc) (ls : Array Slot), cells ≤ 716141 → slots ≤ 6947682 → va_S A s.heap H locs → W p l e room_1 s m #[Value.ref b] below meth c H locs cells slots (lw_Z below #[Value.ref b] s) (F0 m 3666 ls []) := by
    intro i cells slots H locs ls g1 g2 hS
    refine lv_iconst (v := 1) hx hb dL_law_3666 (by decide +kernel) ?_
    refine va_forget (fun q hq => Nat.le_trans hNs (hAN _ (hS.2.2 q hq))) ?_
    refine W.widen (k := 716141) (n := 6947682) g1 g2 ?_
    exact lw_ret hx hb hr hlocks dL_law_3667
  intro n
  induction n with
  | zero =>
    intro i a1 r1 f1 g1 a2 r2 f2 g2 kn nv sv th cells slots H locs ls hi hi2 hcc hss hka1 hka2 hP hD hS hl
    refine lv_iload hx hb dL_law_27 (lv_at hl 4 rfl) ?_
    refine lv_aload_n hx hb dL_law_29 rfl (lv_at hl 0 rfl) ?_
    refine va_slen hx hb hX hbl hbA hS dL_law_30 ?_
    refine lv_iconst (v := 4) hx hb dL_law_31 (by decide +kernel) ?_
    refine lv_isub hx hb dL_law_32 ?_
    refine lv_icmp_gt (tgt := 3666) hx hb dL_law_33 (by decide +kernel) (fun c1 => ?_) (fun c1 => absurd ((lw_gt hi2 hL).mpr (by omega)) c1)
    exact hend i cells slots H locs ls (by omega) (by omega) hS
  | succ n ih =>
    intro i a1 r1 f1 g1 a2 r2 f2 g2 kn nv sv th cells slots H locs ls hi hi2 hcc hss hka1 hka2 hP hD hS hl
    refine lv_iload hx hb dL_law_27 (lv_at hl 4 rfl) ?_
    refine lv_aload_n hx hb dL_law_29 rfl (lv_at hl 0 rfl) ?_
    refine va_slen hx hb hX hbl hbA hS dL_law_30 ?_
    refine lv_iconst (v := 4) hx hb dL_law_31 (by decide +kernel) ?_
    refine lv_isub hx hb dL_law_32 ?_
    refine lv_icmp_gt (tgt := 3666) hx hb dL_law_33 (by decide +kernel) (fun c1 => ?_) (fun c1 => ?_)
    · exact hend i cells slots H locs ls (by omega) (by omega) hS
    have hi4 : i + 4 ≤ L := by
      by_cases z : i + 4 ≤ L
      · exact z
      · exact absurd ((lw_gt hi2 hL).mpr z) c1
    have K : lw_K l p e s m below meth c b L N xs A dC dI cy cB h0 h1 hw1 hc1 hb1 h2 hw2 hc2 hb2 ho m0 m1 mc1 m2 mc2 i (cells + 760) (slots + 4500) 3660 := by
      intro a1 r1 f1 g1 a2 r2 f2 g2 kn nv sv th b1 e1 b2 e2 rf kn2 H locs ls q1 q2 q3 q4 q5 q6 hka1 hka2 hP hD hS hl
      subst q1; subst q2; subst q3; subst q4; subst q5; subst q6
      refine lv_iinc (v := nI (i + 4)) (lv' := [(4, .int (nI (i + 4))), (0, .ref b), (1, .ref h0), (2, .ref m0), (3, .ref ho)]) hx hb dL_law_3660 hl (k := 4) rfl (nI_p4 i) (by decide +kernel) rfl (fun ls hl => ?_)
      refine lv_goto (tgt := 27) hx hb dL_law_3663 (by decide +kernel) ?_
      exact ih (i + 4) _ _ _ _ _ _ _ _ _ _ _ _ _ _ H locs ls (by omega) (by omega) (by omega) (by omega) hka1 hka2 hP hD hS (lv_sub hl [1, 2, 3, 4, 0] rfl)
    refine lv_aload_n hx hb dL_law_36 rfl (lv_at hl 0 rfl) ?_
    refine lv_iload hx hb dL_law_37 (lv_at hl 4 rfl) ?_
    refine xa_sld hx hb hX hbl hbA hS (k := i) (by omega) hL rfl dL_law_39 ?_
    refine lv_bipush (v := 63) hx hb dL_law_40 (by decide +kernel) ?_
    refine lv_iand hx hb dL_law_42 ?_
    have gc : cells + 760 ≤ 716141 := by omega
    have gs : slots + 4500 ≤ 6947682 := by omega
    generalize xs i &&& 63 = v
    by_cases n0 : v = 0
    · refine lv_tableIn (tgt := 252) (off := 209) hx hb dL_law_43 (by rw [n0]; decide) (by rw [n0]; decide) (by rw [n0]; rfl) (by decide +kernel) ?_
      exact st_0 l p e s m below meth c b L N xs A dC dI cy cB h0 h1 hw1 hc1 hb1 h2 hw2 hc2 hb2 ho m0 m1 mc1 m2 mc2 C0 i hi4 _ _ _ rfl rfl rfl cells slots gc gs K a1 r1 f1 g1 a2 r2 f2 g2 kn nv sv th H locs ls hka1 hka2 hP hD hS hl
    by_cases n1 : v = 1
    · refine lv_tableIn (tgt := 333) (off := 290) hx hb dL_law_43 (by rw [n1]; decide) (by rw [n1]; decide) (by rw [n1]; rfl) (by decide +kernel) ?_
      exact st_1 l p e s m below meth c b L N xs A dC dI cy cB h0 h1 hw1 hc1 hb1 h2 hw2 hc2 hb2 ho m0 m1 mc1 m2 mc2 C0 i hi4 _ _ _ rfl rfl rfl cells slots gc gs K a1 r1 f1 g1 a2 r2 f2 g2 kn nv sv th H locs ls hka1 hka2 hP hD hS hl
    by_cases n2 : v = 2
    · refine lv_tableIn (tgt := 402) (off := 359) hx hb dL_law_43 (by rw [n2]; decide) (by rw [n2]; decide) (by rw [n2]; rfl) (by decide +kernel) ?_
      exact st_2 l p e s m below meth c b L N xs A dC dI cy cB h0 h1 hw1 hc1 hb1 h2 hw2 hc2 hb2 ho m0 m1 mc1 m2 mc2 C0 i hi4 _ _ _ rfl rfl rfl cells slots gc gs K a1 r1 f1 g1 a2 r2 f2 g2 kn nv sv th H locs ls hka1 hka2 hP hD hS hl
    by_cases n3 : v = 3
    · refine lv_tableIn (tgt := 471) (off := 428) hx hb dL_law_43 (by rw [n3]; decide) (by rw [n3]; decide) (by rw [n3]; rfl) (by decide +kernel) ?_
      exact st_3 l p e s m below meth c b L N xs A dC dI cy cB h0 h1 hw1 hc1 hb1 h2 hw2 hc2 hb2 ho m0 m1 mc1 m2 mc2 C0 i hi4 _ _ _ rfl rfl rfl cells slots gc gs K a1 r1 f1 g1 a2 r2 f2 g2 kn nv sv th H locs ls hka1 hka2 hP hD hS hl
    by_cases n4 : v = 4
    · refine lv_tableIn (tgt := 540) (off := 497) hx hb dL_law_43 (by rw [n4]; decide) (by rw [n4]; decide) (by rw [n4]; rfl) (by decide +kernel) ?_
      exact st_4 l p e s m below meth c b L N xs A dC dI cy cB h0 h1 hw1 hc1 hb1 h2 hw2 hc2 hb2 ho m0 m1 mc1 m2 mc2 C0 i hi4 _ _ _ rfl rfl rfl cells slots gc gs K a1 r1 f1 g1 a2 r2 f2 g2 kn nv sv th H locs ls hka1 hka2 hP hD hS hl
    by_cases n5 : v = 5
    · refine lv_tableIn (tgt := 609) (off := 566) hx hb dL_law_43 (by rw [n5]; decide) (by rw [n5]; decide) (by rw [n5]; rfl) (by decide +kernel) ?_
      exact st_5 l p e s m below meth c b L N xs A dC dI cy cB h0 h1 hw1 hc1 hb1 h2 hw2 hc2 hb2 ho m0 m1 mc1 m2 mc2 C0 i hi4 _ _ _ rfl rfl rfl cells slots gc gs K a1 r1 f1 g1 a2 r2 f2 g2 kn nv sv th H locs ls hka1 hka2 hP hD hS hl
    by_cases n6 : v = 6
    · refine lv_tableIn (tgt := 690) (off := 647) hx hb dL_law_43 (by rw [n6]; decide) (by rw [n6]; decide) (by rw [n6]; rfl) (by decide +kernel) ?_
      exact st_6 l p e s m below meth c b L N xs A dC dI cy cB h0 h1 hw1 hc1 hb1 h2 hw2 hc2 hb2 ho m0 m1 mc1 m2 mc2 C0 i hi4 _ _ _ rfl rfl rfl cells slots gc gs K a1 r1 f1 g1 a2 r2 f2 g2 kn nv sv th H locs ls hka1 hka2 hP hD hS hl
    by_cases n7 : v = 7
    · refine lv_tableIn (tgt := 771) (off := 728) hx hb dL_law_43 (by rw [n7]; decide) (by rw [n7]; decide) (by rw [n7]; rfl) (by decide +kernel) ?_
      exact st_7 l p e s m below meth c b L N xs A dC dI cy cB h0 h1 hw1 hc1 hb1 h2 hw2 hc2 hb2 ho m0 m1 mc1 m2 mc2 C0 i hi4 _ _ _ rfl rfl rfl cells slots gc gs K a1 r1 f1 g1 a2 r2 f2 g2 kn nv sv th H locs ls hka1 hka2 hP hD hS hl
    by_cases n8 : v = 8
    · refine lv_tableIn (tgt := 852) (off := 809) hx hb dL_law_43 (by rw [n8]; decide) (by rw [n8]; decide) (by rw [n8]; rfl) (by decide +kernel) ?_
      exact st_8 l p e s m below meth c b L N xs A dC dI cy cB h0 h1 hw1 hc1 hb1 h2 hw2 hc2 hb2 ho m0 m1 mc1 m2 mc2 C0 i hi4 _ _ _ rfl rfl rfl cells slots gc gs K a1 r1 f1 g1 a2 r2 f2 g2 kn nv sv th H locs ls hka1 hka2 hP hD hS hl
    by_cases n9 : v = 9
    · refine lv_tableIn (tgt := 909) (off := 866) hx hb dL_law_43 (by rw [n9]; decide) (by rw [n9]; decide) (by rw [n9]; rfl) (by decide +kernel) ?_
      exact st_9 l p e s m below meth c b L N xs A dC dI cy cB h0 h1 hw1 hc1 hb1 h2 hw2 hc2 hb2 ho m0 m1 mc1 m2 mc2 C0 i hi4 _ _ _ rfl rfl rfl cells slots gc gs K a1 r1 f1 g1 a2 r2 f2 g2 kn nv sv th H locs ls hka1 hka2 hP hD hS hl
    by_cases n10 : v = 10
    · refine lv_tableIn (tgt := 994) (off := 951) hx hb dL_law_43 (by rw [n10]; decide) (by rw [n10]; decide) (by rw [n10]; rfl) (by decide +kernel) ?_
      exact st_10 l p e s m below meth c b L N xs A dC dI cy cB h0 h1 hw1 hc1 hb1 h2 hw2 hc2 hb2 ho m0 m1 mc1 m2 mc2 C0 i hi4 _ _ _ rfl rfl rfl cells slots gc gs K a1 r1 f1 g1 a2 r2 f2 g2 kn nv sv th H locs ls hka1 hka2 hP hD hS hl
    by_cases n11 : v = 11
    · refine lv_tableIn (tgt := 1051) (off := 1008) hx hb dL_law_43 (by rw [n11]; decide) (by rw [n11]; decide) (by rw [n11]; rfl) (by decide +kernel) ?_
      exact st_11 l p e s m below meth c b L N xs A dC dI cy cB h0 h1 hw1 hc1 hb1 h2 hw2 hc2 hb2 ho m0 m1 mc1 m2 mc2 C0 i hi4 _ _ _ rfl rfl rfl cells slots gc gs K a1 r1 f1 g1 a2 r2 f2 g2 kn nv sv th H locs ls hka1 hka2 hP hD hS hl
    by_cases n12 : v = 12
    · refine lv_tableIn (tgt := 1108) (off := 1065) hx hb dL_law_43 (by rw [n12]; decide) (by rw [n12]; decide) (by rw [n12]; rfl) (by decide +kernel) ?_
      exact st_12 l p e s m below meth c b L N xs A dC dI cy cB h0 h1 hw1 hc1 hb1 h2 hw2 hc2 hb2 ho m0 m1 mc1 m2 mc2 C0 i hi4 _ _ _ rfl rfl rfl cells slots gc gs K a1 r1 f1 g1 a2 r2 f2 g2 kn nv sv th H locs ls hka1 hka2 hP hD hS hl
    by_cases n13 : v = 13
    · refine lv_tableIn (tgt := 1166) (off := 1123) hx hb dL_law_43 (by rw [n13]; decide) (by rw [n13]; decide) (by rw [n13]; rfl) (by decide +kernel) ?_
      exact st_13 l p e s m below meth c b L N xs A dC dI cy cB h0 h1 hw1 hc1 hb1 h2 hw2 hc2 hb2 ho m0 m1 mc1 m2 mc2 C0 i hi4 _ _ _ rfl rfl rfl cells slots gc gs K a1 r1 f1 g1 a2 r2 f2 g2 kn nv sv th H locs ls hka1 hka2 hP hD hS hl
    by_cases n14 : v = 14
    · refine lv_tableIn (tgt := 1247) (off := 1204) hx hb dL_law_43 (by rw [n14]; decide) (by rw [n14]; decide) (by rw [n14]; rfl) (by decide +kernel) ?_
      exact st_14 l p e s m below meth c b L N xs A dC dI cy cB h0 h1 hw1 hc1 hb1 h2 hw2 hc2 hb2 ho m0 m1 mc1 m2 mc2 C0 i hi4 _ _ _ rfl rfl rfl cells slots gc gs K a1 r1 f1 g1 a2 r2 f2 g2 kn nv sv th H locs ls hka1 hka2 hP hD hS hl
    by_cases n15 : v = 15
    · refine lv_tableIn (tgt := 1335) (off := 1292) hx hb dL_law_43 (by rw [n15]; decide) (by rw [n15]; decide) (by rw [n15]; rfl) (by decide +kernel) ?_
      exact st_15 l p e s m below meth c b L N xs A dC dI cy cB h0 h1 hw1 hc1 hb1 h2 hw2 hc2 hb2 ho m0 m1 mc1 m2 mc2 C0 i hi4 _ _ _ rfl rfl rfl cells slots gc gs K a1 r1 f1 g1 a2 r2 f2 g2 kn nv sv th H locs ls hka1 hka2 hP hD hS hl
    by_cases n16 : v = 16
    · refine lv_tableIn (tgt := 1411) (off := 1368) hx hb dL_law_43 (by rw [n16]; decide) (by rw [n16]; decide) (by rw [n16]; rfl) (by decide +kernel) ?_
      exact st_16 l p e s m below meth c b L N xs A dC dI cy cB h0 h1 hw1 hc1 hb1 h2 hw2 hc2 hb2 ho m0 m1 mc1 m2 mc2 C0 i hi4 _ _ _ rfl rfl rfl cells slots gc gs K a1 r1 f1 g1 a2 r2 f2 g2 kn nv sv th H locs ls hka1 hka2 hP hD hS hl
    by_cases n17 : v = 17
    · refine lv_tableIn (tgt := 1487) (off := 1444) hx hb dL_law_43 (by rw [n17]; decide) (by rw [n17]; decide) (by rw [n17]; rfl) (by decide +kernel) ?_
      exact st_17 l p e s m below meth c b L N xs A dC dI cy cB h0 h1 hw1 hc1 hb1 h2 hw2 hc2 hb2 ho m0 m1 mc1 m2 mc2 C0 i hi4 _ _ _ rfl rfl rfl cells slots gc gs K a1 r1 f1 g1 a2 r2 f2 g2 kn nv sv th H locs ls hka1 hka2 hP hD hS hl
    by_cases n18 : v = 18
    · refine lv_tableIn (tgt := 1591) (off := 1548) hx hb dL_law_43 (by rw [n18]; decide) (by rw [n18]; decide) (by rw [n18]; rfl) (by decide +kernel) ?_
      exact st_18 l p e s m below meth c b L N xs A dC dI cy cB h0 h1 hw1 hc1 hb1 h2 hw2 hc2 hb2 ho m0 m1 mc1 m2 mc2 C0 i hi4 _ _ _ rfl rfl rfl cells slots gc gs K a1 r1 f1 g1 a2 r2 f2 g2 kn nv sv th H locs ls hka1 hka2 hP hD hS hl
    by_cases n19 : v = 19
    · refine lv_tableIn (tgt := 1660) (off := 1617) hx hb dL_law_43 (by rw [n19]; decide) (by rw [n19]; decide) (by rw [n19]; rfl) (by decide +kernel) ?_
      exact st_19 l p e s m below meth c b L N xs A dC dI cy cB h0 h1 hw1 hc1 hb1 h2 hw2 hc2 hb2 ho m0 m1 mc1 m2 mc2 C0 i hi4 _ _ _ rfl rfl rfl cells slots gc gs K a1 r1 f1 g1 a2 r2 f2 g2 kn nv sv th H locs ls hka1 hka2 hP hD hS hl
    by_cases n20 : v = 20
    · refine lv_tableIn (tgt := 1736) (off := 1693) hx hb dL_law_43 (by rw [n20]; decide) (by rw [n20]; decide) (by rw [n20]; rfl) (by decide +kernel) ?_
      exact st_20 l p e s m below meth c b L N xs A dC dI cy cB h0 h1 hw1 hc1 hb1 h2 hw2 hc2 hb2 ho m0 m1 mc1 m2 mc2 C0 i hi4 _ _ _ rfl rfl rfl cells slots gc gs K a1 r1 f1 g1 a2 r2 f2 g2 kn nv sv th H locs ls hka1 hka2 hP hD hS hl
    by_cases n21 : v = 21
    · refine lv_tableIn (tgt := 1793) (off := 1750) hx hb dL_law_43 (by rw [n21]; decide) (by rw [n21]; decide) (by rw [n21]; rfl) (by decide +kernel) ?_
      exact st_21 l p e s m below meth c b L N xs A dC dI cy cB h0 h1 hw1 hc1 hb1 h2 hw2 hc2 hb2 ho m0 m1 mc1 m2 mc2 C0 i hi4 _ _ _ rfl rfl rfl cells slots gc gs K a1 r1 f1 g1 a2 r2 f2 g2 kn nv sv th H locs ls hka1 hka2 hP hD hS hl
    by_cases n22 : v = 22
    · refine lv_tableIn (tgt := 1878) (off := 1835) hx hb dL_law_43 (by rw [n22]; decide) (by rw [n22]; decide) (by rw [n22]; rfl) (by decide +kernel) ?_
      exact st_22 l p e s m below meth c b L N xs A dC dI cy cB h0 h1 hw1 hc1 hb1 h2 hw2 hc2 hb2 ho m0 m1 mc1 m2 mc2 C0 i hi4 _ _ _ rfl rfl rfl cells slots gc gs K a1 r1 f1 g1 a2 r2 f2 g2 kn nv sv th H locs ls hka1 hka2 hP hD hS hl
    by_cases n23 : v = 23
    · refine lv_tableIn (tgt := 1942) (off := 1899) hx hb dL_law_43 (by rw [n23]; decide) (by rw [n23]; decide) (by rw [n23]; rfl) (by decide +kernel) ?_
      exact st_23 l p e s m below meth c b L N xs A dC dI cy cB h0 h1 hw1 hc1 hb1 h2 hw2 hc2 hb2 ho m0 m1 mc1 m2 mc2 C0 i hi4 _ _ _ rfl rfl rfl cells slots gc gs K a1 r1 f1 g1 a2 r2 f2 g2 kn nv sv th H locs ls hka1 hka2 hP hD hS hl
    by_cases n24 : v = 24
    · refine lv_tableIn (tgt := 2011) (off := 1968) hx hb dL_law_43 (by rw [n24]; decide) (by rw [n24]; decide) (by rw [n24]; rfl) (by decide +kernel) ?_
      exact st_24 l p e s m below meth c b L N xs A dC dI cy cB h0 h1 hw1 hc1 hb1 h2 hw2 hc2 hb2 ho m0 m1 mc1 m2 mc2 C0 i hi4 _ _ _ rfl rfl rfl cells slots gc gs K a1 r1 f1 g1 a2 r2 f2 g2 kn nv sv th H locs ls hka1 hka2 hP hD hS hl
    by_cases n25 : v = 25
    · refine lv_tableIn (tgt := 2080) (off := 2037) hx hb dL_law_43 (by rw [n25]; decide) (by rw [n25]; decide) (by rw [n25]; rfl) (by decide +kernel) ?_
      exact st_25 l p e s m below meth c b L N xs A dC dI cy cB h0 h1 hw1 hc1 hb1 h2 hw2 hc2 hb2 ho m0 m1 mc1 m2 mc2 C0 i hi4 _ _ _ rfl rfl rfl cells slots gc gs K a1 r1 f1 g1 a2 r2 f2 g2 kn nv sv th H locs ls hka1 hka2 hP hD hS hl
    by_cases n26 : v = 26
    · refine lv_tableIn (tgt := 2149) (off := 2106) hx hb dL_law_43 (by rw [n26]; decide) (by rw [n26]; decide) (by rw [n26]; rfl) (by decide +kernel) ?_
      exact st_26 l p e s m below meth c b L N xs A dC dI cy cB h0 h1 hw1 hc1 hb1 h2 hw2 hc2 hb2 ho m0 m1 mc1 m2 mc2 C0 i hi4 _ _ _ rfl rfl rfl cells slots gc gs K a1 r1 f1 g1 a2 r2 f2 g2 kn nv sv th H locs ls hka1 hka2 hP hD hS hl
    by_cases n27 : v = 27
    · refine lv_tableIn (tgt := 2218) (off := 2175) hx hb dL_law_43 (by rw [n27]; decide) (by rw [n27]; decide) (by rw [n27]; rfl) (by decide +kernel) ?_
      exact st_27 l p e s m below meth c b L N xs A dC dI cy cB h0 h1 hw1 hc1 hb1 h2 hw2 hc2 hb2 ho m0 m1 mc1 m2 mc2 C0 i hi4 _ _ _ rfl rfl rfl cells slots gc gs K a1 r1 f1 g1 a2 r2 f2 g2 kn nv sv th H locs ls hka1 hka2 hP hD hS hl
    by_cases n28 : v = 28
    · refine lv_tableIn (tgt := 2287) (off := 2244) hx hb dL_law_43 (by rw [n28]; decide) (by rw [n28]; decide) (by rw [n28]; rfl) (by decide +kernel) ?_
      exact st_28 l p e s m below meth c b L N xs A dC dI cy cB h0 h1 hw1 hc1 hb1 h2 hw2 hc2 hb2 ho m0 m1 mc1 m2 mc2 C0 i hi4 _ _ _ rfl rfl rfl cells slots gc gs K a1 r1 f1 g1 a2 r2 f2 g2 kn nv sv th H locs ls hka1 hka2 hP hD hS hl
    by_cases n29 : v = 29
    · refine lv_tableIn (tgt := 2368) (off := 2325) hx hb dL_law_43 (by rw [n29]; decide) (by rw [n29]; decide) (by rw [n29]; rfl) (by decide +kernel) ?_
      exact st_29 l p e s m below meth c b L N xs A dC dI cy cB h0 h1 hw1 hc1 hb1 h2 hw2 hc2 hb2 ho m0 m1 mc1 m2 mc2 C0 i hi4 _ _ _ rfl rfl rfl cells slots gc gs K a1 r1 f1 g1 a2 r2 f2 g2 kn nv sv th H locs ls hka1 hka2 hP hD hS hl
    by_cases n30 : v = 30
    · refine lv_tableIn (tgt := 2449) (off := 2406) hx hb dL_law_43 (by rw [n30]; decide) (by rw [n30]; decide) (by rw [n30]; rfl) (by decide +kernel) ?_
      exact st_30 l p e s m below meth c b L N xs A dC dI cy cB h0 h1 hw1 hc1 hb1 h2 hw2 hc2 hb2 ho m0 m1 mc1 m2 mc2 C0 i hi4 _ _ _ rfl rfl rfl cells slots gc gs K a1 r1 f1 g1 a2 r2 f2 g2 kn nv sv th H locs ls hka1 hka2 hP hD hS hl
    by_cases n31 : v = 31
    · refine lv_tableIn (tgt := 2530) (off := 2487) hx hb dL_law_43 (by rw [n31]; decide) (by rw [n31]; decide) (by rw [n31]; rfl) (by decide +kernel) ?_
      exact st_31 l p e s m below meth c b L N xs A dC dI cy cB h0 h1 hw1 hc1 hb1 h2 hw2 hc2 hb2 ho m0 m1 mc1 m2 mc2 C0 i hi4 _ _ _ rfl rfl rfl cells slots gc gs K a1 r1 f1 g1 a2 r2 f2 g2 kn nv sv th H locs ls hka1 hka2 hP hD hS hl
    by_cases n32 : v = 32
    · refine lv_tableIn (tgt := 2587) (off := 2544) hx hb dL_law_43 (by rw [n32]; decide) (by rw [n32]; decide) (by rw [n32]; rfl) (by decide +kernel) ?_
      exact st_32 l p e s m below meth c b L N xs A dC dI cy cB h0 h1 hw1 hc1 hb1 h2 hw2 hc2 hb2 ho m0 m1 mc1 m2 mc2 C0 i hi4 _ _ _ rfl rfl rfl cells slots gc gs K a1 r1 f1 g1 a2 r2 f2 g2 kn nv sv th H locs ls hka1 hka2 hP hD hS hl
    by_cases n33 : v = 33
    · refine lv_tableIn (tgt := 2672) (off := 2629) hx hb dL_law_43 (by rw [n33]; decide) (by rw [n33]; decide) (by rw [n33]; rfl) (by decide +kernel) ?_
      exact st_33 l p e s m below meth c b L N xs A dC dI cy cB h0 h1 hw1 hc1 hb1 h2 hw2 hc2 hb2 ho m0 m1 mc1 m2 mc2 C0 i hi4 _ _ _ rfl rfl rfl cells slots gc gs K a1 r1 f1 g1 a2 r2 f2 g2 kn nv sv th H locs ls hka1 hka2 hP hD hS hl
    by_cases n34 : v = 34
    · refine lv_tableIn (tgt := 2729) (off := 2686) hx hb dL_law_43 (by rw [n34]; decide) (by rw [n34]; decide) (by rw [n34]; rfl) (by decide +kernel) ?_
      exact st_34 l p e s m below meth c b L N xs A dC dI cy cB h0 h1 hw1 hc1 hb1 h2 hw2 hc2 hb2 ho m0 m1 mc1 m2 mc2 C0 i hi4 _ _ _ rfl rfl rfl cells slots gc gs K a1 r1 f1 g1 a2 r2 f2 g2 kn nv sv th H locs ls hka1 hka2 hP hD hS hl
    by_cases n35 : v = 35
    · refine lv_tableIn (tgt := 2787) (off := 2744) hx hb dL_law_43 (by rw [n35]; decide) (by rw [n35]; decide) (by rw [n35]; rfl) (by decide +kernel) ?_
      exact st_35 l p e s m below meth c b L N xs A dC dI cy cB h0 h1 hw1 hc1 hb1 h2 hw2 hc2 hb2 ho m0 m1 mc1 m2 mc2 C0 i hi4 _ _ _ rfl rfl rfl cells slots gc gs K a1 r1 f1 g1 a2 r2 f2 g2 kn nv sv th H locs ls hka1 hka2 hP hD hS hl
    by_cases n36 : v = 36
    · refine lv_tableIn (tgt := 2868) (off := 2825) hx hb dL_law_43 (by rw [n36]; decide) (by rw [n36]; decide) (by rw [n36]; rfl) (by decide +kernel) ?_
      exact st_36 l p e s m below meth c b L N xs A dC dI cy cB h0 h1 hw1 hc1 hb1 h2 hw2 hc2 hb2 ho m0 m1 mc1 m2 mc2 C0 i hi4 _ _ _ rfl rfl rfl cells slots gc gs K a1 r1 f1 g1 a2 r2 f2 g2 kn nv sv th H locs ls hka1 hka2 hP hD hS hl
    by_cases n37 : v = 37
    · refine lv_tableIn (tgt := 2956) (off := 2913) hx hb dL_law_43 (by rw [n37]; decide) (by rw [n37]; decide) (by rw [n37]; rfl) (by decide +kernel) ?_
      exact st_37 l p e s m below meth c b L N xs A dC dI cy cB h0 h1 hw1 hc1 hb1 h2 hw2 hc2 hb2 ho m0 m1 mc1 m2 mc2 C0 i hi4 _ _ _ rfl rfl rfl cells slots gc gs K a1 r1 f1 g1 a2 r2 f2 g2 kn nv sv th H locs ls hka1 hka2 hP hD hS hl
    by_cases n38 : v = 38
    · refine lv_tableIn (tgt := 3032) (off := 2989) hx hb dL_law_43 (by rw [n38]; decide) (by rw [n38]; decide) (by rw [n38]; rfl) (by decide +kernel) ?_
      exact st_38 l p e s m below meth c b L N xs A dC dI cy cB h0 h1 hw1 hc1 hb1 h2 hw2 hc2 hb2 ho m0 m1 mc1 m2 mc2 C0 i hi4 _ _ _ rfl rfl rfl cells slots gc gs K a1 r1 f1 g1 a2 r2 f2 g2 kn nv sv th H locs ls hka1 hka2 hP hD hS hl
    by_cases n39 : v = 39
    · refine lv_tableIn (tgt := 3108) (off := 3065) hx hb dL_law_43 (by rw [n39]; decide) (by rw [n39]; decide) (by rw [n39]; rfl) (by decide +kernel) ?_
      exact st_39 l p e s m below meth c b L N xs A dC dI cy cB h0 h1 hw1 hc1 hb1 h2 hw2 hc2 hb2 ho m0 m1 mc1 m2 mc2 C0 i hi4 _ _ _ rfl rfl rfl cells slots gc gs K a1 r1 f1 g1 a2 r2 f2 g2 kn nv sv th H locs ls hka1 hka2 hP hD hS hl
    by_cases n40 : v = 40
    · refine lv_tableIn (tgt := 3212) (off := 3169) hx hb dL_law_43 (by rw [n40]; decide) (by rw [n40]; decide) (by rw [n40]; rfl) (by decide +kernel) ?_
      exact st_40 l p e s m below meth c b L N xs A dC dI cy cB h0 h1 hw1 hc1 hb1 h2 hw2 hc2 hb2 ho m0 m1 mc1 m2 mc2 C0 i hi4 _ _ _ rfl rfl rfl cells slots gc gs K a1 r1 f1 g1 a2 r2 f2 g2 kn nv sv th H locs ls hka1 hka2 hP hD hS hl
    by_cases n41 : v = 41
    · refine lv_tableIn (tgt := 3281) (off := 3238) hx hb dL_law_43 (by rw [n41]; decide) (by rw [n41]; decide) (by rw [n41]; rfl) (by decide +kernel) ?_
      exact st_41 l p e s m below meth c b L N xs A dC dI cy cB h0 h1 hw1 hc1 hb1 h2 hw2 hc2 hb2 ho m0 m1 mc1 m2 mc2 C0 i hi4 _ _ _ rfl rfl rfl cells slots gc gs K a1 r1 f1 g1 a2 r2 f2 g2 kn nv sv th H locs ls hka1 hka2 hP hD hS hl
    by_cases n42 : v = 42
    · refine lv_tableIn (tgt := 3357) (off := 3314) hx hb dL_law_43 (by rw [n42]; decide) (by rw [n42]; decide) (by rw [n42]; rfl) (by decide +kernel) ?_
      exact st_42 l p e s m below meth c b L N xs A dC dI cy cB h0 h1 hw1 hc1 hb1 h2 hw2 hc2 hb2 ho m0 m1 mc1 m2 mc2 C0 i hi4 _ _ _ rfl rfl rfl cells slots gc gs K a1 r1 f1 g1 a2 r2 f2 g2 kn nv sv th H locs ls hka1 hka2 hP hD hS hl
    by_cases n43 : v = 43
    · refine lv_tableIn (tgt := 3414) (off := 3371) hx hb dL_law_43 (by rw [n43]; decide) (by rw [n43]; decide) (by rw [n43]; rfl) (by decide +kernel) ?_
      exact st_43 l p e s m below meth c b L N xs A dC dI cy cB h0 h1 hw1 hc1 hb1 h2 hw2 hc2 hb2 ho m0 m1 mc1 m2 mc2 C0 i hi4 _ _ _ rfl rfl rfl cells slots gc gs K a1 r1 f1 g1 a2 r2 f2 g2 kn nv sv th H locs ls hka1 hka2 hP hD hS hl
    by_cases n44 : v = 44
    · refine lv_tableIn (tgt := 3499) (off := 3456) hx hb dL_law_43 (by rw [n44]; decide) (by rw [n44]; decide) (by rw [n44]; rfl) (by decide +kernel) ?_
      exact st_44 l p e s m below meth c b L N xs A dC dI cy cB h0 h1 hw1 hc1 hb1 h2 hw2 hc2 hb2 ho m0 m1 mc1 m2 mc2 C0 i hi4 _ _ _ rfl rfl rfl cells slots gc gs K a1 r1 f1 g1 a2 r2 f2 g2 kn nv sv th H locs ls hka1 hka2 hP hD hS hl
    by_cases n45 : v = 45
    · refine lv_tableIn (tgt := 3563) (off := 3520) hx hb dL_law_43 (by rw [n45]; decide) (by rw [n45]; decide) (by rw [n45]; rfl) (by decide +kernel) ?_
      exact st_45 l p e s m below meth c b L N xs A dC dI cy cB h0 h1 hw1 hc1 hb1 h2 hw2 hc2 hb2 ho m0 m1 mc1 m2 mc2 C0 i hi4 _ _ _ rfl rfl rfl cells slots gc gs K a1 r1 f1 g1 a2 r2 f2 g2 kn nv sv th H locs ls hka1 hka2 hP hD hS hl
    by_cases n46 : v = 46
    · refine lv_tableIn (tgt := 3620) (off := 3577) hx hb dL_law_43 (by rw [n46]; decide) (by rw [n46]; decide) (by rw [n46]; rfl) (by decide +kernel) ?_
      exact st_46 l p e s m below meth c b L N xs A dC dI cy cB h0 h1 hw1 hc1 hb1 h2 hw2 hc2 hb2 ho m0 m1 mc1 m2 mc2 C0 i hi4 _ _ _ rfl rfl rfl cells slots gc gs K a1 r1 f1 g1 a2 r2 f2 g2 kn nv sv th H locs ls hka1 hka2 hP hD hS hl
    by_cases n47 : v = 47
    · refine lv_tableIn (tgt := 3633) (off := 3590) hx hb dL_law_43 (by rw [n47]; decide) (by rw [n47]; decide) (by rw [n47]; rfl) (by decide +kernel) ?_
      exact st_47 l p e s m below meth c b L N xs A dC dI cy cB h0 h1 hw1 hc1 hb1 h2 hw2 hc2 hb2 ho m0 m1 mc1 m2 mc2 C0 i hi4 _ _ _ rfl rfl rfl cells slots gc gs K a1 r1 f1 g1 a2 r2 f2 g2 kn nv sv th H locs ls hka1 hka2 hP hD hS hl
    by_cases n48 : v = 48
    · refine lv_tableIn (tgt := 3646) (off := 3603) hx hb dL_law_43 (by rw [n48]; decide) (by rw [n48]; decide) (by rw [n48]; rfl) (by decide +kernel) ?_
      exact st_48 l p e s m below meth c b L N xs A dC dI cy cB h0 h1 hw1 hc1 hb1 h2 hw2 hc2 hb2 ho m0 m1 mc1 m2 mc2 C0 i hi4 _ _ _ rfl rfl rfl cells slots gc gs K a1 r1 f1 g1 a2 r2 f2 g2 kn nv sv th H locs ls hka1 hka2 hP hD hS hl
    refine lv_tableOut (tgt := 3660) hx hb dL_law_43 (by have z0 := lv_neT (a := 0) n0 (by decide +kernel); have z1 := lv_neT (a := 1) n1 (by decide +kernel); have z2 := lv_neT (a := 2) n2 (by decide +kernel); have z3 := lv_neT (a := 3) n3 (by decide +kernel); have z4 := lv_neT (a := 4) n4 (by decide +kernel); have z5 := lv_neT (a := 5) n5 (by decide +kernel); have z6 := lv_neT (a := 6) n6 (by decide +kernel); have z7 := lv_neT (a := 7) n7 (by decide +kernel); have z8 := lv_neT (a := 8) n8 (by decide +kernel); have z9 := lv_neT (a := 9) n9 (by decide +kernel); have z10 := lv_neT (a := 10) n10 (by decide +kernel); have z11 := lv_neT (a := 11) n11 (by decide +kernel); have z12 := lv_neT (a := 12) n12 (by decide +kernel); have z13 := lv_neT (a := 13) n13 (by decide +kernel); have z14 := lv_neT (a := 14) n14 (by decide +kernel); have z15 := lv_neT (a := 15) n15 (by decide +kernel); have z16 := lv_neT (a := 16) n16 (by decide +kernel); have z17 := lv_neT (a := 17) n17 (by decide +kernel); have z18 := lv_neT (a := 18) n18 (by decide +kernel); have z19 := lv_neT (a := 19) n19 (by decide +kernel); have z20 := lv_neT (a := 20) n20 (by decide +kernel); have z21 := lv_neT (a := 21) n21 (by decide +kernel); have z22 := lv_neT (a := 22) n22 (by decide +kernel); have z23 := lv_neT (a := 23) n23 (by decide +kernel); have z24 := lv_neT (a := 24) n24 (by decide +kernel); have z25 := lv_neT (a := 25) n25 (by decide +kernel); have z26 := lv_neT (a := 26) n26 (by decide +kernel); have z27 := lv_neT (a := 27) n27 (by decide +kernel); have z28 := lv_neT (a := 28) n28 (by decide +kernel); have z29 := lv_neT (a := 29) n29 (by decide +kernel); have z30 := lv_neT (a := 30) n30 (by decide +kernel); have z31 := lv_neT (a := 31) n31 (by decide +kernel); have z32 := lv_neT (a := 32) n32 (by decide +kernel); have z33 := lv_neT (a := 33) n33 (by decide +kernel); have z34 := lv_neT (a := 34) n34 (by decide +kernel); have z35 := lv_neT (a := 35) n35 (by decide +kernel); have z36 := lv_neT (a := 36) n36 (by decide +kernel); have z37 := lv_neT (a := 37) n37 (by decide +kernel); have z38 := lv_neT (a := 38) n38 (by decide +kernel); have z39 := lv_neT (a := 39) n39 (by decide +kernel); have z40 := lv_neT (a := 40) n40 (by decide +kernel); have z41 := lv_neT (a := 41) n41 (by decide +kernel); have z42 := lv_neT (a := 42) n42 (by decide +kernel); have z43 := lv_neT (a := 43) n43 (by decide +kernel); have z44 := lv_neT (a := 44) n44 (by decide +kernel); have z45 := lv_neT (a := 45) n45 (by decide +kernel); have z46 := lv_neT (a := 46) n46 (by decide +kernel); have z47 := lv_neT (a := 47) n47 (by decide +kernel); have z48 := lv_neT (a := 48) n48 (by decide +kernel); omega) (by decide +kernel) ?_
    refine W.widen (k := cells + 760) (n := slots + 4500) (by omega) (by omega) ?_
    exact K a1 r1 f1 g1 a2 r2 f2 g2 kn nv sv th a1 f1 a2 f2 (r1 + r2) kn H locs ls rfl rfl rfl rfl rfl rfl hka1 hka2 hP hD hS hl
