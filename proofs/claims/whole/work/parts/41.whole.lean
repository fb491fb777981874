set_option maxHeartbeats 4000000 in
set_option maxRecDepth 100000 in
theorem whole_start {p : Program} {e : Env} {s : State} {m : MethodId} {below : List Frame} {meth : Method} {c : Code} (l : Launch) (hflags : l.flags = flags0) {b L : Nat} {xs : Nat → Int32} (hL : L ≤ 2048) (C0 : lw_At p s m meth c b L xs) : W p l e room_1 s m #[Value.ref b] below meth c s.heap [] 0 0 (lw_Z below #[Value.ref b] s) (entryFrame m ([Value.ref b] : List Value).toArray 7) := by
  obtain ⟨hx, hb, hr, hml, hown, hts0, hX, hbl, hlocks, hgv⟩ := id C0
  have hts := lw_words hts0
  have hown : s.vm.findClass RL = some m.cls := hown
  have hb : c.code = cL_law := hb
  obtain ⟨dC, dI, cy, cB, hKa⟩ := lw_kn hts0
  have hG := lw_gG hts0 hgv
  have hT := lw_gT hts0 hgv
  have hnc := lw_nc hgv
  obtain ⟨A, hAe⟩ : ∃ A : Nat → Prop, A = fun q => s.heap.size ≤ q := ⟨_, rfl⟩
  have hA : ∀ q, s.heap.size ≤ q → A q := fun q h => by rw [hAe]; exact h
  have hAN : ∀ q, A q → s.heap.size ≤ q := fun q h => by rw [hAe] at h; exact h
  have hbA : ¬ A b := fun h => absurd hbl (Nat.not_lt.mpr (hAN b h))
  have hN : s.heap.size ≤ s.heap.size := Nat.le_refl _
  have C0L : lw_C l p e s m below meth c b L s.heap.size xs A dC dI cy cB := ⟨hflags, hx, hb, hr, hml, hown, hts, hX, hbl, hbA, hlocks, hKa, hG, hnc, hA, hAN, hN, hL, hT, hN⟩
  have hK := hKa.sub (tys' := [(cy, .long)]) [0] rfl
  have hS : va_S A s.heap s.heap [] := va_S.rf
  have hP : va_P (dC, dI) xCl [] s.heap := xP_nil
  have hD : va_D A [] := xD_nil
  have hl := lv_entry ([.ref b]) (n := 7) (Nat.le_of_ble_eq_true rfl)
  rw [lg_entry_eq]
  generalize (lg_sl ([.ref b]) ++ List.replicate (7 - (lg_sl ([.ref b])).length) Slot.unset).toArray = ls at hl ⊢
  have hl : lv_has ls 7 [(0, .ref b)] := hl
  refine va_new (ci := 4) (fs := [.null, .null, .int 0]) (C := RX2) (T := TX2) (N := 3) hx hb hts (by decide +kernel) tyX2 tyX2_ok hown (hts (.classLink RL 8 RX2) (by decide +kernel)) (hts (.instantiable RX2 3) (by decide +kernel)) (hts (.initialized RX2) (by decide +kernel)) hK hP hD hS hA rfl (fun j hj => by rcases (show j = 0 ∨ j = 1 ∨ j = 2 by omega) with rfl | rfl | rfl <;> rfl) (Nat.le_of_ble_eq_true rfl) (Nat.le_of_ble_eq_true rfl) dL_law_0 (fun q0 H hP hD hS => ?_)
  have hP : va_P (dC, dI) xCl [(q0, .inr (4, [.null, .null, .int 0]))] H := hP
  have hD : va_D A [(q0, .inr (4, [.null, .null, .int 0]))] := hD
  refine lv_dup hx hb dL_law_3 rfl ?_
  have hPc := hP.sub (ws' := [(q0, .inr (4, [.null, .null, .int 0]))]) [0] rfl
  have hDc := hD.sub (ws' := [(q0, .inr (4, [.null, .null, .int 0]))]) [0] (by decide) rfl
  have hKc := hK.sub (tys' := [(cy, .long)]) [0] rfl
  have hFc := va_free (wc := [(q0, .inr (4, [.null, .null, .int 0]))]) hD hS hA [0] rfl
  refine va_callv (va_runI (As := []) (rest := [.ref q0]) ⟨hx, hb, hml, hown, hts⟩ (k_X2_init l dC dI cy q0 H.size s.heap.size ) (cwI 0 hts gL_law_X2_init rfl rfl rfl (hts (.initialized RX2) (by decide +kernel)) (hts (.methodLink RL 171 yX2_init) (by decide +kernel)) (hts (.instanceMethod yX2_init) (by decide +kernel)) rfl (by decide +kernel) ⟨Nat.le_of_ble_eq_true rfl, Nat.le_of_ble_eq_true rfl⟩) (xM.preS (As := .ref q0 :: []) hKc hPc hDc hAN (Nat.le_trans hN hS.1) (hG.kept hS hAN)) rfl rfl hl.1 rfl (lv_room (Nat.le_of_ble_eq_true rfl)) dL_law_4 ⟨Nat.le_of_ble_eq_true rfl, Nat.le_of_ble_eq_true rfl⟩) hS (fun q _ h => hFc q h) hFc (fun u t H locs ht hvm hw hB hz hk hS => ?_)
  obtain ⟨n4_z0, n4_z1, n4_z2, n4_z3, n4_z4, n4_z5, n4_z6, n4_z7⟩ := u
  obtain ⟨hP1, hD1⟩ := hB
  rw [ht] at hP1
  obtain ⟨hP, hD⟩ := va_join (wr := []) (w1 := [(q0, eE n4_z0 n4_z4 0), (n4_z0, eR n4_z1 n4_z2 n4_z3 0 0), (n4_z1, eW true), (n4_z2, eA cy (fun _ => 0)), (n4_z3, eA cy (fun _ => 0)), (n4_z4, eR n4_z5 n4_z6 n4_z7 0 0), (n4_z5, eW false), (n4_z6, eA cy (fun _ => 0)), (n4_z7, eA cy (fun _ => 0))]) hP hD [0] [] rfl rfl (by decide) (by decide) hk hFc hP1 hD1
  have hP : va_P (dC, dI) xCl [(q0, eE n4_z0 n4_z4 0), (n4_z0, eR n4_z1 n4_z2 n4_z3 0 0), (n4_z1, eW true), (n4_z2, eA cy (fun _ => 0)), (n4_z3, eA cy (fun _ => 0)), (n4_z4, eR n4_z5 n4_z6 n4_z7 0 0), (n4_z5, eW false), (n4_z6, eA cy (fun _ => 0)), (n4_z7, eA cy (fun _ => 0))] H := hP
  have hD : va_D A [(q0, eE n4_z0 n4_z4 0), (n4_z0, eR n4_z1 n4_z2 n4_z3 0 0), (n4_z1, eW true), (n4_z2, eA cy (fun _ => 0)), (n4_z3, eA cy (fun _ => 0)), (n4_z4, eR n4_z5 n4_z6 n4_z7 0 0), (n4_z5, eW false), (n4_z6, eA cy (fun _ => 0)), (n4_z7, eA cy (fun _ => 0))] := hD
  refine lv_astore_n (lv' := [(1, .ref q0), (0, .ref b)]) hx hb dL_law_7 rfl hl (by decide) rfl (fun ls hl => ?_)
  refine va_new (ci := 7) (fs := [.null, .null, .int 0, .int 0, .int 0]) (C := RX5) (T := TX5) (N := 5) hx hb hts (by decide +kernel) tyX5 tyX5_ok hown (hts (.classLink RL 172 RX5) (by decide +kernel)) (hts (.instantiable RX5 5) (by decide +kernel)) (hts (.initialized RX5) (by decide +kernel)) hK hP hD hS hA rfl (fun j hj => by rcases (show j = 0 ∨ j = 1 ∨ j = 2 ∨ j = 3 ∨ j = 4 by omega) with rfl | rfl | rfl | rfl | rfl <;> rfl) (Nat.le_of_ble_eq_true rfl) (Nat.le_of_ble_eq_true rfl) dL_law_8 (fun q8 H hP hD hS => ?_)
  have hP : va_P (dC, dI) xCl [(q0, eE n4_z0 n4_z4 0), (n4_z0, eR n4_z1 n4_z2 n4_z3 0 0), (n4_z1, eW true), (n4_z2, eA cy (fun _ => 0)), (n4_z3, eA cy (fun _ => 0)), (n4_z4, eR n4_z5 n4_z6 n4_z7 0 0), (n4_z5, eW false), (n4_z6, eA cy (fun _ => 0)), (n4_z7, eA cy (fun _ => 0)), (q8, .inr (7, [.null, .null, .int 0, .int 0, .int 0]))] H := hP
  have hD : va_D A [(q0, eE n4_z0 n4_z4 0), (n4_z0, eR n4_z1 n4_z2 n4_z3 0 0), (n4_z1, eW true), (n4_z2, eA cy (fun _ => 0)), (n4_z3, eA cy (fun _ => 0)), (n4_z4, eR n4_z5 n4_z6 n4_z7 0 0), (n4_z5, eW false), (n4_z6, eA cy (fun _ => 0)), (n4_z7, eA cy (fun _ => 0)), (q8, .inr (7, [.null, .null, .int 0, .int 0, .int 0]))] := hD
  refine lv_dup hx hb dL_law_11 rfl ?_
  have hPc := hP.sub (ws' := [(q8, .inr (7, [.null, .null, .int 0, .int 0, .int 0]))]) [9] rfl
  have hDc := hD.sub (ws' := [(q8, .inr (7, [.null, .null, .int 0, .int 0, .int 0]))]) [9] (by decide) rfl
  have hKc := hK.sub (tys' := [(cy, .long)]) [0] rfl
  have hFc := va_free (wc := [(q8, .inr (7, [.null, .null, .int 0, .int 0, .int 0]))]) hD hS hA [9] rfl
  refine va_callv (va_runI (As := []) (rest := [.ref q8]) ⟨hx, hb, hml, hown, hts⟩ (k_X5_init l dC dI cy q8 H.size s.heap.size ) (cwI 0 hts gL_law_X5_init rfl rfl rfl (hts (.initialized RX5) (by decide +kernel)) (hts (.methodLink RL 174 yX5_init) (by decide +kernel)) (hts (.instanceMethod yX5_init) (by decide +kernel)) rfl (by decide +kernel) ⟨Nat.le_of_ble_eq_true rfl, Nat.le_of_ble_eq_true rfl⟩) (xM.preS (As := .ref q8 :: []) hKc hPc hDc hAN (Nat.le_trans hN hS.1) (hG.kept hS hAN)) rfl rfl hl.1 rfl (lv_room (Nat.le_of_ble_eq_true rfl)) dL_law_12 ⟨Nat.le_of_ble_eq_true rfl, Nat.le_of_ble_eq_true rfl⟩) hS (fun q _ h => hFc q h) hFc (fun u t H locs ht hvm hw hB hz hk hS => ?_)
  obtain ⟨n12_z0, n12_z1, n12_z2, n12_z3⟩ := u
  obtain ⟨hP1, hD1⟩ := hB
  rw [ht] at hP1
  obtain ⟨hP, hD⟩ := va_join (wr := [(q0, eE n4_z0 n4_z4 0), (n4_z0, eR n4_z1 n4_z2 n4_z3 0 0), (n4_z1, eW true), (n4_z2, eA cy (fun _ => 0)), (n4_z3, eA cy (fun _ => 0)), (n4_z4, eR n4_z5 n4_z6 n4_z7 0 0), (n4_z5, eW false), (n4_z6, eA cy (fun _ => 0)), (n4_z7, eA cy (fun _ => 0))]) (w1 := [(q8, eM n12_z0 n12_z2 0 0 0), (n12_z0, eMR true n12_z1 0), (n12_z1, eA cy (fun _ => 0)), (n12_z2, eMR false n12_z3 0), (n12_z3, eA cy (fun _ => 0))]) hP hD [9] [0, 1, 2, 3, 4, 5, 6, 7, 8] rfl rfl (by decide) (by decide) hk hFc hP1 hD1
  have hP : va_P (dC, dI) xCl [(q0, eE n4_z0 n4_z4 0), (n4_z0, eR n4_z1 n4_z2 n4_z3 0 0), (n4_z1, eW true), (n4_z2, eA cy (fun _ => 0)), (n4_z3, eA cy (fun _ => 0)), (n4_z4, eR n4_z5 n4_z6 n4_z7 0 0), (n4_z5, eW false), (n4_z6, eA cy (fun _ => 0)), (n4_z7, eA cy (fun _ => 0)), (q8, eM n12_z0 n12_z2 0 0 0), (n12_z0, eMR true n12_z1 0), (n12_z1, eA cy (fun _ => 0)), (n12_z2, eMR false n12_z3 0), (n12_z3, eA cy (fun _ => 0))] H := hP
  have hD : va_D A [(q0, eE n4_z0 n4_z4 0), (n4_z0, eR n4_z1 n4_z2 n4_z3 0 0), (n4_z1, eW true), (n4_z2, eA cy (fun _ => 0)), (n4_z3, eA cy (fun _ => 0)), (n4_z4, eR n4_z5 n4_z6 n4_z7 0 0), (n4_z5, eW false), (n4_z6, eA cy (fun _ => 0)), (n4_z7, eA cy (fun _ => 0)), (q8, eM n12_z0 n12_z2 0 0 0), (n12_z0, eMR true n12_z1 0), (n12_z1, eA cy (fun _ => 0)), (n12_z2, eMR false n12_z3 0), (n12_z3, eA cy (fun _ => 0))] := hD
  refine lv_astore_n (lv' := [(2, .ref q8), (1, .ref q0), (0, .ref b)]) hx hb dL_law_15 rfl hl (by decide) rfl (fun ls hl => ?_)
  refine va_new (ci := 5) (fs := [.long 0, .null]) (C := RX3) (T := TX3) (N := 2) hx hb hts (by decide +kernel) tyX3 tyX3_ok hown (hts (.classLink RL 14 RX3) (by decide +kernel)) (hts (.instantiable RX3 2) (by decide +kernel)) (hts (.initialized RX3) (by decide +kernel)) hK hP hD hS hA rfl (fun j hj => by rcases (show j = 0 ∨ j = 1 by omega) with rfl | rfl <;> rfl) (Nat.le_of_ble_eq_true rfl) (Nat.le_of_ble_eq_true rfl) dL_law_16 (fun q16 H hP hD hS => ?_)
  have hP : va_P (dC, dI) xCl [(q0, eE n4_z0 n4_z4 0), (n4_z0, eR n4_z1 n4_z2 n4_z3 0 0), (n4_z1, eW true), (n4_z2, eA cy (fun _ => 0)), (n4_z3, eA cy (fun _ => 0)), (n4_z4, eR n4_z5 n4_z6 n4_z7 0 0), (n4_z5, eW false), (n4_z6, eA cy (fun _ => 0)), (n4_z7, eA cy (fun _ => 0)), (q8, eM n12_z0 n12_z2 0 0 0), (n12_z0, eMR true n12_z1 0), (n12_z1, eA cy (fun _ => 0)), (n12_z2, eMR false n12_z3 0), (n12_z3, eA cy (fun _ => 0)), (q16, .inr (5, [.long 0, .null]))] H := hP
  have hD : va_D A [(q0, eE n4_z0 n4_z4 0), (n4_z0, eR n4_z1 n4_z2 n4_z3 0 0), (n4_z1, eW true), (n4_z2, eA cy (fun _ => 0)), (n4_z3, eA cy (fun _ => 0)), (n4_z4, eR n4_z5 n4_z6 n4_z7 0 0), (n4_z5, eW false), (n4_z6, eA cy (fun _ => 0)), (n4_z7, eA cy (fun _ => 0)), (q8, eM n12_z0 n12_z2 0 0 0), (n12_z0, eMR true n12_z1 0), (n12_z1, eA cy (fun _ => 0)), (n12_z2, eMR false n12_z3 0), (n12_z3, eA cy (fun _ => 0)), (q16, .inr (5, [.long 0, .null]))] := hD
  refine lv_dup hx hb dL_law_19 rfl ?_
  have hPc := hP.sub (ws' := [(q16, .inr (5, [.long 0, .null]))]) [14] rfl
  have hDc := hD.sub (ws' := [(q16, .inr (5, [.long 0, .null]))]) [14] (by decide) rfl
  have hKc := hK.sub (tys' := []) [] rfl
  have hFc := va_free (wc := [(q16, .inr (5, [.long 0, .null]))]) hD hS hA [14] rfl
  refine va_callv (va_runIN (As := []) (rest := [.ref q16]) ⟨hx, hb, hml, hown, hts⟩ (k_X3_init l dC dI q16 H.size s.heap.size ) ⟨va_cnB 0 hts gL_law_X3_init_n175 rfl rfl rfl (hG.1 (.methodLinkNest RL 175 yX3_init RL) (List.mem_of_getElem? (i := 2) rfl)) (hts (.initialized RX3) (by decide +kernel)) (by decide +kernel) ⟨Nat.le_of_ble_eq_true rfl, Nat.le_of_ble_eq_true rfl⟩, rfl, hts (.instanceMethod yX3_init) (by decide +kernel)⟩ (xM.preS (As := .ref q16 :: []) hKc hPc hDc hAN (Nat.le_trans hN hS.1) (hG.kept hS hAN)) rfl rfl hl.1 rfl (lv_room (Nat.le_of_ble_eq_true rfl)) dL_law_20 ⟨Nat.le_of_ble_eq_true rfl, Nat.le_of_ble_eq_true rfl⟩) hS (fun q _ h => hFc q h) hFc (fun u t H locs ht hvm hw hB hz hk hS => ?_)
  obtain ⟨hP1, hD1⟩ := hB
  rw [ht] at hP1
  obtain ⟨hP, hD⟩ := va_join (wr := [(q0, eE n4_z0 n4_z4 0), (n4_z0, eR n4_z1 n4_z2 n4_z3 0 0), (n4_z1, eW true), (n4_z2, eA cy (fun _ => 0)), (n4_z3, eA cy (fun _ => 0)), (n4_z4, eR n4_z5 n4_z6 n4_z7 0 0), (n4_z5, eW false), (n4_z6, eA cy (fun _ => 0)), (n4_z7, eA cy (fun _ => 0)), (q8, eM n12_z0 n12_z2 0 0 0), (n12_z0, eMR true n12_z1 0), (n12_z1, eA cy (fun _ => 0)), (n12_z2, eMR false n12_z3 0), (n12_z3, eA cy (fun _ => 0))]) (w1 := [(q16, eO 0 .null)]) hP hD [14] [0, 1, 2, 3, 4, 5, 6, 7, 8, 9, 10, 11, 12, 13] rfl rfl (by decide) (by decide) hk hFc hP1 hD1
  have hP : va_P (dC, dI) xCl [(q0, eE n4_z0 n4_z4 0), (n4_z0, eR n4_z1 n4_z2 n4_z3 0 0), (n4_z1, eW true), (n4_z2, eA cy (fun _ => 0)), (n4_z3, eA cy (fun _ => 0)), (n4_z4, eR n4_z5 n4_z6 n4_z7 0 0), (n4_z5, eW false), (n4_z6, eA cy (fun _ => 0)), (n4_z7, eA cy (fun _ => 0)), (q8, eM n12_z0 n12_z2 0 0 0), (n12_z0, eMR true n12_z1 0), (n12_z1, eA cy (fun _ => 0)), (n12_z2, eMR false n12_z3 0), (n12_z3, eA cy (fun _ => 0)), (q16, eO 0 .null)] H := hP
  have hD : va_D A [(q0, eE n4_z0 n4_z4 0), (n4_z0, eR n4_z1 n4_z2 n4_z3 0 0), (n4_z1, eW true), (n4_z2, eA cy (fun _ => 0)), (n4_z3, eA cy (fun _ => 0)), (n4_z4, eR n4_z5 n4_z6 n4_z7 0 0), (n4_z5, eW false), (n4_z6, eA cy (fun _ => 0)), (n4_z7, eA cy (fun _ => 0)), (q8, eM n12_z0 n12_z2 0 0 0), (n12_z0, eMR true n12_z1 0), (n12_z1, eA cy (fun _ => 0)), (n12_z2, eMR false n12_z3 0), (n12_z3, eA cy (fun _ => 0)), (q16, eO 0 .null)] := hD
  refine lv_astore_n (lv' := [(3, .ref q16), (2, .ref q8), (1, .ref q0), (0, .ref b)]) hx hb dL_law_23 rfl hl (by decide) rfl (fun ls hl => ?_)
  refine lv_iconst (v := 0) hx hb dL_law_24 (by decide) ?_
  refine lv_istore (lv' := [(4, .int 0), (3, .ref q16), (2, .ref q8), (1, .ref q0), (0, .ref b)]) hx hb dL_law_25 hl (by decide) rfl (fun ls hl => ?_)
  have hP := hP.sub (ws' := [(q0, eE n4_z0 n4_z4 0), (n4_z0, eR n4_z1 n4_z2 n4_z3 0 0), (n4_z1, eW true), (n4_z2, eA cy (fun _ => 0)), (n4_z3, eA cy (fun _ => 0)), (n4_z4, eR n4_z5 n4_z6 n4_z7 0 0), (n4_z5, eW false), (n4_z6, eA cy (fun _ => 0)), (n4_z7, eA cy (fun _ => 0)), (q16, eO 0 .null), (q8, eM n12_z0 n12_z2 0 0 0), (n12_z0, eMR true n12_z1 0), (n12_z1, eA cy (fun _ => 0)), (n12_z2, eMR false n12_z3 0), (n12_z3, eA cy (fun _ => 0))]) [0, 1, 2, 3, 4, 5, 6, 7, 8, 14, 9, 10, 11, 12, 13] rfl
  have hD := hD.sub (ws' := [(q0, eE n4_z0 n4_z4 0), (n4_z0, eR n4_z1 n4_z2 n4_z3 0 0), (n4_z1, eW true), (n4_z2, eA cy (fun _ => 0)), (n4_z3, eA cy (fun _ => 0)), (n4_z4, eR n4_z5 n4_z6 n4_z7 0 0), (n4_z5, eW false), (n4_z6, eA cy (fun _ => 0)), (n4_z7, eA cy (fun _ => 0)), (q16, eO 0 .null), (q8, eM n12_z0 n12_z2 0 0 0), (n12_z0, eMR true n12_z1 0), (n12_z1, eA cy (fun _ => 0)), (n12_z2, eMR false n12_z3 0), (n12_z3, eA cy (fun _ => 0))]) [0, 1, 2, 3, 4, 5, 6, 7, 8, 14, 9, 10, 11, 12, 13] (by decide) rfl
  have hP : va_P (dC, dI) xCl [(q0, eE n4_z0 n4_z4 0), (n4_z0, eR n4_z1 n4_z2 n4_z3 0 0), (n4_z1, eW true), (n4_z2, eA cy (fun _ => 0)), (n4_z3, eA cy (fun _ => 0)), (n4_z4, eR n4_z5 n4_z6 n4_z7 0 0), (n4_z5, eW false), (n4_z6, eA cy (fun _ => 0)), (n4_z7, eA cy (fun _ => 0)), (q16, eO 0 .null), (q8, eM n12_z0 n12_z2 0 (0 + 0) 0), (n12_z0, eMR true n12_z1 0), (n12_z1, eA cy (fun _ => 0)), (n12_z2, eMR false n12_z3 0), (n12_z3, eA cy (fun _ => 0))] H := hP
  have hD : va_D A [(q0, eE n4_z0 n4_z4 0), (n4_z0, eR n4_z1 n4_z2 n4_z3 0 0), (n4_z1, eW true), (n4_z2, eA cy (fun _ => 0)), (n4_z3, eA cy (fun _ => 0)), (n4_z4, eR n4_z5 n4_z6 n4_z7 0 0), (n4_z5, eW false), (n4_z6, eA cy (fun _ => 0)), (n4_z7, eA cy (fun _ => 0)), (q16, eO 0 .null), (q8, eM n12_z0 n12_z2 0 (0 + 0) 0), (n12_z0, eMR true n12_z1 0), (n12_z1, eA cy (fun _ => 0)), (n12_z2, eMR false n12_z3 0), (n12_z3, eA cy (fun _ => 0))] := hD
  exact lw_loop l p e s m below meth c b L s.heap.size xs A dC dI cy cB q0 n4_z0 n4_z1 n4_z2 n4_z3 n4_z4 n4_z5 n4_z6 n4_z7 q16 q8 n12_z0 n12_z1 n12_z2 n12_z3 C0L 512 0 0 0 (fun _ => 0) (fun _ => 0) 0 0 (fun _ => 0) (fun _ => 0) 0 0 .null 0 _ _ H _ ls (by omega) (by omega) (by omega) (by omega) (mg_start true) (mg_start false) hP hD hS (lv_sub hl [4, 3, 2, 1, 0] rfl)
set_option maxHeartbeats 4000000 in
theorem lw_walk (l : Launch) (hflags : l.flags = flags0) (b : Addr) (xs : List Int32) : MetFree l x (headSpec (Jvm.Cond.code x code maxLocals ret :: tables_1) room_1) (lw_P b xs) (fun _ _ _ _ _ => True) lw_Q := by
  refine MetFree.of_bodyS (code := code) (maxLocals := maxLocals) (ret := ret) (by decide) ?_ ?_
  · intro args s m h hn
    obtain ⟨meth, c, h1, h2, h3, h4, h5, h6, -, -⟩ := Cond.code_spec hn (atoms_spec (ws := Jvm.Cond.code x code maxLocals ret :: tables_1) h _ List.mem_cons_self)
    exact ⟨meth, c, h1, h2, h3, h4, h5, h6⟩
  · intro p e s m args below meth c s₁ B hml0 hP _
    obtain ⟨rfl, hx, hbd, hgv⟩ := hP
    obtain ⟨scr, harrAt, hlist, hof, hsmall⟩ := hx
    obtain ⟨hcb, hkn, -, -⟩ := State.arrayAt?_spec harrAt
    have hown : s.vm.findClass R_law = some m.cls := findClass_of_methodNamed B.named
    have hts0 : ∀ c ∈ (Jvm.Cond.code x code maxLocals ret :: tables_1), c.before #[Value.ref b] s = true := atoms_spec (ws := Jvm.Cond.code x code maxLocals ret :: tables_1) B.pre
    have hts : ∀ w ∈ lw_tbl, w.before #[Value.ref b] s = true := k2_hts_sels lw_privs (fun w hw => hts0 w (List.mem_cons_of_mem _ hw)) lw_privs_ok
    have hml : c.maxLocals = 7 := B.maxLocals_eq (hts0 _ List.mem_cons_self)
    have X₀ : Stand p l e room_1 s m #[Value.ref b] below meth c s₁ [] 0 0 := Stand.of_body B
    have hh0 : s₁.heap = s.heap := by rw [B.state]; rfl
    have hsz : scr.slots.size = xs.length := by rw [← Array.length_toList, hlist, List.length_map]
    have hval : ∀ j : Nat, j < xs.length → scr.slots[j]? = some (.int (xs.getD j 0)) := fun j hj => by
      rw [← Array.getElem?_toList, hlist]
      simp [hj]
    have hbl : b < s.heap.size := (Array.getElem?_eq_some_iff.mp hcb).1
    have hX : va_X b xs.length (fun j => xs.getD j 0) s s.heap := ⟨scr, hcb, hof, hkn, hsz, hval⟩
    have K : W p l e room_1 s m #[Value.ref b] below meth c s₁.heap [] 0 0 (lw_Z below #[Value.ref b] s) (entryFrame m ([Value.ref b] : List Value).toArray 7) := by
      rw [hh0]
      exact whole_start l hflags hbd ⟨B.exec, B.bytes, B.returns, hml, hown, hts, hX, hbl, B.notSynchronized, hgv⟩
    obtain ⟨t, a1, o, b1, b2, b3⟩ := K s₁ rfl X₀
    exact ⟨t, o, a1, b1, b2, b3⟩
theorem lw_pre_spec {args : Array Value} {s : State} (h : (Jvm.Cond.and given_1 narrow_1).before args s = true) (hr : rest_1_c.before args s = true) : ∃ (b : Addr) (xs : List Int32), lw_P b xs args s := by
  have hs := flat_of_before _ h
  have hq := flat_of_before _ hr
  have hc : (Cond.count 1).before args s = true := hs _ (by decide +kernel)
  have harr : (Cond.arrayOf (.arg 0) .int).before args s = true := hs _ (by decide +kernel)
  have hle : (Cond.le (.length (.arg 0)) (.int 2048)).before args s = true := hs _ (by decide +kernel)
  have hlen : (Cond.isInt (.length (.arg 0))).before args s = true := hq _ (by decide +kernel)
  have hall : (Cond.all (.arg 0) (.isInt (.elem (.arg 0) (.index 0)))).before args s = true := hq _ (by decide +kernel)
  obtain ⟨b, xs, hb, hx⟩ := State.ints_of_pre rfl harr hlen hall
  have hsm : xs.length < 2 ^ 31 := hx.choose_spec.2.2.2
  have hev : (Term.length (.arg 0)).eval args s none [] s = some (.int xs.length.toInt32) := hx.length_eval hb
  have hv := Cond.le_ints hev (show (Term.int 2048).eval args s none [] s = some (.int 2048) from rfl)
  have hd : xs.length.toInt32 ≤ 2048 := by
    simpa [Cond.before, Cond.holds, hv] using hle
  have hN : xs.length ≤ 2048 := (Int32.ofNat_le_ofNat hsm (by decide)).mp (show Int32.ofNat xs.length ≤ Int32.ofNat 2048 from hd)
  exact ⟨b, xs, Cond.one_arg hc (show args[0]? = some (.ref b) from hb), hx, hN, h⟩
theorem lw_comes (l : Launch) (hflags : l.flags = flags0) : Comes l x (Jvm.Cond.code x code maxLocals ret :: tables_1) room_1 (fun tb e args s => Calls_1 tb e args s ∧ rest_1 tb e args s ∧ Pre_1 tb e args s)
    (fun _ _ args s o t => lw_Q args s o t) := by
  intro p e ha hc hk s m args below hf hfit hheap happ hpre
  obtain ⟨b, xs, hP⟩ := lw_pre_spec hpre.2.2 hpre.2.1
  obtain ⟨k, o, h1, h2, h3, hQ⟩ := lw_walk l hflags b xs p e ha hc hk s m args below hf ((Spec.applies_iff_loose hf).mp happ).1 hP trivial
  exact ⟨k, o, h1, h2, h3, hQ⟩
theorem lw_frame {s t : State} {o : Outcome} {args : Array Value} (h : Framed s o t [] 716141 6947682) :
    Framed s o t (fieldLocs frame_1_writes args s ++ arrayLocs frame_1_arrays args s ++ staticLocs frame_1_statics s) 716141 6947682 := h
theorem lw_limb (L : Cond) (hL : ∀ (args : Array Value) (s t : State), L.after args s (.returned (some (.int 1))) t = true) :
    ArmFor flags0 classFile x code maxLocals ret World_1 tables_1 room_1 Calls_1 rest_1 Pre_1
      (fun tb e a s o t => postC L tb e a s o t ∧ Framed s o t (fieldLocs frame_1_writes a s ++ arrayLocs frame_1_arrays a s ++ staticLocs frame_1_statics s) 716141 6947682) := by
  intro l hflags _ _ p e ha hc hk s m args below hf hfit hheap happ hpre
  obtain ⟨k, o, h1, h2, h3, rfl, hF⟩ := lw_comes l hflags p e ha hc hk s m args below hf hfit hheap happ hpre
  exact ⟨k, _, h1, h2, h3, hL args s _, lw_frame hF⟩
theorem i_vc : Claimed_1_1 ∧ Claimed_1_2 := ⟨lw_limb limb_1_1 (fun args s t => by simp [limb_1_1, Cond.after, Cond.holds, Cond.value]), lw_limb limb_1_2 (fun args s t => Cond.after_iff.mpr (by
  first | (rw [show limb_1_2 = Cond.eq .result (.int 1) from rfl, Cond.eq_ints (x := 1) (y := 1) rfl rfl]; simp; done) | (simp [limb_1_2, Cond.value, Term.eval]; done)))⟩

