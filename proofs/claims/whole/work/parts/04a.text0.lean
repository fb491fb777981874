/-! what the texts stand on -/
noncomputable def tByt : List (List Int32) := [[49, 32], [48, 32], [32]]
noncomputable def tLen : List Nat := [2, 2, 1]
/-- the two tables of digits -/
noncomputable def tD (fO fT : Nat → Int32) : Prop := ∀ k, k < 100 → vp_nar .byte (fO k) = sb_b (48 + k % 10) ∧ vp_nar .byte (fT k) = sb_b (48 + k / 10)
/-- statics and String constants that the texts' methods read -/
noncomputable def gT (N : Nat) (U : State) (H : Heap) : Prop := va_Z "java/lang/String" "COMPACT_STRINGS" "Z" (.int 1) (aN N) U H ∧ (∃ (tO tT : Nat) (fO fT : Nat → Int32), va_Z "java/lang/Integer" "DigitOnes" "[B" (.ref tO) (aN N) U H ∧ va_Z "java/lang/Integer" "DigitTens" "[B" (.ref tT) (aN N) U H ∧ va_T .byte tO 100 (fun j => .int (fO j)) (aN N) U H ∧ va_T .byte tT 100 (fun j => .int (fT j)) (aN N) U H ∧ sb_Fit fO ∧ sb_Fit fT ∧ tD fO fT) ∧ (∃ adK adV : Nat → Nat, vk_S 3 tLen tByt adK adV (aN N) U H ∧ vk_R RX4 84 "1 " (adK 0) U ∧ vk_R RX4 86 "0 " (adK 1) U ∧ vk_R RX4 95 " " (adK 2) U) ∧ (∃ a, vk_R RX5 101 "" a U) ∧ va_Nw (.castable "[B" "java/lang/Cloneable") U
theorem gT.moved {N : Nat} {s U : State} {H : Heap} (h : gT N s H) (hvm : s.vm.Alike U.vm) (hR : ∀ (o : String) (k : Nat) (tx : String) (a : Nat), vk_R o k tx a s → vk_R o k tx a U) (hC : va_Nw (.castable "[B" "java/lang/Cloneable") s → va_Nw (.castable "[B" "java/lang/Cloneable") U) : gT N U H := by
  obtain ⟨h1, ⟨tO, tT, fO, fT, h2, h3, h4, h5, h6⟩, ⟨adK, adV, h7, h8, h9, h10⟩, ⟨a, h11⟩, h12⟩ := h
  exact ⟨va_Z.moved hvm h1, ⟨tO, tT, fO, fT, va_Z.moved hvm h2, va_Z.moved hvm h3, va_T.moved hvm h4, va_T.moved hvm h5, h6⟩, ⟨adK, adV, vk_S.moved hvm h7, hR _ _ _ _ h8, hR _ _ _ _ h9, hR _ _ _ _ h10⟩, ⟨a, hR _ _ _ _ h11⟩, hC h12⟩
theorem gT.at {N : Nat} {s U : State} {H : Heap} (h : gT N s H) (hW : s.WarmedH U.vm) (hU : U.heap = H) : gT N U U.heap := by
  rw [hU]
  exact h.moved hW.alike (fun o k tx a h => h.warm hW) (fun h => va_Nw.warmC hW h)
theorem gT.same {N : Nat} {u U : State} {H : Heap} (hv : u.vm = U.vm) (h : gT N u H) : gT N U H :=
  h.moved (by rw [hv]; exact Vm.Alike.refl _) (fun o k tx a h => h.same hv.symm) (fun h => va_Nw.same rfl hv h)
theorem gT.kept {N : Nat} {s : State} {A : Nat → Prop} {H0 H : Heap} {locs : List Loc} (h : gT N s H0) (hS : va_S A H0 H locs) (hAN : ∀ q, A q → N ≤ q) : gT N s H := by
  obtain ⟨h1, ⟨tO, tT, fO, fT, h2, h3, h4, h5, h6⟩, ⟨adK, adV, h7, h8⟩, h11, h12⟩ := h
  have hq : ∀ a : Nat, a < H0.size → ¬ aN N a → H[a]? = H0[a]? := fun a ha hn => hS.2.1 a ha (fun z => hn (hAN a z))
  exact ⟨h1.kept hq, ⟨tO, tT, fO, fT, h2.kept hq, h3.kept hq, h4.kept hq, h5.kept hq, h6⟩, ⟨adK, adV, h7.kept hq, h8⟩, h11, h12⟩
noncomputable def xT (D : va_G) (cl : List vw_C) (ws : va_W) (tys : List (ClassId × FieldType)) (sz N : Nat) (U : State) : Prop := xM D cl ws tys sz N U ∧ gT N U U.heap
theorem xT.blind {D : va_G} {cl : List vw_C} {ws : va_W} {tys : List (ClassId × FieldType)} {sz N : Nat} {av : List Value} : FrameBlind (va_Pc av (xT D cl ws tys sz N)) := by
  intro a U g mk q
  obtain ⟨q0, q1, q2⟩ := q
  have h := xM.blind a U g mk (show va_Pc av (xM D cl ws tys sz N) a U from ⟨q0, q1⟩)
  exact ⟨h.1, h.2, gT.same (u := U) (U := U.calling g mk a) rfl q2⟩
theorem xT.preV {D : va_G} {cl : List vw_C} {ws : va_W} {tys : List (ClassId × FieldType)} {s : State} {H : Heap} {A : Nat → Prop} {a q0 ci N n : Nat} {C : String} {T : u_T} {fs As : List Value} (hK : va_K D cl tys s) (hP : va_P D cl ws H) (hD : va_D A ws) (hAN : ∀ q, A q → N ≤ q) (hN : N ≤ H.size) (hG : gG N s H) (hT : gT N s H) (hc : cl[ci]? = some (C, T, n)) (he : ws[q0]? = some (a, .inr (ci, fs))) : PreV s H C a (va_Pc (Value.ref a :: As) (xT D cl ws tys H.size N)) As :=
  ⟨xT.blind, va_recv hK hP hc he, fun U hU hW => ⟨rfl, ((xM.preV (As := As) hK hP hD hAN hN hG hc he).2.2 U hU hW).2, hT.at hW hU⟩⟩
theorem xT.preS {D : va_G} {cl : List vw_C} {ws : va_W} {tys : List (ClassId × FieldType)} {s : State} {H : Heap} {A : Nat → Prop} {N : Nat} {As : List Value} (hK : va_K D cl tys s) (hP : va_P D cl ws H) (hD : va_D A ws) (hAN : ∀ q, A q → N ≤ q) (hN : N ≤ H.size) (hG : gG N s H) (hT : gT N s H) : PreS s H (va_Pc As (xT D cl ws tys H.size N)) As :=
  ⟨xT.blind, fun U hU hW => ⟨rfl, ((xM.preS (As := As) hK hP hD hAN hN hG).2 U hU hW).2, hT.at hW hU⟩⟩
noncomputable def xU (D : va_G) (cl : List vw_C) (ws : va_W) (tys : List (ClassId × FieldType)) (sz N : Nat) (U : State) : Prop := xT D cl ws tys sz N U ∧ va_Nc "java/lang/IllegalArgumentException" "java/lang/IndexOutOfBoundsException" U
theorem xU.blind {D : va_G} {cl : List vw_C} {ws : va_W} {tys : List (ClassId × FieldType)} {sz N : Nat} {av : List Value} : FrameBlind (va_Pc av (xU D cl ws tys sz N)) := by
  intro a U g mk q
  obtain ⟨q0, q1, q2⟩ := q
  have h := xT.blind a U g mk (show va_Pc av (xT D cl ws tys sz N) a U from ⟨q0, q1⟩)
  exact ⟨h.1, h.2, va_Nc.moved (u := U) (U := U.calling g mk a) (Vm.Alike.refl U.vm) q2⟩
theorem xU.preS {D : va_G} {cl : List vw_C} {ws : va_W} {tys : List (ClassId × FieldType)} {s : State} {H : Heap} {A : Nat → Prop} {N : Nat} {As : List Value} (hK : va_K D cl tys s) (hP : va_P D cl ws H) (hD : va_D A ws) (hAN : ∀ q, A q → N ≤ q) (hN : N ≤ H.size) (hG : gG N s H) (hT : gT N s H) (hnc : va_Nc "java/lang/IllegalArgumentException" "java/lang/IndexOutOfBoundsException" s) : PreS s H (va_Pc As (xU D cl ws tys H.size N)) As :=
  ⟨xU.blind, fun U hU hW => ⟨rfl, ((xT.preS (As := As) hK hP hD hAN hN hG hT).2 U hU hW).2, va_Nc.moved hW.alike hnc⟩⟩

