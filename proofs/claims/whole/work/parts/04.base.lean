/-! helpers of this claim's walks -/
noncomputable def aN (N : Nat) : Nat → Prop := fun q => N ≤ q
noncomputable def b2i (b : Bool) : Int32 := if b then 1 else 0
theorem b2i_eq0 (b : Bool) : b2i b = 0 ↔ b = false := by cases b <;> decide
theorem b2i_nar (b : Bool) : narrow .boolean (.int (b2i b)) = .int (b2i b) := by cases b <;> rfl
noncomputable def jLushr (x : Int64) (y : Int32) : Int64 := (x.toUInt64 >>> (y.toInt64.toUInt64 &&& Int64.toUInt64 63)).toInt64
noncomputable def jLshl (x : Int64) (y : Int32) : Int64 := x <<< (y.toInt64 &&& 63)
noncomputable def jLshr (x : Int64) (y : Int32) : Int64 := x >>> (y.toInt64 &&& 63)
/-- what a reader's world is at its start -/
noncomputable def xB (D : va_G) (cl : List vw_C) (ws : va_W) (tys : List (ClassId × FieldType)) (sz : Nat) (U : State) : Prop := U.heap.size = sz ∧ va_P D cl ws U.heap ∧ va_K D cl tys U
theorem xB.blind {D : va_G} {cl : List vw_C} {ws : va_W} {tys : List (ClassId × FieldType)} {sz : Nat} {av : List Value} : FrameBlind (va_Pc av (xB D cl ws tys sz)) := by
  intro a U g mk q
  obtain ⟨q0, q1, qP, qK⟩ := q
  exact ⟨q0, q1, qP, va_K.moved (u := U) (U := U.calling g mk a) (Vm.Alike.refl U.vm) qK⟩
theorem xB.preV {D : va_G} {cl : List vw_C} {ws : va_W} {tys : List (ClassId × FieldType)} {s : State} {H : Heap} {a q0 ci N : Nat} {C : String} {T : u_T} {fs As : List Value} (hK : va_K D cl tys s) (hP : va_P D cl ws H) (hc : cl[ci]? = some (C, T, N)) (he : ws[q0]? = some (a, .inr (ci, fs))) : PreV s H C a (va_Pc (Value.ref a :: As) (xB D cl ws tys H.size)) As :=
  ⟨xB.blind, va_recv hK hP hc he, fun U hU hW => ⟨rfl, by rw [hU], by rw [hU]; exact hP, va_K.moved hW.alike hK⟩⟩
theorem xB.preS {D : va_G} {cl : List vw_C} {ws : va_W} {tys : List (ClassId × FieldType)} {s : State} {H : Heap} {As : List Value} (hK : va_K D cl tys s) (hP : va_P D cl ws H) : PreS s H (va_Pc As (xB D cl ws tys H.size)) As :=
  ⟨xB.blind, fun U hU hW => ⟨rfl, by rw [hU], by rw [hU]; exact hP, va_K.moved hW.alike hK⟩⟩
theorem xP_keep {D : va_G} {cl : List vw_C} {ws : va_W} {H H1 : Heap} (hP : va_P D cl ws H) (hk : ∀ q : Nat, q < H.size → ¬ aN H.size q → H1[q]? = H[q]?) : va_P D cl ws H1 :=
  hP.kept (fun k q hq => hk q.1 (hP k q hq).lt (Nat.not_le.mpr (hP k q hq).lt))
theorem xA_old {A0 : Nat → Prop} {z : Nat} : ∀ q : Nat, q < z → aN z q → A0 q := fun _ h h2 => absurd h2 (Nat.not_le.mpr h)
section XW
variable {p : Program} {l : Launch} {e : Env} {R : Room} {s : State} {m : MethodId} {args : Array Value} {below : List Frame} {meth : Method} {c : Code} {H : Heap} {locs : List Loc} {cells slots : Nat} {Q : State → Prop}
variable {pc : Nat} {ls : Array Slot} {rest : List Value} {cc : ByteArray}
theorem xz_eq (hexec : p.tables.exec = Jvm.exec) (hb : c.code = cc) {b : Bool} {off : Int} {tgt : Nat} (hdg : decode cc pc = .ok (.ifCond .eq off, 3)) (ht : (pc : Int) + off = (tgt : Int))
    (kt : ¬ b = true → W p l e R s m args below meth c H locs cells slots Q (F0 m tgt ls rest)) (kf : b = true → W p l e R s m args below meth c H locs cells slots Q (F0 m (pc + 3) ls rest)) : W p l e R s m args below meth c H locs cells slots Q (F0 m pc ls (.int (b2i b) :: rest)) :=
  lv_if_eq hexec hb hdg ht (fun h => kt (by rw [(b2i_eq0 b).mp h]; decide)) (fun h => kf (by cases b; exact absurd rfl h; rfl))
theorem xz_ne (hexec : p.tables.exec = Jvm.exec) (hb : c.code = cc) {b : Bool} {off : Int} {tgt : Nat} (hdg : decode cc pc = .ok (.ifCond .ne off, 3)) (ht : (pc : Int) + off = (tgt : Int))
    (kt : b = true → W p l e R s m args below meth c H locs cells slots Q (F0 m tgt ls rest)) (kf : ¬ b = true → W p l e R s m args below meth c H locs cells slots Q (F0 m (pc + 3) ls rest)) : W p l e R s m args below meth c H locs cells slots Q (F0 m pc ls (.int (b2i b) :: rest)) :=
  lv_if_ne hexec hb hdg ht (fun h => kt (by cases b; exact absurd rfl h; rfl)) (fun h => kf (by rw [(b2i_eq0 b).mp h]; decide))
theorem xc_eq (hexec : p.tables.exec = Jvm.exec) (hb : c.code = cc) {x y : Int64} {off : Int} {tgt : Nat} (hd0 : decode cc pc = .ok (.lcmp, 1)) (hdg : decode cc (pc + 1) = .ok (.ifCond .eq off, 3)) (ht : ((pc + 1 : Nat) : Int) + off = (tgt : Int))
    (kt : x = y → W p l e R s m args below meth c H locs cells slots Q (F0 m tgt ls rest)) (kf : ¬ x = y → W p l e R s m args below meth c H locs cells slots Q (F0 m (pc + 4) ls rest)) : W p l e R s m args below meth c H locs cells slots Q (F0 m pc ls (.long y :: .long x :: rest)) :=
  W.lcmp hexec hb hd0 (lv_if_eq hexec hb hdg ht (fun h => kt ((lg_cmp_eq x y).mp h)) (fun h => kf (fun z => h ((lg_cmp_eq x y).mpr z))))
theorem xc_ne (hexec : p.tables.exec = Jvm.exec) (hb : c.code = cc) {x y : Int64} {off : Int} {tgt : Nat} (hd0 : decode cc pc = .ok (.lcmp, 1)) (hdg : decode cc (pc + 1) = .ok (.ifCond .ne off, 3)) (ht : ((pc + 1 : Nat) : Int) + off = (tgt : Int))
    (kt : ¬ x = y → W p l e R s m args below meth c H locs cells slots Q (F0 m tgt ls rest)) (kf : x = y → W p l e R s m args below meth c H locs cells slots Q (F0 m (pc + 4) ls rest)) : W p l e R s m args below meth c H locs cells slots Q (F0 m pc ls (.long y :: .long x :: rest)) :=
  W.lcmp hexec hb hd0 (lv_if_ne hexec hb hdg ht (fun h => kt (fun z => h ((lg_cmp_eq x y).mpr z))) (fun h => kf ((lg_cmp_eq x y).mp h)))
theorem xc_lt (hexec : p.tables.exec = Jvm.exec) (hb : c.code = cc) {x y : Int64} {off : Int} {tgt : Nat} (hd0 : decode cc pc = .ok (.lcmp, 1)) (hdg : decode cc (pc + 1) = .ok (.ifCond .lt off, 3)) (ht : ((pc + 1 : Nat) : Int) + off = (tgt : Int))
    (kt : x < y → W p l e R s m args below meth c H locs cells slots Q (F0 m tgt ls rest)) (kf : ¬ x < y → W p l e R s m args below meth c H locs cells slots Q (F0 m (pc + 4) ls rest)) : W p l e R s m args below meth c H locs cells slots Q (F0 m pc ls (.long y :: .long x :: rest)) :=
  W.lcmp hexec hb hd0 (lv_if_lt hexec hb hdg ht (fun h => kt ((lg_cmp_lt x y).mp h)) (fun h => kf (fun z => h ((lg_cmp_lt x y).mpr z))))
theorem xc_ge (hexec : p.tables.exec = Jvm.exec) (hb : c.code = cc) {x y : Int64} {off : Int} {tgt : Nat} (hd0 : decode cc pc = .ok (.lcmp, 1)) (hdg : decode cc (pc + 1) = .ok (.ifCond .ge off, 3)) (ht : ((pc + 1 : Nat) : Int) + off = (tgt : Int))
    (kt : y ≤ x → W p l e R s m args below meth c H locs cells slots Q (F0 m tgt ls rest)) (kf : ¬ y ≤ x → W p l e R s m args below meth c H locs cells slots Q (F0 m (pc + 4) ls rest)) : W p l e R s m args below meth c H locs cells slots Q (F0 m pc ls (.long y :: .long x :: rest)) :=
  W.lcmp hexec hb hd0 (lv_if_ge hexec hb hdg ht (fun h => kt ((lg_cmp_ge x y).mp h)) (fun h => kf (fun z => h ((lg_cmp_ge x y).mpr z))))
theorem xc_gt (hexec : p.tables.exec = Jvm.exec) (hb : c.code = cc) {x y : Int64} {off : Int} {tgt : Nat} (hd0 : decode cc pc = .ok (.lcmp, 1)) (hdg : decode cc (pc + 1) = .ok (.ifCond .gt off, 3)) (ht : ((pc + 1 : Nat) : Int) + off = (tgt : Int))
    (kt : y < x → W p l e R s m args below meth c H locs cells slots Q (F0 m tgt ls rest)) (kf : ¬ y < x → W p l e R s m args below meth c H locs cells slots Q (F0 m (pc + 4) ls rest)) : W p l e R s m args below meth c H locs cells slots Q (F0 m pc ls (.long y :: .long x :: rest)) :=
  W.lcmp hexec hb hd0 (lv_if_gt hexec hb hdg ht (fun h => kt ((lg_cmp_gt x y).mp h)) (fun h => kf (fun z => h ((lg_cmp_gt x y).mpr z))))
theorem xc_le (hexec : p.tables.exec = Jvm.exec) (hb : c.code = cc) {x y : Int64} {off : Int} {tgt : Nat} (hd0 : decode cc pc = .ok (.lcmp, 1)) (hdg : decode cc (pc + 1) = .ok (.ifCond .le off, 3)) (ht : ((pc + 1 : Nat) : Int) + off = (tgt : Int))
    (kt : x ≤ y → W p l e R s m args below meth c H locs cells slots Q (F0 m tgt ls rest)) (kf : ¬ x ≤ y → W p l e R s m args below meth c H locs cells slots Q (F0 m (pc + 4) ls rest)) : W p l e R s m args below meth c H locs cells slots Q (F0 m pc ls (.long y :: .long x :: rest)) :=
  W.lcmp hexec hb hd0 (lv_if_le hexec hb hdg ht (fun h => kt ((lg_cmp_le x y).mp h)) (fun h => kf (fun z => h ((lg_cmp_le x y).mpr z))))
theorem xa_lald {D : va_G} {cl : List vw_C} {ws : va_W} {tys : List (ClassId × FieldType)} {a : Nat} (hexec : p.tables.exec = Jvm.exec) (hb : c.code = cc) (hK : va_K D cl tys s) (hP : va_P D cl ws H) (q0 t0 : Nat) {cA : ClassId} {n : Nat} {f : Nat → Int64} (ha : ws[q0]? = some (a, .inl (cA, n, .inr (.inl f)))) (ht : tys[t0]? = some (cA, .long)) {i : Int32} (hin : vp_in i n) {k : Nat} (hk : i.toNatClampNeg = k) (hdg : decode cc pc = .ok (.laload, 1))
    (kk : W p l e R s m args below meth c H locs cells slots Q (F0 m (pc + 1) ls (.long (f k) :: rest))) : W p l e R s m args below meth c H locs cells slots Q (F0 m pc ls (.int i :: .ref a :: rest)) := by
  subst hk
  exact va_lald hexec hb hK hP q0 t0 ha ht hin hdg kk
theorem xa_last {D : va_G} {cl : List vw_C} {ws : va_W} {tys : List (ClassId × FieldType)} {a : Nat} {A : Nat → Prop} {H0 : Heap} (hexec : p.tables.exec = Jvm.exec) (hb : c.code = cc) (hK : va_K D cl tys s) (hP : va_P D cl ws H) (hD : va_D A ws) (hS : va_S A H0 H locs) (q0 t0 : Nat) {cA : ClassId} {n : Nat} {f : Nat → Int64} (ha : ws[q0]? = some (a, .inl (cA, n, .inr (.inl f)))) (ht : tys[t0]? = some (cA, .long)) {i : Int32} {x : Int64} (hin : vp_in i n) {k : Nat} (hk : i.toNatClampNeg = k) (hdg : decode cc pc = .ok (.lastore, 1))
    (kk : ∀ (H1 : Heap) (locs1 : List Loc), va_P D cl (ws.set q0 (a, .inl (cA, n, .inr (.inl (vp_updL f k x))))) H1 → va_D A (ws.set q0 (a, .inl (cA, n, .inr (.inl (vp_updL f k x))))) → va_S A H0 H1 locs1 → W p l e R s m args below meth c H1 locs1 cells slots Q (F0 m (pc + 1) ls rest)) : W p l e R s m args below meth c H locs cells slots Q (F0 m pc ls (.long x :: .int i :: .ref a :: rest)) := by
  subst hk
  exact va_last hexec hb hK hP hD hS q0 t0 ha ht hin hdg kk
end XW
noncomputable abbrev xCl : List vw_C := [(RJ0, TJ0, 4), (RJ4, TJ4, 4), (RX0, TX0, 5), (RX1, TX1, 7), (RX2, TX2, 3), (RX3, TX3, 2), (RX4, TX4, 5), (RX5, TX5, 5)]
noncomputable def wFd (w : Bool) : Int32 := if w then 52 else 23
noncomputable def wEo (w : Bool) : Int32 := if w then 2047 else 255
noncomputable def wFo (w : Bool) : Int64 := if w then 4503599627370495 else 8388607
noncomputable def wSo (w : Bool) : Int64 := if w then 9223372036854775807 else 2147483647
noncomputable def wSg (w : Bool) : Int64 := if w then -9223372036854775808 else 2147483648
noncomputable def wEq (w : Bool) : Int32 := if w then 1021 else 125
noncomputable def wQb (w : Bool) : Int32 := if w then 1000000000 else 16000000
noncomputable def mEx (w : Bool) : Int32 := if w then 11 else 8
noncomputable def mFr (w : Bool) : Int32 := if w then 52 else 23
noncomputable def mMo (w : Bool) : Int64 := if w then 1000000000 else 16000000
noncomputable abbrev eW (w : Bool) : va_E := .inr (3, [.int (wFd w), .int (wEo w), .long (wFo w), .long (wSo w), .long (wSg w), .int (wEq w), .int (wQb w)])
noncomputable abbrev eR (hw hc hb : Nat) (a r : Int32) : va_E := .inr (2, [.ref hw, .ref hc, .ref hb, .int a, .int r])
noncomputable abbrev eA (cy : ClassId) (f : Nat → Int64) : va_E := .inl (cy, 8, .inr (.inl f))
noncomputable abbrev eE (h1 h2 : Nat) (kn : Int32) : va_E := .inr (4, [.ref h1, .ref h2, .int kn])
noncomputable abbrev eMR (w : Bool) (hc : Nat) (a : Int32) : va_E := .inr (6, [.int (mEx w), .int (mFr w), .long (mMo w), .ref hc, .int a])
noncomputable abbrev eM (h1 h2 : Nat) (th rf kn : Int32) : va_E := .inr (7, [.ref h1, .ref h2, .int th, .int rf, .int kn])
/-- facts of the tables that aren't words of a method's own list -/
noncomputable def gNw : List Cond := [.methodLinkNest RX0 22 yX2_checkCell RX2, .methodLinkNest RX0 55 yX2_checkChoice RX2, .methodLinkNest RL 175 yX3_init RL, .fieldLinkNest RX0 40 "Edgefloats$Width" "quarterBound" "I" RX2, .fieldLinkNest RX2 142 "Edgefloats$Row" "acts" "I" RX2, .fieldLinkNest RX2 145 "Edgefloats$Row" "refusals" "I" RX2, .fieldLinkNest RL 13 "EdgefloatsLaw$Out" "n" "J" RL, .fieldLinkNest RL 63 "EdgefloatsLaw$Out" "s" "Ljava/lang/String;" RL,
  .declares (Bundle.initS "java/lang/RuntimeException"), .declares (Bundle.initS "java/lang/Exception"), .declares (Bundle.initS "java/lang/Throwable"), .castable "java/lang/IndexOutOfBoundsException" "java/lang/IndexOutOfBoundsException", .castable "java/lang/IllegalArgumentException" "java/lang/IllegalArgumentException"]
theorem gNw_warm {w : Cond} (hw : w ∈ gNw) {s U : State} (hW : s.WarmedH U.vm) (h : va_Nw w s) : va_Nw w U := by
  simp only [gNw, List.mem_cons, List.not_mem_nil, or_false] at hw
  rcases hw with rfl | rfl | rfl | rfl | rfl | rfl | rfl | rfl | rfl | rfl | rfl | rfl | rfl
  all_goals first | exact va_Nw.warmM hW h | exact va_Nw.warmF hW h | exact va_Nw.warmD hW h | exact va_Nw.warmC hW h
theorem gNw_tab : ∀ w ∈ gNw, w.onTables = true := by decide +kernel
noncomputable def gG (N : Nat) (U : State) (H : Heap) : Prop := (∀ w ∈ gNw, va_Nw w U) ∧ (∃ a, vk_R RX2 150 "a cell is not 0 to 7" a U) ∧ (∃ a, vk_R RX2 157 "there is no such choice" a U) ∧ (∃ a, vk_R RX0 46 "there is no such QUARTER" a U) ∧ vx_Zq Bundle.tN "UNASSIGNED_STACK" Bundle.steD (aN N) U H ∧ vx_Zq Bundle.tN "SUPPRESSED_SENTINEL" Bundle.listD (aN N) U H
theorem gG.at {N : Nat} {s U : State} {H : Heap} (h : gG N s H) (hW : s.WarmedH U.vm) (hU : U.heap = H) : gG N U U.heap := by
  obtain ⟨h1, ⟨a2, h2⟩, ⟨a3, h3⟩, ⟨a4, h4⟩, h5, h6⟩ := h
  rw [hU]
  exact ⟨fun w hw => gNw_warm hw hW (h1 w hw), ⟨a2, h2.warm hW⟩, ⟨a3, h3.warm hW⟩, ⟨a4, h4.warm hW⟩, vx_Zq.moved hW.alike h5, vx_Zq.moved hW.alike h6⟩
theorem gG.same {N : Nat} {u U : State} {H : Heap} (hv : u.vm = U.vm) (h : gG N u H) : gG N U H := by
  obtain ⟨h1, ⟨a2, h2⟩, ⟨a3, h3⟩, ⟨a4, h4⟩, h5, h6⟩ := h
  exact ⟨fun w hw => va_Nw.same (gNw_tab w hw) hv (h1 w hw), ⟨a2, h2.same hv.symm⟩, ⟨a3, h3.same hv.symm⟩, ⟨a4, h4.same hv.symm⟩, vx_Zq.moved (by rw [hv]; exact Vm.Alike.refl _) h5, vx_Zq.moved (by rw [hv]; exact Vm.Alike.refl _) h6⟩
theorem gG.kept {N : Nat} {s : State} {A : Nat → Prop} {H0 H : Heap} {locs : List Loc} (h : gG N s H0) (hS : va_S A H0 H locs) (hAN : ∀ q, A q → N ≤ q) : gG N s H := by
  obtain ⟨h1, h2, h3, h4, h5, h6⟩ := h
  have hq : ∀ a : Nat, a < H0.size → ¬ aN N a → H[a]? = H0[a]? := fun a ha hn => hS.2.1 a ha (fun z => hn (hAN a z))
  exact ⟨h1, h2, h3, h4, vx_Zq.kept h5 hq, vx_Zq.kept h6 hq⟩
/-- the world at the start of a method that throws or writes -/
noncomputable def xM (D : va_G) (cl : List vw_C) (ws : va_W) (tys : List (ClassId × FieldType)) (sz N : Nat) (U : State) : Prop := U.heap.size = sz ∧ va_P D cl ws U.heap ∧ va_K D cl tys U ∧ va_D (aN N) ws ∧ N ≤ sz ∧ gG N U U.heap
theorem xM.blind {D : va_G} {cl : List vw_C} {ws : va_W} {tys : List (ClassId × FieldType)} {sz N : Nat} {av : List Value} : FrameBlind (va_Pc av (xM D cl ws tys sz N)) := by
  intro a U g mk q
  obtain ⟨q0, q1, qP, qK, qD, qN, qG⟩ := q
  exact ⟨q0, q1, qP, va_K.moved (u := U) (U := U.calling g mk a) (Vm.Alike.refl U.vm) qK, qD, qN, gG.same (u := U) (U := U.calling g mk a) rfl qG⟩
theorem xM.preV {D : va_G} {cl : List vw_C} {ws : va_W} {tys : List (ClassId × FieldType)} {s : State} {H : Heap} {A : Nat → Prop} {a q0 ci N n : Nat} {C : String} {T : u_T} {fs As : List Value} (hK : va_K D cl tys s) (hP : va_P D cl ws H) (hD : va_D A ws) (hAN : ∀ q, A q → N ≤ q) (hN : N ≤ H.size) (hG : gG N s H) (hc : cl[ci]? = some (C, T, n)) (he : ws[q0]? = some (a, .inr (ci, fs))) : PreV s H C a (va_Pc (Value.ref a :: As) (xM D cl ws tys H.size N)) As :=
  ⟨xM.blind, va_recv hK hP hc he, fun U hU hW => ⟨rfl, by rw [hU], by rw [hU]; exact hP, va_K.moved hW.alike hK, hD.weaken (fun _ _ _ h => hAN _ h), hN, hG.at hW hU⟩⟩
theorem xM.preS {D : va_G} {cl : List vw_C} {ws : va_W} {tys : List (ClassId × FieldType)} {s : State} {H : Heap} {A : Nat → Prop} {N : Nat} {As : List Value} (hK : va_K D cl tys s) (hP : va_P D cl ws H) (hD : va_D A ws) (hAN : ∀ q, A q → N ≤ q) (hN : N ≤ H.size) (hG : gG N s H) : PreS s H (va_Pc As (xM D cl ws tys H.size N)) As :=
  ⟨xM.blind, fun U hU hW => ⟨rfl, by rw [hU], by rw [hU]; exact hP, va_K.moved hW.alike hK, hD.weaken (fun _ _ _ h => hAN _ h), hN, hG.at hW hU⟩⟩
/-- the world behind a method that writes -/
noncomputable def xW (D : va_G) (cl : List vw_C) (ws : va_W) (A : Nat → Prop) (t : State) : Prop := va_P D cl ws t.heap ∧ va_D A ws
noncomputable def xE (k : Int32) : String := if k = 1 then "java/lang/IndexOutOfBoundsException" else "java/lang/IllegalArgumentException"
theorem xA_N {N : Nat} {ws : va_W} {sz : Nat} (hD : va_D (aN N) ws) (hN : N ≤ sz) : ∀ q, va_A ws sz q → N ≤ q := by
  intro q h
  rcases h with ⟨k, e, hk⟩ | h
  · exact hD.2 k (q, e) hk
  · exact Nat.le_trans hN h
theorem xP_nil {D : va_G} {cl : List vw_C} {H : Heap} : va_P D cl [] H := fun k q h => by simp at h
theorem xD_nil {A : Nat → Prop} : va_D A [] := ⟨fun i j p q h => by simp at h, fun k q h => by simp at h⟩
theorem tst2 : (vx_atS RX2 152 "java/lang/IndexOutOfBoundsException" ["java/lang/RuntimeException", "java/lang/Exception"]).filter (fun w => !goodWord w) = [.declares (Bundle.initS "java/lang/RuntimeException"), .declares (Bundle.initS "java/lang/Exception"), .declares (Bundle.initS "java/lang/Throwable"), .castable "java/lang/IndexOutOfBoundsException" "java/lang/IndexOutOfBoundsException"] := by decide +kernel

noncomputable def dz_ok (c : ByteArray) (L : List (Nat × Instr × Nat)) : Bool := L.all fun x => decide (decode c x.1 = .ok x.2)
theorem dz_at {c : ByteArray} {L : List (Nat × Instr × Nat)} {i n : Nat} {a : Instr × Nat} (h : dz_ok c L = true) (e : L[i]? = some (n, a)) : decode c n = .ok a := by
  have h0 : L.all (fun x => decide (decode c x.1 = .ok x.2)) = true := h
  have h1 := List.all_eq_true.mp h0 (n, a) (List.mem_of_getElem? e)
  dsimp only at h1
  exact of_decide_eq_true h1
