/-! THE CLAIM OUT OF ONE WALK OF THE LAW'S BODY. Your part is whole_start (and what it stands on); all else here is the same for every law, but numbers. -/
noncomputable def R_law : String := "EdgefloatsLaw"
noncomputable def lw_P (b : Addr) (xs : List Int32) (args : Array Value) (s : State) : Prop := args = #[.ref b] ∧ s.IntsAt b xs ∧ xs.length ≤ 2048 ∧ (Jvm.Cond.and given_1 narrow_1).before args s = true
noncomputable def lw_Q (_ : Array Value) (s : State) (o : Outcome) (t : State) : Prop := o = .returned (some (.int 1)) ∧ Framed s o t [] 716141 6947682
noncomputable def lw_Z (below : List Frame) (a : Array Value) (s : State) : State → Prop := fun t => ∃ o, t.status = .running ∧ Ended t below o ∧ lw_Q a s o t
/-- the law's own end, with 1 on the stack, nothing written that was there before, its room as the claim has it -/
theorem lw_ret {p : Program} {l : Launch} {e : Env} {s : State} {m : MethodId} {below : List Frame} {meth : Method} {c : Code} {b : Nat} (hx : p.tables.exec = Jvm.exec) (hb : c.code = code) (hr : meth.sig.returnType = ret) (hlocks : meth.locks = false) {pc : Nat} {H : Heap} {ls : Array Slot} (hdg : decode code pc = .ok (.ireturn, 1)) : W p l e room_1 s m #[Value.ref b] below meth c H [] 716141 6947682 (lw_Z below #[Value.ref b] s) (F0 m pc ls [.int 1]) := by
  intro T hT X
  obtain ⟨fs, hret, hrun, hended, hW, hframe⟩ := X.leave (v := some (.int 1)) (hlocks := hlocks) (fun h => by rw [hr] at h; cases h)
  have hmeth' : T.vm.method? m = some meth := X.method'
  refine ⟨T.setFrames fs, ?_, .returned (some (.int 1)), hrun, hended, rfl, ⟨_, rfl⟩, hW, hframe⟩
  jvm_step X.here [X.here.top, hx, hb, hdg, hmeth', hr, ret, narrow_b1]
  (try refine ⟨rfl, ?_⟩); (try refine ⟨rfl, ?_⟩)
  first | (intro acts; rw [hret _ acts rfl rfl rfl]) | rw [hret _ _ rfl rfl rfl]
  exact Steps.refl _
/-- what holds at the law's entry: the machine, the code, the tables' words (any of lw_tbl by 'hts w (by decide +kernel)'), the script of L ints xs at the cell b, what the Statement gives of the start (any of its parts by flat_of_before) -/
noncomputable def lw_At (p : Program) (s : State) (m : MethodId) (meth : Method) (c : Code) (b L : Nat) (xs : Nat → Int32) : Prop :=
  p.tables.exec = Jvm.exec ∧ c.code = code ∧ meth.sig.returnType = ret ∧ c.maxLocals = 7 ∧ s.vm.findClass R_law = some m.cls ∧ (∀ w ∈ lw_tbl, w.before #[Value.ref b] s = true) ∧ va_X b L xs s s.heap ∧ b < s.heap.size ∧ meth.locks = false ∧ (Jvm.Cond.and given_1 narrow_1).before #[Value.ref b] s = true
/-! the law: what holds at each of its states -/
theorem nI_p2 (n : Nat) : nI n + 2 = nI (n + 2) := nI_add n 2
theorem nI_p3 (n : Nat) : nI n + 3 = nI (n + 3) := nI_add n 3
theorem nI_p4 (n : Nat) : nI n + 4 = nI (n + 4) := nI_add n 4
section XSL
variable {p : Program} {l : Launch} {e : Env} {R : Room} {s : State} {m : MethodId} {args : Array Value} {below : List Frame} {meth : Method} {c : Code} {H : Heap} {locs : List Loc} {cells slots : Nat} {Q : State → Prop}
variable {pc : Nat} {ls : Array Slot} {rest : List Value} {cc : ByteArray} {H0 : Heap} {A : Nat → Prop}
theorem xa_sld (hexec : p.tables.exec = Jvm.exec) (hb : c.code = cc) {b L : Nat} {xs : Nat → Int32} (hX : va_X b L xs s H0) (hbl : b < H0.size) (hbA : ¬ A b) (hS : va_S A H0 H locs) {k : Nat} (hk : k < L) (hL : L ≤ 2048) {v : Int32} (hv : xs k = v) (hdg : decode cc pc = .ok (.iaload, 1))
    (kk : W p l e R s m args below meth c H locs cells slots Q (F0 m (pc + 1) ls (.int v :: rest))) : W p l e R s m args below meth c H locs cells slots Q (F0 m pc ls (.int (nI k) :: .ref b :: rest)) := by
  subst hv
  refine va_sld hexec hb hX hbl hbA hS (vp_in_nI hk (by omega)) hdg ?_
  rw [nI_clamp (by omega)]
  exact kk
end XSL
noncomputable def lw_C (l : Launch) (p : Program) (e : Env) (s : State) (m : MethodId) (below : List Frame) (meth : Method) (c : Code) (b L N : Nat) (xs : Nat → Int32) (A : Nat → Prop) (dC : Nat → ClassId) (dI : Nat → Nat → Nat) (cy cB : ClassId) : Prop := l.flags = flags0 ∧ p.tables.exec = Jvm.exec ∧ c.code = cL_law ∧ meth.sig.returnType = ret ∧ c.maxLocals = 7 ∧ s.vm.findClass RL = some m.cls ∧ (∀ w ∈ wsL_law, w.before #[Value.ref b] s = true) ∧ va_X b L xs s s.heap ∧ b < s.heap.size ∧ ¬ A b ∧ meth.locks = false ∧ va_K (dC, dI) xCl [(cy, .long), (cB, .byte)] s ∧ gG N s s.heap ∧ va_Nc "java/lang/IllegalArgumentException" "java/lang/IndexOutOfBoundsException" s ∧ (∀ q, s.heap.size ≤ q → A q) ∧ (∀ q, A q → N ≤ q) ∧ N ≤ s.heap.size ∧ L ≤ 2048 ∧ gT N s s.heap ∧ s.heap.size ≤ N
noncomputable def lw_K (l : Launch) (p : Program) (e : Env) (s : State) (m : MethodId) (below : List Frame) (meth : Method) (c : Code) (b L N : Nat) (xs : Nat → Int32) (A : Nat → Prop) (dC : Nat → ClassId) (dI : Nat → Nat → Nat) (cy cB : ClassId) (h0 h1 hw1 hc1 hb1 h2 hw2 hc2 hb2 ho m0 m1 mc1 m2 mc2 : Nat) (i cells slots pcX : Nat) : Prop := ∀ (a1 : Int32) (r1 : Int32) (f1 : Nat → Int64) (g1 : Nat → Int64) (a2 : Int32) (r2 : Int32) (f2 : Nat → Int64) (g2 : Nat → Int64) (kn : Int32) (nv : Int64) (sv : Value) (th : Int32) (b1 : Int32) (e1 : Nat → Int64) (b2 : Int32) (e2 : Nat → Int64) (rf : Int32) (kn2 : Int32) (H : Heap) (locs : List Loc) (ls : Array Slot), b1 = a1 → e1 = f1 → b2 = a2 → e2 = f2 → rf = r1 + r2 → kn2 = kn → okA true f1 → okA false f2 → va_P (dC, dI) xCl [(h0, eE h1 h2 kn), (h1, eR hw1 hc1 hb1 a1 r1), (hw1, eW true), (hc1, eA cy f1), (hb1, eA cy g1), (h2, eR hw2 hc2 hb2 a2 r2), (hw2, eW false), (hc2, eA cy f2), (hb2, eA cy g2), (ho, eO nv sv), (m0, eM m1 m2 th rf kn2), (m1, eMR true mc1 b1), (mc1, eA cy e1), (m2, eMR false mc2 b2), (mc2, eA cy e2)] H → va_D A [(h0, eE h1 h2 kn), (h1, eR hw1 hc1 hb1 a1 r1), (hw1, eW true), (hc1, eA cy f1), (hb1, eA cy g1), (h2, eR hw2 hc2 hb2 a2 r2), (hw2, eW false), (hc2, eA cy f2), (hb2, eA cy g2), (ho, eO nv sv), (m0, eM m1 m2 th rf kn2), (m1, eMR true mc1 b1), (mc1, eA cy e1), (m2, eMR false mc2 b2), (mc2, eA cy e2)] → va_S A s.heap H locs → lv_has ls 7 [(0, .ref b), (1, .ref h0), (2, .ref m0), (3, .ref ho), (4, .int (nI i))] → W p l e room_1 s m #[Value.ref b] below meth c H locs cells slots (lw_Z below #[Value.ref b] s) (F0 m pcX ls [])
set_option maxHeartbeats 4000000 in
set_option maxRecDepth 100000 in
theorem st_0 (l : Launch) (p : Program) (e : Env) (s : State) (m : MethodId) (below : List Frame) (meth : Method) (c : Code) (b L N : Nat) (xs : Nat → Int32) (A : Nat → Prop) (dC : Nat → ClassId) (dI : Nat → Nat → Nat) (cy cB : ClassId) (h0 h1 hw1 hc1 hb1 h2 hw2 hc2 hb2 ho m0 m1 mc1 m2 mc2 : Nat) (C0 : lw_C l p e s m below meth c b L N xs A dC dI cy cB) (i : Nat) (hi : i + 4 ≤ L) (p1 p2 p3 : Int32) (hp1 : xs (i + 1) = p1) (hp2 : xs (i + 2) = p2) (hp3 : xs (i + 3) = p3) (cells slots : Nat) (hcs : cells + 760 ≤ 716141) (hss : slots + 4500 ≤ 6947682) (K : lw_K l p e s m below meth c b L N xs A dC dI cy cB h0 h1 hw1 hc1 hb1 h2 hw2 hc2 hb2 ho m0 m1 mc1 m2 mc2 i (cells + 760) (slots + 4500) 3660) (a1 : Int32) (r1 : Int32) (f1 : Nat → Int64) (g1 : Nat → Int64) (a2 : Int32) (r2 : Int32) (f2 : Nat → Int64) (g2 : Nat → Int64) (kn : Int32) (nv : Int64) (sv : Value) (th : Int32) (H : Heap) (locs : List Loc) (ls : Array Slot) (hka1 : okA true f1) (hka2 : okA false f2) (hP : va_P (dC, dI) xCl [(h0, eE h1 h2 kn), (h1, eR hw1 hc1 hb1 a1 r1), (hw1, eW true), (hc1, eA cy f1), (hb1, eA cy g1), (h2, eR hw2 hc2 hb2 a2 r2), (hw2, eW false), (hc2, eA cy f2), (hb2, eA cy g2), (ho, eO nv sv), (m0, eM m1 m2 th (r1 + r2) kn), (m1, eMR true mc1 a1), (mc1, eA cy f1), (m2, eMR false mc2 a2), (mc2, eA cy f2)] H) (hD : va_D A [(h0, eE h1 h2 kn), (h1, eR hw1 hc1 hb1 a1 r1), (hw1, eW true), (hc1, eA cy f1), (hb1, eA cy g1), (h2, eR hw2 hc2 hb2 a2 r2), (hw2, eW false), (hc2, eA cy f2), (hb2, eA cy g2), (ho, eO nv sv), (m0, eM m1 m2 th (r1 + r2) kn), (m1, eMR true mc1 a1), (mc1, eA cy f1), (m2, eMR false mc2 a2), (mc2, eA cy f2)]) (hS : va_S A s.heap H locs) (hl : lv_has ls 7 [(0, .ref b), (1, .ref h0), (2, .ref m0), (3, .ref ho), (4, .int (nI i))]) : W p l e room_1 s m #[Value.ref b] below meth c H locs cells slots (lw_Z below #[Value.ref b] s) (F0 m 252 ls []) := by
  obtain ⟨hfl, hx, hb, hr, hml, hown, hts, hX, hbl, hbA, hlocks, hK, hG, hnc, hA, hAN, hN, hL, hT, hNs⟩ := id C0
  have hok2 := me_okF hka2
  have hsp1 : ∀ k, k < 8 → o_X1_isSpoiled true (f1 k) = false := fun k hk => (hka1 k hk).2
  have hsp2 : ∀ k, k < 8 → o_X1_isSpoiled false (f2 k) = false := fun k hk => (hka2 k hk).2
  have qx_putWide : (o_L_putWide a1 r1 f1 nv p1 p2 p3).1 = (o_X5_putWide a1 f1 (r1 + r2) p1 p2 p3).2.2.2.1 := by have hm := ml_putWide a1 r1 r2 nv p1 p2 p3 hka1; exact hm.1
  have qn_putWide : (o_L_putWide a1 r1 f1 nv p1 p2 p3).2.2.2.2 = if (o_X5_putWide a1 f1 (r1 + r2) p1 p2 p3).2.2.2.1 = 0 then ((o_X5_putWide a1 f1 (r1 + r2) p1 p2 p3).1).toInt64 else nv := by have hm := ml_putWide a1 r1 r2 nv p1 p2 p3 hka1; exact hm.2.2.2.2.1
  refine lv_aload_n hx hb dL_law_252 rfl (lv_at hl 1 rfl) ?_
  refine lv_aload_n hx hb dL_law_253 rfl (lv_at hl 0 rfl) ?_
  refine lv_iload hx hb dL_law_254 (lv_at hl 4 rfl) ?_
  refine lv_iconst (v := 1) hx hb dL_law_256 (by decide +kernel) ?_
  refine lv_iadd hx hb dL_law_257 ?_
  rw [nI_1 i]
  refine xa_sld hx hb hX hbl hbA hS (k := i + 1) (by omega) hL hp1 dL_law_258 ?_
  refine lv_aload_n hx hb dL_law_259 rfl (lv_at hl 0 rfl) ?_
  refine lv_iload hx hb dL_law_260 (lv_at hl 4 rfl) ?_
  refine lv_iconst (v := 2) hx hb dL_law_262 (by decide +kernel) ?_
  refine lv_iadd hx hb dL_law_263 ?_
  rw [nI_p2 i]
  refine xa_sld hx hb hX hbl hbA hS (k := i + 2) (by omega) hL hp2 dL_law_264 ?_
  refine lv_aload_n hx hb dL_law_265 rfl (lv_at hl 0 rfl) ?_
  refine lv_iload hx hb dL_law_266 (lv_at hl 4 rfl) ?_
  refine lv_iconst (v := 3) hx hb dL_law_268 (by decide +kernel) ?_
  refine lv_iadd hx hb dL_law_269 ?_
  rw [nI_p3 i]
  refine xa_sld hx hb hX hbl hbA hS (k := i + 3) (by omega) hL hp3 dL_law_270 ?_
  refine lv_aload_n hx hb dL_law_271 rfl (lv_at hl 3 rfl) ?_
  have hPc := hP.sub (ws' := [(h0, eE h1 h2 kn), (h1, eR hw1 hc1 hb1 a1 r1), (hw1, eW true), (hc1, eA cy f1), (hb1, eA cy g1), (h2, eR hw2 hc2 hb2 a2 r2), (hw2, eW false), (hc2, eA cy f2), (hb2, eA cy g2), (ho, eO nv sv)]) [0, 1, 2, 3, 4, 5, 6, 7, 8, 9] rfl
  have hDc := hD.sub (ws' := [(h0, eE h1 h2 kn), (h1, eR hw1 hc1 hb1 a1 r1), (hw1, eW true), (hc1, eA cy f1), (hb1, eA cy g1), (h2, eR hw2 hc2 hb2 a2 r2), (hw2, eW false), (hc2, eA cy f2), (hb2, eA cy g2), (ho, eO nv sv)]) [0, 1, 2, 3, 4, 5, 6, 7, 8, 9] (by decide +kernel) rfl
  have hKc := hK.sub (tys' := [(cy, .long)]) [0] rfl
  have hFc := va_free (wc := [(h0, eE h1 h2 kn), (h1, eR hw1 hc1 hb1 a1 r1), (hw1, eW true), (hc1, eA cy f1), (hb1, eA cy g1), (h2, eR hw2 hc2 hb2 a2 r2), (hw2, eW false), (hc2, eA cy f2), (hb2, eA cy g2), (ho, eO nv sv)]) hD hS hA [0, 1, 2, 3, 4, 5, 6, 7, 8, 9] rfl
  refine va_calli (vx_runSW (As := [.ref h0, .int p1, .int p2, .int p3, .ref ho]) (rest := []) ⟨hx, hb, hml, hown, hts⟩ (k_L_putWide l hfl dC dI cy h0 h1 hw1 hc1 hb1 h2 hw2 hc2 hb2 a1 r1 f1 g1 a2 r2 f2 g2 kn ho nv sv H.size N p1 p2 p3) (vx_cwSW 5 hts gL_law_L_putWide rfl rfl rfl (by decide +kernel) ⟨Nat.le_of_ble_eq_true rfl, Nat.le_of_ble_eq_true rfl⟩) (xL.preS hKc hPc hDc hAN (Nat.le_trans hN hS.1) (hG.kept hS hAN) hnc) rfl rfl hl.1 rfl (lv_room (Nat.le_of_ble_eq_true rfl)) dL_law_272 ⟨(show _ ≤ 716141 by omega), (show _ ≤ 6947682 by omega)⟩) hS (fun q _ h => hFc q h) hFc (fun r_1 u t H locs ht hvm hw hB hz hk hS => ?_)
  replace hw : r_1 = (o_L_putWide a1 r1 f1 nv p1 p2 p3).1 := hw
  subst r_1
  obtain ⟨hP1, hD1⟩ := hB
  rw [ht] at hP1
  obtain ⟨hP, hD⟩ := va_join (wr := [(m0, eM m1 m2 th (r1 + r2) kn), (m1, eMR true mc1 a1), (mc1, eA cy f1), (m2, eMR false mc2 a2), (mc2, eA cy f2)]) (w1 := [(h0, eE h1 h2 kn), (h1, eR hw1 hc1 hb1 (o_L_putWide a1 r1 f1 nv p1 p2 p3).2.1 (o_L_putWide a1 r1 f1 nv p1 p2 p3).2.2.1), (hw1, eW true), (hc1, eA cy (o_L_putWide a1 r1 f1 nv p1 p2 p3).2.2.2.1), (hb1, eA cy g1), (h2, eR hw2 hc2 hb2 a2 r2), (hw2, eW false), (hc2, eA cy f2), (hb2, eA cy g2), (ho, eO (o_L_putWide a1 r1 f1 nv p1 p2 p3).2.2.2.2 sv)]) hP hD [0, 1, 2, 3, 4, 5, 6, 7, 8, 9] [10, 11, 12, 13, 14] rfl rfl (by decide +kernel) (by decide +kernel) hk hFc hP1 hD1
  have hP := hP.sub (ws' := [(h0, eE h1 h2 kn), (h1, eR hw1 hc1 hb1 (o_L_putWide a1 r1 f1 nv p1 p2 p3).2.1 (o_L_putWide a1 r1 f1 nv p1 p2 p3).2.2.1), (hw1, eW true), (hc1, eA cy (o_L_putWide a1 r1 f1 nv p1 p2 p3).2.2.2.1), (hb1, eA cy g1), (h2, eR hw2 hc2 hb2 a2 r2), (hw2, eW false), (hc2, eA cy f2), (hb2, eA cy g2), (ho, eO (o_L_putWide a1 r1 f1 nv p1 p2 p3).2.2.2.2 sv), (m0, eM m1 m2 th (r1 + r2) kn), (m1, eMR true mc1 a1), (mc1, eA cy f1), (m2, eMR false mc2 a2), (mc2, eA cy f2)]) [5, 6, 7, 8, 9, 10, 11, 12, 13, 14, 0, 1, 2, 3, 4] rfl
  have hD := hD.sub (ws' := [(h0, eE h1 h2 kn), (h1, eR hw1 hc1 hb1 (o_L_putWide a1 r1 f1 nv p1 p2 p3).2.1 (o_L_putWide a1 r1 f1 nv p1 p2 p3).2.2.1), (hw1, eW true), (hc1, eA cy (o_L_putWide a1 r1 f1 nv p1 p2 p3).2.2.2.1), (hb1, eA cy g1), (h2, eR hw2 hc2 hb2 a2 r2), (hw2, eW false), (hc2, eA cy f2), (hb2, eA cy g2), (ho, eO (o_L_putWide a1 r1 f1 nv p1 p2 p3).2.2.2.2 sv), (m0, eM m1 m2 th (r1 + r2) kn), (m1, eMR true mc1 a1), (mc1, eA cy f1), (m2, eMR false mc2 a2), (mc2, eA cy f2)]) [5, 6, 7, 8, 9, 10, 11, 12, 13, 14, 0, 1, 2, 3, 4] (by decide +kernel) rfl
  refine lv_istore (lv' := [(5, .int ((o_L_putWide a1 r1 f1 nv p1 p2 p3).1)), (0, .ref b), (1, .ref h0), (2, .ref m0), (3, .ref ho), (4, .int (nI i))]) hx hb dL_law_275 hl (by decide +kernel) rfl (fun ls hl => ?_)
  refine lv_aload_n hx hb dL_law_277 rfl (lv_at hl 3 rfl) ?_
  refine lv_aload_n hx hb dL_law_278 rfl (lv_at hl 1 rfl) ?_
  refine lv_iload hx hb dL_law_279 (lv_at hl 5 rfl) ?_
  refine lv_iconst (v := 1) hx hb dL_law_281 (by decide +kernel) ?_
  refine lv_iadd hx hb dL_law_282 ?_
  rw [nI_1 i]
  refine xa_sld hx hb hX hbl hbA hS (k := i + 1) (by omega) hL hp1 dL_law_283 ?_
  refine lv_aload_n hx hb dL_law_284 rfl (lv_at hl 1 rfl) ?_
  refine lv_iload hx hb dL_law_285 (lv_at hl 5 rfl) ?_
  refine lv_iconst (v := 2) hx hb dL_law_287 (by decide +kernel) ?_
  refine lv_iadd hx hb dL_law_288 ?_
  rw [nI_p2 i]
  refine xa_sld hx hb hX hbl hbA hS (k := i + 2) (by omega) hL hp2 dL_law_289 ?_
  refine lv_aload_n hx hb dL_law_290 rfl (lv_at hl 1 rfl) ?_
  refine lv_iload hx hb dL_law_291 (lv_at hl 5 rfl) ?_
  refine lv_iconst (v := 3) hx hb dL_law_293 (by decide +kernel) ?_
  refine lv_iadd hx hb dL_law_294 ?_
  rw [nI_p3 i]
  refine xa_sld hx hb hX hbl hbA hS (k := i + 3) (by omega) hL hp3 dL_law_295 ?_
  have hPc := hP.sub (ws' := [(m0, eM m1 m2 th (r1 + r2) kn), (m1, eMR true mc1 a1), (mc1, eA cy f1), (m2, eMR false mc2 a2), (mc2, eA cy f2)]) [10, 11, 12, 13, 14] rfl
  have hDc := hD.sub (ws' := [(m0, eM m1 m2 th (r1 + r2) kn), (m1, eMR true mc1 a1), (mc1, eA cy f1), (m2, eMR false mc2 a2), (mc2, eA cy f2)]) [10, 11, 12, 13, 14] (by decide +kernel) rfl
  have hKc := hK.sub (tys' := [(cy, .long)]) [0] rfl
  have hFc := va_free (wc := [(m0, eM m1 m2 th (r1 + r2) kn), (m1, eMR true mc1 a1), (mc1, eA cy f1), (m2, eMR false mc2 a2), (mc2, eA cy f2)]) hD hS hA [10, 11, 12, 13, 14] rfl
  refine va_calli (va_runV (As := [.int p1, .int p2, .int p3]) (rest := []) ⟨hx, hb, hml, hown, hts⟩ (k_X5_putWide l dC dI cy m0 m1 mc1 m2 mc2 a1 f1 a2 f2 th (r1 + r2) kn H.size N p1 p2 p3) (cwV 3 hts gL_law_X5_putWide rfl rfl rfl (by decide +kernel) ⟨Nat.le_of_ble_eq_true rfl, Nat.le_of_ble_eq_true rfl⟩) (xM.preV hKc hPc hDc hAN (Nat.le_trans hN hS.1) (hG.kept hS hAN) (ci := 7) (q0 := 0) rfl rfl) rfl rfl hl.1 rfl (lv_room (Nat.le_of_ble_eq_true rfl)) dL_law_296 ⟨(show _ ≤ 716141 by omega), (show _ ≤ 6947682 by omega)⟩) hS (fun q _ h => hFc q h) hFc (fun r_2 u t H locs ht hvm hw hB hz hk hS => ?_)
  replace hw : r_2 = (o_X5_putWide a1 f1 (r1 + r2) p1 p2 p3).1 := hw
  subst r_2
  obtain ⟨hP1, hD1⟩ := hB
  rw [ht] at hP1
  obtain ⟨hP, hD⟩ := va_join (wr := [(h0, eE h1 h2 kn), (h1, eR hw1 hc1 hb1 (o_L_putWide a1 r1 f1 nv p1 p2 p3).2.1 (o_L_putWide a1 r1 f1 nv p1 p2 p3).2.2.1), (hw1, eW true), (hc1, eA cy (o_L_putWide a1 r1 f1 nv p1 p2 p3).2.2.2.1), (hb1, eA cy g1), (h2, eR hw2 hc2 hb2 a2 r2), (hw2, eW false), (hc2, eA cy f2), (hb2, eA cy g2), (ho, eO (o_L_putWide a1 r1 f1 nv p1 p2 p3).2.2.2.2 sv)]) (w1 := [(m0, eM m1 m2 (o_X5_putWide a1 f1 (r1 + r2) p1 p2 p3).2.2.2.1 (o_X5_putWide a1 f1 (r1 + r2) p1 p2 p3).2.2.2.2 kn), (m1, eMR true mc1 (o_X5_putWide a1 f1 (r1 + r2) p1 p2 p3).2.1), (mc1, eA cy (o_X5_putWide a1 f1 (r1 + r2) p1 p2 p3).2.2.1), (m2, eMR false mc2 a2), (mc2, eA cy f2)]) hP hD [10, 11, 12, 13, 14] [0, 1, 2, 3, 4, 5, 6, 7, 8, 9] rfl rfl (by decide +kernel) (by decide +kernel) hk hFc hP1 hD1
  have hP := hP.sub (ws' := [(h0, eE h1 h2 kn), (h1, eR hw1 hc1 hb1 (o_L_putWide a1 r1 f1 nv p1 p2 p3).2.1 (o_L_putWide a1 r1 f1 nv p1 p2 p3).2.2.1), (hw1, eW true), (hc1, eA cy (o_L_putWide a1 r1 f1 nv p1 p2 p3).2.2.2.1), (hb1, eA cy g1), (h2, eR hw2 hc2 hb2 a2 r2), (hw2, eW false), (hc2, eA cy f2), (hb2, eA cy g2), (ho, eO (o_L_putWide a1 r1 f1 nv p1 p2 p3).2.2.2.2 sv), (m0, eM m1 m2 (o_X5_putWide a1 f1 (r1 + r2) p1 p2 p3).2.2.2.1 (o_X5_putWide a1 f1 (r1 + r2) p1 p2 p3).2.2.2.2 kn), (m1, eMR true mc1 (o_X5_putWide a1 f1 (r1 + r2) p1 p2 p3).2.1), (mc1, eA cy (o_X5_putWide a1 f1 (r1 + r2) p1 p2 p3).2.2.1), (m2, eMR false mc2 a2), (mc2, eA cy f2)]) [0, 1, 2, 3, 4, 5, 6, 7, 8, 9, 10, 11, 12, 13, 14] rfl
  have hD := hD.sub (ws' := [(h0, eE h1 h2 kn), (h1, eR hw1 hc1 hb1 (o_L_putWide a1 r1 f1 nv p1 p2 p3).2.1 (o_L_putWide a1 r1 f1 nv p1 p2 p3).2.2.1), (hw1, eW true), (hc1, eA cy (o_L_putWide a1 r1 f1 nv p1 p2 p3).2.2.2.1), (hb1, eA cy g1), (h2, eR hw2 hc2 hb2 a2 r2), (hw2, eW false), (hc2, eA cy f2), (hb2, eA cy g2), (ho, eO (o_L_putWide a1 r1 f1 nv p1 p2 p3).2.2.2.2 sv), (m0, eM m1 m2 (o_X5_putWide a1 f1 (r1 + r2) p1 p2 p3).2.2.2.1 (o_X5_putWide a1 f1 (r1 + r2) p1 p2 p3).2.2.2.2 kn), (m1, eMR true mc1 (o_X5_putWide a1 f1 (r1 + r2) p1 p2 p3).2.1), (mc1, eA cy (o_X5_putWide a1 f1 (r1 + r2) p1 p2 p3).2.2.1), (m2, eMR false mc2 a2), (mc2, eA cy f2)]) [0, 1, 2, 3, 4, 5, 6, 7, 8, 9, 10, 11, 12, 13, 14] (by decide +kernel) rfl
  refine lv_istore (lv' := [(6, .int ((o_X5_putWide a1 f1 (r1 + r2) p1 p2 p3).1)), (5, .int ((o_L_putWide a1 r1 f1 nv p1 p2 p3).1)), (0, .ref b), (1, .ref h0), (2, .ref m0), (3, .ref ho), (4, .int (nI i))]) hx hb dL_law_299 hl (by decide +kernel) rfl (fun ls hl => ?_)
  refine lv_aload_n hx hb dL_law_301 rfl (lv_at hl 4 rfl) ?_
  have hPc := hP.sub (ws' := [(m0, eM m1 m2 (o_X5_putWide a1 f1 (r1 + r2) p1 p2 p3).2.2.2.1 (o_X5_putWide a1 f1 (r1 + r2) p1 p2 p3).2.2.2.2 kn)]) [10] rfl
  have hKc := hK.sub (tys' := []) [] rfl
  refine va_calli (va_runV (As := []) (rest := []) ⟨hx, hb, hml, hown, hts⟩ (k_X5_thrown l dC dI m0 m1 m2 ((o_X5_putWide a1 f1 (r1 + r2) p1 p2 p3).2.2.2.1) ((o_X5_putWide a1 f1 (r1 + r2) p1 p2 p3).2.2.2.2) kn H.size) (cwV 0 hts gL_law_X5_thrown rfl rfl rfl (by decide +kernel) ⟨Nat.le_of_ble_eq_true rfl, Nat.le_of_ble_eq_true rfl⟩) (xB.preV hKc hPc (ci := 7) (q0 := 0) rfl rfl) rfl rfl hl.1 rfl (lv_room (Nat.le_of_ble_eq_true rfl)) dL_law_302 ⟨(show _ ≤ 716141 by omega), (show _ ≤ 6947682 by omega)⟩) hS xA_old (fun q h => hA q (Nat.le_trans hS.1 h)) (fun r_3 u t H locs ht hvm hw hB hz hk hS => ?_)
  replace hw : r_3 = (o_X5_thrown ((o_X5_putWide a1 f1 (r1 + r2) p1 p2 p3).2.2.2.1)) := hw
  subst r_3
  have hP := xP_keep hP hk
  refine lv_iload hx hb dL_law_305 (lv_at hl 1 rfl) ?_
  refine lv_icmp_eq (tgt := 312) hx hb dL_law_307 (by decide +kernel) (fun c9 => ?_) (fun c9 => absurd (show o_X5_thrown _ = _ from (qx_putWide).symm) c9)
  refine lv_iload hx hb dL_law_312 (lv_at hl 1 rfl) ?_
  refine lv_if_ne (tgt := 330) hx hb dL_law_314 (by decide +kernel) (fun c_4 => ?_) (fun c_4 => ?_)
  · skip
    refine lv_goto (tgt := 3660) hx hb dL_law_330 (by decide +kernel) ?_
    refine W.widen (k := cells + 760) (n := slots + 4500) (by omega) (by omega) ?_
    have qe_b1 : (o_X5_putWide a1 f1 (r1 + r2) p1 p2 p3).2.1 = (o_L_putWide a1 r1 f1 nv p1 p2 p3).2.1 := (by have hm := ml_putWide a1 r1 r2 nv p1 p2 p3 hka1; exact hm.2.1.symm)
    have qe_e1 : (o_X5_putWide a1 f1 (r1 + r2) p1 p2 p3).2.2.1 = (o_L_putWide a1 r1 f1 nv p1 p2 p3).2.2.2.1 := (by have hm := ml_putWide a1 r1 r2 nv p1 p2 p3 hka1; exact hm.2.2.2.1.symm)
    have qe_rf : (o_X5_putWide a1 f1 (r1 + r2) p1 p2 p3).2.2.2.2 = (o_L_putWide a1 r1 f1 nv p1 p2 p3).2.2.1 + r2 := (by have hm := ml_putWide a1 r1 r2 nv p1 p2 p3 hka1; exact hm.2.2.1.symm)
    have qk_1 : okA true ((o_L_putWide a1 r1 f1 nv p1 p2 p3).2.2.2.1) := (by have hm := ml_putWide a1 r1 r2 nv p1 p2 p3 hka1; rw [hm.2.2.2.1]; exact hm.2.2.2.2.2)
    exact K ((o_L_putWide a1 r1 f1 nv p1 p2 p3).2.1) ((o_L_putWide a1 r1 f1 nv p1 p2 p3).2.2.1) ((o_L_putWide a1 r1 f1 nv p1 p2 p3).2.2.2.1) g1 a2 r2 f2 g2 kn ((o_L_putWide a1 r1 f1 nv p1 p2 p3).2.2.2.2) sv ((o_X5_putWide a1 f1 (r1 + r2) p1 p2 p3).2.2.2.1) ((o_X5_putWide a1 f1 (r1 + r2) p1 p2 p3).2.1) ((o_X5_putWide a1 f1 (r1 + r2) p1 p2 p3).2.2.1) a2 f2 ((o_X5_putWide a1 f1 (r1 + r2) p1 p2 p3).2.2.2.2) kn _ _ _ qe_b1 qe_e1 rfl rfl qe_rf rfl qk_1 hka2 hP hD hS (lv_sub hl [2, 3, 4, 5, 6] rfl)
  · skip
    refine lv_aload_n hx hb dL_law_317 rfl (lv_at hl 5 rfl) ?_
    refine va_getN (D := (dC, dI)) (ci := 5) (v := .long ((o_L_putWide a1 r1 f1 nv p1 p2 p3).2.2.2.2)) (C := RX3) (T := TX3) (N := 2) hx hb hts (by decide +kernel) hown hK hP 9 rfl rfl 0 (by decide +kernel) (va_Nw.use rfl (hG.1 (.fieldLinkNest RL 13 "EdgefloatsLaw$Out" "n" "J" RL) (List.mem_of_getElem? (i := 6) rfl))) (fun _ h9 => h9) rfl dL_law_318 ?_
    refine lv_iload hx hb dL_law_321 (lv_at hl 0 rfl) ?_
    refine lv_i2l (v := (((o_X5_putWide a1 f1 (r1 + r2) p1 p2 p3).1).toInt64)) hx hb dL_law_323 rfl ?_
    refine xc_eq (tgt := 330) hx hb dL_law_324 dL_law_325 (by decide +kernel) (fun c9 => ?_) (fun c9 => absurd ((qn_putWide).trans (if_pos ((qx_putWide).symm.trans c_4))) c9)
    refine lv_goto (tgt := 3660) hx hb dL_law_330 (by decide +kernel) ?_
    refine W.widen (k := cells + 760) (n := slots + 4500) (by omega) (by omega) ?_
    have qe_b1 : (o_X5_putWide a1 f1 (r1 + r2) p1 p2 p3).2.1 = (o_L_putWide a1 r1 f1 nv p1 p2 p3).2.1 := (by have hm := ml_putWide a1 r1 r2 nv p1 p2 p3 hka1; exact hm.2.1.symm)
    have qe_e1 : (o_X5_putWide a1 f1 (r1 + r2) p1 p2 p3).2.2.1 = (o_L_putWide a1 r1 f1 nv p1 p2 p3).2.2.2.1 := (by have hm := ml_putWide a1 r1 r2 nv p1 p2 p3 hka1; exact hm.2.2.2.1.symm)
    have qe_rf : (o_X5_putWide a1 f1 (r1 + r2) p1 p2 p3).2.2.2.2 = (o_L_putWide a1 r1 f1 nv p1 p2 p3).2.2.1 + r2 := (by have hm := ml_putWide a1 r1 r2 nv p1 p2 p3 hka1; exact hm.2.2.1.symm)
    have qk_1 : okA true ((o_L_putWide a1 r1 f1 nv p1 p2 p3).2.2.2.1) := (by have hm := ml_putWide a1 r1 r2 nv p1 p2 p3 hka1; rw [hm.2.2.2.1]; exact hm.2.2.2.2.2)
    exact K ((o_L_putWide a1 r1 f1 nv p1 p2 p3).2.1) ((o_L_putWide a1 r1 f1 nv p1 p2 p3).2.2.1) ((o_L_putWide a1 r1 f1 nv p1 p2 p3).2.2.2.1) g1 a2 r2 f2 g2 kn ((o_L_putWide a1 r1 f1 nv p1 p2 p3).2.2.2.2) sv ((o_X5_putWide a1 f1 (r1 + r2) p1 p2 p3).2.2.2.1) ((o_X5_putWide a1 f1 (r1 + r2) p1 p2 p3).2.1) ((o_X5_putWide a1 f1 (r1 + r2) p1 p2 p3).2.2.1) a2 f2 ((o_X5_putWide a1 f1 (r1 + r2) p1 p2 p3).2.2.2.2) kn _ _ _ qe_b1 qe_e1 rfl rfl qe_rf rfl qk_1 hka2 hP hD hS (lv_sub hl [2, 3, 4, 5, 6] rfl)
set_option maxHeartbeats 4000000 in
set_option maxRecDepth 100000 in
theorem st_1 (l : Launch) (p : Program) (e : Env) (s : State) (m : MethodId) (below : List Frame) (meth : Method) (c : Code) (b L N : Nat) (xs : Nat → Int32) (A : Nat → Prop) (dC : Nat → ClassId) (dI : Nat → Nat → Nat) (cy cB : ClassId) (h0 h1 hw1 hc1 hb1 h2 hw2 hc2 hb2 ho m0 m1 mc1 m2 mc2 : Nat) (C0 : lw_C l p e s m below meth c b L N xs A dC dI cy cB) (i : Nat) (hi : i + 4 ≤ L) (p1 p2 p3 : Int32) (hp1 : xs (i + 1) = p1) (hp2 : xs (i + 2) = p2) (hp3 : xs (i + 3) = p3) (cells slots : Nat) (hcs : cells + 760 ≤ 716141) (hss : slots + 4500 ≤ 6947682) (K : lw_K l p e s m below meth c b L N xs A dC dI cy cB h0 h1 hw1 hc1 hb1 h2 hw2 hc2 hb2 ho m0 m1 mc1 m2 mc2 i (cells + 760) (slots + 4500) 3660) (a1 : Int32) (r1 : Int32) (f1 : Nat → Int64) (g1 : Nat → Int64) (a2 : Int32) (r2 : Int32) (f2 : Nat → Int64) (g2 : Nat → Int64) (kn : Int32) (nv : Int64) (sv : Value) (th : Int32) (H : Heap) (locs : List Loc) (ls : Array Slot) (hka1 : okA true f1) (hka2 : okA false f2) (hP : va_P (dC, dI) xCl [(h0, eE h1 h2 kn), (h1, eR hw1 hc1 hb1 a1 r1), (hw1, eW true), (hc1, eA cy f1), (hb1, eA cy g1), (h2, eR hw2 hc2 hb2 a2 r2), (hw2, eW false), (hc2, eA cy f2), (hb2, eA cy g2), (ho, eO nv sv), (m0, eM m1 m2 th (r1 + r2) kn), (m1, eMR true mc1 a1), (mc1, eA cy f1), (m2, eMR false mc2 a2), (mc2, eA cy f2)] H) (hD : va_D A [(h0, eE h1 h2 kn), (h1, eR hw1 hc1 hb1 a1 r1), (hw1, eW true), (hc1, eA cy f1), (hb1, eA cy g1), (h2, eR hw2 hc2 hb2 a2 r2), (hw2, eW false), (hc2, eA cy f2), (hb2, eA cy g2), (ho, eO nv sv), (m0, eM m1 m2 th (r1 + r2) kn), (m1, eMR true mc1 a1), (mc1, eA cy f1), (m2, eMR false mc2 a2), (mc2, eA cy f2)]) (hS : va_S A s.heap H locs) (hl : lv_has ls 7 [(0, .ref b), (1, .ref h0), (2, .ref m0), (3, .ref ho), (4, .int (nI i))]) : W p l e room_1 s m #[Value.ref b] below meth c H locs cells slots (lw_Z below #[Value.ref b] s) (F0 m 333 ls []) := by
  obtain ⟨hfl, hx, hb, hr, hml, hown, hts, hX, hbl, hbA, hlocks, hK, hG, hnc, hA, hAN, hN, hL, hT, hNs⟩ := id C0
  have hok2 := me_okF hka2
  have hsp1 : ∀ k, k < 8 → o_X1_isSpoiled true (f1 k) = false := fun k hk => (hka1 k hk).2
  have hsp2 : ∀ k, k < 8 → o_X1_isSpoiled false (f2 k) = false := fun k hk => (hka2 k hk).2
  have qx_wideQuarters : (o_L_wideQuarters a1 f1 nv p1 p2).1 = (o_X5_wideQuarters a1 f1 p1 p2).2.2.2 := by have hm := ml_wideQuarters a1 nv p1 p2 hka1; rw [hm.1] <;> rfl
  have qn_wideQuarters : (o_L_wideQuarters a1 f1 nv p1 p2).2.2.2 = if (o_X5_wideQuarters a1 f1 p1 p2).2.2.2 = 0 then ((o_X5_wideQuarters a1 f1 p1 p2).1).toInt64 else nv := by have hm := ml_wideQuarters a1 nv p1 p2 hka1; rw [hm.1] <;> rfl
  refine lv_aload_n hx hb dL_law_333 rfl (lv_at hl 1 rfl) ?_
  refine lv_aload_n hx hb dL_law_334 rfl (lv_at hl 0 rfl) ?_
  refine lv_iload hx hb dL_law_335 (lv_at hl 4 rfl) ?_
  refine lv_iconst (v := 1) hx hb dL_law_337 (by decide +kernel) ?_
  refine lv_iadd hx hb dL_law_338 ?_
  rw [nI_1 i]
  refine xa_sld hx hb hX hbl hbA hS (k := i + 1) (by omega) hL hp1 dL_law_339 ?_
  refine lv_aload_n hx hb dL_law_340 rfl (lv_at hl 0 rfl) ?_
  refine lv_iload hx hb dL_law_341 (lv_at hl 4 rfl) ?_
  refine lv_iconst (v := 2) hx hb dL_law_343 (by decide +kernel) ?_
  refine lv_iadd hx hb dL_law_344 ?_
  rw [nI_p2 i]
  refine xa_sld hx hb hX hbl hbA hS (k := i + 2) (by omega) hL hp2 dL_law_345 ?_
  refine lv_aload_n hx hb dL_law_346 rfl (lv_at hl 3 rfl) ?_
  have hPc := hP.sub (ws' := [(h0, eE h1 h2 kn), (h1, eR hw1 hc1 hb1 a1 r1), (hw1, eW true), (hc1, eA cy f1), (hb1, eA cy g1), (h2, eR hw2 hc2 hb2 a2 r2), (hw2, eW false), (hc2, eA cy f2), (hb2, eA cy g2), (ho, eO nv sv)]) [0, 1, 2, 3, 4, 5, 6, 7, 8, 9] rfl
  have hDc := hD.sub (ws' := [(h0, eE h1 h2 kn), (h1, eR hw1 hc1 hb1 a1 r1), (hw1, eW true), (hc1, eA cy f1), (hb1, eA cy g1), (h2, eR hw2 hc2 hb2 a2 r2), (hw2, eW false), (hc2, eA cy f2), (hb2, eA cy g2), (ho, eO nv sv)]) [0, 1, 2, 3, 4, 5, 6, 7, 8, 9] (by decide +kernel) rfl
  have hKc := hK.sub (tys' := [(cy, .long)]) [0] rfl
  have hFc := va_free (wc := [(h0, eE h1 h2 kn), (h1, eR hw1 hc1 hb1 a1 r1), (hw1, eW true), (hc1, eA cy f1), (hb1, eA cy g1), (h2, eR hw2 hc2 hb2 a2 r2), (hw2, eW false), (hc2, eA cy f2), (hb2, eA cy g2), (ho, eO nv sv)]) hD hS hA [0, 1, 2, 3, 4, 5, 6, 7, 8, 9] rfl
  refine va_calli (vx_runSW (As := [.ref h0, .int p1, .int p2, .ref ho]) (rest := []) ⟨hx, hb, hml, hown, hts⟩ (k_L_wideQuarters l hfl dC dI cy h0 h1 hw1 hc1 hb1 h2 hw2 hc2 hb2 a1 r1 f1 g1 a2 r2 f2 g2 kn ho nv sv H.size N p1 p2) (vx_cwSW 4 hts gL_law_L_wideQuarters rfl rfl rfl (by decide +kernel) ⟨Nat.le_of_ble_eq_true rfl, Nat.le_of_ble_eq_true rfl⟩) (xL.preS hKc hPc hDc hAN (Nat.le_trans hN hS.1) (hG.kept hS hAN) hnc) rfl rfl hl.1 rfl (lv_room (Nat.le_of_ble_eq_true rfl)) dL_law_347 ⟨(show _ ≤ 716141 by omega), (show _ ≤ 6947682 by omega)⟩) hS (fun q _ h => hFc q h) hFc (fun r_1 u t H locs ht hvm hw hB hz hk hS => ?_)
  replace hw : r_1 = (o_L_wideQuarters a1 f1 nv p1 p2).1 := hw
  subst r_1
  obtain ⟨hP1, hD1⟩ := hB
  rw [ht] at hP1
  obtain ⟨hP, hD⟩ := va_join (wr := [(m0, eM m1 m2 th (r1 + r2) kn), (m1, eMR true mc1 a1), (mc1, eA cy f1), (m2, eMR false mc2 a2), (mc2, eA cy f2)]) (w1 := [(h0, eE h1 h2 kn), (h1, eR hw1 hc1 hb1 (o_L_wideQuarters a1 f1 nv p1 p2).2.1 r1), (hw1, eW true), (hc1, eA cy (o_L_wideQuarters a1 f1 nv p1 p2).2.2.1), (hb1, eA cy g1), (h2, eR hw2 hc2 hb2 a2 r2), (hw2, eW false), (hc2, eA cy f2), (hb2, eA cy g2), (ho, eO (o_L_wideQuarters a1 f1 nv p1 p2).2.2.2 sv)]) hP hD [0, 1, 2, 3, 4, 5, 6, 7, 8, 9] [10, 11, 12, 13, 14] rfl rfl (by decide +kernel) (by decide +kernel) hk hFc hP1 hD1
  have hP := hP.sub (ws' := [(h0, eE h1 h2 kn), (h1, eR hw1 hc1 hb1 (o_L_wideQuarters a1 f1 nv p1 p2).2.1 r1), (hw1, eW true), (hc1, eA cy (o_L_wideQuarters a1 f1 nv p1 p2).2.2.1), (hb1, eA cy g1), (h2, eR hw2 hc2 hb2 a2 r2), (hw2, eW false), (hc2, eA cy f2), (hb2, eA cy g2), (ho, eO (o_L_wideQuarters a1 f1 nv p1 p2).2.2.2 sv), (m0, eM m1 m2 th (r1 + r2) kn), (m1, eMR true mc1 a1), (mc1, eA cy f1), (m2, eMR false mc2 a2), (mc2, eA cy f2)]) [5, 6, 7, 8, 9, 10, 11, 12, 13, 14, 0, 1, 2, 3, 4] rfl
  have hD := hD.sub (ws' := [(h0, eE h1 h2 kn), (h1, eR hw1 hc1 hb1 (o_L_wideQuarters a1 f1 nv p1 p2).2.1 r1), (hw1, eW true), (hc1, eA cy (o_L_wideQuarters a1 f1 nv p1 p2).2.2.1), (hb1, eA cy g1), (h2, eR hw2 hc2 hb2 a2 r2), (hw2, eW false), (hc2, eA cy f2), (hb2, eA cy g2), (ho, eO (o_L_wideQuarters a1 f1 nv p1 p2).2.2.2 sv), (m0, eM m1 m2 th (r1 + r2) kn), (m1, eMR true mc1 a1), (mc1, eA cy f1), (m2, eMR false mc2 a2), (mc2, eA cy f2)]) [5, 6, 7, 8, 9, 10, 11, 12, 13, 14, 0, 1, 2, 3, 4] (by decide +kernel) rfl
  refine lv_istore (lv' := [(5, .int ((o_L_wideQuarters a1 f1 nv p1 p2).1)), (0, .ref b), (1, .ref h0), (2, .ref m0), (3, .ref ho), (4, .int (nI i))]) hx hb dL_law_350 hl (by decide +kernel) rfl (fun ls hl => ?_)
  refine lv_aload_n hx hb dL_law_352 rfl (lv_at hl 3 rfl) ?_
  refine lv_aload_n hx hb dL_law_353 rfl (lv_at hl 1 rfl) ?_
  refine lv_iload hx hb dL_law_354 (lv_at hl 5 rfl) ?_
  refine lv_iconst (v := 1) hx hb dL_law_356 (by decide +kernel) ?_
  refine lv_iadd hx hb dL_law_357 ?_
  rw [nI_1 i]
  refine xa_sld hx hb hX hbl hbA hS (k := i + 1) (by omega) hL hp1 dL_law_358 ?_
  refine lv_aload_n hx hb dL_law_359 rfl (lv_at hl 1 rfl) ?_
  refine lv_iload hx hb dL_law_360 (lv_at hl 5 rfl) ?_
  refine lv_iconst (v := 2) hx hb dL_law_362 (by decide +kernel) ?_
  refine lv_iadd hx hb dL_law_363 ?_
  rw [nI_p2 i]
  refine xa_sld hx hb hX hbl hbA hS (k := i + 2) (by omega) hL hp2 dL_law_364 ?_
  have hPc := hP.sub (ws' := [(m0, eM m1 m2 th (r1 + r2) kn), (m1, eMR true mc1 a1), (mc1, eA cy f1), (m2, eMR false mc2 a2), (mc2, eA cy f2)]) [10, 11, 12, 13, 14] rfl
  have hDc := hD.sub (ws' := [(m0, eM m1 m2 th (r1 + r2) kn), (m1, eMR true mc1 a1), (mc1, eA cy f1), (m2, eMR false mc2 a2), (mc2, eA cy f2)]) [10, 11, 12, 13, 14] (by decide +kernel) rfl
  have hKc := hK.sub (tys' := [(cy, .long)]) [0] rfl
  have hFc := va_free (wc := [(m0, eM m1 m2 th (r1 + r2) kn), (m1, eMR true mc1 a1), (mc1, eA cy f1), (m2, eMR false mc2 a2), (mc2, eA cy f2)]) hD hS hA [10, 11, 12, 13, 14] rfl
  refine va_calli (va_runV (As := [.int p1, .int p2]) (rest := []) ⟨hx, hb, hml, hown, hts⟩ (k_X5_wideQuarters l dC dI cy m0 m1 mc1 m2 mc2 a1 f1 a2 f2 th (r1 + r2) kn H.size N p1 p2) (cwV 2 hts gL_law_X5_wideQuarters rfl rfl rfl (by decide +kernel) ⟨Nat.le_of_ble_eq_true rfl, Nat.le_of_ble_eq_true rfl⟩) (xM.preV hKc hPc hDc hAN (Nat.le_trans hN hS.1) (hG.kept hS hAN) (ci := 7) (q0 := 0) rfl rfl) rfl rfl hl.1 rfl (lv_room (Nat.le_of_ble_eq_true rfl)) dL_law_365 ⟨(show _ ≤ 716141 by omega), (show _ ≤ 6947682 by omega)⟩) hS (fun q _ h => hFc q h) hFc (fun r_2 u t H locs ht hvm hw hB hz hk hS => ?_)
  replace hw : r_2 = (o_X5_wideQuarters a1 f1 p1 p2).1 := hw
  subst r_2
  obtain ⟨hP1, hD1⟩ := hB
  rw [ht] at hP1
  obtain ⟨hP, hD⟩ := va_join (wr := [(h0, eE h1 h2 kn), (h1, eR hw1 hc1 hb1 (o_L_wideQuarters a1 f1 nv p1 p2).2.1 r1), (hw1, eW true), (hc1, eA cy (o_L_wideQuarters a1 f1 nv p1 p2).2.2.1), (hb1, eA cy g1), (h2, eR hw2 hc2 hb2 a2 r2), (hw2, eW false), (hc2, eA cy f2), (hb2, eA cy g2), (ho, eO (o_L_wideQuarters a1 f1 nv p1 p2).2.2.2 sv)]) (w1 := [(m0, eM m1 m2 (o_X5_wideQuarters a1 f1 p1 p2).2.2.2 (r1 + r2) kn), (m1, eMR true mc1 (o_X5_wideQuarters a1 f1 p1 p2).2.1), (mc1, eA cy (o_X5_wideQuarters a1 f1 p1 p2).2.2.1), (m2, eMR false mc2 a2), (mc2, eA cy f2)]) hP hD [10, 11, 12, 13, 14] [0, 1, 2, 3, 4, 5, 6, 7, 8, 9] rfl rfl (by decide +kernel) (by decide +kernel) hk hFc hP1 hD1
  have hP := hP.sub (ws' := [(h0, eE h1 h2 kn), (h1, eR hw1 hc1 hb1 (o_L_wideQuarters a1 f1 nv p1 p2).2.1 r1), (hw1, eW true), (hc1, eA cy (o_L_wideQuarters a1 f1 nv p1 p2).2.2.1), (hb1, eA cy g1), (h2, eR hw2 hc2 hb2 a2 r2), (hw2, eW false), (hc2, eA cy f2), (hb2, eA cy g2), (ho, eO (o_L_wideQuarters a1 f1 nv p1 p2).2.2.2 sv), (m0, eM m1 m2 (o_X5_wideQuarters a1 f1 p1 p2).2.2.2 (r1 + r2) kn), (m1, eMR true mc1 (o_X5_wideQuarters a1 f1 p1 p2).2.1), (mc1, eA cy (o_X5_wideQuarters a1 f1 p1 p2).2.2.1), (m2, eMR false mc2 a2), (mc2, eA cy f2)]) [0, 1, 2, 3, 4, 5, 6, 7, 8, 9, 10, 11, 12, 13, 14] rfl
  have hD := hD.sub (ws' := [(h0, eE h1 h2 kn), (h1, eR hw1 hc1 hb1 (o_L_wideQuarters a1 f1 nv p1 p2).2.1 r1), (hw1, eW true), (hc1, eA cy (o_L_wideQuarters a1 f1 nv p1 p2).2.2.1), (hb1, eA cy g1), (h2, eR hw2 hc2 hb2 a2 r2), (hw2, eW false), (hc2, eA cy f2), (hb2, eA cy g2), (ho, eO (o_L_wideQuarters a1 f1 nv p1 p2).2.2.2 sv), (m0, eM m1 m2 (o_X5_wideQuarters a1 f1 p1 p2).2.2.2 (r1 + r2) kn), (m1, eMR true mc1 (o_X5_wideQuarters a1 f1 p1 p2).2.1), (mc1, eA cy (o_X5_wideQuarters a1 f1 p1 p2).2.2.1), (m2, eMR false mc2 a2), (mc2, eA cy f2)]) [0, 1, 2, 3, 4, 5, 6, 7, 8, 9, 10, 11, 12, 13, 14] (by decide +kernel) rfl
  refine lv_istore (lv' := [(6, .int ((o_X5_wideQuarters a1 f1 p1 p2).1)), (5, .int ((o_L_wideQuarters a1 f1 nv p1 p2).1)), (0, .ref b), (1, .ref h0), (2, .ref m0), (3, .ref ho), (4, .int (nI i))]) hx hb dL_law_368 hl (by decide +kernel) rfl (fun ls hl => ?_)
  refine lv_aload_n hx hb dL_law_370 rfl (lv_at hl 4 rfl) ?_
  have hPc := hP.sub (ws' := [(m0, eM m1 m2 (o_X5_wideQuarters a1 f1 p1 p2).2.2.2 (r1 + r2) kn)]) [10] rfl
  have hKc := hK.sub (tys' := []) [] rfl
  refine va_calli (va_runV (As := []) (rest := []) ⟨hx, hb, hml, hown, hts⟩ (k_X5_thrown l dC dI m0 m1 m2 ((o_X5_wideQuarters a1 f1 p1 p2).2.2.2) (r1 + r2) kn H.size) (cwV 0 hts gL_law_X5_thrown rfl rfl rfl (by decide +kernel) ⟨Nat.le_of_ble_eq_true rfl, Nat.le_of_ble_eq_true rfl⟩) (xB.preV hKc hPc (ci := 7) (q0 := 0) rfl rfl) rfl rfl hl.1 rfl (lv_room (Nat.le_of_ble_eq_true rfl)) dL_law_371 ⟨(show _ ≤ 716141 by omega), (show _ ≤ 6947682 by omega)⟩) hS xA_old (fun q h => hA q (Nat.le_trans hS.1 h)) (fun r_3 u t H locs ht hvm hw hB hz hk hS => ?_)
  replace hw : r_3 = (o_X5_thrown ((o_X5_wideQuarters a1 f1 p1 p2).2.2.2)) := hw
  subst r_3
  have hP := xP_keep hP hk
  refine lv_iload hx hb dL_law_374 (lv_at hl 1 rfl) ?_
  refine lv_icmp_eq (tgt := 381) hx hb dL_law_376 (by decide +kernel) (fun c9 => ?_) (fun c9 => absurd (show o_X5_thrown _ = _ from (qx_wideQuarters).symm) c9)
  refine lv_iload hx hb dL_law_381 (lv_at hl 1 rfl) ?_
  refine lv_if_ne (tgt := 399) hx hb dL_law_383 (by decide +kernel) (fun c_4 => ?_) (fun c_4 => ?_)
  · skip
    refine lv_goto (tgt := 3660) hx hb dL_law_399 (by decide +kernel) ?_
    refine W.widen (k := cells + 760) (n := slots + 4500) (by omega) (by omega) ?_
    have qe_b1 : (o_X5_wideQuarters a1 f1 p1 p2).2.1 = (o_L_wideQuarters a1 f1 nv p1 p2).2.1 := (by have hm := ml_wideQuarters a1 nv p1 p2 hka1; rw [hm.1] <;> rfl)
    have qe_e1 : (o_X5_wideQuarters a1 f1 p1 p2).2.2.1 = (o_L_wideQuarters a1 f1 nv p1 p2).2.2.1 := (by have hm := ml_wideQuarters a1 nv p1 p2 hka1; rw [hm.1] <;> rfl)
    have qk_1 : okA true ((o_L_wideQuarters a1 f1 nv p1 p2).2.2.1) := (by have hm := ml_wideQuarters a1 nv p1 p2 hka1; rw [hm.1]; exact hm.2)
    exact K ((o_L_wideQuarters a1 f1 nv p1 p2).2.1) r1 ((o_L_wideQuarters a1 f1 nv p1 p2).2.2.1) g1 a2 r2 f2 g2 kn ((o_L_wideQuarters a1 f1 nv p1 p2).2.2.2) sv ((o_X5_wideQuarters a1 f1 p1 p2).2.2.2) ((o_X5_wideQuarters a1 f1 p1 p2).2.1) ((o_X5_wideQuarters a1 f1 p1 p2).2.2.1) a2 f2 (r1 + r2) kn _ _ _ qe_b1 qe_e1 rfl rfl rfl rfl qk_1 hka2 hP hD hS (lv_sub hl [2, 3, 4, 5, 6] rfl)
  · skip
    refine lv_aload_n hx hb dL_law_386 rfl (lv_at hl 5 rfl) ?_
    refine va_getN (D := (dC, dI)) (ci := 5) (v := .long ((o_L_wideQuarters a1 f1 nv p1 p2).2.2.2)) (C := RX3) (T := TX3) (N := 2) hx hb hts (by decide +kernel) hown hK hP 9 rfl rfl 0 (by decide +kernel) (va_Nw.use rfl (hG.1 (.fieldLinkNest RL 13 "EdgefloatsLaw$Out" "n" "J" RL) (List.mem_of_getElem? (i := 6) rfl))) (fun _ h9 => h9) rfl dL_law_387 ?_
    refine lv_iload hx hb dL_law_390 (lv_at hl 0 rfl) ?_
    refine lv_i2l (v := (((o_X5_wideQuarters a1 f1 p1 p2).1).toInt64)) hx hb dL_law_392 rfl ?_
    refine xc_eq (tgt := 399) hx hb dL_law_393 dL_law_394 (by decide +kernel) (fun c9 => ?_) (fun c9 => absurd ((qn_wideQuarters).trans (if_pos ((qx_wideQuarters).symm.trans c_4))) c9)
    refine lv_goto (tgt := 3660) hx hb dL_law_399 (by decide +kernel) ?_
    refine W.widen (k := cells + 760) (n := slots + 4500) (by omega) (by omega) ?_
    have qe_b1 : (o_X5_wideQuarters a1 f1 p1 p2).2.1 = (o_L_wideQuarters a1 f1 nv p1 p2).2.1 := (by have hm := ml_wideQuarters a1 nv p1 p2 hka1; rw [hm.1] <;> rfl)
    have qe_e1 : (o_X5_wideQuarters a1 f1 p1 p2).2.2.1 = (o_L_wideQuarters a1 f1 nv p1 p2).2.2.1 := (by have hm := ml_wideQuarters a1 nv p1 p2 hka1; rw [hm.1] <;> rfl)
    have qk_1 : okA true ((o_L_wideQuarters a1 f1 nv p1 p2).2.2.1) := (by have hm := ml_wideQuarters a1 nv p1 p2 hka1; rw [hm.1]; exact hm.2)
    exact K ((o_L_wideQuarters a1 f1 nv p1 p2).2.1) r1 ((o_L_wideQuarters a1 f1 nv p1 p2).2.2.1) g1 a2 r2 f2 g2 kn ((o_L_wideQuarters a1 f1 nv p1 p2).2.2.2) sv ((o_X5_wideQuarters a1 f1 p1 p2).2.2.2) ((o_X5_wideQuarters a1 f1 p1 p2).2.1) ((o_X5_wideQuarters a1 f1 p1 p2).2.2.1) a2 f2 (r1 + r2) kn _ _ _ qe_b1 qe_e1 rfl rfl rfl rfl qk_1 hka2 hP hD hS (lv_sub hl [2, 3, 4, 5, 6] rfl)
set_option maxHeartbeats 4000000 in
set_option maxRecDepth 100000 in
theorem st_2 (l : Launch) (p : Program) (e : Env) (s : State) (m : MethodId) (below : List Frame) (meth : Method) (c : Code) (b L N : Nat) (xs : Nat → Int32) (A : Nat → Prop) (dC : Nat → ClassId) (dI : Nat → Nat → Nat) (cy cB : ClassId) (h0 h1 hw1 hc1 hb1 h2 hw2 hc2 hb2 ho m0 m1 mc1 m2 mc2 : Nat) (C0 : lw_C l p e s m below meth c b L N xs A dC dI cy cB) (i : Nat) (hi : i + 4 ≤ L) (p1 p2 p3 : Int32) (hp1 : xs (i + 1) = p1) (hp2 : xs (i + 2) = p2) (hp3 : xs (i + 3) = p3) (cells slots : Nat) (hcs : cells + 760 ≤ 716141) (hss : slots + 4500 ≤ 6947682) (K : lw_K l p e s m below meth c b L N xs A dC dI cy cB h0 h1 hw1 hc1 hb1 h2 hw2 hc2 hb2 ho m0 m1 mc1 m2 mc2 i (cells + 760) (slots + 4500) 3660) (a1 : Int32) (r1 : Int32) (f1 : Nat → Int64) (g1 : Nat → Int64) (a2 : Int32) (r2 : Int32) (f2 : Nat → Int64) (g2 : Nat → Int64) (kn : Int32) (nv : Int64) (sv : Value) (th : Int32) (H : Heap) (locs : List Loc) (ls : Array Slot) (hka1 : okA true f1) (hka2 : okA false f2) (hP : va_P (dC, dI) xCl [(h0, eE h1 h2 kn), (h1, eR hw1 hc1 hb1 a1 r1), (hw1, eW true), (hc1, eA cy f1), (hb1, eA cy g1), (h2, eR hw2 hc2 hb2 a2 r2), (hw2, eW false), (hc2, eA cy f2), (hb2, eA cy g2), (ho, eO nv sv), (m0, eM m1 m2 th (r1 + r2) kn), (m1, eMR true mc1 a1), (mc1, eA cy f1), (m2, eMR false mc2 a2), (mc2, eA cy f2)] H) (hD : va_D A [(h0, eE h1 h2 kn), (h1, eR hw1 hc1 hb1 a1 r1), (hw1, eW true), (hc1, eA cy f1), (hb1, eA cy g1), (h2, eR hw2 hc2 hb2 a2 r2), (hw2, eW false), (hc2, eA cy f2), (hb2, eA cy g2), (ho, eO nv sv), (m0, eM m1 m2 th (r1 + r2) kn), (m1, eMR true mc1 a1), (mc1, eA cy f1), (m2, eMR false mc2 a2), (mc2, eA cy f2)]) (hS : va_S A s.heap H locs) (hl : lv_has ls 7 [(0, .ref b), (1, .ref h0), (2, .ref m0), (3, .ref ho), (4, .int (nI i))]) : W p l e room_1 s m #[Value.ref b] below meth c H locs cells slots (lw_Z below #[Value.ref b] s) (F0 m 402 ls []) := by
  obtain ⟨hfl, hx, hb, hr, hml, hown, hts, hX, hbl, hbA, hlocks, hK, hG, hnc, hA, hAN, hN, hL, hT, hNs⟩ := id C0
  have hok2 := me_okF hka2
  have hsp1 : ∀ k, k < 8 → o_X1_isSpoiled true (f1 k) = false := fun k hk => (hka1 k hk).2
  have hsp2 : ∀ k, k < 8 → o_X1_isSpoiled false (f2 k) = false := fun k hk => (hka2 k hk).2
  have qx_wideKnown : (o_L_wideKnown a1 f1 nv p1 p2).1 = (o_X5_wideKnown a1 f1 p1 p2).2.2.2 := by have hm := ml_wideKnown a1 nv p1 p2 hka1; rw [hm.1] <;> rfl
  have qn_wideKnown : (o_L_wideKnown a1 f1 nv p1 p2).2.2.2 = if (o_X5_wideKnown a1 f1 p1 p2).2.2.2 = 0 then ((o_X5_wideKnown a1 f1 p1 p2).1).toInt64 else nv := by have hm := ml_wideKnown a1 nv p1 p2 hka1; rw [hm.1] <;> rfl
  refine lv_aload_n hx hb dL_law_402 rfl (lv_at hl 1 rfl) ?_
  refine lv_aload_n hx hb dL_law_403 rfl (lv_at hl 0 rfl) ?_
  refine lv_iload hx hb dL_law_404 (lv_at hl 4 rfl) ?_
  refine lv_iconst (v := 1) hx hb dL_law_406 (by decide +kernel) ?_
  refine lv_iadd hx hb dL_law_407 ?_
  rw [nI_1 i]
  refine xa_sld hx hb hX hbl hbA hS (k := i + 1) (by omega) hL hp1 dL_law_408 ?_
  refine lv_aload_n hx hb dL_law_409 rfl (lv_at hl 0 rfl) ?_
  refine lv_iload hx hb dL_law_410 (lv_at hl 4 rfl) ?_
  refine lv_iconst (v := 2) hx hb dL_law_412 (by decide +kernel) ?_
  refine lv_iadd hx hb dL_law_413 ?_
  rw [nI_p2 i]
  refine xa_sld hx hb hX hbl hbA hS (k := i + 2) (by omega) hL hp2 dL_law_414 ?_
  refine lv_aload_n hx hb dL_law_415 rfl (lv_at hl 3 rfl) ?_
  have hPc := hP.sub (ws' := [(h0, eE h1 h2 kn), (h1, eR hw1 hc1 hb1 a1 r1), (hw1, eW true), (hc1, eA cy f1), (hb1, eA cy g1), (h2, eR hw2 hc2 hb2 a2 r2), (hw2, eW false), (hc2, eA cy f2), (hb2, eA cy g2), (ho, eO nv sv)]) [0, 1, 2, 3, 4, 5, 6, 7, 8, 9] rfl
  have hDc := hD.sub (ws' := [(h0, eE h1 h2 kn), (h1, eR hw1 hc1 hb1 a1 r1), (hw1, eW true), (hc1, eA cy f1), (hb1, eA cy g1), (h2, eR hw2 hc2 hb2 a2 r2), (hw2, eW false), (hc2, eA cy f2), (hb2, eA cy g2), (ho, eO nv sv)]) [0, 1, 2, 3, 4, 5, 6, 7, 8, 9] (by decide +kernel) rfl
  have hKc := hK.sub (tys' := [(cy, .long)]) [0] rfl
  have hFc := va_free (wc := [(h0, eE h1 h2 kn), (h1, eR hw1 hc1 hb1 a1 r1), (hw1, eW true), (hc1, eA cy f1), (hb1, eA cy g1), (h2, eR hw2 hc2 hb2 a2 r2), (hw2, eW false), (hc2, eA cy f2), (hb2, eA cy g2), (ho, eO nv sv)]) hD hS hA [0, 1, 2, 3, 4, 5, 6, 7, 8, 9] rfl
  refine va_calli (vx_runSW (As := [.ref h0, .int p1, .int p2, .ref ho]) (rest := []) ⟨hx, hb, hml, hown, hts⟩ (k_L_wideKnown l hfl dC dI cy h0 h1 hw1 hc1 hb1 h2 hw2 hc2 hb2 a1 r1 f1 g1 a2 r2 f2 g2 kn ho nv sv H.size N p1 p2) (vx_cwSW 4 hts gL_law_L_wideKnown rfl rfl rfl (by decide +kernel) ⟨Nat.le_of_ble_eq_true rfl, Nat.le_of_ble_eq_true rfl⟩) (xL.preS hKc hPc hDc hAN (Nat.le_trans hN hS.1) (hG.kept hS hAN) hnc) rfl rfl hl.1 rfl (lv_room (Nat.le_of_ble_eq_true rfl)) dL_law_416 ⟨(show _ ≤ 716141 by omega), (show _ ≤ 6947682 by omega)⟩) hS (fun q _ h => hFc q h) hFc (fun r_1 u t H locs ht hvm hw hB hz hk hS => ?_)
  replace hw : r_1 = (o_L_wideKnown a1 f1 nv p1 p2).1 := hw
  subst r_1
  obtain ⟨hP1, hD1⟩ := hB
  rw [ht] at hP1
  obtain ⟨hP, hD⟩ := va_join (wr := [(m0, eM m1 m2 th (r1 + r2) kn), (m1, eMR true mc1 a1), (mc1, eA cy f1), (m2, eMR false mc2 a2), (mc2, eA cy f2)]) (w1 := [(h0, eE h1 h2 kn), (h1, eR hw1 hc1 hb1 (o_L_wideKnown a1 f1 nv p1 p2).2.1 r1), (hw1, eW true), (hc1, eA cy (o_L_wideKnown a1 f1 nv p1 p2).2.2.1), (hb1, eA cy g1), (h2, eR hw2 hc2 hb2 a2 r2), (hw2, eW false), (hc2, eA cy f2), (hb2, eA cy g2), (ho, eO (o_L_wideKnown a1 f1 nv p1 p2).2.2.2 sv)]) hP hD [0, 1, 2, 3, 4, 5, 6, 7, 8, 9] [10, 11, 12, 13, 14] rfl rfl (by decide +kernel) (by decide +kernel) hk hFc hP1 hD1
  have hP := hP.sub (ws' := [(h0, eE h1 h2 kn), (h1, eR hw1 hc1 hb1 (o_L_wideKnown a1 f1 nv p1 p2).2.1 r1), (hw1, eW true), (hc1, eA cy (o_L_wideKnown a1 f1 nv p1 p2).2.2.1), (hb1, eA cy g1), (h2, eR hw2 hc2 hb2 a2 r2), (hw2, eW false), (hc2, eA cy f2), (hb2, eA cy g2), (ho, eO (o_L_wideKnown a1 f1 nv p1 p2).2.2.2 sv), (m0, eM m1 m2 th (r1 + r2) kn), (m1, eMR true mc1 a1), (mc1, eA cy f1), (m2, eMR false mc2 a2), (mc2, eA cy f2)]) [5, 6, 7, 8, 9, 10, 11, 12, 13, 14, 0, 1, 2, 3, 4] rfl
  have hD := hD.sub (ws' := [(h0, eE h1 h2 kn), (h1, eR hw1 hc1 hb1 (o_L_wideKnown a1 f1 nv p1 p2).2.1 r1), (hw1, eW true), (hc1, eA cy (o_L_wideKnown a1 f1 nv p1 p2).2.2.1), (hb1, eA cy g1), (h2, eR hw2 hc2 hb2 a2 r2), (hw2, eW false), (hc2, eA cy f2), (hb2, eA cy g2), (ho, eO (o_L_wideKnown a1 f1 nv p1 p2).2.2.2 sv), (m0, eM m1 m2 th (r1 + r2) kn), (m1, eMR true mc1 a1), (mc1, eA cy f1), (m2, eMR false mc2 a2), (mc2, eA cy f2)]) [5, 6, 7, 8, 9, 10, 11, 12, 13, 14, 0, 1, 2, 3, 4] (by decide +kernel) rfl
  refine lv_istore (lv' := [(5, .int ((o_L_wideKnown a1 f1 nv p1 p2).1)), (0, .ref b), (1, .ref h0), (2, .ref m0), (3, .ref ho), (4, .int (nI i))]) hx hb dL_law_419 hl (by decide +kernel) rfl (fun ls hl => ?_)
  refine lv_aload_n hx hb dL_law_421 rfl (lv_at hl 3 rfl) ?_
  refine lv_aload_n hx hb dL_law_422 rfl (lv_at hl 1 rfl) ?_
  refine lv_iload hx hb dL_law_423 (lv_at hl 5 rfl) ?_
  refine lv_iconst (v := 1) hx hb dL_law_425 (by decide +kernel) ?_
  refine lv_iadd hx hb dL_law_426 ?_
  rw [nI_1 i]
  refine xa_sld hx hb hX hbl hbA hS (k := i + 1) (by omega) hL hp1 dL_law_427 ?_
  refine lv_aload_n hx hb dL_law_428 rfl (lv_at hl 1 rfl) ?_
  refine lv_iload hx hb dL_law_429 (lv_at hl 5 rfl) ?_
  refine lv_iconst (v := 2) hx hb dL_law_431 (by decide +kernel) ?_
  refine lv_iadd hx hb dL_law_432 ?_
  rw [nI_p2 i]
  refine xa_sld hx hb hX hbl hbA hS (k := i + 2) (by omega) hL hp2 dL_law_433 ?_
  have hPc := hP.sub (ws' := [(m0, eM m1 m2 th (r1 + r2) kn), (m1, eMR true mc1 a1), (mc1, eA cy f1), (m2, eMR false mc2 a2), (mc2, eA cy f2)]) [10, 11, 12, 13, 14] rfl
  have hDc := hD.sub (ws' := [(m0, eM m1 m2 th (r1 + r2) kn), (m1, eMR true mc1 a1), (mc1, eA cy f1), (m2, eMR false mc2 a2), (mc2, eA cy f2)]) [10, 11, 12, 13, 14] (by decide +kernel) rfl
  have hKc := hK.sub (tys' := [(cy, .long)]) [0] rfl
  have hFc := va_free (wc := [(m0, eM m1 m2 th (r1 + r2) kn), (m1, eMR true mc1 a1), (mc1, eA cy f1), (m2, eMR false mc2 a2), (mc2, eA cy f2)]) hD hS hA [10, 11, 12, 13, 14] rfl
  refine va_calli (va_runV (As := [.int p1, .int p2]) (rest := []) ⟨hx, hb, hml, hown, hts⟩ (k_X5_wideKnown l dC dI cy m0 m1 mc1 m2 mc2 a1 f1 a2 f2 th (r1 + r2) kn H.size N p1 p2) (cwV 2 hts gL_law_X5_wideKnown rfl rfl rfl (by decide +kernel) ⟨Nat.le_of_ble_eq_true rfl, Nat.le_of_ble_eq_true rfl⟩) (xM.preV hKc hPc hDc hAN (Nat.le_trans hN hS.1) (hG.kept hS hAN) (ci := 7) (q0 := 0) rfl rfl) rfl rfl hl.1 rfl (lv_room (Nat.le_of_ble_eq_true rfl)) dL_law_434 ⟨(show _ ≤ 716141 by omega), (show _ ≤ 6947682 by omega)⟩) hS (fun q _ h => hFc q h) hFc (fun r_2 u t H locs ht hvm hw hB hz hk hS => ?_)
  replace hw : r_2 = (o_X5_wideKnown a1 f1 p1 p2).1 := hw
  subst r_2
  obtain ⟨hP1, hD1⟩ := hB
  rw [ht] at hP1
  obtain ⟨hP, hD⟩ := va_join (wr := [(h0, eE h1 h2 kn), (h1, eR hw1 hc1 hb1 (o_L_wideKnown a1 f1 nv p1 p2).2.1 r1), (hw1, eW true), (hc1, eA cy (o_L_wideKnown a1 f1 nv p1 p2).2.2.1), (hb1, eA cy g1), (h2, eR hw2 hc2 hb2 a2 r2), (hw2, eW false), (hc2, eA cy f2), (hb2, eA cy g2), (ho, eO (o_L_wideKnown a1 f1 nv p1 p2).2.2.2 sv)]) (w1 := [(m0, eM m1 m2 (o_X5_wideKnown a1 f1 p1 p2).2.2.2 (r1 + r2) kn), (m1, eMR true mc1 (o_X5_wideKnown a1 f1 p1 p2).2.1), (mc1, eA cy (o_X5_wideKnown a1 f1 p1 p2).2.2.1), (m2, eMR false mc2 a2), (mc2, eA cy f2)]) hP hD [10, 11, 12, 13, 14] [0, 1, 2, 3, 4, 5, 6, 7, 8, 9] rfl rfl (by decide +kernel) (by decide +kernel) hk hFc hP1 hD1
  have hP := hP.sub (ws' := [(h0, eE h1 h2 kn), (h1, eR hw1 hc1 hb1 (o_L_wideKnown a1 f1 nv p1 p2).2.1 r1), (hw1, eW true), (hc1, eA cy (o_L_wideKnown a1 f1 nv p1 p2).2.2.1), (hb1, eA cy g1), (h2, eR hw2 hc2 hb2 a2 r2), (hw2, eW false), (hc2, eA cy f2), (hb2, eA cy g2), (ho, eO (o_L_wideKnown a1 f1 nv p1 p2).2.2.2 sv), (m0, eM m1 m2 (o_X5_wideKnown a1 f1 p1 p2).2.2.2 (r1 + r2) kn), (m1, eMR true mc1 (o_X5_wideKnown a1 f1 p1 p2).2.1), (mc1, eA cy (o_X5_wideKnown a1 f1 p1 p2).2.2.1), (m2, eMR false mc2 a2), (mc2, eA cy f2)]) [0, 1, 2, 3, 4, 5, 6, 7, 8, 9, 10, 11, 12, 13, 14] rfl
  have hD := hD.sub (ws' := [(h0, eE h1 h2 kn), (h1, eR hw1 hc1 hb1 (o_L_wideKnown a1 f1 nv p1 p2).2.1 r1), (hw1, eW true), (hc1, eA cy (o_L_wideKnown a1 f1 nv p1 p2).2.2.1), (hb1, eA cy g1), (h2, eR hw2 hc2 hb2 a2 r2), (hw2, eW false), (hc2, eA cy f2), (hb2, eA cy g2), (ho, eO (o_L_wideKnown a1 f1 nv p1 p2).2.2.2 sv), (m0, eM m1 m2 (o_X5_wideKnown a1 f1 p1 p2).2.2.2 (r1 + r2) kn), (m1, eMR true mc1 (o_X5_wideKnown a1 f1 p1 p2).2.1), (mc1, eA cy (o_X5_wideKnown a1 f1 p1 p2).2.2.1), (m2, eMR false mc2 a2), (mc2, eA cy f2)]) [0, 1, 2, 3, 4, 5, 6, 7, 8, 9, 10, 11, 12, 13, 14] (by decide +kernel) rfl
  refine lv_istore (lv' := [(6, .int ((o_X5_wideKnown a1 f1 p1 p2).1)), (5, .int ((o_L_wideKnown a1 f1 nv p1 p2).1)), (0, .ref b), (1, .ref h0), (2, .ref m0), (3, .ref ho), (4, .int (nI i))]) hx hb dL_law_437 hl (by decide +kernel) rfl (fun ls hl => ?_)
  refine lv_aload_n hx hb dL_law_439 rfl (lv_at hl 4 rfl) ?_
  have hPc := hP.sub (ws' := [(m0, eM m1 m2 (o_X5_wideKnown a1 f1 p1 p2).2.2.2 (r1 + r2) kn)]) [10] rfl
  have hKc := hK.sub (tys' := []) [] rfl
  refine va_calli (va_runV (As := []) (rest := []) ⟨hx, hb, hml, hown, hts⟩ (k_X5_thrown l dC dI m0 m1 m2 ((o_X5_wideKnown a1 f1 p1 p2).2.2.2) (r1 + r2) kn H.size) (cwV 0 hts gL_law_X5_thrown rfl rfl rfl (by decide +kernel) ⟨Nat.le_of_ble_eq_true rfl, Nat.le_of_ble_eq_true rfl⟩) (xB.preV hKc hPc (ci := 7) (q0 := 0) rfl rfl) rfl rfl hl.1 rfl (lv_room (Nat.le_of_ble_eq_true rfl)) dL_law_440 ⟨(show _ ≤ 716141 by omega), (show _ ≤ 6947682 by omega)⟩) hS xA_old (fun q h => hA q (Nat.le_trans hS.1 h)) (fun r_3 u t H locs ht hvm hw hB hz hk hS => ?_)
  replace hw : r_3 = (o_X5_thrown ((o_X5_wideKnown a1 f1 p1 p2).2.2.2)) := hw
  subst r_3
  have hP := xP_keep hP hk
  refine lv_iload hx hb dL_law_443 (lv_at hl 1 rfl) ?_
  refine lv_icmp_eq (tgt := 450) hx hb dL_law_445 (by decide +kernel) (fun c9 => ?_) (fun c9 => absurd (show o_X5_thrown _ = _ from (qx_wideKnown).symm) c9)
  refine lv_iload hx hb dL_law_450 (lv_at hl 1 rfl) ?_
  refine lv_if_ne (tgt := 468) hx hb dL_law_452 (by decide +kernel) (fun c_4 => ?_) (fun c_4 => ?_)
  · skip
    refine lv_goto (tgt := 3660) hx hb dL_law_468 (by decide +kernel) ?_
    refine W.widen (k := cells + 760) (n := slots + 4500) (by omega) (by omega) ?_
    have qe_b1 : (o_X5_wideKnown a1 f1 p1 p2).2.1 = (o_L_wideKnown a1 f1 nv p1 p2).2.1 := (by have hm := ml_wideKnown a1 nv p1 p2 hka1; rw [hm.1] <;> rfl)
    have qe_e1 : (o_X5_wideKnown a1 f1 p1 p2).2.2.1 = (o_L_wideKnown a1 f1 nv p1 p2).2.2.1 := (by have hm := ml_wideKnown a1 nv p1 p2 hka1; rw [hm.1] <;> rfl)
    have qk_1 : okA true ((o_L_wideKnown a1 f1 nv p1 p2).2.2.1) := (by have hm := ml_wideKnown a1 nv p1 p2 hka1; rw [hm.1]; exact hm.2)
    exact K ((o_L_wideKnown a1 f1 nv p1 p2).2.1) r1 ((o_L_wideKnown a1 f1 nv p1 p2).2.2.1) g1 a2 r2 f2 g2 kn ((o_L_wideKnown a1 f1 nv p1 p2).2.2.2) sv ((o_X5_wideKnown a1 f1 p1 p2).2.2.2) ((o_X5_wideKnown a1 f1 p1 p2).2.1) ((o_X5_wideKnown a1 f1 p1 p2).2.2.1) a2 f2 (r1 + r2) kn _ _ _ qe_b1 qe_e1 rfl rfl rfl rfl qk_1 hka2 hP hD hS (lv_sub hl [2, 3, 4, 5, 6] rfl)
  · skip
    refine lv_aload_n hx hb dL_law_455 rfl (lv_at hl 5 rfl) ?_
    refine va_getN (D := (dC, dI)) (ci := 5) (v := .long ((o_L_wideKnown a1 f1 nv p1 p2).2.2.2)) (C := RX3) (T := TX3) (N := 2) hx hb hts (by decide +kernel) hown hK hP 9 rfl rfl 0 (by decide +kernel) (va_Nw.use rfl (hG.1 (.fieldLinkNest RL 13 "EdgefloatsLaw$Out" "n" "J" RL) (List.mem_of_getElem? (i := 6) rfl))) (fun _ h9 => h9) rfl dL_law_456 ?_
    refine lv_iload hx hb dL_law_459 (lv_at hl 0 rfl) ?_
    refine lv_i2l (v := (((o_X5_wideKnown a1 f1 p1 p2).1).toInt64)) hx hb dL_law_461 rfl ?_
    refine xc_eq (tgt := 468) hx hb dL_law_462 dL_law_463 (by decide +kernel) (fun c9 => ?_) (fun c9 => absurd ((qn_wideKnown).trans (if_pos ((qx_wideKnown).symm.trans c_4))) c9)
    refine lv_goto (tgt := 3660) hx hb dL_law_468 (by decide +kernel) ?_
    refine W.widen (k := cells + 760) (n := slots + 4500) (by omega) (by omega) ?_
    have qe_b1 : (o_X5_wideKnown a1 f1 p1 p2).2.1 = (o_L_wideKnown a1 f1 nv p1 p2).2.1 := (by have hm := ml_wideKnown a1 nv p1 p2 hka1; rw [hm.1] <;> rfl)
    have qe_e1 : (o_X5_wideKnown a1 f1 p1 p2).2.2.1 = (o_L_wideKnown a1 f1 nv p1 p2).2.2.1 := (by have hm := ml_wideKnown a1 nv p1 p2 hka1; rw [hm.1] <;> rfl)
    have qk_1 : okA true ((o_L_wideKnown a1 f1 nv p1 p2).2.2.1) := (by have hm := ml_wideKnown a1 nv p1 p2 hka1; rw [hm.1]; exact hm.2)
    exact K ((o_L_wideKnown a1 f1 nv p1 p2).2.1) r1 ((o_L_wideKnown a1 f1 nv p1 p2).2.2.1) g1 a2 r2 f2 g2 kn ((o_L_wideKnown a1 f1 nv p1 p2).2.2.2) sv ((o_X5_wideKnown a1 f1 p1 p2).2.2.2) ((o_X5_wideKnown a1 f1 p1 p2).2.1) ((o_X5_wideKnown a1 f1 p1 p2).2.2.1) a2 f2 (r1 + r2) kn _ _ _ qe_b1 qe_e1 rfl rfl rfl rfl qk_1 hka2 hP hD hS (lv_sub hl [2, 3, 4, 5, 6] rfl)
set_option maxHeartbeats 4000000 in
set_option maxRecDepth 100000 in
theorem st_3 (l : Launch) (p : Program) (e : Env) (s : State) (m : MethodId) (below : List Frame) (meth : Method) (c : Code) (b L N : Nat) (xs : Nat → Int32) (A : Nat → Prop) (dC : Nat → ClassId) (dI : Nat → Nat → Nat) (cy cB : ClassId) (h0 h1 hw1 hc1 hb1 h2 hw2 hc2 hb2 ho m0 m1 mc1 m2 mc2 : Nat) (C0 : lw_C l p e s m below meth c b L N xs A dC dI cy cB) (i : Nat) (hi : i + 4 ≤ L) (p1 p2 p3 : Int32) (hp1 : xs (i + 1) = p1) (hp2 : xs (i + 2) = p2) (hp3 : xs (i + 3) = p3) (cells slots : Nat) (hcs : cells + 760 ≤ 716141) (hss : slots + 4500 ≤ 6947682) (K : lw_K l p e s m below meth c b L N xs A dC dI cy cB h0 h1 hw1 hc1 hb1 h2 hw2 hc2 hb2 ho m0 m1 mc1 m2 mc2 i (cells + 760) (slots + 4500) 3660) (a1 : Int32) (r1 : Int32) (f1 : Nat → Int64) (g1 : Nat → Int64) (a2 : Int32) (r2 : Int32) (f2 : Nat → Int64) (g2 : Nat → Int64) (kn : Int32) (nv : Int64) (sv : Value) (th : Int32) (H : Heap) (locs : List Loc) (ls : Array Slot) (hka1 : okA true f1) (hka2 : okA false f2) (hP : va_P (dC, dI) xCl [(h0, eE h1 h2 kn), (h1, eR hw1 hc1 hb1 a1 r1), (hw1, eW true), (hc1, eA cy f1), (hb1, eA cy g1), (h2, eR hw2 hc2 hb2 a2 r2), (hw2, eW false), (hc2, eA cy f2), (hb2, eA cy g2), (ho, eO nv sv), (m0, eM m1 m2 th (r1 + r2) kn), (m1, eMR true mc1 a1), (mc1, eA cy f1), (m2, eMR false mc2 a2), (mc2, eA cy f2)] H) (hD : va_D A [(h0, eE h1 h2 kn), (h1, eR hw1 hc1 hb1 a1 r1), (hw1, eW true), (hc1, eA cy f1), (hb1, eA cy g1), (h2, eR hw2 hc2 hb2 a2 r2), (hw2, eW false), (hc2, eA cy f2), (hb2, eA cy g2), (ho, eO nv sv), (m0, eM m1 m2 th (r1 + r2) kn), (m1, eMR true mc1 a1), (mc1, eA cy f1), (m2, eMR false mc2 a2), (mc2, eA cy f2)]) (hS : va_S A s.heap H locs) (hl : lv_has ls 7 [(0, .ref b), (1, .ref h0), (2, .ref m0), (3, .ref ho), (4, .int (nI i))]) : W p l e room_1 s m #[Value.ref b] below meth c H locs cells slots (lw_Z below #[Value.ref b] s) (F0 m 471 ls []) := by
  obtain ⟨hfl, hx, hb, hr, hml, hown, hts, hX, hbl, hbA, hlocks, hK, hG, hnc, hA, hAN, hN, hL, hT, hNs⟩ := id C0
  have hok2 := me_okF hka2
  have hsp1 : ∀ k, k < 8 → o_X1_isSpoiled true (f1 k) = false := fun k hk => (hka1 k hk).2
  have hsp2 : ∀ k, k < 8 → o_X1_isSpoiled false (f2 k) = false := fun k hk => (hka2 k hk).2
  have qx_wideCopy : (o_L_wideCopy a1 f1 nv p1 p2).1 = (o_X5_wideCopy a1 f1 p1 p2).2.2.2 := by have hm := ml_wideCopy a1 nv p1 p2 hka1; rw [hm.1] <;> rfl
  have qn_wideCopy : (o_L_wideCopy a1 f1 nv p1 p2).2.2.2 = if (o_X5_wideCopy a1 f1 p1 p2).2.2.2 = 0 then ((o_X5_wideCopy a1 f1 p1 p2).1).toInt64 else nv := by have hm := ml_wideCopy a1 nv p1 p2 hka1; rw [hm.1] <;> rfl
  refine lv_aload_n hx hb dL_law_471 rfl (lv_at hl 1 rfl) ?_
  refine lv_aload_n hx hb dL_law_472 rfl (lv_at hl 0 rfl) ?_
  refine lv_iload hx hb dL_law_473 (lv_at hl 4 rfl) ?_
  refine lv_iconst (v := 1) hx hb dL_law_475 (by decide +kernel) ?_
  refine lv_iadd hx hb dL_law_476 ?_
  rw [nI_1 i]
  refine xa_sld hx hb hX hbl hbA hS (k := i + 1) (by omega) hL hp1 dL_law_477 ?_
  refine lv_aload_n hx hb dL_law_478 rfl (lv_at hl 0 rfl) ?_
  refine lv_iload hx hb dL_law_479 (lv_at hl 4 rfl) ?_
  refine lv_iconst (v := 2) hx hb dL_law_481 (by decide +kernel) ?_
  refine lv_iadd hx hb dL_law_482 ?_
  rw [nI_p2 i]
  refine xa_sld hx hb hX hbl hbA hS (k := i + 2) (by omega) hL hp2 dL_law_483 ?_
  refine lv_aload_n hx hb dL_law_484 rfl (lv_at hl 3 rfl) ?_
  have hPc := hP.sub (ws' := [(h0, eE h1 h2 kn), (h1, eR hw1 hc1 hb1 a1 r1), (hw1, eW true), (hc1, eA cy f1), (hb1, eA cy g1), (h2, eR hw2 hc2 hb2 a2 r2), (hw2, eW false), (hc2, eA cy f2), (hb2, eA cy g2), (ho, eO nv sv)]) [0, 1, 2, 3, 4, 5, 6, 7, 8, 9] rfl
  have hDc := hD.sub (ws' := [(h0, eE h1 h2 kn), (h1, eR hw1 hc1 hb1 a1 r1), (hw1, eW true), (hc1, eA cy f1), (hb1, eA cy g1), (h2, eR hw2 hc2 hb2 a2 r2), (hw2, eW false), (hc2, eA cy f2), (hb2, eA cy g2), (ho, eO nv sv)]) [0, 1, 2, 3, 4, 5, 6, 7, 8, 9] (by decide +kernel) rfl
  have hKc := hK.sub (tys' := [(cy, .long)]) [0] rfl
  have hFc := va_free (wc := [(h0, eE h1 h2 kn), (h1, eR hw1 hc1 hb1 a1 r1), (hw1, eW true), (hc1, eA cy f1), (hb1, eA cy g1), (h2, eR hw2 hc2 hb2 a2 r2), (hw2, eW false), (hc2, eA cy f2), (hb2, eA cy g2), (ho, eO nv sv)]) hD hS hA [0, 1, 2, 3, 4, 5, 6, 7, 8, 9] rfl
  refine va_calli (vx_runSW (As := [.ref h0, .int p1, .int p2, .ref ho]) (rest := []) ⟨hx, hb, hml, hown, hts⟩ (k_L_wideCopy l hfl dC dI cy h0 h1 hw1 hc1 hb1 h2 hw2 hc2 hb2 a1 r1 f1 g1 a2 r2 f2 g2 kn ho nv sv H.size N p1 p2) (vx_cwSW 4 hts gL_law_L_wideCopy rfl rfl rfl (by decide +kernel) ⟨Nat.le_of_ble_eq_true rfl, Nat.le_of_ble_eq_true rfl⟩) (xL.preS hKc hPc hDc hAN (Nat.le_trans hN hS.1) (hG.kept hS hAN) hnc) rfl rfl hl.1 rfl (lv_room (Nat.le_of_ble_eq_true rfl)) dL_law_485 ⟨(show _ ≤ 716141 by omega), (show _ ≤ 6947682 by omega)⟩) hS (fun q _ h => hFc q h) hFc (fun r_1 u t H locs ht hvm hw hB hz hk hS => ?_)
  replace hw : r_1 = (o_L_wideCopy a1 f1 nv p1 p2).1 := hw
  subst r_1
  obtain ⟨hP1, hD1⟩ := hB
  rw [ht] at hP1
  obtain ⟨hP, hD⟩ := va_join (wr := [(m0, eM m1 m2 th (r1 + r2) kn), (m1, eMR true mc1 a1), (mc1, eA cy f1), (m2, eMR false mc2 a2), (mc2, eA cy f2)]) (w1 := [(h0, eE h1 h2 kn), (h1, eR hw1 hc1 hb1 (o_L_wideCopy a1 f1 nv p1 p2).2.1 r1), (hw1, eW true), (hc1, eA cy (o_L_wideCopy a1 f1 nv p1 p2).2.2.1), (hb1, eA cy g1), (h2, eR hw2 hc2 hb2 a2 r2), (hw2, eW false), (hc2, eA cy f2), (hb2, eA cy g2), (ho, eO (o_L_wideCopy a1 f1 nv p1 p2).2.2.2 sv)]) hP hD [0, 1, 2, 3, 4, 5, 6, 7, 8, 9] [10, 11, 12, 13, 14] rfl rfl (by decide +kernel) (by decide +kernel) hk hFc hP1 hD1
  have hP := hP.sub (ws' := [(h0, eE h1 h2 kn), (h1, eR hw1 hc1 hb1 (o_L_wideCopy a1 f1 nv p1 p2).2.1 r1), (hw1, eW true), (hc1, eA cy (o_L_wideCopy a1 f1 nv p1 p2).2.2.1), (hb1, eA cy g1), (h2, eR hw2 hc2 hb2 a2 r2), (hw2, eW false), (hc2, eA cy f2), (hb2, eA cy g2), (ho, eO (o_L_wideCopy a1 f1 nv p1 p2).2.2.2 sv), (m0, eM m1 m2 th (r1 + r2) kn), (m1, eMR true mc1 a1), (mc1, eA cy f1), (m2, eMR false mc2 a2), (mc2, eA cy f2)]) [5, 6, 7, 8, 9, 10, 11, 12, 13, 14, 0, 1, 2, 3, 4] rfl
  have hD := hD.sub (ws' := [(h0, eE h1 h2 kn), (h1, eR hw1 hc1 hb1 (o_L_wideCopy a1 f1 nv p1 p2).2.1 r1), (hw1, eW true), (hc1, eA cy (o_L_wideCopy a1 f1 nv p1 p2).2.2.1), (hb1, eA cy g1), (h2, eR hw2 hc2 hb2 a2 r2), (hw2, eW false), (hc2, eA cy f2), (hb2, eA cy g2), (ho, eO (o_L_wideCopy a1 f1 nv p1 p2).2.2.2 sv), (m0, eM m1 m2 th (r1 + r2) kn), (m1, eMR true mc1 a1), (mc1, eA cy f1), (m2, eMR false mc2 a2), (mc2, eA cy f2)]) [5, 6, 7, 8, 9, 10, 11, 12, 13, 14, 0, 1, 2, 3, 4] (by decide +kernel) rfl
  refine lv_istore (lv' := [(5, .int ((o_L_wideCopy a1 f1 nv p1 p2).1)), (0, .ref b), (1, .ref h0), (2, .ref m0), (3, .ref ho), (4, .int (nI i))]) hx hb dL_law_488 hl (by decide +kernel) rfl (fun ls hl => ?_)
  refine lv_aload_n hx hb dL_law_490 rfl (lv_at hl 3 rfl) ?_
  refine lv_aload_n hx hb dL_law_491 rfl (lv_at hl 1 rfl) ?_
  refine lv_iload hx hb dL_law_492 (lv_at hl 5 rfl) ?_
  refine lv_iconst (v := 1) hx hb dL_law_494 (by decide +kernel) ?_
  refine lv_iadd hx hb dL_law_495 ?_
  rw [nI_1 i]
  refine xa_sld hx hb hX hbl hbA hS (k := i + 1) (by omega) hL hp1 dL_law_496 ?_
  refine lv_aload_n hx hb dL_law_497 rfl (lv_at hl 1 rfl) ?_
  refine lv_iload hx hb dL_law_498 (lv_at hl 5 rfl) ?_
  refine lv_iconst (v := 2) hx hb dL_law_500 (by decide +kernel) ?_
  refine lv_iadd hx hb dL_law_501 ?_
  rw [nI_p2 i]
  refine xa_sld hx hb hX hbl hbA hS (k := i + 2) (by omega) hL hp2 dL_law_502 ?_
  have hPc := hP.sub (ws' := [(m0, eM m1 m2 th (r1 + r2) kn), (m1, eMR true mc1 a1), (mc1, eA cy f1), (m2, eMR false mc2 a2), (mc2, eA cy f2)]) [10, 11, 12, 13, 14] rfl
  have hDc := hD.sub (ws' := [(m0, eM m1 m2 th (r1 + r2) kn), (m1, eMR true mc1 a1), (mc1, eA cy f1), (m2, eMR false mc2 a2), (mc2, eA cy f2)]) [10, 11, 12, 13, 14] (by decide +kernel) rfl
  have hKc := hK.sub (tys' := [(cy, .long)]) [0] rfl
  have hFc := va_free (wc := [(m0, eM m1 m2 th (r1 + r2) kn), (m1, eMR true mc1 a1), (mc1, eA cy f1), (m2, eMR false mc2 a2), (mc2, eA cy f2)]) hD hS hA [10, 11, 12, 13, 14] rfl
  refine va_calli (va_runV (As := [.int p1, .int p2]) (rest := []) ⟨hx, hb, hml, hown, hts⟩ (k_X5_wideCopy l dC dI cy m0 m1 mc1 m2 mc2 a1 f1 a2 f2 th (r1 + r2) kn H.size N p1 p2) (cwV 2 hts gL_law_X5_wideCopy rfl rfl rfl (by decide +kernel) ⟨Nat.le_of_ble_eq_true rfl, Nat.le_of_ble_eq_true rfl⟩) (xM.preV hKc hPc hDc hAN (Nat.le_trans hN hS.1) (hG.kept hS hAN) (ci := 7) (q0 := 0) rfl rfl) rfl rfl hl.1 rfl (lv_room (Nat.le_of_ble_eq_true rfl)) dL_law_503 ⟨(show _ ≤ 716141 by omega), (show _ ≤ 6947682 by omega)⟩) hS (fun q _ h => hFc q h) hFc (fun r_2 u t H locs ht hvm hw hB hz hk hS => ?_)
  replace hw : r_2 = (o_X5_wideCopy a1 f1 p1 p2).1 := hw
  subst r_2
  obtain ⟨hP1, hD1⟩ := hB
  rw [ht] at hP1
  obtain ⟨hP, hD⟩ := va_join (wr := [(h0, eE h1 h2 kn), (h1, eR hw1 hc1 hb1 (o_L_wideCopy a1 f1 nv p1 p2).2.1 r1), (hw1, eW true), (hc1, eA cy (o_L_wideCopy a1 f1 nv p1 p2).2.2.1), (hb1, eA cy g1), (h2, eR hw2 hc2 hb2 a2 r2), (hw2, eW false), (hc2, eA cy f2), (hb2, eA cy g2), (ho, eO (o_L_wideCopy a1 f1 nv p1 p2).2.2.2 sv)]) (w1 := [(m0, eM m1 m2 (o_X5_wideCopy a1 f1 p1 p2).2.2.2 (r1 + r2) kn), (m1, eMR true mc1 (o_X5_wideCopy a1 f1 p1 p2).2.1), (mc1, eA cy (o_X5_wideCopy a1 f1 p1 p2).2.2.1), (m2, eMR false mc2 a2), (mc2, eA cy f2)]) hP hD [10, 11, 12, 13, 14] [0, 1, 2, 3, 4, 5, 6, 7, 8, 9] rfl rfl (by decide +kernel) (by decide +kernel) hk hFc hP1 hD1
  have hP := hP.sub (ws' := [(h0, eE h1 h2 kn), (h1, eR hw1 hc1 hb1 (o_L_wideCopy a1 f1 nv p1 p2).2.1 r1), (hw1, eW true), (hc1, eA cy (o_L_wideCopy a1 f1 nv p1 p2).2.2.1), (hb1, eA cy g1), (h2, eR hw2 hc2 hb2 a2 r2), (hw2, eW false), (hc2, eA cy f2), (hb2, eA cy g2), (ho, eO (o_L_wideCopy a1 f1 nv p1 p2).2.2.2 sv), (m0, eM m1 m2 (o_X5_wideCopy a1 f1 p1 p2).2.2.2 (r1 + r2) kn), (m1, eMR true mc1 (o_X5_wideCopy a1 f1 p1 p2).2.1), (mc1, eA cy (o_X5_wideCopy a1 f1 p1 p2).2.2.1), (m2, eMR false mc2 a2), (mc2, eA cy f2)]) [0, 1, 2, 3, 4, 5, 6, 7, 8, 9, 10, 11, 12, 13, 14] rfl
  have hD := hD.sub (ws' := [(h0, eE h1 h2 kn), (h1, eR hw1 hc1 hb1 (o_L_wideCopy a1 f1 nv p1 p2).2.1 r1), (hw1, eW true), (hc1, eA cy (o_L_wideCopy a1 f1 nv p1 p2).2.2.1), (hb1, eA cy g1), (h2, eR hw2 hc2 hb2 a2 r2), (hw2, eW false), (hc2, eA cy f2), (hb2, eA cy g2), (ho, eO (o_L_wideCopy a1 f1 nv p1 p2).2.2.2 sv), (m0, eM m1 m2 (o_X5_wideCopy a1 f1 p1 p2).2.2.2 (r1 + r2) kn), (m1, eMR true mc1 (o_X5_wideCopy a1 f1 p1 p2).2.1), (mc1, eA cy (o_X5_wideCopy a1 f1 p1 p2).2.2.1), (m2, eMR false mc2 a2), (mc2, eA cy f2)]) [0, 1, 2, 3, 4, 5, 6, 7, 8, 9, 10, 11, 12, 13, 14] (by decide +kernel) rfl
  refine lv_istore (lv' := [(6, .int ((o_X5_wideCopy a1 f1 p1 p2).1)), (5, .int ((o_L_wideCopy a1 f1 nv p1 p2).1)), (0, .ref b), (1, .ref h0), (2, .ref m0), (3, .ref ho), (4, .int (nI i))]) hx hb dL_law_506 hl (by decide +kernel) rfl (fun ls hl => ?_)
  refine lv_aload_n hx hb dL_law_508 rfl (lv_at hl 4 rfl) ?_
  have hPc := hP.sub (ws' := [(m0, eM m1 m2 (o_X5_wideCopy a1 f1 p1 p2).2.2.2 (r1 + r2) kn)]) [10] rfl
  have hKc := hK.sub (tys' := []) [] rfl
  refine va_calli (va_runV (As := []) (rest := []) ⟨hx, hb, hml, hown, hts⟩ (k_X5_thrown l dC dI m0 m1 m2 ((o_X5_wideCopy a1 f1 p1 p2).2.2.2) (r1 + r2) kn H.size) (cwV 0 hts gL_law_X5_thrown rfl rfl rfl (by decide +kernel) ⟨Nat.le_of_ble_eq_true rfl, Nat.le_of_ble_eq_true rfl⟩) (xB.preV hKc hPc (ci := 7) (q0 := 0) rfl rfl) rfl rfl hl.1 rfl (lv_room (Nat.le_of_ble_eq_true rfl)) dL_law_509 ⟨(show _ ≤ 716141 by omega), (show _ ≤ 6947682 by omega)⟩) hS xA_old (fun q h => hA q (Nat.le_trans hS.1 h)) (fun r_3 u t H locs ht hvm hw hB hz hk hS => ?_)
  replace hw : r_3 = (o_X5_thrown ((o_X5_wideCopy a1 f1 p1 p2).2.2.2)) := hw
  subst r_3
  have hP := xP_keep hP hk
  refine lv_iload hx hb dL_law_512 (lv_at hl 1 rfl) ?_
  refine lv_icmp_eq (tgt := 519) hx hb dL_law_514 (by decide +kernel) (fun c9 => ?_) (fun c9 => absurd (show o_X5_thrown _ = _ from (qx_wideCopy).symm) c9)
  refine lv_iload hx hb dL_law_519 (lv_at hl 1 rfl) ?_
  refine lv_if_ne (tgt := 537) hx hb dL_law_521 (by decide +kernel) (fun c_4 => ?_) (fun c_4 => ?_)
  · skip
    refine lv_goto (tgt := 3660) hx hb dL_law_537 (by decide +kernel) ?_
    refine W.widen (k := cells + 760) (n := slots + 4500) (by omega) (by omega) ?_
    have qe_b1 : (o_X5_wideCopy a1 f1 p1 p2).2.1 = (o_L_wideCopy a1 f1 nv p1 p2).2.1 := (by have hm := ml_wideCopy a1 nv p1 p2 hka1; rw [hm.1] <;> rfl)
    have qe_e1 : (o_X5_wideCopy a1 f1 p1 p2).2.2.1 = (o_L_wideCopy a1 f1 nv p1 p2).2.2.1 := (by have hm := ml_wideCopy a1 nv p1 p2 hka1; rw [hm.1] <;> rfl)
    have qk_1 : okA true ((o_L_wideCopy a1 f1 nv p1 p2).2.2.1) := (by have hm := ml_wideCopy a1 nv p1 p2 hka1; rw [hm.1]; exact hm.2)
    exact K ((o_L_wideCopy a1 f1 nv p1 p2).2.1) r1 ((o_L_wideCopy a1 f1 nv p1 p2).2.2.1) g1 a2 r2 f2 g2 kn ((o_L_wideCopy a1 f1 nv p1 p2).2.2.2) sv ((o_X5_wideCopy a1 f1 p1 p2).2.2.2) ((o_X5_wideCopy a1 f1 p1 p2).2.1) ((o_X5_wideCopy a1 f1 p1 p2).2.2.1) a2 f2 (r1 + r2) kn _ _ _ qe_b1 qe_e1 rfl rfl rfl rfl qk_1 hka2 hP hD hS (lv_sub hl [2, 3, 4, 5, 6] rfl)
  · skip
    refine lv_aload_n hx hb dL_law_524 rfl (lv_at hl 5 rfl) ?_
    refine va_getN (D := (dC, dI)) (ci := 5) (v := .long ((o_L_wideCopy a1 f1 nv p1 p2).2.2.2)) (C := RX3) (T := TX3) (N := 2) hx hb hts (by decide +kernel) hown hK hP 9 rfl rfl 0 (by decide +kernel) (va_Nw.use rfl (hG.1 (.fieldLinkNest RL 13 "EdgefloatsLaw$Out" "n" "J" RL) (List.mem_of_getElem? (i := 6) rfl))) (fun _ h9 => h9) rfl dL_law_525 ?_
    refine lv_iload hx hb dL_law_528 (lv_at hl 0 rfl) ?_
    refine lv_i2l (v := (((o_X5_wideCopy a1 f1 p1 p2).1).toInt64)) hx hb dL_law_530 rfl ?_
    refine xc_eq (tgt := 537) hx hb dL_law_531 dL_law_532 (by decide +kernel) (fun c9 => ?_) (fun c9 => absurd ((qn_wideCopy).trans (if_pos ((qx_wideCopy).symm.trans c_4))) c9)
    refine lv_goto (tgt := 3660) hx hb dL_law_537 (by decide +kernel) ?_
    refine W.widen (k := cells + 760) (n := slots + 4500) (by omega) (by omega) ?_
    have qe_b1 : (o_X5_wideCopy a1 f1 p1 p2).2.1 = (o_L_wideCopy a1 f1 nv p1 p2).2.1 := (by have hm := ml_wideCopy a1 nv p1 p2 hka1; rw [hm.1] <;> rfl)
    have qe_e1 : (o_X5_wideCopy a1 f1 p1 p2).2.2.1 = (o_L_wideCopy a1 f1 nv p1 p2).2.2.1 := (by have hm := ml_wideCopy a1 nv p1 p2 hka1; rw [hm.1] <;> rfl)
    have qk_1 : okA true ((o_L_wideCopy a1 f1 nv p1 p2).2.2.1) := (by have hm := ml_wideCopy a1 nv p1 p2 hka1; rw [hm.1]; exact hm.2)
    exact K ((o_L_wideCopy a1 f1 nv p1 p2).2.1) r1 ((o_L_wideCopy a1 f1 nv p1 p2).2.2.1) g1 a2 r2 f2 g2 kn ((o_L_wideCopy a1 f1 nv p1 p2).2.2.2) sv ((o_X5_wideCopy a1 f1 p1 p2).2.2.2) ((o_X5_wideCopy a1 f1 p1 p2).2.1) ((o_X5_wideCopy a1 f1 p1 p2).2.2.1) a2 f2 (r1 + r2) kn _ _ _ qe_b1 qe_e1 rfl rfl rfl rfl qk_1 hka2 hP hD hS (lv_sub hl [2, 3, 4, 5, 6] rfl)
set_option maxHeartbeats 4000000 in
set_option maxRecDepth 100000 in
theorem st_4 (l : Launch) (p : Program) (e : Env) (s : State) (m : MethodId) (below : List Frame) (meth : Method) (c : Code) (b L N : Nat) (xs : Nat → Int32) (A : Nat → Prop) (dC : Nat → ClassId) (dI : Nat → Nat → Nat) (cy cB : ClassId) (h0 h1 hw1 hc1 hb1 h2 hw2 hc2 hb2 ho m0 m1 mc1 m2 mc2 : Nat) (C0 : lw_C l p e s m below meth c b L N xs A dC dI cy cB) (i : Nat) (hi : i + 4 ≤ L) (p1 p2 p3 : Int32) (hp1 : xs (i + 1) = p1) (hp2 : xs (i + 2) = p2) (hp3 : xs (i + 3) = p3) (cells slots : Nat) (hcs : cells + 760 ≤ 716141) (hss : slots + 4500 ≤ 6947682) (K : lw_K l p e s m below meth c b L N xs A dC dI cy cB h0 h1 hw1 hc1 hb1 h2 hw2 hc2 hb2 ho m0 m1 mc1 m2 mc2 i (cells + 760) (slots + 4500) 3660) (a1 : Int32) (r1 : Int32) (f1 : Nat → Int64) (g1 : Nat → Int64) (a2 : Int32) (r2 : Int32) (f2 : Nat → Int64) (g2 : Nat → Int64) (kn : Int32) (nv : Int64) (sv : Value) (th : Int32) (H : Heap) (locs : List Loc) (ls : Array Slot) (hka1 : okA true f1) (hka2 : okA false f2) (hP : va_P (dC, dI) xCl [(h0, eE h1 h2 kn), (h1, eR hw1 hc1 hb1 a1 r1), (hw1, eW true), (hc1, eA cy f1), (hb1, eA cy g1), (h2, eR hw2 hc2 hb2 a2 r2), (hw2, eW false), (hc2, eA cy f2), (hb2, eA cy g2), (ho, eO nv sv), (m0, eM m1 m2 th (r1 + r2) kn), (m1, eMR true mc1 a1), (mc1, eA cy f1), (m2, eMR false mc2 a2), (mc2, eA cy f2)] H) (hD : va_D A [(h0, eE h1 h2 kn), (h1, eR hw1 hc1 hb1 a1 r1), (hw1, eW true), (hc1, eA cy f1), (hb1, eA cy g1), (h2, eR hw2 hc2 hb2 a2 r2), (hw2, eW false), (hc2, eA cy f2), (hb2, eA cy g2), (ho, eO nv sv), (m0, eM m1 m2 th (r1 + r2) kn), (m1, eMR true mc1 a1), (mc1, eA cy f1), (m2, eMR false mc2 a2), (mc2, eA cy f2)]) (hS : va_S A s.heap H locs) (hl : lv_has ls 7 [(0, .ref b), (1, .ref h0), (2, .ref m0), (3, .ref ho), (4, .int (nI i))]) : W p l e room_1 s m #[Value.ref b] below meth c H locs cells slots (lw_Z below #[Value.ref b] s) (F0 m 540 ls []) := by
  obtain ⟨hfl, hx, hb, hr, hml, hown, hts, hX, hbl, hbA, hlocks, hK, hG, hnc, hA, hAN, hN, hL, hT, hNs⟩ := id C0
  have hok2 := me_okF hka2
  have hsp1 : ∀ k, k < 8 → o_X1_isSpoiled true (f1 k) = false := fun k hk => (hka1 k hk).2
  have hsp2 : ∀ k, k < 8 → o_X1_isSpoiled false (f2 k) = false := fun k hk => (hka2 k hk).2
  have qx_wideSwap : (o_L_wideSwap a1 f1 nv p1 p2).1 = (o_X5_wideSwap a1 f1 p1 p2).2.2.2 := by have hm := ml_wideSwap a1 nv p1 p2 hka1; rw [hm.1] <;> rfl
  have qn_wideSwap : (o_L_wideSwap a1 f1 nv p1 p2).2.2.2 = if (o_X5_wideSwap a1 f1 p1 p2).2.2.2 = 0 then ((o_X5_wideSwap a1 f1 p1 p2).1).toInt64 else nv := by have hm := ml_wideSwap a1 nv p1 p2 hka1; rw [hm.1] <;> rfl
  refine lv_aload_n hx hb dL_law_540 rfl (lv_at hl 1 rfl) ?_
  refine lv_aload_n hx hb dL_law_541 rfl (lv_at hl 0 rfl) ?_
  refine lv_iload hx hb dL_law_542 (lv_at hl 4 rfl) ?_
  refine lv_iconst (v := 1) hx hb dL_law_544 (by decide +kernel) ?_
  refine lv_iadd hx hb dL_law_545 ?_
  rw [nI_1 i]
  refine xa_sld hx hb hX hbl hbA hS (k := i + 1) (by omega) hL hp1 dL_law_546 ?_
  refine lv_aload_n hx hb dL_law_547 rfl (lv_at hl 0 rfl) ?_
  refine lv_iload hx hb dL_law_548 (lv_at hl 4 rfl) ?_
  refine lv_iconst (v := 2) hx hb dL_law_550 (by decide +kernel) ?_
  refine lv_iadd hx hb dL_law_551 ?_
  rw [nI_p2 i]
  refine xa_sld hx hb hX hbl hbA hS (k := i + 2) (by omega) hL hp2 dL_law_552 ?_
  refine lv_aload_n hx hb dL_law_553 rfl (lv_at hl 3 rfl) ?_
  have hPc := hP.sub (ws' := [(h0, eE h1 h2 kn), (h1, eR hw1 hc1 hb1 a1 r1), (hw1, eW true), (hc1, eA cy f1), (hb1, eA cy g1), (h2, eR hw2 hc2 hb2 a2 r2), (hw2, eW false), (hc2, eA cy f2), (hb2, eA cy g2), (ho, eO nv sv)]) [0, 1, 2, 3, 4, 5, 6, 7, 8, 9] rfl
  have hDc := hD.sub (ws' := [(h0, eE h1 h2 kn), (h1, eR hw1 hc1 hb1 a1 r1), (hw1, eW true), (hc1, eA cy f1), (hb1, eA cy g1), (h2, eR hw2 hc2 hb2 a2 r2), (hw2, eW false), (hc2, eA cy f2), (hb2, eA cy g2), (ho, eO nv sv)]) [0, 1, 2, 3, 4, 5, 6, 7, 8, 9] (by decide +kernel) rfl
  have hKc := hK.sub (tys' := [(cy, .long)]) [0] rfl
  have hFc := va_free (wc := [(h0, eE h1 h2 kn), (h1, eR hw1 hc1 hb1 a1 r1), (hw1, eW true), (hc1, eA cy f1), (hb1, eA cy g1), (h2, eR hw2 hc2 hb2 a2 r2), (hw2, eW false), (hc2, eA cy f2), (hb2, eA cy g2), (ho, eO nv sv)]) hD hS hA [0, 1, 2, 3, 4, 5, 6, 7, 8, 9] rfl
  refine va_calli (vx_runSW (As := [.ref h0, .int p1, .int p2, .ref ho]) (rest := []) ⟨hx, hb, hml, hown, hts⟩ (k_L_wideSwap l hfl dC dI cy h0 h1 hw1 hc1 hb1 h2 hw2 hc2 hb2 a1 r1 f1 g1 a2 r2 f2 g2 kn ho nv sv H.size N p1 p2) (vx_cwSW 4 hts gL_law_L_wideSwap rfl rfl rfl (by decide +kernel) ⟨Nat.le_of_ble_eq_true rfl, Nat.le_of_ble_eq_true rfl⟩) (xL.preS hKc hPc hDc hAN (Nat.le_trans hN hS.1) (hG.kept hS hAN) hnc) rfl rfl hl.1 rfl (lv_room (Nat.le_of_ble_eq_true rfl)) dL_law_554 ⟨(show _ ≤ 716141 by omega), (show _ ≤ 6947682 by omega)⟩) hS (fun q _ h => hFc q h) hFc (fun r_1 u t H locs ht hvm hw hB hz hk hS => ?_)
  replace hw : r_1 = (o_L_wideSwap a1 f1 nv p1 p2).1 := hw
  subst r_1
  obtain ⟨hP1, hD1⟩ := hB
  rw [ht] at hP1
  obtain ⟨hP, hD⟩ := va_join (wr := [(m0, eM m1 m2 th (r1 + r2) kn), (m1, eMR true mc1 a1), (mc1, eA cy f1), (m2, eMR false mc2 a2), (mc2, eA cy f2)]) (w1 := [(h0, eE h1 h2 kn), (h1, eR hw1 hc1 hb1 (o_L_wideSwap a1 f1 nv p1 p2).2.1 r1), (hw1, eW true), (hc1, eA cy (o_L_wideSwap a1 f1 nv p1 p2).2.2.1), (hb1, eA cy g1), (h2, eR hw2 hc2 hb2 a2 r2), (hw2, eW false), (hc2, eA cy f2), (hb2, eA cy g2), (ho, eO (o_L_wideSwap a1 f1 nv p1 p2).2.2.2 sv)]) hP hD [0, 1, 2, 3, 4, 5, 6, 7, 8, 9] [10, 11, 12, 13, 14] rfl rfl (by decide +kernel) (by decide +kernel) hk hFc hP1 hD1
  have hP := hP.sub (ws' := [(h0, eE h1 h2 kn), (h1, eR hw1 hc1 hb1 (o_L_wideSwap a1 f1 nv p1 p2).2.1 r1), (hw1, eW true), (hc1, eA cy (o_L_wideSwap a1 f1 nv p1 p2).2.2.1), (hb1, eA cy g1), (h2, eR hw2 hc2 hb2 a2 r2), (hw2, eW false), (hc2, eA cy f2), (hb2, eA cy g2), (ho, eO (o_L_wideSwap a1 f1 nv p1 p2).2.2.2 sv), (m0, eM m1 m2 th (r1 + r2) kn), (m1, eMR true mc1 a1), (mc1, eA cy f1), (m2, eMR false mc2 a2), (mc2, eA cy f2)]) [5, 6, 7, 8, 9, 10, 11, 12, 13, 14, 0, 1, 2, 3, 4] rfl
  have hD := hD.sub (ws' := [(h0, eE h1 h2 kn), (h1, eR hw1 hc1 hb1 (o_L_wideSwap a1 f1 nv p1 p2).2.1 r1), (hw1, eW true), (hc1, eA cy (o_L_wideSwap a1 f1 nv p1 p2).2.2.1), (hb1, eA cy g1), (h2, eR hw2 hc2 hb2 a2 r2), (hw2, eW false), (hc2, eA cy f2), (hb2, eA cy g2), (ho, eO (o_L_wideSwap a1 f1 nv p1 p2).2.2.2 sv), (m0, eM m1 m2 th (r1 + r2) kn), (m1, eMR true mc1 a1), (mc1, eA cy f1), (m2, eMR false mc2 a2), (mc2, eA cy f2)]) [5, 6, 7, 8, 9, 10, 11, 12, 13, 14, 0, 1, 2, 3, 4] (by decide +kernel) rfl
  refine lv_istore (lv' := [(5, .int ((o_L_wideSwap a1 f1 nv p1 p2).1)), (0, .ref b), (1, .ref h0), (2, .ref m0), (3, .ref ho), (4, .int (nI i))]) hx hb dL_law_557 hl (by decide +kernel) rfl (fun ls hl => ?_)
  refine lv_aload_n hx hb dL_law_559 rfl (lv_at hl 3 rfl) ?_
  refine lv_aload_n hx hb dL_law_560 rfl (lv_at hl 1 rfl) ?_
  refine lv_iload hx hb dL_law_561 (lv_at hl 5 rfl) ?_
  refine lv_iconst (v := 1) hx hb dL_law_563 (by decide +kernel) ?_
  refine lv_iadd hx hb dL_law_564 ?_
  rw [nI_1 i]
  refine xa_sld hx hb hX hbl hbA hS (k := i + 1) (by omega) hL hp1 dL_law_565 ?_
  refine lv_aload_n hx hb dL_law_566 rfl (lv_at hl 1 rfl) ?_
  refine lv_iload hx hb dL_law_567 (lv_at hl 5 rfl) ?_
  refine lv_iconst (v := 2) hx hb dL_law_569 (by decide +kernel) ?_
  refine lv_iadd hx hb dL_law_570 ?_
  rw [nI_p2 i]
  refine xa_sld hx hb hX hbl hbA hS (k := i + 2) (by omega) hL hp2 dL_law_571 ?_
  have hPc := hP.sub (ws' := [(m0, eM m1 m2 th (r1 + r2) kn), (m1, eMR true mc1 a1), (mc1, eA cy f1), (m2, eMR false mc2 a2), (mc2, eA cy f2)]) [10, 11, 12, 13, 14] rfl
  have hDc := hD.sub (ws' := [(m0, eM m1 m2 th (r1 + r2) kn), (m1, eMR true mc1 a1), (mc1, eA cy f1), (m2, eMR false mc2 a2), (mc2, eA cy f2)]) [10, 11, 12, 13, 14] (by decide +kernel) rfl
  have hKc := hK.sub (tys' := [(cy, .long)]) [0] rfl
  have hFc := va_free (wc := [(m0, eM m1 m2 th (r1 + r2) kn), (m1, eMR true mc1 a1), (mc1, eA cy f1), (m2, eMR false mc2 a2), (mc2, eA cy f2)]) hD hS hA [10, 11, 12, 13, 14] rfl
  refine va_calli (va_runV (As := [.int p1, .int p2]) (rest := []) ⟨hx, hb, hml, hown, hts⟩ (k_X5_wideSwap l dC dI cy m0 m1 mc1 m2 mc2 a1 f1 a2 f2 th (r1 + r2) kn H.size N p1 p2) (cwV 2 hts gL_law_X5_wideSwap rfl rfl rfl (by decide +kernel) ⟨Nat.le_of_ble_eq_true rfl, Nat.le_of_ble_eq_true rfl⟩) (xM.preV hKc hPc hDc hAN (Nat.le_trans hN hS.1) (hG.kept hS hAN) (ci := 7) (q0 := 0) rfl rfl) rfl rfl hl.1 rfl (lv_room (Nat.le_of_ble_eq_true rfl)) dL_law_572 ⟨(show _ ≤ 716141 by omega), (show _ ≤ 6947682 by omega)⟩) hS (fun q _ h => hFc q h) hFc (fun r_2 u t H locs ht hvm hw hB hz hk hS => ?_)
  replace hw : r_2 = (o_X5_wideSwap a1 f1 p1 p2).1 := hw
  subst r_2
  obtain ⟨hP1, hD1⟩ := hB
  rw [ht] at hP1
  obtain ⟨hP, hD⟩ := va_join (wr := [(h0, eE h1 h2 kn), (h1, eR hw1 hc1 hb1 (o_L_wideSwap a1 f1 nv p1 p2).2.1 r1), (hw1, eW true), (hc1, eA cy (o_L_wideSwap a1 f1 nv p1 p2).2.2.1), (hb1, eA cy g1), (h2, eR hw2 hc2 hb2 a2 r2), (hw2, eW false), (hc2, eA cy f2), (hb2, eA cy g2), (ho, eO (o_L_wideSwap a1 f1 nv p1 p2).2.2.2 sv)]) (w1 := [(m0, eM m1 m2 (o_X5_wideSwap a1 f1 p1 p2).2.2.2 (r1 + r2) kn), (m1, eMR true mc1 (o_X5_wideSwap a1 f1 p1 p2).2.1), (mc1, eA cy (o_X5_wideSwap a1 f1 p1 p2).2.2.1), (m2, eMR false mc2 a2), (mc2, eA cy f2)]) hP hD [10, 11, 12, 13, 14] [0, 1, 2, 3, 4, 5, 6, 7, 8, 9] rfl rfl (by decide +kernel) (by decide +kernel) hk hFc hP1 hD1
  have hP := hP.sub (ws' := [(h0, eE h1 h2 kn), (h1, eR hw1 hc1 hb1 (o_L_wideSwap a1 f1 nv p1 p2).2.1 r1), (hw1, eW true), (hc1, eA cy (o_L_wideSwap a1 f1 nv p1 p2).2.2.1), (hb1, eA cy g1), (h2, eR hw2 hc2 hb2 a2 r2), (hw2, eW false), (hc2, eA cy f2), (hb2, eA cy g2), (ho, eO (o_L_wideSwap a1 f1 nv p1 p2).2.2.2 sv), (m0, eM m1 m2 (o_X5_wideSwap a1 f1 p1 p2).2.2.2 (r1 + r2) kn), (m1, eMR true mc1 (o_X5_wideSwap a1 f1 p1 p2).2.1), (mc1, eA cy (o_X5_wideSwap a1 f1 p1 p2).2.2.1), (m2, eMR false mc2 a2), (mc2, eA cy f2)]) [0, 1, 2, 3, 4, 5, 6, 7, 8, 9, 10, 11, 12, 13, 14] rfl
  have hD := hD.sub (ws' := [(h0, eE h1 h2 kn), (h1, eR hw1 hc1 hb1 (o_L_wideSwap a1 f1 nv p1 p2).2.1 r1), (hw1, eW true), (hc1, eA cy (o_L_wideSwap a1 f1 nv p1 p2).2.2.1), (hb1, eA cy g1), (h2, eR hw2 hc2 hb2 a2 r2), (hw2, eW false), (hc2, eA cy f2), (hb2, eA cy g2), (ho, eO (o_L_wideSwap a1 f1 nv p1 p2).2.2.2 sv), (m0, eM m1 m2 (o_X5_wideSwap a1 f1 p1 p2).2.2.2 (r1 + r2) kn), (m1, eMR true mc1 (o_X5_wideSwap a1 f1 p1 p2).2.1), (mc1, eA cy (o_X5_wideSwap a1 f1 p1 p2).2.2.1), (m2, eMR false mc2 a2), (mc2, eA cy f2)]) [0, 1, 2, 3, 4, 5, 6, 7, 8, 9, 10, 11, 12, 13, 14] (by decide +kernel) rfl
  refine lv_istore (lv' := [(6, .int ((o_X5_wideSwap a1 f1 p1 p2).1)), (5, .int ((o_L_wideSwap a1 f1 nv p1 p2).1)), (0, .ref b), (1, .ref h0), (2, .ref m0), (3, .ref ho), (4, .int (nI i))]) hx hb dL_law_575 hl (by decide +kernel) rfl (fun ls hl => ?_)
  refine lv_aload_n hx hb dL_law_577 rfl (lv_at hl 4 rfl) ?_
  have hPc := hP.sub (ws' := [(m0, eM m1 m2 (o_X5_wideSwap a1 f1 p1 p2).2.2.2 (r1 + r2) kn)]) [10] rfl
  have hKc := hK.sub (tys' := []) [] rfl
  refine va_calli (va_runV (As := []) (rest := []) ⟨hx, hb, hml, hown, hts⟩ (k_X5_thrown l dC dI m0 m1 m2 ((o_X5_wideSwap a1 f1 p1 p2).2.2.2) (r1 + r2) kn H.size) (cwV 0 hts gL_law_X5_thrown rfl rfl rfl (by decide +kernel) ⟨Nat.le_of_ble_eq_true rfl, Nat.le_of_ble_eq_true rfl⟩) (xB.preV hKc hPc (ci := 7) (q0 := 0) rfl rfl) rfl rfl hl.1 rfl (lv_room (Nat.le_of_ble_eq_true rfl)) dL_law_578 ⟨(show _ ≤ 716141 by omega), (show _ ≤ 6947682 by omega)⟩) hS xA_old (fun q h => hA q (Nat.le_trans hS.1 h)) (fun r_3 u t H locs ht hvm hw hB hz hk hS => ?_)
  replace hw : r_3 = (o_X5_thrown ((o_X5_wideSwap a1 f1 p1 p2).2.2.2)) := hw
  subst r_3
  have hP := xP_keep hP hk
  refine lv_iload hx hb dL_law_581 (lv_at hl 1 rfl) ?_
  refine lv_icmp_eq (tgt := 588) hx hb dL_law_583 (by decide +kernel) (fun c9 => ?_) (fun c9 => absurd (show o_X5_thrown _ = _ from (qx_wideSwap).symm) c9)
  refine lv_iload hx hb dL_law_588 (lv_at hl 1 rfl) ?_
  refine lv_if_ne (tgt := 606) hx hb dL_law_590 (by decide +kernel) (fun c_4 => ?_) (fun c_4 => ?_)
  · skip
    refine lv_goto (tgt := 3660) hx hb dL_law_606 (by decide +kernel) ?_
    refine W.widen (k := cells + 760) (n := slots + 4500) (by omega) (by omega) ?_
    have qe_b1 : (o_X5_wideSwap a1 f1 p1 p2).2.1 = (o_L_wideSwap a1 f1 nv p1 p2).2.1 := (by have hm := ml_wideSwap a1 nv p1 p2 hka1; rw [hm.1] <;> rfl)
    have qe_e1 : (o_X5_wideSwap a1 f1 p1 p2).2.2.1 = (o_L_wideSwap a1 f1 nv p1 p2).2.2.1 := (by have hm := ml_wideSwap a1 nv p1 p2 hka1; rw [hm.1] <;> rfl)
    have qk_1 : okA true ((o_L_wideSwap a1 f1 nv p1 p2).2.2.1) := (by have hm := ml_wideSwap a1 nv p1 p2 hka1; rw [hm.1]; exact hm.2)
    exact K ((o_L_wideSwap a1 f1 nv p1 p2).2.1) r1 ((o_L_wideSwap a1 f1 nv p1 p2).2.2.1) g1 a2 r2 f2 g2 kn ((o_L_wideSwap a1 f1 nv p1 p2).2.2.2) sv ((o_X5_wideSwap a1 f1 p1 p2).2.2.2) ((o_X5_wideSwap a1 f1 p1 p2).2.1) ((o_X5_wideSwap a1 f1 p1 p2).2.2.1) a2 f2 (r1 + r2) kn _ _ _ qe_b1 qe_e1 rfl rfl rfl rfl qk_1 hka2 hP hD hS (lv_sub hl [2, 3, 4, 5, 6] rfl)
  · skip
    refine lv_aload_n hx hb dL_law_593 rfl (lv_at hl 5 rfl) ?_
    refine va_getN (D := (dC, dI)) (ci := 5) (v := .long ((o_L_wideSwap a1 f1 nv p1 p2).2.2.2)) (C := RX3) (T := TX3) (N := 2) hx hb hts (by decide +kernel) hown hK hP 9 rfl rfl 0 (by decide +kernel) (va_Nw.use rfl (hG.1 (.fieldLinkNest RL 13 "EdgefloatsLaw$Out" "n" "J" RL) (List.mem_of_getElem? (i := 6) rfl))) (fun _ h9 => h9) rfl dL_law_594 ?_
    refine lv_iload hx hb dL_law_597 (lv_at hl 0 rfl) ?_
    refine lv_i2l (v := (((o_X5_wideSwap a1 f1 p1 p2).1).toInt64)) hx hb dL_law_599 rfl ?_
    refine xc_eq (tgt := 606) hx hb dL_law_600 dL_law_601 (by decide +kernel) (fun c9 => ?_) (fun c9 => absurd ((qn_wideSwap).trans (if_pos ((qx_wideSwap).symm.trans c_4))) c9)
    refine lv_goto (tgt := 3660) hx hb dL_law_606 (by decide +kernel) ?_
    refine W.widen (k := cells + 760) (n := slots + 4500) (by omega) (by omega) ?_
    have qe_b1 : (o_X5_wideSwap a1 f1 p1 p2).2.1 = (o_L_wideSwap a1 f1 nv p1 p2).2.1 := (by have hm := ml_wideSwap a1 nv p1 p2 hka1; rw [hm.1] <;> rfl)
    have qe_e1 : (o_X5_wideSwap a1 f1 p1 p2).2.2.1 = (o_L_wideSwap a1 f1 nv p1 p2).2.2.1 := (by have hm := ml_wideSwap a1 nv p1 p2 hka1; rw [hm.1] <;> rfl)
    have qk_1 : okA true ((o_L_wideSwap a1 f1 nv p1 p2).2.2.1) := (by have hm := ml_wideSwap a1 nv p1 p2 hka1; rw [hm.1]; exact hm.2)
    exact K ((o_L_wideSwap a1 f1 nv p1 p2).2.1) r1 ((o_L_wideSwap a1 f1 nv p1 p2).2.2.1) g1 a2 r2 f2 g2 kn ((o_L_wideSwap a1 f1 nv p1 p2).2.2.2) sv ((o_X5_wideSwap a1 f1 p1 p2).2.2.2) ((o_X5_wideSwap a1 f1 p1 p2).2.1) ((o_X5_wideSwap a1 f1 p1 p2).2.2.1) a2 f2 (r1 + r2) kn _ _ _ qe_b1 qe_e1 rfl rfl rfl rfl qk_1 hka2 hP hD hS (lv_sub hl [2, 3, 4, 5, 6] rfl)
set_option maxHeartbeats 4000000 in
set_option maxRecDepth 100000 in
theorem st_5 (l : Launch) (p : Program) (e : Env) (s : State) (m : MethodId) (below : List Frame) (meth : Method) (c : Code) (b L N : Nat) (xs : Nat → Int32) (A : Nat → Prop) (dC : Nat → ClassId) (dI : Nat → Nat → Nat) (cy cB : ClassId) (h0 h1 hw1 hc1 hb1 h2 hw2 hc2 hb2 ho m0 m1 mc1 m2 mc2 : Nat) (C0 : lw_C l p e s m below meth c b L N xs A dC dI cy cB) (i : Nat) (hi : i + 4 ≤ L) (p1 p2 p3 : Int32) (hp1 : xs (i + 1) = p1) (hp2 : xs (i + 2) = p2) (hp3 : xs (i + 3) = p3) (cells slots : Nat) (hcs : cells + 760 ≤ 716141) (hss : slots + 4500 ≤ 6947682) (K : lw_K l p e s m below meth c b L N xs A dC dI cy cB h0 h1 hw1 hc1 hb1 h2 hw2 hc2 hb2 ho m0 m1 mc1 m2 mc2 i (cells + 760) (slots + 4500) 3660) (a1 : Int32) (r1 : Int32) (f1 : Nat → Int64) (g1 : Nat → Int64) (a2 : Int32) (r2 : Int32) (f2 : Nat → Int64) (g2 : Nat → Int64) (kn : Int32) (nv : Int64) (sv : Value) (th : Int32) (H : Heap) (locs : List Loc) (ls : Array Slot) (hka1 : okA true f1) (hka2 : okA false f2) (hP : va_P (dC, dI) xCl [(h0, eE h1 h2 kn), (h1, eR hw1 hc1 hb1 a1 r1), (hw1, eW true), (hc1, eA cy f1), (hb1, eA cy g1), (h2, eR hw2 hc2 hb2 a2 r2), (hw2, eW false), (hc2, eA cy f2), (hb2, eA cy g2), (ho, eO nv sv), (m0, eM m1 m2 th (r1 + r2) kn), (m1, eMR true mc1 a1), (mc1, eA cy f1), (m2, eMR false mc2 a2), (mc2, eA cy f2)] H) (hD : va_D A [(h0, eE h1 h2 kn), (h1, eR hw1 hc1 hb1 a1 r1), (hw1, eW true), (hc1, eA cy f1), (hb1, eA cy g1), (h2, eR hw2 hc2 hb2 a2 r2), (hw2, eW false), (hc2, eA cy f2), (hb2, eA cy g2), (ho, eO nv sv), (m0, eM m1 m2 th (r1 + r2) kn), (m1, eMR true mc1 a1), (mc1, eA cy f1), (m2, eMR false mc2 a2), (mc2, eA cy f2)]) (hS : va_S A s.heap H locs) (hl : lv_has ls 7 [(0, .ref b), (1, .ref h0), (2, .ref m0), (3, .ref ho), (4, .int (nI i))]) : W p l e room_1 s m #[Value.ref b] below meth c H locs cells slots (lw_Z below #[Value.ref b] s) (F0 m 609 ls []) := by
  obtain ⟨hfl, hx, hb, hr, hml, hown, hts, hX, hbl, hbA, hlocks, hK, hG, hnc, hA, hAN, hN, hL, hT, hNs⟩ := id C0
  have hok2 := me_okF hka2
  have hsp1 : ∀ k, k < 8 → o_X1_isSpoiled true (f1 k) = false := fun k hk => (hka1 k hk).2
  have hsp2 : ∀ k, k < 8 → o_X1_isSpoiled false (f2 k) = false := fun k hk => (hka2 k hk).2
  have qx_wideMax : (o_L_wideMax a1 f1 nv p1 p2 p3).1 = (o_X5_wideMax a1 f1 p1 p2 p3).2.2.2 := by have hm := ml_wideMax a1 nv p1 p2 p3 hka1; rw [hm.1] <;> rfl
  have qn_wideMax : (o_L_wideMax a1 f1 nv p1 p2 p3).2.2.2 = if (o_X5_wideMax a1 f1 p1 p2 p3).2.2.2 = 0 then ((o_X5_wideMax a1 f1 p1 p2 p3).1).toInt64 else nv := by have hm := ml_wideMax a1 nv p1 p2 p3 hka1; rw [hm.1] <;> rfl
  refine lv_aload_n hx hb dL_law_609 rfl (lv_at hl 1 rfl) ?_
  refine lv_aload_n hx hb dL_law_610 rfl (lv_at hl 0 rfl) ?_
  refine lv_iload hx hb dL_law_611 (lv_at hl 4 rfl) ?_
  refine lv_iconst (v := 1) hx hb dL_law_613 (by decide +kernel) ?_
  refine lv_iadd hx hb dL_law_614 ?_
  rw [nI_1 i]
  refine xa_sld hx hb hX hbl hbA hS (k := i + 1) (by omega) hL hp1 dL_law_615 ?_
  refine lv_aload_n hx hb dL_law_616 rfl (lv_at hl 0 rfl) ?_
  refine lv_iload hx hb dL_law_617 (lv_at hl 4 rfl) ?_
  refine lv_iconst (v := 2) hx hb dL_law_619 (by decide +kernel) ?_
  refine lv_iadd hx hb dL_law_620 ?_
  rw [nI_p2 i]
  refine xa_sld hx hb hX hbl hbA hS (k := i + 2) (by omega) hL hp2 dL_law_621 ?_
  refine lv_aload_n hx hb dL_law_622 rfl (lv_at hl 0 rfl) ?_
  refine lv_iload hx hb dL_law_623 (lv_at hl 4 rfl) ?_
  refine lv_iconst (v := 3) hx hb dL_law_625 (by decide +kernel) ?_
  refine lv_iadd hx hb dL_law_626 ?_
  rw [nI_p3 i]
  refine xa_sld hx hb hX hbl hbA hS (k := i + 3) (by omega) hL hp3 dL_law_627 ?_
  refine lv_aload_n hx hb dL_law_628 rfl (lv_at hl 3 rfl) ?_
  have hPc := hP.sub (ws' := [(h0, eE h1 h2 kn), (h1, eR hw1 hc1 hb1 a1 r1), (hw1, eW true), (hc1, eA cy f1), (hb1, eA cy g1), (h2, eR hw2 hc2 hb2 a2 r2), (hw2, eW false), (hc2, eA cy f2), (hb2, eA cy g2), (ho, eO nv sv)]) [0, 1, 2, 3, 4, 5, 6, 7, 8, 9] rfl
  have hDc := hD.sub (ws' := [(h0, eE h1 h2 kn), (h1, eR hw1 hc1 hb1 a1 r1), (hw1, eW true), (hc1, eA cy f1), (hb1, eA cy g1), (h2, eR hw2 hc2 hb2 a2 r2), (hw2, eW false), (hc2, eA cy f2), (hb2, eA cy g2), (ho, eO nv sv)]) [0, 1, 2, 3, 4, 5, 6, 7, 8, 9] (by decide +kernel) rfl
  have hKc := hK.sub (tys' := [(cy, .long)]) [0] rfl
  have hFc := va_free (wc := [(h0, eE h1 h2 kn), (h1, eR hw1 hc1 hb1 a1 r1), (hw1, eW true), (hc1, eA cy f1), (hb1, eA cy g1), (h2, eR hw2 hc2 hb2 a2 r2), (hw2, eW false), (hc2, eA cy f2), (hb2, eA cy g2), (ho, eO nv sv)]) hD hS hA [0, 1, 2, 3, 4, 5, 6, 7, 8, 9] rfl
  refine va_calli (vx_runSW (As := [.ref h0, .int p1, .int p2, .int p3, .ref ho]) (rest := []) ⟨hx, hb, hml, hown, hts⟩ (k_L_wideMax l hfl dC dI cy h0 h1 hw1 hc1 hb1 h2 hw2 hc2 hb2 a1 r1 f1 g1 a2 r2 f2 g2 kn ho nv sv H.size N p1 p2 p3) (vx_cwSW 5 hts gL_law_L_wideMax rfl rfl rfl (by decide +kernel) ⟨Nat.le_of_ble_eq_true rfl, Nat.le_of_ble_eq_true rfl⟩) (xL.preS hKc hPc hDc hAN (Nat.le_trans hN hS.1) (hG.kept hS hAN) hnc) rfl rfl hl.1 rfl (lv_room (Nat.le_of_ble_eq_true rfl)) dL_law_629 ⟨(show _ ≤ 716141 by omega), (show _ ≤ 6947682 by omega)⟩) hS (fun q _ h => hFc q h) hFc (fun r_1 u t H locs ht hvm hw hB hz hk hS => ?_)
  replace hw : r_1 = (o_L_wideMax a1 f1 nv p1 p2 p3).1 := hw
  subst r_1
  obtain ⟨hP1, hD1⟩ := hB
  rw [ht] at hP1
  obtain ⟨hP, hD⟩ := va_join (wr := [(m0, eM m1 m2 th (r1 + r2) kn), (m1, eMR true mc1 a1), (mc1, eA cy f1), (m2, eMR false mc2 a2), (mc2, eA cy f2)]) (w1 := [(h0, eE h1 h2 kn), (h1, eR hw1 hc1 hb1 (o_L_wideMax a1 f1 nv p1 p2 p3).2.1 r1), (hw1, eW true), (hc1, eA cy (o_L_wideMax a1 f1 nv p1 p2 p3).2.2.1), (hb1, eA cy g1), (h2, eR hw2 hc2 hb2 a2 r2), (hw2, eW false), (hc2, eA cy f2), (hb2, eA cy g2), (ho, eO (o_L_wideMax a1 f1 nv p1 p2 p3).2.2.2 sv)]) hP hD [0, 1, 2, 3, 4, 5, 6, 7, 8, 9] [10, 11, 12, 13, 14] rfl rfl (by decide +kernel) (by decide +kernel) hk hFc hP1 hD1
  have hP := hP.sub (ws' := [(h0, eE h1 h2 kn), (h1, eR hw1 hc1 hb1 (o_L_wideMax a1 f1 nv p1 p2 p3).2.1 r1), (hw1, eW true), (hc1, eA cy (o_L_wideMax a1 f1 nv p1 p2 p3).2.2.1), (hb1, eA cy g1), (h2, eR hw2 hc2 hb2 a2 r2), (hw2, eW false), (hc2, eA cy f2), (hb2, eA cy g2), (ho, eO (o_L_wideMax a1 f1 nv p1 p2 p3).2.2.2 sv), (m0, eM m1 m2 th (r1 + r2) kn), (m1, eMR true mc1 a1), (mc1, eA cy f1), (m2, eMR false mc2 a2), (mc2, eA cy f2)]) [5, 6, 7, 8, 9, 10, 11, 12, 13, 14, 0, 1, 2, 3, 4] rfl
  have hD := hD.sub (ws' := [(h0, eE h1 h2 kn), (h1, eR hw1 hc1 hb1 (o_L_wideMax a1 f1 nv p1 p2 p3).2.1 r1), (hw1, eW true), (hc1, eA cy (o_L_wideMax a1 f1 nv p1 p2 p3).2.2.1), (hb1, eA cy g1), (h2, eR hw2 hc2 hb2 a2 r2), (hw2, eW false), (hc2, eA cy f2), (hb2, eA cy g2), (ho, eO (o_L_wideMax a1 f1 nv p1 p2 p3).2.2.2 sv), (m0, eM m1 m2 th (r1 + r2) kn), (m1, eMR true mc1 a1), (mc1, eA cy f1), (m2, eMR false mc2 a2), (mc2, eA cy f2)]) [5, 6, 7, 8, 9, 10, 11, 12, 13, 14, 0, 1, 2, 3, 4] (by decide +kernel) rfl
  refine lv_istore (lv' := [(5, .int ((o_L_wideMax a1 f1 nv p1 p2 p3).1)), (0, .ref b), (1, .ref h0), (2, .ref m0), (3, .ref ho), (4, .int (nI i))]) hx hb dL_law_632 hl (by decide +kernel) rfl (fun ls hl => ?_)
  refine lv_aload_n hx hb dL_law_634 rfl (lv_at hl 3 rfl) ?_
  refine lv_aload_n hx hb dL_law_635 rfl (lv_at hl 1 rfl) ?_
  refine lv_iload hx hb dL_law_636 (lv_at hl 5 rfl) ?_
  refine lv_iconst (v := 1) hx hb dL_law_638 (by decide +kernel) ?_
  refine lv_iadd hx hb dL_law_639 ?_
  rw [nI_1 i]
  refine xa_sld hx hb hX hbl hbA hS (k := i + 1) (by omega) hL hp1 dL_law_640 ?_
  refine lv_aload_n hx hb dL_law_641 rfl (lv_at hl 1 rfl) ?_
  refine lv_iload hx hb dL_law_642 (lv_at hl 5 rfl) ?_
  refine lv_iconst (v := 2) hx hb dL_law_644 (by decide +kernel) ?_
  refine lv_iadd hx hb dL_law_645 ?_
  rw [nI_p2 i]
  refine xa_sld hx hb hX hbl hbA hS (k := i + 2) (by omega) hL hp2 dL_law_646 ?_
  refine lv_aload_n hx hb dL_law_647 rfl (lv_at hl 1 rfl) ?_
  refine lv_iload hx hb dL_law_648 (lv_at hl 5 rfl) ?_
  refine lv_iconst (v := 3) hx hb dL_law_650 (by decide +kernel) ?_
  refine lv_iadd hx hb dL_law_651 ?_
  rw [nI_p3 i]
  refine xa_sld hx hb hX hbl hbA hS (k := i + 3) (by omega) hL hp3 dL_law_652 ?_
  have hPc := hP.sub (ws' := [(m0, eM m1 m2 th (r1 + r2) kn), (m1, eMR true mc1 a1), (mc1, eA cy f1), (m2, eMR false mc2 a2), (mc2, eA cy f2)]) [10, 11, 12, 13, 14] rfl
  have hDc := hD.sub (ws' := [(m0, eM m1 m2 th (r1 + r2) kn), (m1, eMR true mc1 a1), (mc1, eA cy f1), (m2, eMR false mc2 a2), (mc2, eA cy f2)]) [10, 11, 12, 13, 14] (by decide +kernel) rfl
  have hKc := hK.sub (tys' := [(cy, .long)]) [0] rfl
  have hFc := va_free (wc := [(m0, eM m1 m2 th (r1 + r2) kn), (m1, eMR true mc1 a1), (mc1, eA cy f1), (m2, eMR false mc2 a2), (mc2, eA cy f2)]) hD hS hA [10, 11, 12, 13, 14] rfl
  refine va_calli (va_runV (As := [.int p1, .int p2, .int p3]) (rest := []) ⟨hx, hb, hml, hown, hts⟩ (k_X5_wideMax l dC dI cy m0 m1 mc1 m2 mc2 a1 f1 a2 f2 th (r1 + r2) kn H.size N p1 p2 p3) (cwV 3 hts gL_law_X5_wideMax rfl rfl rfl (by decide +kernel) ⟨Nat.le_of_ble_eq_true rfl, Nat.le_of_ble_eq_true rfl⟩) (xM.preV hKc hPc hDc hAN (Nat.le_trans hN hS.1) (hG.kept hS hAN) (ci := 7) (q0 := 0) rfl rfl) rfl rfl hl.1 rfl (lv_room (Nat.le_of_ble_eq_true rfl)) dL_law_653 ⟨(show _ ≤ 716141 by omega), (show _ ≤ 6947682 by omega)⟩) hS (fun q _ h => hFc q h) hFc (fun r_2 u t H locs ht hvm hw hB hz hk hS => ?_)
  replace hw : r_2 = (o_X5_wideMax a1 f1 p1 p2 p3).1 := hw
  subst r_2
  obtain ⟨hP1, hD1⟩ := hB
  rw [ht] at hP1
  obtain ⟨hP, hD⟩ := va_join (wr := [(h0, eE h1 h2 kn), (h1, eR hw1 hc1 hb1 (o_L_wideMax a1 f1 nv p1 p2 p3).2.1 r1), (hw1, eW true), (hc1, eA cy (o_L_wideMax a1 f1 nv p1 p2 p3).2.2.1), (hb1, eA cy g1), (h2, eR hw2 hc2 hb2 a2 r2), (hw2, eW false), (hc2, eA cy f2), (hb2, eA cy g2), (ho, eO (o_L_wideMax a1 f1 nv p1 p2 p3).2.2.2 sv)]) (w1 := [(m0, eM m1 m2 (o_X5_wideMax a1 f1 p1 p2 p3).2.2.2 (r1 + r2) kn), (m1, eMR true mc1 (o_X5_wideMax a1 f1 p1 p2 p3).2.1), (mc1, eA cy (o_X5_wideMax a1 f1 p1 p2 p3).2.2.1), (m2, eMR false mc2 a2), (mc2, eA cy f2)]) hP hD [10, 11, 12, 13, 14] [0, 1, 2, 3, 4, 5, 6, 7, 8, 9] rfl rfl (by decide +kernel) (by decide +kernel) hk hFc hP1 hD1
  have hP := hP.sub (ws' := [(h0, eE h1 h2 kn), (h1, eR hw1 hc1 hb1 (o_L_wideMax a1 f1 nv p1 p2 p3).2.1 r1), (hw1, eW true), (hc1, eA cy (o_L_wideMax a1 f1 nv p1 p2 p3).2.2.1), (hb1, eA cy g1), (h2, eR hw2 hc2 hb2 a2 r2), (hw2, eW false), (hc2, eA cy f2), (hb2, eA cy g2), (ho, eO (o_L_wideMax a1 f1 nv p1 p2 p3).2.2.2 sv), (m0, eM m1 m2 (o_X5_wideMax a1 f1 p1 p2 p3).2.2.2 (r1 + r2) kn), (m1, eMR true mc1 (o_X5_wideMax a1 f1 p1 p2 p3).2.1), (mc1, eA cy (o_X5_wideMax a1 f1 p1 p2 p3).2.2.1), (m2, eMR false mc2 a2), (mc2, eA cy f2)]) [0, 1, 2, 3, 4, 5, 6, 7, 8, 9, 10, 11, 12, 13, 14] rfl
  have hD := hD.sub (ws' := [(h0, eE h1 h2 kn), (h1, eR hw1 hc1 hb1 (o_L_wideMax a1 f1 nv p1 p2 p3).2.1 r1), (hw1, eW true), (hc1, eA cy (o_L_wideMax a1 f1 nv p1 p2 p3).2.2.1), (hb1, eA cy g1), (h2, eR hw2 hc2 hb2 a2 r2), (hw2, eW false), (hc2, eA cy f2), (hb2, eA cy g2), (ho, eO (o_L_wideMax a1 f1 nv p1 p2 p3).2.2.2 sv), (m0, eM m1 m2 (o_X5_wideMax a1 f1 p1 p2 p3).2.2.2 (r1 + r2) kn), (m1, eMR true mc1 (o_X5_wideMax a1 f1 p1 p2 p3).2.1), (mc1, eA cy (o_X5_wideMax a1 f1 p1 p2 p3).2.2.1), (m2, eMR false mc2 a2), (mc2, eA cy f2)]) [0, 1, 2, 3, 4, 5, 6, 7, 8, 9, 10, 11, 12, 13, 14] (by decide +kernel) rfl
  refine lv_istore (lv' := [(6, .int ((o_X5_wideMax a1 f1 p1 p2 p3).1)), (5, .int ((o_L_wideMax a1 f1 nv p1 p2 p3).1)), (0, .ref b), (1, .ref h0), (2, .ref m0), (3, .ref ho), (4, .int (nI i))]) hx hb dL_law_656 hl (by decide +kernel) rfl (fun ls hl => ?_)
  refine lv_aload_n hx hb dL_law_658 rfl (lv_at hl 4 rfl) ?_
  have hPc := hP.sub (ws' := [(m0, eM m1 m2 (o_X5_wideMax a1 f1 p1 p2 p3).2.2.2 (r1 + r2) kn)]) [10] rfl
  have hKc := hK.sub (tys' := []) [] rfl
  refine va_calli (va_runV (As := []) (rest := []) ⟨hx, hb, hml, hown, hts⟩ (k_X5_thrown l dC dI m0 m1 m2 ((o_X5_wideMax a1 f1 p1 p2 p3).2.2.2) (r1 + r2) kn H.size) (cwV 0 hts gL_law_X5_thrown rfl rfl rfl (by decide +kernel) ⟨Nat.le_of_ble_eq_true rfl, Nat.le_of_ble_eq_true rfl⟩) (xB.preV hKc hPc (ci := 7) (q0 := 0) rfl rfl) rfl rfl hl.1 rfl (lv_room (Nat.le_of_ble_eq_true rfl)) dL_law_659 ⟨(show _ ≤ 716141 by omega), (show _ ≤ 6947682 by omega)⟩) hS xA_old (fun q h => hA q (Nat.le_trans hS.1 h)) (fun r_3 u t H locs ht hvm hw hB hz hk hS => ?_)
  replace hw : r_3 = (o_X5_thrown ((o_X5_wideMax a1 f1 p1 p2 p3).2.2.2)) := hw
  subst r_3
  have hP := xP_keep hP hk
  refine lv_iload hx hb dL_law_662 (lv_at hl 1 rfl) ?_
  refine lv_icmp_eq (tgt := 669) hx hb dL_law_664 (by decide +kernel) (fun c9 => ?_) (fun c9 => absurd (show o_X5_thrown _ = _ from (qx_wideMax).symm) c9)
  refine lv_iload hx hb dL_law_669 (lv_at hl 1 rfl) ?_
  refine lv_if_ne (tgt := 687) hx hb dL_law_671 (by decide +kernel) (fun c_4 => ?_) (fun c_4 => ?_)
  · skip
    refine lv_goto (tgt := 3660) hx hb dL_law_687 (by decide +kernel) ?_
    refine W.widen (k := cells + 760) (n := slots + 4500) (by omega) (by omega) ?_
    have qe_b1 : (o_X5_wideMax a1 f1 p1 p2 p3).2.1 = (o_L_wideMax a1 f1 nv p1 p2 p3).2.1 := (by have hm := ml_wideMax a1 nv p1 p2 p3 hka1; rw [hm.1] <;> rfl)
    have qe_e1 : (o_X5_wideMax a1 f1 p1 p2 p3).2.2.1 = (o_L_wideMax a1 f1 nv p1 p2 p3).2.2.1 := (by have hm := ml_wideMax a1 nv p1 p2 p3 hka1; rw [hm.1] <;> rfl)
    have qk_1 : okA true ((o_L_wideMax a1 f1 nv p1 p2 p3).2.2.1) := (by have hm := ml_wideMax a1 nv p1 p2 p3 hka1; rw [hm.1]; exact hm.2)
    exact K ((o_L_wideMax a1 f1 nv p1 p2 p3).2.1) r1 ((o_L_wideMax a1 f1 nv p1 p2 p3).2.2.1) g1 a2 r2 f2 g2 kn ((o_L_wideMax a1 f1 nv p1 p2 p3).2.2.2) sv ((o_X5_wideMax a1 f1 p1 p2 p3).2.2.2) ((o_X5_wideMax a1 f1 p1 p2 p3).2.1) ((o_X5_wideMax a1 f1 p1 p2 p3).2.2.1) a2 f2 (r1 + r2) kn _ _ _ qe_b1 qe_e1 rfl rfl rfl rfl qk_1 hka2 hP hD hS (lv_sub hl [2, 3, 4, 5, 6] rfl)
  · skip
    refine lv_aload_n hx hb dL_law_674 rfl (lv_at hl 5 rfl) ?_
    refine va_getN (D := (dC, dI)) (ci := 5) (v := .long ((o_L_wideMax a1 f1 nv p1 p2 p3).2.2.2)) (C := RX3) (T := TX3) (N := 2) hx hb hts (by decide +kernel) hown hK hP 9 rfl rfl 0 (by decide +kernel) (va_Nw.use rfl (hG.1 (.fieldLinkNest RL 13 "EdgefloatsLaw$Out" "n" "J" RL) (List.mem_of_getElem? (i := 6) rfl))) (fun _ h9 => h9) rfl dL_law_675 ?_
    refine lv_iload hx hb dL_law_678 (lv_at hl 0 rfl) ?_
    refine lv_i2l (v := (((o_X5_wideMax a1 f1 p1 p2 p3).1).toInt64)) hx hb dL_law_680 rfl ?_
    refine xc_eq (tgt := 687) hx hb dL_law_681 dL_law_682 (by decide +kernel) (fun c9 => ?_) (fun c9 => absurd ((qn_wideMax).trans (if_pos ((qx_wideMax).symm.trans c_4))) c9)
    refine lv_goto (tgt := 3660) hx hb dL_law_687 (by decide +kernel) ?_
    refine W.widen (k := cells + 760) (n := slots + 4500) (by omega) (by omega) ?_
    have qe_b1 : (o_X5_wideMax a1 f1 p1 p2 p3).2.1 = (o_L_wideMax a1 f1 nv p1 p2 p3).2.1 := (by have hm := ml_wideMax a1 nv p1 p2 p3 hka1; rw [hm.1] <;> rfl)
    have qe_e1 : (o_X5_wideMax a1 f1 p1 p2 p3).2.2.1 = (o_L_wideMax a1 f1 nv p1 p2 p3).2.2.1 := (by have hm := ml_wideMax a1 nv p1 p2 p3 hka1; rw [hm.1] <;> rfl)
    have qk_1 : okA true ((o_L_wideMax a1 f1 nv p1 p2 p3).2.2.1) := (by have hm := ml_wideMax a1 nv p1 p2 p3 hka1; rw [hm.1]; exact hm.2)
    exact K ((o_L_wideMax a1 f1 nv p1 p2 p3).2.1) r1 ((o_L_wideMax a1 f1 nv p1 p2 p3).2.2.1) g1 a2 r2 f2 g2 kn ((o_L_wideMax a1 f1 nv p1 p2 p3).2.2.2) sv ((o_X5_wideMax a1 f1 p1 p2 p3).2.2.2) ((o_X5_wideMax a1 f1 p1 p2 p3).2.1) ((o_X5_wideMax a1 f1 p1 p2 p3).2.2.1) a2 f2 (r1 + r2) kn _ _ _ qe_b1 qe_e1 rfl rfl rfl rfl qk_1 hka2 hP hD hS (lv_sub hl [2, 3, 4, 5, 6] rfl)
set_option maxHeartbeats 4000000 in
set_option maxRecDepth 100000 in
theorem st_6 (l : Launch) (p : Program) (e : Env) (s : State) (m : MethodId) (below : List Frame) (meth : Method) (c : Code) (b L N : Nat) (xs : Nat → Int32) (A : Nat → Prop) (dC : Nat → ClassId) (dI : Nat → Nat → Nat) (cy cB : ClassId) (h0 h1 hw1 hc1 hb1 h2 hw2 hc2 hb2 ho m0 m1 mc1 m2 mc2 : Nat) (C0 : lw_C l p e s m below meth c b L N xs A dC dI cy cB) (i : Nat) (hi : i + 4 ≤ L) (p1 p2 p3 : Int32) (hp1 : xs (i + 1) = p1) (hp2 : xs (i + 2) = p2) (hp3 : xs (i + 3) = p3) (cells slots : Nat) (hcs : cells + 760 ≤ 716141) (hss : slots + 4500 ≤ 6947682) (K : lw_K l p e s m below meth c b L N xs A dC dI cy cB h0 h1 hw1 hc1 hb1 h2 hw2 hc2 hb2 ho m0 m1 mc1 m2 mc2 i (cells + 760) (slots + 4500) 3660) (a1 : Int32) (r1 : Int32) (f1 : Nat → Int64) (g1 : Nat → Int64) (a2 : Int32) (r2 : Int32) (f2 : Nat → Int64) (g2 : Nat → Int64) (kn : Int32) (nv : Int64) (sv : Value) (th : Int32) (H : Heap) (locs : List Loc) (ls : Array Slot) (hka1 : okA true f1) (hka2 : okA false f2) (hP : va_P (dC, dI) xCl [(h0, eE h1 h2 kn), (h1, eR hw1 hc1 hb1 a1 r1), (hw1, eW true), (hc1, eA cy f1), (hb1, eA cy g1), (h2, eR hw2 hc2 hb2 a2 r2), (hw2, eW false), (hc2, eA cy f2), (hb2, eA cy g2), (ho, eO nv sv), (m0, eM m1 m2 th (r1 + r2) kn), (m1, eMR true mc1 a1), (mc1, eA cy f1), (m2, eMR false mc2 a2), (mc2, eA cy f2)] H) (hD : va_D A [(h0, eE h1 h2 kn), (h1, eR hw1 hc1 hb1 a1 r1), (hw1, eW true), (hc1, eA cy f1), (hb1, eA cy g1), (h2, eR hw2 hc2 hb2 a2 r2), (hw2, eW false), (hc2, eA cy f2), (hb2, eA cy g2), (ho, eO nv sv), (m0, eM m1 m2 th (r1 + r2) kn), (m1, eMR true mc1 a1), (mc1, eA cy f1), (m2, eMR false mc2 a2), (mc2, eA cy f2)]) (hS : va_S A s.heap H locs) (hl : lv_has ls 7 [(0, .ref b), (1, .ref h0), (2, .ref m0), (3, .ref ho), (4, .int (nI i))]) : W p l e room_1 s m #[Value.ref b] below meth c H locs cells slots (lw_Z below #[Value.ref b] s) (F0 m 690 ls []) := by
  obtain ⟨hfl, hx, hb, hr, hml, hown, hts, hX, hbl, hbA, hlocks, hK, hG, hnc, hA, hAN, hN, hL, hT, hNs⟩ := id C0
  have hok2 := me_okF hka2
  have hsp1 : ∀ k, k < 8 → o_X1_isSpoiled true (f1 k) = false := fun k hk => (hka1 k hk).2
  have hsp2 : ∀ k, k < 8 → o_X1_isSpoiled false (f2 k) = false := fun k hk => (hka2 k hk).2
  have qx_wideMin : (o_L_wideMin a1 f1 nv p1 p2 p3).1 = (o_X5_wideMin a1 f1 p1 p2 p3).2.2.2 := by have hm := ml_wideMin a1 nv p1 p2 p3 hka1; rw [hm.1] <;> rfl
  have qn_wideMin : (o_L_wideMin a1 f1 nv p1 p2 p3).2.2.2 = if (o_X5_wideMin a1 f1 p1 p2 p3).2.2.2 = 0 then ((o_X5_wideMin a1 f1 p1 p2 p3).1).toInt64 else nv := by have hm := ml_wideMin a1 nv p1 p2 p3 hka1; rw [hm.1] <;> rfl
  refine lv_aload_n hx hb dL_law_690 rfl (lv_at hl 1 rfl) ?_
  refine lv_aload_n hx hb dL_law_691 rfl (lv_at hl 0 rfl) ?_
  refine lv_iload hx hb dL_law_692 (lv_at hl 4 rfl) ?_
  refine lv_iconst (v := 1) hx hb dL_law_694 (by decide +kernel) ?_
  refine lv_iadd hx hb dL_law_695 ?_
  rw [nI_1 i]
  refine xa_sld hx hb hX hbl hbA hS (k := i + 1) (by omega) hL hp1 dL_law_696 ?_
  refine lv_aload_n hx hb dL_law_697 rfl (lv_at hl 0 rfl) ?_
  refine lv_iload hx hb dL_law_698 (lv_at hl 4 rfl) ?_
  refine lv_iconst (v := 2) hx hb dL_law_700 (by decide +kernel) ?_
  refine lv_iadd hx hb dL_law_701 ?_
  rw [nI_p2 i]
  refine xa_sld hx hb hX hbl hbA hS (k := i + 2) (by omega) hL hp2 dL_law_702 ?_
  refine lv_aload_n hx hb dL_law_703 rfl (lv_at hl 0 rfl) ?_
  refine lv_iload hx hb dL_law_704 (lv_at hl 4 rfl) ?_
  refine lv_iconst (v := 3) hx hb dL_law_706 (by decide +kernel) ?_
  refine lv_iadd hx hb dL_law_707 ?_
  rw [nI_p3 i]
  refine xa_sld hx hb hX hbl hbA hS (k := i + 3) (by omega) hL hp3 dL_law_708 ?_
  refine lv_aload_n hx hb dL_law_709 rfl (lv_at hl 3 rfl) ?_
  have hPc := hP.sub (ws' := [(h0, eE h1 h2 kn), (h1, eR hw1 hc1 hb1 a1 r1), (hw1, eW true), (hc1, eA cy f1), (hb1, eA cy g1), (h2, eR hw2 hc2 hb2 a2 r2), (hw2, eW false), (hc2, eA cy f2), (hb2, eA cy g2), (ho, eO nv sv)]) [0, 1, 2, 3, 4, 5, 6, 7, 8, 9] rfl
  have hDc := hD.sub (ws' := [(h0, eE h1 h2 kn), (h1, eR hw1 hc1 hb1 a1 r1), (hw1, eW true), (hc1, eA cy f1), (hb1, eA cy g1), (h2, eR hw2 hc2 hb2 a2 r2), (hw2, eW false), (hc2, eA cy f2), (hb2, eA cy g2), (ho, eO nv sv)]) [0, 1, 2, 3, 4, 5, 6, 7, 8, 9] (by decide +kernel) rfl
  have hKc := hK.sub (tys' := [(cy, .long)]) [0] rfl
  have hFc := va_free (wc := [(h0, eE h1 h2 kn), (h1, eR hw1 hc1 hb1 a1 r1), (hw1, eW true), (hc1, eA cy f1), (hb1, eA cy g1), (h2, eR hw2 hc2 hb2 a2 r2), (hw2, eW false), (hc2, eA cy f2), (hb2, eA cy g2), (ho, eO nv sv)]) hD hS hA [0, 1, 2, 3, 4, 5, 6, 7, 8, 9] rfl
  refine va_calli (vx_runSW (As := [.ref h0, .int p1, .int p2, .int p3, .ref ho]) (rest := []) ⟨hx, hb, hml, hown, hts⟩ (k_L_wideMin l hfl dC dI cy h0 h1 hw1 hc1 hb1 h2 hw2 hc2 hb2 a1 r1 f1 g1 a2 r2 f2 g2 kn ho nv sv H.size N p1 p2 p3) (vx_cwSW 5 hts gL_law_L_wideMin rfl rfl rfl (by decide +kernel) ⟨Nat.le_of_ble_eq_true rfl, Nat.le_of_ble_eq_true rfl⟩) (xL.preS hKc hPc hDc hAN (Nat.le_trans hN hS.1) (hG.kept hS hAN) hnc) rfl rfl hl.1 rfl (lv_room (Nat.le_of_ble_eq_true rfl)) dL_law_710 ⟨(show _ ≤ 716141 by omega), (show _ ≤ 6947682 by omega)⟩) hS (fun q _ h => hFc q h) hFc (fun r_1 u t H locs ht hvm hw hB hz hk hS => ?_)
  replace hw : r_1 = (o_L_wideMin a1 f1 nv p1 p2 p3).1 := hw
  subst r_1
  obtain ⟨hP1, hD1⟩ := hB
  rw [ht] at hP1
  obtain ⟨hP, hD⟩ := va_join (wr := [(m0, eM m1 m2 th (r1 + r2) kn), (m1, eMR true mc1 a1), (mc1, eA cy f1), (m2, eMR false mc2 a2), (mc2, eA cy f2)]) (w1 := [(h0, eE h1 h2 kn), (h1, eR hw1 hc1 hb1 (o_L_wideMin a1 f1 nv p1 p2 p3).2.1 r1), (hw1, eW true), (hc1, eA cy (o_L_wideMin a1 f1 nv p1 p2 p3).2.2.1), (hb1, eA cy g1), (h2, eR hw2 hc2 hb2 a2 r2), (hw2, eW false), (hc2, eA cy f2), (hb2, eA cy g2), (ho, eO (o_L_wideMin a1 f1 nv p1 p2 p3).2.2.2 sv)]) hP hD [0, 1, 2, 3, 4, 5, 6, 7, 8, 9] [10, 11, 12, 13, 14] rfl rfl (by decide +kernel) (by decide +kernel) hk hFc hP1 hD1
  have hP := hP.sub (ws' := [(h0, eE h1 h2 kn), (h1, eR hw1 hc1 hb1 (o_L_wideMin a1 f1 nv p1 p2 p3).2.1 r1), (hw1, eW true), (hc1, eA cy (o_L_wideMin a1 f1 nv p1 p2 p3).2.2.1), (hb1, eA cy g1), (h2, eR hw2 hc2 hb2 a2 r2), (hw2, eW false), (hc2, eA cy f2), (hb2, eA cy g2), (ho, eO (o_L_wideMin a1 f1 nv p1 p2 p3).2.2.2 sv), (m0, eM m1 m2 th (r1 + r2) kn), (m1, eMR true mc1 a1), (mc1, eA cy f1), (m2, eMR false mc2 a2), (mc2, eA cy f2)]) [5, 6, 7, 8, 9, 10, 11, 12, 13, 14, 0, 1, 2, 3, 4] rfl
  have hD := hD.sub (ws' := [(h0, eE h1 h2 kn), (h1, eR hw1 hc1 hb1 (o_L_wideMin a1 f1 nv p1 p2 p3).2.1 r1), (hw1, eW true), (hc1, eA cy (o_L_wideMin a1 f1 nv p1 p2 p3).2.2.1), (hb1, eA cy g1), (h2, eR hw2 hc2 hb2 a2 r2), (hw2, eW false), (hc2, eA cy f2), (hb2, eA cy g2), (ho, eO (o_L_wideMin a1 f1 nv p1 p2 p3).2.2.2 sv), (m0, eM m1 m2 th (r1 + r2) kn), (m1, eMR true mc1 a1), (mc1, eA cy f1), (m2, eMR false mc2 a2), (mc2, eA cy f2)]) [5, 6, 7, 8, 9, 10, 11, 12, 13, 14, 0, 1, 2, 3, 4] (by decide +kernel) rfl
  refine lv_istore (lv' := [(5, .int ((o_L_wideMin a1 f1 nv p1 p2 p3).1)), (0, .ref b), (1, .ref h0), (2, .ref m0), (3, .ref ho), (4, .int (nI i))]) hx hb dL_law_713 hl (by decide +kernel) rfl (fun ls hl => ?_)
  refine lv_aload_n hx hb dL_law_715 rfl (lv_at hl 3 rfl) ?_
  refine lv_aload_n hx hb dL_law_716 rfl (lv_at hl 1 rfl) ?_
  refine lv_iload hx hb dL_law_717 (lv_at hl 5 rfl) ?_
  refine lv_iconst (v := 1) hx hb dL_law_719 (by decide +kernel) ?_
  refine lv_iadd hx hb dL_law_720 ?_
  rw [nI_1 i]
  refine xa_sld hx hb hX hbl hbA hS (k := i + 1) (by omega) hL hp1 dL_law_721 ?_
  refine lv_aload_n hx hb dL_law_722 rfl (lv_at hl 1 rfl) ?_
  refine lv_iload hx hb dL_law_723 (lv_at hl 5 rfl) ?_
  refine lv_iconst (v := 2) hx hb dL_law_725 (by decide +kernel) ?_
  refine lv_iadd hx hb dL_law_726 ?_
  rw [nI_p2 i]
  refine xa_sld hx hb hX hbl hbA hS (k := i + 2) (by omega) hL hp2 dL_law_727 ?_
  refine lv_aload_n hx hb dL_law_728 rfl (lv_at hl 1 rfl) ?_
  refine lv_iload hx hb dL_law_729 (lv_at hl 5 rfl) ?_
  refine lv_iconst (v := 3) hx hb dL_law_731 (by decide +kernel) ?_
  refine lv_iadd hx hb dL_law_732 ?_
  rw [nI_p3 i]
  refine xa_sld hx hb hX hbl hbA hS (k := i + 3) (by omega) hL hp3 dL_law_733 ?_
  have hPc := hP.sub (ws' := [(m0, eM m1 m2 th (r1 + r2) kn), (m1, eMR true mc1 a1), (mc1, eA cy f1), (m2, eMR false mc2 a2), (mc2, eA cy f2)]) [10, 11, 12, 13, 14] rfl
  have hDc := hD.sub (ws' := [(m0, eM m1 m2 th (r1 + r2) kn), (m1, eMR true mc1 a1), (mc1, eA cy f1), (m2, eMR false mc2 a2), (mc2, eA cy f2)]) [10, 11, 12, 13, 14] (by decide +kernel) rfl
  have hKc := hK.sub (tys' := [(cy, .long)]) [0] rfl
  have hFc := va_free (wc := [(m0, eM m1 m2 th (r1 + r2) kn), (m1, eMR true mc1 a1), (mc1, eA cy f1), (m2, eMR false mc2 a2), (mc2, eA cy f2)]) hD hS hA [10, 11, 12, 13, 14] rfl
  refine va_calli (va_runV (As := [.int p1, .int p2, .int p3]) (rest := []) ⟨hx, hb, hml, hown, hts⟩ (k_X5_wideMin l dC dI cy m0 m1 mc1 m2 mc2 a1 f1 a2 f2 th (r1 + r2) kn H.size N p1 p2 p3) (cwV 3 hts gL_law_X5_wideMin rfl rfl rfl (by decide +kernel) ⟨Nat.le_of_ble_eq_true rfl, Nat.le_of_ble_eq_true rfl⟩) (xM.preV hKc hPc hDc hAN (Nat.le_trans hN hS.1) (hG.kept hS hAN) (ci := 7) (q0 := 0) rfl rfl) rfl rfl hl.1 rfl (lv_room (Nat.le_of_ble_eq_true rfl)) dL_law_734 ⟨(show _ ≤ 716141 by omega), (show _ ≤ 6947682 by omega)⟩) hS (fun q _ h => hFc q h) hFc (fun r_2 u t H locs ht hvm hw hB hz hk hS => ?_)
  replace hw : r_2 = (o_X5_wideMin a1 f1 p1 p2 p3).1 := hw
  subst r_2
  obtain ⟨hP1, hD1⟩ := hB
  rw [ht] at hP1
  obtain ⟨hP, hD⟩ := va_join (wr := [(h0, eE h1 h2 kn), (h1, eR hw1 hc1 hb1 (o_L_wideMin a1 f1 nv p1 p2 p3).2.1 r1), (hw1, eW true), (hc1, eA cy (o_L_wideMin a1 f1 nv p1 p2 p3).2.2.1), (hb1, eA cy g1), (h2, eR hw2 hc2 hb2 a2 r2), (hw2, eW false), (hc2, eA cy f2), (hb2, eA cy g2), (ho, eO (o_L_wideMin a1 f1 nv p1 p2 p3).2.2.2 sv)]) (w1 := [(m0, eM m1 m2 (o_X5_wideMin a1 f1 p1 p2 p3).2.2.2 (r1 + r2) kn), (m1, eMR true mc1 (o_X5_wideMin a1 f1 p1 p2 p3).2.1), (mc1, eA cy (o_X5_wideMin a1 f1 p1 p2 p3).2.2.1), (m2, eMR false mc2 a2), (mc2, eA cy f2)]) hP hD [10, 11, 12, 13, 14] [0, 1, 2, 3, 4, 5, 6, 7, 8, 9] rfl rfl (by decide +kernel) (by decide +kernel) hk hFc hP1 hD1
  have hP := hP.sub (ws' := [(h0, eE h1 h2 kn), (h1, eR hw1 hc1 hb1 (o_L_wideMin a1 f1 nv p1 p2 p3).2.1 r1), (hw1, eW true), (hc1, eA cy (o_L_wideMin a1 f1 nv p1 p2 p3).2.2.1), (hb1, eA cy g1), (h2, eR hw2 hc2 hb2 a2 r2), (hw2, eW false), (hc2, eA cy f2), (hb2, eA cy g2), (ho, eO (o_L_wideMin a1 f1 nv p1 p2 p3).2.2.2 sv), (m0, eM m1 m2 (o_X5_wideMin a1 f1 p1 p2 p3).2.2.2 (r1 + r2) kn), (m1, eMR true mc1 (o_X5_wideMin a1 f1 p1 p2 p3).2.1), (mc1, eA cy (o_X5_wideMin a1 f1 p1 p2 p3).2.2.1), (m2, eMR false mc2 a2), (mc2, eA cy f2)]) [0, 1, 2, 3, 4, 5, 6, 7, 8, 9, 10, 11, 12, 13, 14] rfl
  have hD := hD.sub (ws' := [(h0, eE h1 h2 kn), (h1, eR hw1 hc1 hb1 (o_L_wideMin a1 f1 nv p1 p2 p3).2.1 r1), (hw1, eW true), (hc1, eA cy (o_L_wideMin a1 f1 nv p1 p2 p3).2.2.1), (hb1, eA cy g1), (h2, eR hw2 hc2 hb2 a2 r2), (hw2, eW false), (hc2, eA cy f2), (hb2, eA cy g2), (ho, eO (o_L_wideMin a1 f1 nv p1 p2 p3).2.2.2 sv), (m0, eM m1 m2 (o_X5_wideMin a1 f1 p1 p2 p3).2.2.2 (r1 + r2) kn), (m1, eMR true mc1 (o_X5_wideMin a1 f1 p1 p2 p3).2.1), (mc1, eA cy (o_X5_wideMin a1 f1 p1 p2 p3).2.2.1), (m2, eMR false mc2 a2), (mc2, eA cy f2)]) [0, 1, 2, 3, 4, 5, 6, 7, 8, 9, 10, 11, 12, 13, 14] (by decide +kernel) rfl
  refine lv_istore (lv' := [(6, .int ((o_X5_wideMin a1 f1 p1 p2 p3).1)), (5, .int ((o_L_wideMin a1 f1 nv p1 p2 p3).1)), (0, .ref b), (1, .ref h0), (2, .ref m0), (3, .ref ho), (4, .int (nI i))]) hx hb dL_law_737 hl (by decide +kernel) rfl (fun ls hl => ?_)
  refine lv_aload_n hx hb dL_law_739 rfl (lv_at hl 4 rfl) ?_
  have hPc := hP.sub (ws' := [(m0, eM m1 m2 (o_X5_wideMin a1 f1 p1 p2 p3).2.2.2 (r1 + r2) kn)]) [10] rfl
  have hKc := hK.sub (tys' := []) [] rfl
  refine va_calli (va_runV (As := []) (rest := []) ⟨hx, hb, hml, hown, hts⟩ (k_X5_thrown l dC dI m0 m1 m2 ((o_X5_wideMin a1 f1 p1 p2 p3).2.2.2) (r1 + r2) kn H.size) (cwV 0 hts gL_law_X5_thrown rfl rfl rfl (by decide +kernel) ⟨Nat.le_of_ble_eq_true rfl, Nat.le_of_ble_eq_true rfl⟩) (xB.preV hKc hPc (ci := 7) (q0 := 0) rfl rfl) rfl rfl hl.1 rfl (lv_room (Nat.le_of_ble_eq_true rfl)) dL_law_740 ⟨(show _ ≤ 716141 by omega), (show _ ≤ 6947682 by omega)⟩) hS xA_old (fun q h => hA q (Nat.le_trans hS.1 h)) (fun r_3 u t H locs ht hvm hw hB hz hk hS => ?_)
  replace hw : r_3 = (o_X5_thrown ((o_X5_wideMin a1 f1 p1 p2 p3).2.2.2)) := hw
  subst r_3
  have hP := xP_keep hP hk
  refine lv_iload hx hb dL_law_743 (lv_at hl 1 rfl) ?_
  refine lv_icmp_eq (tgt := 750) hx hb dL_law_745 (by decide +kernel) (fun c9 => ?_) (fun c9 => absurd (show o_X5_thrown _ = _ from (qx_wideMin).symm) c9)
  refine lv_iload hx hb dL_law_750 (lv_at hl 1 rfl) ?_
  refine lv_if_ne (tgt := 768) hx hb dL_law_752 (by decide +kernel) (fun c_4 => ?_) (fun c_4 => ?_)
  · skip
    refine lv_goto (tgt := 3660) hx hb dL_law_768 (by decide +kernel) ?_
    refine W.widen (k := cells + 760) (n := slots + 4500) (by omega) (by omega) ?_
    have qe_b1 : (o_X5_wideMin a1 f1 p1 p2 p3).2.1 = (o_L_wideMin a1 f1 nv p1 p2 p3).2.1 := (by have hm := ml_wideMin a1 nv p1 p2 p3 hka1; rw [hm.1] <;> rfl)
    have qe_e1 : (o_X5_wideMin a1 f1 p1 p2 p3).2.2.1 = (o_L_wideMin a1 f1 nv p1 p2 p3).2.2.1 := (by have hm := ml_wideMin a1 nv p1 p2 p3 hka1; rw [hm.1] <;> rfl)
    have qk_1 : okA true ((o_L_wideMin a1 f1 nv p1 p2 p3).2.2.1) := (by have hm := ml_wideMin a1 nv p1 p2 p3 hka1; rw [hm.1]; exact hm.2)
    exact K ((o_L_wideMin a1 f1 nv p1 p2 p3).2.1) r1 ((o_L_wideMin a1 f1 nv p1 p2 p3).2.2.1) g1 a2 r2 f2 g2 kn ((o_L_wideMin a1 f1 nv p1 p2 p3).2.2.2) sv ((o_X5_wideMin a1 f1 p1 p2 p3).2.2.2) ((o_X5_wideMin a1 f1 p1 p2 p3).2.1) ((o_X5_wideMin a1 f1 p1 p2 p3).2.2.1) a2 f2 (r1 + r2) kn _ _ _ qe_b1 qe_e1 rfl rfl rfl rfl qk_1 hka2 hP hD hS (lv_sub hl [2, 3, 4, 5, 6] rfl)
  · skip
    refine lv_aload_n hx hb dL_law_755 rfl (lv_at hl 5 rfl) ?_
    refine va_getN (D := (dC, dI)) (ci := 5) (v := .long ((o_L_wideMin a1 f1 nv p1 p2 p3).2.2.2)) (C := RX3) (T := TX3) (N := 2) hx hb hts (by decide +kernel) hown hK hP 9 rfl rfl 0 (by decide +kernel) (va_Nw.use rfl (hG.1 (.fieldLinkNest RL 13 "EdgefloatsLaw$Out" "n" "J" RL) (List.mem_of_getElem? (i := 6) rfl))) (fun _ h9 => h9) rfl dL_law_756 ?_
    refine lv_iload hx hb dL_law_759 (lv_at hl 0 rfl) ?_
    refine lv_i2l (v := (((o_X5_wideMin a1 f1 p1 p2 p3).1).toInt64)) hx hb dL_law_761 rfl ?_
    refine xc_eq (tgt := 768) hx hb dL_law_762 dL_law_763 (by decide +kernel) (fun c9 => ?_) (fun c9 => absurd ((qn_wideMin).trans (if_pos ((qx_wideMin).symm.trans c_4))) c9)
    refine lv_goto (tgt := 3660) hx hb dL_law_768 (by decide +kernel) ?_
    refine W.widen (k := cells + 760) (n := slots + 4500) (by omega) (by omega) ?_
    have qe_b1 : (o_X5_wideMin a1 f1 p1 p2 p3).2.1 = (o_L_wideMin a1 f1 nv p1 p2 p3).2.1 := (by have hm := ml_wideMin a1 nv p1 p2 p3 hka1; rw [hm.1] <;> rfl)
    have qe_e1 : (o_X5_wideMin a1 f1 p1 p2 p3).2.2.1 = (o_L_wideMin a1 f1 nv p1 p2 p3).2.2.1 := (by have hm := ml_wideMin a1 nv p1 p2 p3 hka1; rw [hm.1] <;> rfl)
    have qk_1 : okA true ((o_L_wideMin a1 f1 nv p1 p2 p3).2.2.1) := (by have hm := ml_wideMin a1 nv p1 p2 p3 hka1; rw [hm.1]; exact hm.2)
    exact K ((o_L_wideMin a1 f1 nv p1 p2 p3).2.1) r1 ((o_L_wideMin a1 f1 nv p1 p2 p3).2.2.1) g1 a2 r2 f2 g2 kn ((o_L_wideMin a1 f1 nv p1 p2 p3).2.2.2) sv ((o_X5_wideMin a1 f1 p1 p2 p3).2.2.2) ((o_X5_wideMin a1 f1 p1 p2 p3).2.1) ((o_X5_wideMin a1 f1 p1 p2 p3).2.2.1) a2 f2 (r1 + r2) kn _ _ _ qe_b1 qe_e1 rfl rfl rfl rfl qk_1 hka2 hP hD hS (lv_sub hl [2, 3, 4, 5, 6] rfl)
set_option maxHeartbeats 4000000 in
set_option maxRecDepth 100000 in
theorem st_7 (l : Launch) (p : Program) (e : Env) (s : State) (m : MethodId) (below : List Frame) (meth : Method) (c : Code) (b L N : Nat) (xs : Nat → Int32) (A : Nat → Prop) (dC : Nat → ClassId) (dI : Nat → Nat → Nat) (cy cB : ClassId) (h0 h1 hw1 hc1 hb1 h2 hw2 hc2 hb2 ho m0 m1 mc1 m2 mc2 : Nat) (C0 : lw_C l p e s m below meth c b L N xs A dC dI cy cB) (i : Nat) (hi : i + 4 ≤ L) (p1 p2 p3 : Int32) (hp1 : xs (i + 1) = p1) (hp2 : xs (i + 2) = p2) (hp3 : xs (i + 3) = p3) (cells slots : Nat) (hcs : cells + 760 ≤ 716141) (hss : slots + 4500 ≤ 6947682) (K : lw_K l p e s m below meth c b L N xs A dC dI cy cB h0 h1 hw1 hc1 hb1 h2 hw2 hc2 hb2 ho m0 m1 mc1 m2 mc2 i (cells + 760) (slots + 4500) 3660) (a1 : Int32) (r1 : Int32) (f1 : Nat → Int64) (g1 : Nat → Int64) (a2 : Int32) (r2 : Int32) (f2 : Nat → Int64) (g2 : Nat → Int64) (kn : Int32) (nv : Int64) (sv : Value) (th : Int32) (H : Heap) (locs : List Loc) (ls : Array Slot) (hka1 : okA true f1) (hka2 : okA false f2) (hP : va_P (dC, dI) xCl [(h0, eE h1 h2 kn), (h1, eR hw1 hc1 hb1 a1 r1), (hw1, eW true), (hc1, eA cy f1), (hb1, eA cy g1), (h2, eR hw2 hc2 hb2 a2 r2), (hw2, eW false), (hc2, eA cy f2), (hb2, eA cy g2), (ho, eO nv sv), (m0, eM m1 m2 th (r1 + r2) kn), (m1, eMR true mc1 a1), (mc1, eA cy f1), (m2, eMR false mc2 a2), (mc2, eA cy f2)] H) (hD : va_D A [(h0, eE h1 h2 kn), (h1, eR hw1 hc1 hb1 a1 r1), (hw1, eW true), (hc1, eA cy f1), (hb1, eA cy g1), (h2, eR hw2 hc2 hb2 a2 r2), (hw2, eW false), (hc2, eA cy f2), (hb2, eA cy g2), (ho, eO nv sv), (m0, eM m1 m2 th (r1 + r2) kn), (m1, eMR true mc1 a1), (mc1, eA cy f1), (m2, eMR false mc2 a2), (mc2, eA cy f2)]) (hS : va_S A s.heap H locs) (hl : lv_has ls 7 [(0, .ref b), (1, .ref h0), (2, .ref m0), (3, .ref ho), (4, .int (nI i))]) : W p l e room_1 s m #[Value.ref b] below meth c H locs cells slots (lw_Z below #[Value.ref b] s) (F0 m 771 ls []) := by
  obtain ⟨hfl, hx, hb, hr, hml, hown, hts, hX, hbl, hbA, hlocks, hK, hG, hnc, hA, hAN, hN, hL, hT, hNs⟩ := id C0
  have hok2 := me_okF hka2
  have hsp1 : ∀ k, k < 8 → o_X1_isSpoiled true (f1 k) = false := fun k hk => (hka1 k hk).2
  have hsp2 : ∀ k, k < 8 → o_X1_isSpoiled false (f2 k) = false := fun k hk => (hka2 k hk).2
  have qx_wideSum : (o_L_wideSum a1 r1 f1 nv p1 p2 p3).1 = (o_X5_wideSum a1 f1 (r1 + r2) p1 p2 p3).2.2.2.1 := by have hm := ml_wideSum a1 r1 r2 nv p1 p2 p3 hka1; exact hm.1
  have qn_wideSum : (o_L_wideSum a1 r1 f1 nv p1 p2 p3).2.2.2.2 = if (o_X5_wideSum a1 f1 (r1 + r2) p1 p2 p3).2.2.2.1 = 0 then ((o_X5_wideSum a1 f1 (r1 + r2) p1 p2 p3).1).toInt64 else nv := by have hm := ml_wideSum a1 r1 r2 nv p1 p2 p3 hka1; exact hm.2.2.2.2.1
  refine lv_aload_n hx hb dL_law_771 rfl (lv_at hl 1 rfl) ?_
  refine lv_aload_n hx hb dL_law_772 rfl (lv_at hl 0 rfl) ?_
  refine lv_iload hx hb dL_law_773 (lv_at hl 4 rfl) ?_
  refine lv_iconst (v := 1) hx hb dL_law_775 (by decide +kernel) ?_
  refine lv_iadd hx hb dL_law_776 ?_
  rw [nI_1 i]
  refine xa_sld hx hb hX hbl hbA hS (k := i + 1) (by omega) hL hp1 dL_law_777 ?_
  refine lv_aload_n hx hb dL_law_778 rfl (lv_at hl 0 rfl) ?_
  refine lv_iload hx hb dL_law_779 (lv_at hl 4 rfl) ?_
  refine lv_iconst (v := 2) hx hb dL_law_781 (by decide +kernel) ?_
  refine lv_iadd hx hb dL_law_782 ?_
  rw [nI_p2 i]
  refine xa_sld hx hb hX hbl hbA hS (k := i + 2) (by omega) hL hp2 dL_law_783 ?_
  refine lv_aload_n hx hb dL_law_784 rfl (lv_at hl 0 rfl) ?_
  refine lv_iload hx hb dL_law_785 (lv_at hl 4 rfl) ?_
  refine lv_iconst (v := 3) hx hb dL_law_787 (by decide +kernel) ?_
  refine lv_iadd hx hb dL_law_788 ?_
  rw [nI_p3 i]
  refine xa_sld hx hb hX hbl hbA hS (k := i + 3) (by omega) hL hp3 dL_law_789 ?_
  refine lv_aload_n hx hb dL_law_790 rfl (lv_at hl 3 rfl) ?_
  have hPc := hP.sub (ws' := [(h0, eE h1 h2 kn), (h1, eR hw1 hc1 hb1 a1 r1), (hw1, eW true), (hc1, eA cy f1), (hb1, eA cy g1), (h2, eR hw2 hc2 hb2 a2 r2), (hw2, eW false), (hc2, eA cy f2), (hb2, eA cy g2), (ho, eO nv sv)]) [0, 1, 2, 3, 4, 5, 6, 7, 8, 9] rfl
  have hDc := hD.sub (ws' := [(h0, eE h1 h2 kn), (h1, eR hw1 hc1 hb1 a1 r1), (hw1, eW true), (hc1, eA cy f1), (hb1, eA cy g1), (h2, eR hw2 hc2 hb2 a2 r2), (hw2, eW false), (hc2, eA cy f2), (hb2, eA cy g2), (ho, eO nv sv)]) [0, 1, 2, 3, 4, 5, 6, 7, 8, 9] (by decide +kernel) rfl
  have hKc := hK.sub (tys' := [(cy, .long)]) [0] rfl
  have hFc := va_free (wc := [(h0, eE h1 h2 kn), (h1, eR hw1 hc1 hb1 a1 r1), (hw1, eW true), (hc1, eA cy f1), (hb1, eA cy g1), (h2, eR hw2 hc2 hb2 a2 r2), (hw2, eW false), (hc2, eA cy f2), (hb2, eA cy g2), (ho, eO nv sv)]) hD hS hA [0, 1, 2, 3, 4, 5, 6, 7, 8, 9] rfl
  refine va_calli (vx_runSW (As := [.ref h0, .int p1, .int p2, .int p3, .ref ho]) (rest := []) ⟨hx, hb, hml, hown, hts⟩ (k_L_wideSum l hfl dC dI cy h0 h1 hw1 hc1 hb1 h2 hw2 hc2 hb2 a1 r1 f1 g1 a2 r2 f2 g2 kn ho nv sv H.size N p1 p2 p3) (vx_cwSW 5 hts gL_law_L_wideSum rfl rfl rfl (by decide +kernel) ⟨Nat.le_of_ble_eq_true rfl, Nat.le_of_ble_eq_true rfl⟩) (xL.preS hKc hPc hDc hAN (Nat.le_trans hN hS.1) (hG.kept hS hAN) hnc) rfl rfl hl.1 rfl (lv_room (Nat.le_of_ble_eq_true rfl)) dL_law_791 ⟨(show _ ≤ 716141 by omega), (show _ ≤ 6947682 by omega)⟩) hS (fun q _ h => hFc q h) hFc (fun r_1 u t H locs ht hvm hw hB hz hk hS => ?_)
  replace hw : r_1 = (o_L_wideSum a1 r1 f1 nv p1 p2 p3).1 := hw
  subst r_1
  obtain ⟨hP1, hD1⟩ := hB
  rw [ht] at hP1
  obtain ⟨hP, hD⟩ := va_join (wr := [(m0, eM m1 m2 th (r1 + r2) kn), (m1, eMR true mc1 a1), (mc1, eA cy f1), (m2, eMR false mc2 a2), (mc2, eA cy f2)]) (w1 := [(h0, eE h1 h2 kn), (h1, eR hw1 hc1 hb1 (o_L_wideSum a1 r1 f1 nv p1 p2 p3).2.1 (o_L_wideSum a1 r1 f1 nv p1 p2 p3).2.2.1), (hw1, eW true), (hc1, eA cy (o_L_wideSum a1 r1 f1 nv p1 p2 p3).2.2.2.1), (hb1, eA cy g1), (h2, eR hw2 hc2 hb2 a2 r2), (hw2, eW false), (hc2, eA cy f2), (hb2, eA cy g2), (ho, eO (o_L_wideSum a1 r1 f1 nv p1 p2 p3).2.2.2.2 sv)]) hP hD [0, 1, 2, 3, 4, 5, 6, 7, 8, 9] [10, 11, 12, 13, 14] rfl rfl (by decide +kernel) (by decide +kernel) hk hFc hP1 hD1
  have hP := hP.sub (ws' := [(h0, eE h1 h2 kn), (h1, eR hw1 hc1 hb1 (o_L_wideSum a1 r1 f1 nv p1 p2 p3).2.1 (o_L_wideSum a1 r1 f1 nv p1 p2 p3).2.2.1), (hw1, eW true), (hc1, eA cy (o_L_wideSum a1 r1 f1 nv p1 p2 p3).2.2.2.1), (hb1, eA cy g1), (h2, eR hw2 hc2 hb2 a2 r2), (hw2, eW false), (hc2, eA cy f2), (hb2, eA cy g2), (ho, eO (o_L_wideSum a1 r1 f1 nv p1 p2 p3).2.2.2.2 sv), (m0, eM m1 m2 th (r1 + r2) kn), (m1, eMR true mc1 a1), (mc1, eA cy f1), (m2, eMR false mc2 a2), (mc2, eA cy f2)]) [5, 6, 7, 8, 9, 10, 11, 12, 13, 14, 0, 1, 2, 3, 4] rfl
  have hD := hD.sub (ws' := [(h0, eE h1 h2 kn), (h1, eR hw1 hc1 hb1 (o_L_wideSum a1 r1 f1 nv p1 p2 p3).2.1 (o_L_wideSum a1 r1 f1 nv p1 p2 p3).2.2.1), (hw1, eW true), (hc1, eA cy (o_L_wideSum a1 r1 f1 nv p1 p2 p3).2.2.2.1), (hb1, eA cy g1), (h2, eR hw2 hc2 hb2 a2 r2), (hw2, eW false), (hc2, eA cy f2), (hb2, eA cy g2), (ho, eO (o_L_wideSum a1 r1 f1 nv p1 p2 p3).2.2.2.2 sv), (m0, eM m1 m2 th (r1 + r2) kn), (m1, eMR true mc1 a1), (mc1, eA cy f1), (m2, eMR false mc2 a2), (mc2, eA cy f2)]) [5, 6, 7, 8, 9, 10, 11, 12, 13, 14, 0, 1, 2, 3, 4] (by decide +kernel) rfl
  refine lv_istore (lv' := [(5, .int ((o_L_wideSum a1 r1 f1 nv p1 p2 p3).1)), (0, .ref b), (1, .ref h0), (2, .ref m0), (3, .ref ho), (4, .int (nI i))]) hx hb dL_law_794 hl (by decide +kernel) rfl (fun ls hl => ?_)
  refine lv_aload_n hx hb dL_law_796 rfl (lv_at hl 3 rfl) ?_
  refine lv_aload_n hx hb dL_law_797 rfl (lv_at hl 1 rfl) ?_
  refine lv_iload hx hb dL_law_798 (lv_at hl 5 rfl) ?_
  refine lv_iconst (v := 1) hx hb dL_law_800 (by decide +kernel) ?_
  refine lv_iadd hx hb dL_law_801 ?_
  rw [nI_1 i]
  refine xa_sld hx hb hX hbl hbA hS (k := i + 1) (by omega) hL hp1 dL_law_802 ?_
  refine lv_aload_n hx hb dL_law_803 rfl (lv_at hl 1 rfl) ?_
  refine lv_iload hx hb dL_law_804 (lv_at hl 5 rfl) ?_
  refine lv_iconst (v := 2) hx hb dL_law_806 (by decide +kernel) ?_
  refine lv_iadd hx hb dL_law_807 ?_
  rw [nI_p2 i]
  refine xa_sld hx hb hX hbl hbA hS (k := i + 2) (by omega) hL hp2 dL_law_808 ?_
  refine lv_aload_n hx hb dL_law_809 rfl (lv_at hl 1 rfl) ?_
  refine lv_iload hx hb dL_law_810 (lv_at hl 5 rfl) ?_
  refine lv_iconst (v := 3) hx hb dL_law_812 (by decide +kernel) ?_
  refine lv_iadd hx hb dL_law_813 ?_
  rw [nI_p3 i]
  refine xa_sld hx hb hX hbl hbA hS (k := i + 3) (by omega) hL hp3 dL_law_814 ?_
  have hPc := hP.sub (ws' := [(m0, eM m1 m2 th (r1 + r2) kn), (m1, eMR true mc1 a1), (mc1, eA cy f1), (m2, eMR false mc2 a2), (mc2, eA cy f2)]) [10, 11, 12, 13, 14] rfl
  have hDc := hD.sub (ws' := [(m0, eM m1 m2 th (r1 + r2) kn), (m1, eMR true mc1 a1), (mc1, eA cy f1), (m2, eMR false mc2 a2), (mc2, eA cy f2)]) [10, 11, 12, 13, 14] (by decide +kernel) rfl
  have hKc := hK.sub (tys' := [(cy, .long)]) [0] rfl
  have hFc := va_free (wc := [(m0, eM m1 m2 th (r1 + r2) kn), (m1, eMR true mc1 a1), (mc1, eA cy f1), (m2, eMR false mc2 a2), (mc2, eA cy f2)]) hD hS hA [10, 11, 12, 13, 14] rfl
  refine va_calli (va_runV (As := [.int p1, .int p2, .int p3]) (rest := []) ⟨hx, hb, hml, hown, hts⟩ (k_X5_wideSum l dC dI cy m0 m1 mc1 m2 mc2 a1 f1 a2 f2 th (r1 + r2) kn H.size N p1 p2 p3) (cwV 3 hts gL_law_X5_wideSum rfl rfl rfl (by decide +kernel) ⟨Nat.le_of_ble_eq_true rfl, Nat.le_of_ble_eq_true rfl⟩) (xM.preV hKc hPc hDc hAN (Nat.le_trans hN hS.1) (hG.kept hS hAN) (ci := 7) (q0 := 0) rfl rfl) rfl rfl hl.1 rfl (lv_room (Nat.le_of_ble_eq_true rfl)) dL_law_815 ⟨(show _ ≤ 716141 by omega), (show _ ≤ 6947682 by omega)⟩) hS (fun q _ h => hFc q h) hFc (fun r_2 u t H locs ht hvm hw hB hz hk hS => ?_)
  replace hw : r_2 = (o_X5_wideSum a1 f1 (r1 + r2) p1 p2 p3).1 := hw
  subst r_2
  obtain ⟨hP1, hD1⟩ := hB
  rw [ht] at hP1
  obtain ⟨hP, hD⟩ := va_join (wr := [(h0, eE h1 h2 kn), (h1, eR hw1 hc1 hb1 (o_L_wideSum a1 r1 f1 nv p1 p2 p3).2.1 (o_L_wideSum a1 r1 f1 nv p1 p2 p3).2.2.1), (hw1, eW true), (hc1, eA cy (o_L_wideSum a1 r1 f1 nv p1 p2 p3).2.2.2.1), (hb1, eA cy g1), (h2, eR hw2 hc2 hb2 a2 r2), (hw2, eW false), (hc2, eA cy f2), (hb2, eA cy g2), (ho, eO (o_L_wideSum a1 r1 f1 nv p1 p2 p3).2.2.2.2 sv)]) (w1 := [(m0, eM m1 m2 (o_X5_wideSum a1 f1 (r1 + r2) p1 p2 p3).2.2.2.1 (o_X5_wideSum a1 f1 (r1 + r2) p1 p2 p3).2.2.2.2 kn), (m1, eMR true mc1 (o_X5_wideSum a1 f1 (r1 + r2) p1 p2 p3).2.1), (mc1, eA cy (o_X5_wideSum a1 f1 (r1 + r2) p1 p2 p3).2.2.1), (m2, eMR false mc2 a2), (mc2, eA cy f2)]) hP hD [10, 11, 12, 13, 14] [0, 1, 2, 3, 4, 5, 6, 7, 8, 9] rfl rfl (by decide +kernel) (by decide +kernel) hk hFc hP1 hD1
  have hP := hP.sub (ws' := [(h0, eE h1 h2 kn), (h1, eR hw1 hc1 hb1 (o_L_wideSum a1 r1 f1 nv p1 p2 p3).2.1 (o_L_wideSum a1 r1 f1 nv p1 p2 p3).2.2.1), (hw1, eW true), (hc1, eA cy (o_L_wideSum a1 r1 f1 nv p1 p2 p3).2.2.2.1), (hb1, eA cy g1), (h2, eR hw2 hc2 hb2 a2 r2), (hw2, eW false), (hc2, eA cy f2), (hb2, eA cy g2), (ho, eO (o_L_wideSum a1 r1 f1 nv p1 p2 p3).2.2.2.2 sv), (m0, eM m1 m2 (o_X5_wideSum a1 f1 (r1 + r2) p1 p2 p3).2.2.2.1 (o_X5_wideSum a1 f1 (r1 + r2) p1 p2 p3).2.2.2.2 kn), (m1, eMR true mc1 (o_X5_wideSum a1 f1 (r1 + r2) p1 p2 p3).2.1), (mc1, eA cy (o_X5_wideSum a1 f1 (r1 + r2) p1 p2 p3).2.2.1), (m2, eMR false mc2 a2), (mc2, eA cy f2)]) [0, 1, 2, 3, 4, 5, 6, 7, 8, 9, 10, 11, 12, 13, 14] rfl
  have hD := hD.sub (ws' := [(h0, eE h1 h2 kn), (h1, eR hw1 hc1 hb1 (o_L_wideSum a1 r1 f1 nv p1 p2 p3).2.1 (o_L_wideSum a1 r1 f1 nv p1 p2 p3).2.2.1), (hw1, eW true), (hc1, eA cy (o_L_wideSum a1 r1 f1 nv p1 p2 p3).2.2.2.1), (hb1, eA cy g1), (h2, eR hw2 hc2 hb2 a2 r2), (hw2, eW false), (hc2, eA cy f2), (hb2, eA cy g2), (ho, eO (o_L_wideSum a1 r1 f1 nv p1 p2 p3).2.2.2.2 sv), (m0, eM m1 m2 (o_X5_wideSum a1 f1 (r1 + r2) p1 p2 p3).2.2.2.1 (o_X5_wideSum a1 f1 (r1 + r2) p1 p2 p3).2.2.2.2 kn), (m1, eMR true mc1 (o_X5_wideSum a1 f1 (r1 + r2) p1 p2 p3).2.1), (mc1, eA cy (o_X5_wideSum a1 f1 (r1 + r2) p1 p2 p3).2.2.1), (m2, eMR false mc2 a2), (mc2, eA cy f2)]) [0, 1, 2, 3, 4, 5, 6, 7, 8, 9, 10, 11, 12, 13, 14] (by decide +kernel) rfl
  refine lv_istore (lv' := [(6, .int ((o_X5_wideSum a1 f1 (r1 + r2) p1 p2 p3).1)), (5, .int ((o_L_wideSum a1 r1 f1 nv p1 p2 p3).1)), (0, .ref b), (1, .ref h0), (2, .ref m0), (3, .ref ho), (4, .int (nI i))]) hx hb dL_law_818 hl (by decide +kernel) rfl (fun ls hl => ?_)
  refine lv_aload_n hx hb dL_law_820 rfl (lv_at hl 4 rfl) ?_
  have hPc := hP.sub (ws' := [(m0, eM m1 m2 (o_X5_wideSum a1 f1 (r1 + r2) p1 p2 p3).2.2.2.1 (o_X5_wideSum a1 f1 (r1 + r2) p1 p2 p3).2.2.2.2 kn)]) [10] rfl
  have hKc := hK.sub (tys' := []) [] rfl
  refine va_calli (va_runV (As := []) (rest := []) ⟨hx, hb, hml, hown, hts⟩ (k_X5_thrown l dC dI m0 m1 m2 ((o_X5_wideSum a1 f1 (r1 + r2) p1 p2 p3).2.2.2.1) ((o_X5_wideSum a1 f1 (r1 + r2) p1 p2 p3).2.2.2.2) kn H.size) (cwV 0 hts gL_law_X5_thrown rfl rfl rfl (by decide +kernel) ⟨Nat.le_of_ble_eq_true rfl, Nat.le_of_ble_eq_true rfl⟩) (xB.preV hKc hPc (ci := 7) (q0 := 0) rfl rfl) rfl rfl hl.1 rfl (lv_room (Nat.le_of_ble_eq_true rfl)) dL_law_821 ⟨(show _ ≤ 716141 by omega), (show _ ≤ 6947682 by omega)⟩) hS xA_old (fun q h => hA q (Nat.le_trans hS.1 h)) (fun r_3 u t H locs ht hvm hw hB hz hk hS => ?_)
  replace hw : r_3 = (o_X5_thrown ((o_X5_wideSum a1 f1 (r1 + r2) p1 p2 p3).2.2.2.1)) := hw
  subst r_3
  have hP := xP_keep hP hk
  refine lv_iload hx hb dL_law_824 (lv_at hl 1 rfl) ?_
  refine lv_icmp_eq (tgt := 831) hx hb dL_law_826 (by decide +kernel) (fun c9 => ?_) (fun c9 => absurd (show o_X5_thrown _ = _ from (qx_wideSum).symm) c9)
  refine lv_iload hx hb dL_law_831 (lv_at hl 1 rfl) ?_
  refine lv_if_ne (tgt := 849) hx hb dL_law_833 (by decide +kernel) (fun c_4 => ?_) (fun c_4 => ?_)
  · skip
    refine lv_goto (tgt := 3660) hx hb dL_law_849 (by decide +kernel) ?_
    refine W.widen (k := cells + 760) (n := slots + 4500) (by omega) (by omega) ?_
    have qe_b1 : (o_X5_wideSum a1 f1 (r1 + r2) p1 p2 p3).2.1 = (o_L_wideSum a1 r1 f1 nv p1 p2 p3).2.1 := (by have hm := ml_wideSum a1 r1 r2 nv p1 p2 p3 hka1; exact hm.2.1.symm)
    have qe_e1 : (o_X5_wideSum a1 f1 (r1 + r2) p1 p2 p3).2.2.1 = (o_L_wideSum a1 r1 f1 nv p1 p2 p3).2.2.2.1 := (by have hm := ml_wideSum a1 r1 r2 nv p1 p2 p3 hka1; exact hm.2.2.2.1.symm)
    have qe_rf : (o_X5_wideSum a1 f1 (r1 + r2) p1 p2 p3).2.2.2.2 = (o_L_wideSum a1 r1 f1 nv p1 p2 p3).2.2.1 + r2 := (by have hm := ml_wideSum a1 r1 r2 nv p1 p2 p3 hka1; exact hm.2.2.1.symm)
    have qk_1 : okA true ((o_L_wideSum a1 r1 f1 nv p1 p2 p3).2.2.2.1) := (by have hm := ml_wideSum a1 r1 r2 nv p1 p2 p3 hka1; rw [hm.2.2.2.1]; exact hm.2.2.2.2.2)
    exact K ((o_L_wideSum a1 r1 f1 nv p1 p2 p3).2.1) ((o_L_wideSum a1 r1 f1 nv p1 p2 p3).2.2.1) ((o_L_wideSum a1 r1 f1 nv p1 p2 p3).2.2.2.1) g1 a2 r2 f2 g2 kn ((o_L_wideSum a1 r1 f1 nv p1 p2 p3).2.2.2.2) sv ((o_X5_wideSum a1 f1 (r1 + r2) p1 p2 p3).2.2.2.1) ((o_X5_wideSum a1 f1 (r1 + r2) p1 p2 p3).2.1) ((o_X5_wideSum a1 f1 (r1 + r2) p1 p2 p3).2.2.1) a2 f2 ((o_X5_wideSum a1 f1 (r1 + r2) p1 p2 p3).2.2.2.2) kn _ _ _ qe_b1 qe_e1 rfl rfl qe_rf rfl qk_1 hka2 hP hD hS (lv_sub hl [2, 3, 4, 5, 6] rfl)
  · skip
    refine lv_aload_n hx hb dL_law_836 rfl (lv_at hl 5 rfl) ?_
    refine va_getN (D := (dC, dI)) (ci := 5) (v := .long ((o_L_wideSum a1 r1 f1 nv p1 p2 p3).2.2.2.2)) (C := RX3) (T := TX3) (N := 2) hx hb hts (by decide +kernel) hown hK hP 9 rfl rfl 0 (by decide +kernel) (va_Nw.use rfl (hG.1 (.fieldLinkNest RL 13 "EdgefloatsLaw$Out" "n" "J" RL) (List.mem_of_getElem? (i := 6) rfl))) (fun _ h9 => h9) rfl dL_law_837 ?_
    refine lv_iload hx hb dL_law_840 (lv_at hl 0 rfl) ?_
    refine lv_i2l (v := (((o_X5_wideSum a1 f1 (r1 + r2) p1 p2 p3).1).toInt64)) hx hb dL_law_842 rfl ?_
    refine xc_eq (tgt := 849) hx hb dL_law_843 dL_law_844 (by decide +kernel) (fun c9 => ?_) (fun c9 => absurd ((qn_wideSum).trans (if_pos ((qx_wideSum).symm.trans c_4))) c9)
    refine lv_goto (tgt := 3660) hx hb dL_law_849 (by decide +kernel) ?_
    refine W.widen (k := cells + 760) (n := slots + 4500) (by omega) (by omega) ?_
    have qe_b1 : (o_X5_wideSum a1 f1 (r1 + r2) p1 p2 p3).2.1 = (o_L_wideSum a1 r1 f1 nv p1 p2 p3).2.1 := (by have hm := ml_wideSum a1 r1 r2 nv p1 p2 p3 hka1; exact hm.2.1.symm)
    have qe_e1 : (o_X5_wideSum a1 f1 (r1 + r2) p1 p2 p3).2.2.1 = (o_L_wideSum a1 r1 f1 nv p1 p2 p3).2.2.2.1 := (by have hm := ml_wideSum a1 r1 r2 nv p1 p2 p3 hka1; exact hm.2.2.2.1.symm)
    have qe_rf : (o_X5_wideSum a1 f1 (r1 + r2) p1 p2 p3).2.2.2.2 = (o_L_wideSum a1 r1 f1 nv p1 p2 p3).2.2.1 + r2 := (by have hm := ml_wideSum a1 r1 r2 nv p1 p2 p3 hka1; exact hm.2.2.1.symm)
    have qk_1 : okA true ((o_L_wideSum a1 r1 f1 nv p1 p2 p3).2.2.2.1) := (by have hm := ml_wideSum a1 r1 r2 nv p1 p2 p3 hka1; rw [hm.2.2.2.1]; exact hm.2.2.2.2.2)
    exact K ((o_L_wideSum a1 r1 f1 nv p1 p2 p3).2.1) ((o_L_wideSum a1 r1 f1 nv p1 p2 p3).2.2.1) ((o_L_wideSum a1 r1 f1 nv p1 p2 p3).2.2.2.1) g1 a2 r2 f2 g2 kn ((o_L_wideSum a1 r1 f1 nv p1 p2 p3).2.2.2.2) sv ((o_X5_wideSum a1 f1 (r1 + r2) p1 p2 p3).2.2.2.1) ((o_X5_wideSum a1 f1 (r1 + r2) p1 p2 p3).2.1) ((o_X5_wideSum a1 f1 (r1 + r2) p1 p2 p3).2.2.1) a2 f2 ((o_X5_wideSum a1 f1 (r1 + r2) p1 p2 p3).2.2.2.2) kn _ _ _ qe_b1 qe_e1 rfl rfl qe_rf rfl qk_1 hka2 hP hD hS (lv_sub hl [2, 3, 4, 5, 6] rfl)
set_option maxHeartbeats 4000000 in
set_option maxRecDepth 100000 in
theorem st_8 (l : Launch) (p : Program) (e : Env) (s : State) (m : MethodId) (below : List Frame) (meth : Method) (c : Code) (b L N : Nat) (xs : Nat → Int32) (A : Nat → Prop) (dC : Nat → ClassId) (dI : Nat → Nat → Nat) (cy cB : ClassId) (h0 h1 hw1 hc1 hb1 h2 hw2 hc2 hb2 ho m0 m1 mc1 m2 mc2 : Nat) (C0 : lw_C l p e s m below meth c b L N xs A dC dI cy cB) (i : Nat) (hi : i + 4 ≤ L) (p1 p2 p3 : Int32) (hp1 : xs (i + 1) = p1) (hp2 : xs (i + 2) = p2) (hp3 : xs (i + 3) = p3) (cells slots : Nat) (hcs : cells + 760 ≤ 716141) (hss : slots + 4500 ≤ 6947682) (K : lw_K l p e s m below meth c b L N xs A dC dI cy cB h0 h1 hw1 hc1 hb1 h2 hw2 hc2 hb2 ho m0 m1 mc1 m2 mc2 i (cells + 760) (slots + 4500) 3660) (a1 : Int32) (r1 : Int32) (f1 : Nat → Int64) (g1 : Nat → Int64) (a2 : Int32) (r2 : Int32) (f2 : Nat → Int64) (g2 : Nat → Int64) (kn : Int32) (nv : Int64) (sv : Value) (th : Int32) (H : Heap) (locs : List Loc) (ls : Array Slot) (hka1 : okA true f1) (hka2 : okA false f2) (hP : va_P (dC, dI) xCl [(h0, eE h1 h2 kn), (h1, eR hw1 hc1 hb1 a1 r1), (hw1, eW true), (hc1, eA cy f1), (hb1, eA cy g1), (h2, eR hw2 hc2 hb2 a2 r2), (hw2, eW false), (hc2, eA cy f2), (hb2, eA cy g2), (ho, eO nv sv), (m0, eM m1 m2 th (r1 + r2) kn), (m1, eMR true mc1 a1), (mc1, eA cy f1), (m2, eMR false mc2 a2), (mc2, eA cy f2)] H) (hD : va_D A [(h0, eE h1 h2 kn), (h1, eR hw1 hc1 hb1 a1 r1), (hw1, eW true), (hc1, eA cy f1), (hb1, eA cy g1), (h2, eR hw2 hc2 hb2 a2 r2), (hw2, eW false), (hc2, eA cy f2), (hb2, eA cy g2), (ho, eO nv sv), (m0, eM m1 m2 th (r1 + r2) kn), (m1, eMR true mc1 a1), (mc1, eA cy f1), (m2, eMR false mc2 a2), (mc2, eA cy f2)]) (hS : va_S A s.heap H locs) (hl : lv_has ls 7 [(0, .ref b), (1, .ref h0), (2, .ref m0), (3, .ref ho), (4, .int (nI i))]) : W p l e room_1 s m #[Value.ref b] below meth c H locs cells slots (lw_Z below #[Value.ref b] s) (F0 m 852 ls []) := by
  obtain ⟨hfl, hx, hb, hr, hml, hown, hts, hX, hbl, hbA, hlocks, hK, hG, hnc, hA, hAN, hN, hL, hT, hNs⟩ := id C0
  have hok2 := me_okF hka2
  have hsp1 : ∀ k, k < 8 → o_X1_isSpoiled true (f1 k) = false := fun k hk => (hka1 k hk).2
  have hsp2 : ∀ k, k < 8 → o_X1_isSpoiled false (f2 k) = false := fun k hk => (hka2 k hk).2
  have qx_wideSort : (o_L_wideSort a1 f1 g1 nv p1).1 = (o_X5_wideSort a1 f1 p1).2.2.2 := by have hm := ml_wideSort a1 g1 nv p1 hka1; exact hm.1
  have qn_wideSort : (o_L_wideSort a1 f1 g1 nv p1).2.2.2.2 = if (o_X5_wideSort a1 f1 p1).2.2.2 = 0 then ((o_X5_wideSort a1 f1 p1).1).toInt64 else nv := by have hm := ml_wideSort a1 g1 nv p1 hka1; exact hm.2.2.2.1
  refine lv_aload_n hx hb dL_law_852 rfl (lv_at hl 1 rfl) ?_
  refine lv_aload_n hx hb dL_law_853 rfl (lv_at hl 0 rfl) ?_
  refine lv_iload hx hb dL_law_854 (lv_at hl 4 rfl) ?_
  refine lv_iconst (v := 1) hx hb dL_law_856 (by decide +kernel) ?_
  refine lv_iadd hx hb dL_law_857 ?_
  rw [nI_1 i]
  refine xa_sld hx hb hX hbl hbA hS (k := i + 1) (by omega) hL hp1 dL_law_858 ?_
  refine lv_aload_n hx hb dL_law_859 rfl (lv_at hl 3 rfl) ?_
  have hPc := hP.sub (ws' := [(h0, eE h1 h2 kn), (h1, eR hw1 hc1 hb1 a1 r1), (hw1, eW true), (hc1, eA cy f1), (hb1, eA cy g1), (h2, eR hw2 hc2 hb2 a2 r2), (hw2, eW false), (hc2, eA cy f2), (hb2, eA cy g2), (ho, eO nv sv)]) [0, 1, 2, 3, 4, 5, 6, 7, 8, 9] rfl
  have hDc := hD.sub (ws' := [(h0, eE h1 h2 kn), (h1, eR hw1 hc1 hb1 a1 r1), (hw1, eW true), (hc1, eA cy f1), (hb1, eA cy g1), (h2, eR hw2 hc2 hb2 a2 r2), (hw2, eW false), (hc2, eA cy f2), (hb2, eA cy g2), (ho, eO nv sv)]) [0, 1, 2, 3, 4, 5, 6, 7, 8, 9] (by decide +kernel) rfl
  have hKc := hK.sub (tys' := [(cy, .long)]) [0] rfl
  have hFc := va_free (wc := [(h0, eE h1 h2 kn), (h1, eR hw1 hc1 hb1 a1 r1), (hw1, eW true), (hc1, eA cy f1), (hb1, eA cy g1), (h2, eR hw2 hc2 hb2 a2 r2), (hw2, eW false), (hc2, eA cy f2), (hb2, eA cy g2), (ho, eO nv sv)]) hD hS hA [0, 1, 2, 3, 4, 5, 6, 7, 8, 9] rfl
  refine va_calli (vx_runSW (As := [.ref h0, .int p1, .ref ho]) (rest := []) ⟨hx, hb, hml, hown, hts⟩ (k_L_wideSort l hfl dC dI cy h0 h1 hw1 hc1 hb1 h2 hw2 hc2 hb2 a1 r1 f1 g1 a2 r2 f2 g2 kn ho nv sv H.size N p1) (vx_cwSW 3 hts gL_law_L_wideSort rfl rfl rfl (by decide +kernel) ⟨Nat.le_of_ble_eq_true rfl, Nat.le_of_ble_eq_true rfl⟩) (xL.preS hKc hPc hDc hAN (Nat.le_trans hN hS.1) (hG.kept hS hAN) hnc) rfl rfl hl.1 rfl (lv_room (Nat.le_of_ble_eq_true rfl)) dL_law_860 ⟨(show _ ≤ 716141 by omega), (show _ ≤ 6947682 by omega)⟩) hS (fun q _ h => hFc q h) hFc (fun r_1 u t H locs ht hvm hw hB hz hk hS => ?_)
  replace hw : r_1 = (o_L_wideSort a1 f1 g1 nv p1).1 := hw
  subst r_1
  obtain ⟨hP1, hD1⟩ := hB
  rw [ht] at hP1
  obtain ⟨hP, hD⟩ := va_join (wr := [(m0, eM m1 m2 th (r1 + r2) kn), (m1, eMR true mc1 a1), (mc1, eA cy f1), (m2, eMR false mc2 a2), (mc2, eA cy f2)]) (w1 := [(h0, eE h1 h2 kn), (h1, eR hw1 hc1 hb1 (o_L_wideSort a1 f1 g1 nv p1).2.1 r1), (hw1, eW true), (hc1, eA cy (o_L_wideSort a1 f1 g1 nv p1).2.2.1), (hb1, eA cy (o_L_wideSort a1 f1 g1 nv p1).2.2.2.1), (h2, eR hw2 hc2 hb2 a2 r2), (hw2, eW false), (hc2, eA cy f2), (hb2, eA cy g2), (ho, eO (o_L_wideSort a1 f1 g1 nv p1).2.2.2.2 sv)]) hP hD [0, 1, 2, 3, 4, 5, 6, 7, 8, 9] [10, 11, 12, 13, 14] rfl rfl (by decide +kernel) (by decide +kernel) hk hFc hP1 hD1
  have hP := hP.sub (ws' := [(h0, eE h1 h2 kn), (h1, eR hw1 hc1 hb1 (o_L_wideSort a1 f1 g1 nv p1).2.1 r1), (hw1, eW true), (hc1, eA cy (o_L_wideSort a1 f1 g1 nv p1).2.2.1), (hb1, eA cy (o_L_wideSort a1 f1 g1 nv p1).2.2.2.1), (h2, eR hw2 hc2 hb2 a2 r2), (hw2, eW false), (hc2, eA cy f2), (hb2, eA cy g2), (ho, eO (o_L_wideSort a1 f1 g1 nv p1).2.2.2.2 sv), (m0, eM m1 m2 th (r1 + r2) kn), (m1, eMR true mc1 a1), (mc1, eA cy f1), (m2, eMR false mc2 a2), (mc2, eA cy f2)]) [5, 6, 7, 8, 9, 10, 11, 12, 13, 14, 0, 1, 2, 3, 4] rfl
  have hD := hD.sub (ws' := [(h0, eE h1 h2 kn), (h1, eR hw1 hc1 hb1 (o_L_wideSort a1 f1 g1 nv p1).2.1 r1), (hw1, eW true), (hc1, eA cy (o_L_wideSort a1 f1 g1 nv p1).2.2.1), (hb1, eA cy (o_L_wideSort a1 f1 g1 nv p1).2.2.2.1), (h2, eR hw2 hc2 hb2 a2 r2), (hw2, eW false), (hc2, eA cy f2), (hb2, eA cy g2), (ho, eO (o_L_wideSort a1 f1 g1 nv p1).2.2.2.2 sv), (m0, eM m1 m2 th (r1 + r2) kn), (m1, eMR true mc1 a1), (mc1, eA cy f1), (m2, eMR false mc2 a2), (mc2, eA cy f2)]) [5, 6, 7, 8, 9, 10, 11, 12, 13, 14, 0, 1, 2, 3, 4] (by decide +kernel) rfl
  refine lv_istore (lv' := [(5, .int ((o_L_wideSort a1 f1 g1 nv p1).1)), (0, .ref b), (1, .ref h0), (2, .ref m0), (3, .ref ho), (4, .int (nI i))]) hx hb dL_law_863 hl (by decide +kernel) rfl (fun ls hl => ?_)
  refine lv_aload_n hx hb dL_law_865 rfl (lv_at hl 3 rfl) ?_
  refine lv_aload_n hx hb dL_law_866 rfl (lv_at hl 1 rfl) ?_
  refine lv_iload hx hb dL_law_867 (lv_at hl 5 rfl) ?_
  refine lv_iconst (v := 1) hx hb dL_law_869 (by decide +kernel) ?_
  refine lv_iadd hx hb dL_law_870 ?_
  rw [nI_1 i]
  refine xa_sld hx hb hX hbl hbA hS (k := i + 1) (by omega) hL hp1 dL_law_871 ?_
  have hPc := hP.sub (ws' := [(m0, eM m1 m2 th (r1 + r2) kn), (m1, eMR true mc1 a1), (mc1, eA cy f1), (m2, eMR false mc2 a2), (mc2, eA cy f2)]) [10, 11, 12, 13, 14] rfl
  have hDc := hD.sub (ws' := [(m0, eM m1 m2 th (r1 + r2) kn), (m1, eMR true mc1 a1), (mc1, eA cy f1), (m2, eMR false mc2 a2), (mc2, eA cy f2)]) [10, 11, 12, 13, 14] (by decide +kernel) rfl
  have hKc := hK.sub (tys' := [(cy, .long)]) [0] rfl
  have hFc := va_free (wc := [(m0, eM m1 m2 th (r1 + r2) kn), (m1, eMR true mc1 a1), (mc1, eA cy f1), (m2, eMR false mc2 a2), (mc2, eA cy f2)]) hD hS hA [10, 11, 12, 13, 14] rfl
  refine va_calli (va_runV (As := [.int p1]) (rest := []) ⟨hx, hb, hml, hown, hts⟩ (k_X5_wideSort l dC dI cy m0 m1 mc1 m2 mc2 a1 f1 a2 f2 th (r1 + r2) kn H.size N p1) (cwV 1 hts gL_law_X5_wideSort rfl rfl rfl (by decide +kernel) ⟨Nat.le_of_ble_eq_true rfl, Nat.le_of_ble_eq_true rfl⟩) (xM.preV hKc hPc hDc hAN (Nat.le_trans hN hS.1) (hG.kept hS hAN) (ci := 7) (q0 := 0) rfl rfl) rfl rfl hl.1 rfl (lv_room (Nat.le_of_ble_eq_true rfl)) dL_law_872 ⟨(show _ ≤ 716141 by omega), (show _ ≤ 6947682 by omega)⟩) hS (fun q _ h => hFc q h) hFc (fun r_2 u t H locs ht hvm hw hB hz hk hS => ?_)
  replace hw : r_2 = (o_X5_wideSort a1 f1 p1).1 := hw
  subst r_2
  obtain ⟨hP1, hD1⟩ := hB
  rw [ht] at hP1
  obtain ⟨hP, hD⟩ := va_join (wr := [(h0, eE h1 h2 kn), (h1, eR hw1 hc1 hb1 (o_L_wideSort a1 f1 g1 nv p1).2.1 r1), (hw1, eW true), (hc1, eA cy (o_L_wideSort a1 f1 g1 nv p1).2.2.1), (hb1, eA cy (o_L_wideSort a1 f1 g1 nv p1).2.2.2.1), (h2, eR hw2 hc2 hb2 a2 r2), (hw2, eW false), (hc2, eA cy f2), (hb2, eA cy g2), (ho, eO (o_L_wideSort a1 f1 g1 nv p1).2.2.2.2 sv)]) (w1 := [(m0, eM m1 m2 (o_X5_wideSort a1 f1 p1).2.2.2 (r1 + r2) kn), (m1, eMR true mc1 (o_X5_wideSort a1 f1 p1).2.1), (mc1, eA cy (o_X5_wideSort a1 f1 p1).2.2.1), (m2, eMR false mc2 a2), (mc2, eA cy f2)]) hP hD [10, 11, 12, 13, 14] [0, 1, 2, 3, 4, 5, 6, 7, 8, 9] rfl rfl (by decide +kernel) (by decide +kernel) hk hFc hP1 hD1
  have hP := hP.sub (ws' := [(h0, eE h1 h2 kn), (h1, eR hw1 hc1 hb1 (o_L_wideSort a1 f1 g1 nv p1).2.1 r1), (hw1, eW true), (hc1, eA cy (o_L_wideSort a1 f1 g1 nv p1).2.2.1), (hb1, eA cy (o_L_wideSort a1 f1 g1 nv p1).2.2.2.1), (h2, eR hw2 hc2 hb2 a2 r2), (hw2, eW false), (hc2, eA cy f2), (hb2, eA cy g2), (ho, eO (o_L_wideSort a1 f1 g1 nv p1).2.2.2.2 sv), (m0, eM m1 m2 (o_X5_wideSort a1 f1 p1).2.2.2 (r1 + r2) kn), (m1, eMR true mc1 (o_X5_wideSort a1 f1 p1).2.1), (mc1, eA cy (o_X5_wideSort a1 f1 p1).2.2.1), (m2, eMR false mc2 a2), (mc2, eA cy f2)]) [0, 1, 2, 3, 4, 5, 6, 7, 8, 9, 10, 11, 12, 13, 14] rfl
  have hD := hD.sub (ws' := [(h0, eE h1 h2 kn), (h1, eR hw1 hc1 hb1 (o_L_wideSort a1 f1 g1 nv p1).2.1 r1), (hw1, eW true), (hc1, eA cy (o_L_wideSort a1 f1 g1 nv p1).2.2.1), (hb1, eA cy (o_L_wideSort a1 f1 g1 nv p1).2.2.2.1), (h2, eR hw2 hc2 hb2 a2 r2), (hw2, eW false), (hc2, eA cy f2), (hb2, eA cy g2), (ho, eO (o_L_wideSort a1 f1 g1 nv p1).2.2.2.2 sv), (m0, eM m1 m2 (o_X5_wideSort a1 f1 p1).2.2.2 (r1 + r2) kn), (m1, eMR true mc1 (o_X5_wideSort a1 f1 p1).2.1), (mc1, eA cy (o_X5_wideSort a1 f1 p1).2.2.1), (m2, eMR false mc2 a2), (mc2, eA cy f2)]) [0, 1, 2, 3, 4, 5, 6, 7, 8, 9, 10, 11, 12, 13, 14] (by decide +kernel) rfl
  refine lv_istore (lv' := [(6, .int ((o_X5_wideSort a1 f1 p1).1)), (5, .int ((o_L_wideSort a1 f1 g1 nv p1).1)), (0, .ref b), (1, .ref h0), (2, .ref m0), (3, .ref ho), (4, .int (nI i))]) hx hb dL_law_875 hl (by decide +kernel) rfl (fun ls hl => ?_)
  refine lv_aload_n hx hb dL_law_877 rfl (lv_at hl 4 rfl) ?_
  have hPc := hP.sub (ws' := [(m0, eM m1 m2 (o_X5_wideSort a1 f1 p1).2.2.2 (r1 + r2) kn)]) [10] rfl
  have hKc := hK.sub (tys' := []) [] rfl
  refine va_calli (va_runV (As := []) (rest := []) ⟨hx, hb, hml, hown, hts⟩ (k_X5_thrown l dC dI m0 m1 m2 ((o_X5_wideSort a1 f1 p1).2.2.2) (r1 + r2) kn H.size) (cwV 0 hts gL_law_X5_thrown rfl rfl rfl (by decide +kernel) ⟨Nat.le_of_ble_eq_true rfl, Nat.le_of_ble_eq_true rfl⟩) (xB.preV hKc hPc (ci := 7) (q0 := 0) rfl rfl) rfl rfl hl.1 rfl (lv_room (Nat.le_of_ble_eq_true rfl)) dL_law_878 ⟨(show _ ≤ 716141 by omega), (show _ ≤ 6947682 by omega)⟩) hS xA_old (fun q h => hA q (Nat.le_trans hS.1 h)) (fun r_3 u t H locs ht hvm hw hB hz hk hS => ?_)
  replace hw : r_3 = (o_X5_thrown ((o_X5_wideSort a1 f1 p1).2.2.2)) := hw
  subst r_3
  have hP := xP_keep hP hk
  refine lv_iload hx hb dL_law_881 (lv_at hl 1 rfl) ?_
  refine lv_icmp_eq (tgt := 888) hx hb dL_law_883 (by decide +kernel) (fun c9 => ?_) (fun c9 => absurd (show o_X5_thrown _ = _ from (qx_wideSort).symm) c9)
  refine lv_iload hx hb dL_law_888 (lv_at hl 1 rfl) ?_
  refine lv_if_ne (tgt := 906) hx hb dL_law_890 (by decide +kernel) (fun c_4 => ?_) (fun c_4 => ?_)
  · skip
    refine lv_goto (tgt := 3660) hx hb dL_law_906 (by decide +kernel) ?_
    refine W.widen (k := cells + 760) (n := slots + 4500) (by omega) (by omega) ?_
    have qe_b1 : (o_X5_wideSort a1 f1 p1).2.1 = (o_L_wideSort a1 f1 g1 nv p1).2.1 := (by have hm := ml_wideSort a1 g1 nv p1 hka1; exact hm.2.1.symm)
    have qe_e1 : (o_X5_wideSort a1 f1 p1).2.2.1 = (o_L_wideSort a1 f1 g1 nv p1).2.2.1 := (by have hm := ml_wideSort a1 g1 nv p1 hka1; exact hm.2.2.1.symm)
    have qk_1 : okA true ((o_L_wideSort a1 f1 g1 nv p1).2.2.1) := (by have hm := ml_wideSort a1 g1 nv p1 hka1; rw [hm.2.2.1]; exact hm.2.2.2.2)
    exact K ((o_L_wideSort a1 f1 g1 nv p1).2.1) r1 ((o_L_wideSort a1 f1 g1 nv p1).2.2.1) ((o_L_wideSort a1 f1 g1 nv p1).2.2.2.1) a2 r2 f2 g2 kn ((o_L_wideSort a1 f1 g1 nv p1).2.2.2.2) sv ((o_X5_wideSort a1 f1 p1).2.2.2) ((o_X5_wideSort a1 f1 p1).2.1) ((o_X5_wideSort a1 f1 p1).2.2.1) a2 f2 (r1 + r2) kn _ _ _ qe_b1 qe_e1 rfl rfl rfl rfl qk_1 hka2 hP hD hS (lv_sub hl [2, 3, 4, 5, 6] rfl)
  · skip
    refine lv_aload_n hx hb dL_law_893 rfl (lv_at hl 5 rfl) ?_
    refine va_getN (D := (dC, dI)) (ci := 5) (v := .long ((o_L_wideSort a1 f1 g1 nv p1).2.2.2.2)) (C := RX3) (T := TX3) (N := 2) hx hb hts (by decide +kernel) hown hK hP 9 rfl rfl 0 (by decide +kernel) (va_Nw.use rfl (hG.1 (.fieldLinkNest RL 13 "EdgefloatsLaw$Out" "n" "J" RL) (List.mem_of_getElem? (i := 6) rfl))) (fun _ h9 => h9) rfl dL_law_894 ?_
    refine lv_iload hx hb dL_law_897 (lv_at hl 0 rfl) ?_
    refine lv_i2l (v := (((o_X5_wideSort a1 f1 p1).1).toInt64)) hx hb dL_law_899 rfl ?_
    refine xc_eq (tgt := 906) hx hb dL_law_900 dL_law_901 (by decide +kernel) (fun c9 => ?_) (fun c9 => absurd ((qn_wideSort).trans (if_pos ((qx_wideSort).symm.trans c_4))) c9)
    refine lv_goto (tgt := 3660) hx hb dL_law_906 (by decide +kernel) ?_
    refine W.widen (k := cells + 760) (n := slots + 4500) (by omega) (by omega) ?_
    have qe_b1 : (o_X5_wideSort a1 f1 p1).2.1 = (o_L_wideSort a1 f1 g1 nv p1).2.1 := (by have hm := ml_wideSort a1 g1 nv p1 hka1; exact hm.2.1.symm)
    have qe_e1 : (o_X5_wideSort a1 f1 p1).2.2.1 = (o_L_wideSort a1 f1 g1 nv p1).2.2.1 := (by have hm := ml_wideSort a1 g1 nv p1 hka1; exact hm.2.2.1.symm)
    have qk_1 : okA true ((o_L_wideSort a1 f1 g1 nv p1).2.2.1) := (by have hm := ml_wideSort a1 g1 nv p1 hka1; rw [hm.2.2.1]; exact hm.2.2.2.2)
    exact K ((o_L_wideSort a1 f1 g1 nv p1).2.1) r1 ((o_L_wideSort a1 f1 g1 nv p1).2.2.1) ((o_L_wideSort a1 f1 g1 nv p1).2.2.2.1) a2 r2 f2 g2 kn ((o_L_wideSort a1 f1 g1 nv p1).2.2.2.2) sv ((o_X5_wideSort a1 f1 p1).2.2.2) ((o_X5_wideSort a1 f1 p1).2.1) ((o_X5_wideSort a1 f1 p1).2.2.1) a2 f2 (r1 + r2) kn _ _ _ qe_b1 qe_e1 rfl rfl rfl rfl qk_1 hka2 hP hD hS (lv_sub hl [2, 3, 4, 5, 6] rfl)
set_option maxHeartbeats 4000000 in
set_option maxRecDepth 100000 in
theorem st_9 (l : Launch) (p : Program) (e : Env) (s : State) (m : MethodId) (below : List Frame) (meth : Method) (c : Code) (b L N : Nat) (xs : Nat → Int32) (A : Nat → Prop) (dC : Nat → ClassId) (dI : Nat → Nat → Nat) (cy cB : ClassId) (h0 h1 hw1 hc1 hb1 h2 hw2 hc2 hb2 ho m0 m1 mc1 m2 mc2 : Nat) (C0 : lw_C l p e s m below meth c b L N xs A dC dI cy cB) (i : Nat) (hi : i + 4 ≤ L) (p1 p2 p3 : Int32) (hp1 : xs (i + 1) = p1) (hp2 : xs (i + 2) = p2) (hp3 : xs (i + 3) = p3) (cells slots : Nat) (hcs : cells + 760 ≤ 716141) (hss : slots + 4500 ≤ 6947682) (K : lw_K l p e s m below meth c b L N xs A dC dI cy cB h0 h1 hw1 hc1 hb1 h2 hw2 hc2 hb2 ho m0 m1 mc1 m2 mc2 i (cells + 760) (slots + 4500) 3660) (a1 : Int32) (r1 : Int32) (f1 : Nat → Int64) (g1 : Nat → Int64) (a2 : Int32) (r2 : Int32) (f2 : Nat → Int64) (g2 : Nat → Int64) (kn : Int32) (nv : Int64) (sv : Value) (th : Int32) (H : Heap) (locs : List Loc) (ls : Array Slot) (hka1 : okA true f1) (hka2 : okA false f2) (hP : va_P (dC, dI) xCl [(h0, eE h1 h2 kn), (h1, eR hw1 hc1 hb1 a1 r1), (hw1, eW true), (hc1, eA cy f1), (hb1, eA cy g1), (h2, eR hw2 hc2 hb2 a2 r2), (hw2, eW false), (hc2, eA cy f2), (hb2, eA cy g2), (ho, eO nv sv), (m0, eM m1 m2 th (r1 + r2) kn), (m1, eMR true mc1 a1), (mc1, eA cy f1), (m2, eMR false mc2 a2), (mc2, eA cy f2)] H) (hD : va_D A [(h0, eE h1 h2 kn), (h1, eR hw1 hc1 hb1 a1 r1), (hw1, eW true), (hc1, eA cy f1), (hb1, eA cy g1), (h2, eR hw2 hc2 hb2 a2 r2), (hw2, eW false), (hc2, eA cy f2), (hb2, eA cy g2), (ho, eO nv sv), (m0, eM m1 m2 th (r1 + r2) kn), (m1, eMR true mc1 a1), (mc1, eA cy f1), (m2, eMR false mc2 a2), (mc2, eA cy f2)]) (hS : va_S A s.heap H locs) (hl : lv_has ls 7 [(0, .ref b), (1, .ref h0), (2, .ref m0), (3, .ref ho), (4, .int (nI i))]) : W p l e room_1 s m #[Value.ref b] below meth c H locs cells slots (lw_Z below #[Value.ref b] s) (F0 m 909 ls []) := by
  obtain ⟨hfl, hx, hb, hr, hml, hown, hts, hX, hbl, hbA, hlocks, hK, hG, hnc, hA, hAN, hN, hL, hT, hNs⟩ := id C0
  have hok2 := me_okF hka2
  have hsp1 : ∀ k, k < 8 → o_X1_isSpoiled true (f1 k) = false := fun k hk => (hka1 k hk).2
  have hsp2 : ∀ k, k < 8 → o_X1_isSpoiled false (f2 k) = false := fun k hk => (hka2 k hk).2
  have qx_wideEnd : (o_L_wideEnd a1 f1 nv false p2).1 = (o_X5_wideEnd a1 f1 false p2).2.2.2 := by have hm := ml_wideEnd a1 nv false p2 hka1; rw [hm.1] <;> rfl
  have qn_wideEnd : (o_L_wideEnd a1 f1 nv false p2).2.2.2 = if (o_X5_wideEnd a1 f1 false p2).2.2.2 = 0 then ((o_X5_wideEnd a1 f1 false p2).1).toInt64 else nv := by have hm := ml_wideEnd a1 nv false p2 hka1; rw [hm.1] <;> rfl
  have qx_wideEnd_1 : (o_L_wideEnd a1 f1 nv true p2).1 = (o_X5_wideEnd a1 f1 true p2).2.2.2 := by have hm := ml_wideEnd a1 nv true p2 hka1; rw [hm.1] <;> rfl
  have qn_wideEnd_1 : (o_L_wideEnd a1 f1 nv true p2).2.2.2 = if (o_X5_wideEnd a1 f1 true p2).2.2.2 = 0 then ((o_X5_wideEnd a1 f1 true p2).1).toInt64 else nv := by have hm := ml_wideEnd a1 nv true p2 hka1; rw [hm.1] <;> rfl
  refine lv_aload_n hx hb dL_law_909 rfl (lv_at hl 1 rfl) ?_
  refine lv_aload_n hx hb dL_law_910 rfl (lv_at hl 0 rfl) ?_
  refine lv_iload hx hb dL_law_911 (lv_at hl 4 rfl) ?_
  refine lv_iconst (v := 1) hx hb dL_law_913 (by decide +kernel) ?_
  refine lv_iadd hx hb dL_law_914 ?_
  rw [nI_1 i]
  refine xa_sld hx hb hX hbl hbA hS (k := i + 1) (by omega) hL hp1 dL_law_915 ?_
  refine lv_if_eq (tgt := 923) hx hb dL_law_916 (by decide +kernel) (fun c_1 => ?_) (fun c_1 => ?_)
  · skip
    refine lv_iconst (v := 0) hx hb dL_law_923 (by decide +kernel) ?_
    refine lv_aload_n hx hb dL_law_924 rfl (lv_at hl 0 rfl) ?_
    refine lv_iload hx hb dL_law_925 (lv_at hl 4 rfl) ?_
    refine lv_iconst (v := 2) hx hb dL_law_927 (by decide +kernel) ?_
    refine lv_iadd hx hb dL_law_928 ?_
    rw [nI_p2 i]
    refine xa_sld hx hb hX hbl hbA hS (k := i + 2) (by omega) hL hp2 dL_law_929 ?_
    refine lv_aload_n hx hb dL_law_930 rfl (lv_at hl 3 rfl) ?_
    have hPc := hP.sub (ws' := [(h0, eE h1 h2 kn), (h1, eR hw1 hc1 hb1 a1 r1), (hw1, eW true), (hc1, eA cy f1), (hb1, eA cy g1), (h2, eR hw2 hc2 hb2 a2 r2), (hw2, eW false), (hc2, eA cy f2), (hb2, eA cy g2), (ho, eO nv sv)]) [0, 1, 2, 3, 4, 5, 6, 7, 8, 9] rfl
    have hDc := hD.sub (ws' := [(h0, eE h1 h2 kn), (h1, eR hw1 hc1 hb1 a1 r1), (hw1, eW true), (hc1, eA cy f1), (hb1, eA cy g1), (h2, eR hw2 hc2 hb2 a2 r2), (hw2, eW false), (hc2, eA cy f2), (hb2, eA cy g2), (ho, eO nv sv)]) [0, 1, 2, 3, 4, 5, 6, 7, 8, 9] (by decide +kernel) rfl
    have hKc := hK.sub (tys' := [(cy, .long)]) [0] rfl
    have hFc := va_free (wc := [(h0, eE h1 h2 kn), (h1, eR hw1 hc1 hb1 a1 r1), (hw1, eW true), (hc1, eA cy f1), (hb1, eA cy g1), (h2, eR hw2 hc2 hb2 a2 r2), (hw2, eW false), (hc2, eA cy f2), (hb2, eA cy g2), (ho, eO nv sv)]) hD hS hA [0, 1, 2, 3, 4, 5, 6, 7, 8, 9] rfl
    refine va_calli (vx_runSW (As := [.ref h0, .int 0, .int p2, .ref ho]) (rest := []) ⟨hx, hb, hml, hown, hts⟩ (k_L_wideEnd l hfl dC dI cy h0 h1 hw1 hc1 hb1 h2 hw2 hc2 hb2 a1 r1 f1 g1 a2 r2 f2 g2 kn ho nv sv H.size N false p2) (vx_cwSW 4 hts gL_law_L_wideEnd rfl rfl rfl (by decide +kernel) ⟨Nat.le_of_ble_eq_true rfl, Nat.le_of_ble_eq_true rfl⟩) (xL.preS hKc hPc hDc hAN (Nat.le_trans hN hS.1) (hG.kept hS hAN) hnc) rfl rfl hl.1 rfl (lv_room (Nat.le_of_ble_eq_true rfl)) dL_law_931 ⟨(show _ ≤ 716141 by omega), (show _ ≤ 6947682 by omega)⟩) hS (fun q _ h => hFc q h) hFc (fun r_2 u t H locs ht hvm hw hB hz hk hS => ?_)
    replace hw : r_2 = (o_L_wideEnd a1 f1 nv false p2).1 := hw
    subst r_2
    obtain ⟨hP1, hD1⟩ := hB
    rw [ht] at hP1
    obtain ⟨hP, hD⟩ := va_join (wr := [(m0, eM m1 m2 th (r1 + r2) kn), (m1, eMR true mc1 a1), (mc1, eA cy f1), (m2, eMR false mc2 a2), (mc2, eA cy f2)]) (w1 := [(h0, eE h1 h2 kn), (h1, eR hw1 hc1 hb1 (o_L_wideEnd a1 f1 nv false p2).2.1 r1), (hw1, eW true), (hc1, eA cy (o_L_wideEnd a1 f1 nv false p2).2.2.1), (hb1, eA cy g1), (h2, eR hw2 hc2 hb2 a2 r2), (hw2, eW false), (hc2, eA cy f2), (hb2, eA cy g2), (ho, eO (o_L_wideEnd a1 f1 nv false p2).2.2.2 sv)]) hP hD [0, 1, 2, 3, 4, 5, 6, 7, 8, 9] [10, 11, 12, 13, 14] rfl rfl (by decide +kernel) (by decide +kernel) hk hFc hP1 hD1
    have hP := hP.sub (ws' := [(h0, eE h1 h2 kn), (h1, eR hw1 hc1 hb1 (o_L_wideEnd a1 f1 nv false p2).2.1 r1), (hw1, eW true), (hc1, eA cy (o_L_wideEnd a1 f1 nv false p2).2.2.1), (hb1, eA cy g1), (h2, eR hw2 hc2 hb2 a2 r2), (hw2, eW false), (hc2, eA cy f2), (hb2, eA cy g2), (ho, eO (o_L_wideEnd a1 f1 nv false p2).2.2.2 sv), (m0, eM m1 m2 th (r1 + r2) kn), (m1, eMR true mc1 a1), (mc1, eA cy f1), (m2, eMR false mc2 a2), (mc2, eA cy f2)]) [5, 6, 7, 8, 9, 10, 11, 12, 13, 14, 0, 1, 2, 3, 4] rfl
    have hD := hD.sub (ws' := [(h0, eE h1 h2 kn), (h1, eR hw1 hc1 hb1 (o_L_wideEnd a1 f1 nv false p2).2.1 r1), (hw1, eW true), (hc1, eA cy (o_L_wideEnd a1 f1 nv false p2).2.2.1), (hb1, eA cy g1), (h2, eR hw2 hc2 hb2 a2 r2), (hw2, eW false), (hc2, eA cy f2), (hb2, eA cy g2), (ho, eO (o_L_wideEnd a1 f1 nv false p2).2.2.2 sv), (m0, eM m1 m2 th (r1 + r2) kn), (m1, eMR true mc1 a1), (mc1, eA cy f1), (m2, eMR false mc2 a2), (mc2, eA cy f2)]) [5, 6, 7, 8, 9, 10, 11, 12, 13, 14, 0, 1, 2, 3, 4] (by decide +kernel) rfl
    refine lv_istore (lv' := [(5, .int ((o_L_wideEnd a1 f1 nv false p2).1)), (0, .ref b), (1, .ref h0), (2, .ref m0), (3, .ref ho), (4, .int (nI i))]) hx hb dL_law_934 hl (by decide +kernel) rfl (fun ls hl => ?_)
    refine lv_aload_n hx hb dL_law_936 rfl (lv_at hl 3 rfl) ?_
    refine lv_aload_n hx hb dL_law_937 rfl (lv_at hl 1 rfl) ?_
    refine lv_iload hx hb dL_law_938 (lv_at hl 5 rfl) ?_
    refine lv_iconst (v := 1) hx hb dL_law_940 (by decide +kernel) ?_
    refine lv_iadd hx hb dL_law_941 ?_
    rw [nI_1 i]
    refine xa_sld hx hb hX hbl hbA hS (k := i + 1) (by omega) hL hp1 dL_law_942 ?_
    refine lv_if_eq (tgt := 950) hx hb dL_law_943 (by decide +kernel) (fun c9 => ?_) (fun c9 => absurd c_1 c9)
    refine lv_iconst (v := 0) hx hb dL_law_950 (by decide +kernel) ?_
    refine lv_aload_n hx hb dL_law_951 rfl (lv_at hl 1 rfl) ?_
    refine lv_iload hx hb dL_law_952 (lv_at hl 5 rfl) ?_
    refine lv_iconst (v := 2) hx hb dL_law_954 (by decide +kernel) ?_
    refine lv_iadd hx hb dL_law_955 ?_
    rw [nI_p2 i]
    refine xa_sld hx hb hX hbl hbA hS (k := i + 2) (by omega) hL hp2 dL_law_956 ?_
    have hPc := hP.sub (ws' := [(m0, eM m1 m2 th (r1 + r2) kn), (m1, eMR true mc1 a1), (mc1, eA cy f1), (m2, eMR false mc2 a2), (mc2, eA cy f2)]) [10, 11, 12, 13, 14] rfl
    have hDc := hD.sub (ws' := [(m0, eM m1 m2 th (r1 + r2) kn), (m1, eMR true mc1 a1), (mc1, eA cy f1), (m2, eMR false mc2 a2), (mc2, eA cy f2)]) [10, 11, 12, 13, 14] (by decide +kernel) rfl
    have hKc := hK.sub (tys' := [(cy, .long)]) [0] rfl
    have hFc := va_free (wc := [(m0, eM m1 m2 th (r1 + r2) kn), (m1, eMR true mc1 a1), (mc1, eA cy f1), (m2, eMR false mc2 a2), (mc2, eA cy f2)]) hD hS hA [10, 11, 12, 13, 14] rfl
    refine va_calli (va_runV (As := [.int 0, .int p2]) (rest := []) ⟨hx, hb, hml, hown, hts⟩ (k_X5_wideEnd l dC dI cy m0 m1 mc1 m2 mc2 a1 f1 a2 f2 th (r1 + r2) kn H.size N false p2) (cwV 2 hts gL_law_X5_wideEnd rfl rfl rfl (by decide +kernel) ⟨Nat.le_of_ble_eq_true rfl, Nat.le_of_ble_eq_true rfl⟩) (xM.preV hKc hPc hDc hAN (Nat.le_trans hN hS.1) (hG.kept hS hAN) (ci := 7) (q0 := 0) rfl rfl) rfl rfl hl.1 rfl (lv_room (Nat.le_of_ble_eq_true rfl)) dL_law_957 ⟨(show _ ≤ 716141 by omega), (show _ ≤ 6947682 by omega)⟩) hS (fun q _ h => hFc q h) hFc (fun r_3 u t H locs ht hvm hw hB hz hk hS => ?_)
    replace hw : r_3 = (o_X5_wideEnd a1 f1 false p2).1 := hw
    subst r_3
    obtain ⟨hP1, hD1⟩ := hB
    rw [ht] at hP1
    obtain ⟨hP, hD⟩ := va_join (wr := [(h0, eE h1 h2 kn), (h1, eR hw1 hc1 hb1 (o_L_wideEnd a1 f1 nv false p2).2.1 r1), (hw1, eW true), (hc1, eA cy (o_L_wideEnd a1 f1 nv false p2).2.2.1), (hb1, eA cy g1), (h2, eR hw2 hc2 hb2 a2 r2), (hw2, eW false), (hc2, eA cy f2), (hb2, eA cy g2), (ho, eO (o_L_wideEnd a1 f1 nv false p2).2.2.2 sv)]) (w1 := [(m0, eM m1 m2 (o_X5_wideEnd a1 f1 false p2).2.2.2 (r1 + r2) kn), (m1, eMR true mc1 (o_X5_wideEnd a1 f1 false p2).2.1), (mc1, eA cy (o_X5_wideEnd a1 f1 false p2).2.2.1), (m2, eMR false mc2 a2), (mc2, eA cy f2)]) hP hD [10, 11, 12, 13, 14] [0, 1, 2, 3, 4, 5, 6, 7, 8, 9] rfl rfl (by decide +kernel) (by decide +kernel) hk hFc hP1 hD1
    have hP := hP.sub (ws' := [(h0, eE h1 h2 kn), (h1, eR hw1 hc1 hb1 (o_L_wideEnd a1 f1 nv false p2).2.1 r1), (hw1, eW true), (hc1, eA cy (o_L_wideEnd a1 f1 nv false p2).2.2.1), (hb1, eA cy g1), (h2, eR hw2 hc2 hb2 a2 r2), (hw2, eW false), (hc2, eA cy f2), (hb2, eA cy g2), (ho, eO (o_L_wideEnd a1 f1 nv false p2).2.2.2 sv), (m0, eM m1 m2 (o_X5_wideEnd a1 f1 false p2).2.2.2 (r1 + r2) kn), (m1, eMR true mc1 (o_X5_wideEnd a1 f1 false p2).2.1), (mc1, eA cy (o_X5_wideEnd a1 f1 false p2).2.2.1), (m2, eMR false mc2 a2), (mc2, eA cy f2)]) [0, 1, 2, 3, 4, 5, 6, 7, 8, 9, 10, 11, 12, 13, 14] rfl
    have hD := hD.sub (ws' := [(h0, eE h1 h2 kn), (h1, eR hw1 hc1 hb1 (o_L_wideEnd a1 f1 nv false p2).2.1 r1), (hw1, eW true), (hc1, eA cy (o_L_wideEnd a1 f1 nv false p2).2.2.1), (hb1, eA cy g1), (h2, eR hw2 hc2 hb2 a2 r2), (hw2, eW false), (hc2, eA cy f2), (hb2, eA cy g2), (ho, eO (o_L_wideEnd a1 f1 nv false p2).2.2.2 sv), (m0, eM m1 m2 (o_X5_wideEnd a1 f1 false p2).2.2.2 (r1 + r2) kn), (m1, eMR true mc1 (o_X5_wideEnd a1 f1 false p2).2.1), (mc1, eA cy (o_X5_wideEnd a1 f1 false p2).2.2.1), (m2, eMR false mc2 a2), (mc2, eA cy f2)]) [0, 1, 2, 3, 4, 5, 6, 7, 8, 9, 10, 11, 12, 13, 14] (by decide +kernel) rfl
    refine lv_istore (lv' := [(6, .int ((o_X5_wideEnd a1 f1 false p2).1)), (5, .int ((o_L_wideEnd a1 f1 nv false p2).1)), (0, .ref b), (1, .ref h0), (2, .ref m0), (3, .ref ho), (4, .int (nI i))]) hx hb dL_law_960 hl (by decide +kernel) rfl (fun ls hl => ?_)
    refine lv_aload_n hx hb dL_law_962 rfl (lv_at hl 4 rfl) ?_
    have hPc := hP.sub (ws' := [(m0, eM m1 m2 (o_X5_wideEnd a1 f1 false p2).2.2.2 (r1 + r2) kn)]) [10] rfl
    have hKc := hK.sub (tys' := []) [] rfl
    refine va_calli (va_runV (As := []) (rest := []) ⟨hx, hb, hml, hown, hts⟩ (k_X5_thrown l dC dI m0 m1 m2 ((o_X5_wideEnd a1 f1 false p2).2.2.2) (r1 + r2) kn H.size) (cwV 0 hts gL_law_X5_thrown rfl rfl rfl (by decide +kernel) ⟨Nat.le_of_ble_eq_true rfl, Nat.le_of_ble_eq_true rfl⟩) (xB.preV hKc hPc (ci := 7) (q0 := 0) rfl rfl) rfl rfl hl.1 rfl (lv_room (Nat.le_of_ble_eq_true rfl)) dL_law_963 ⟨(show _ ≤ 716141 by omega), (show _ ≤ 6947682 by omega)⟩) hS xA_old (fun q h => hA q (Nat.le_trans hS.1 h)) (fun r_4 u t H locs ht hvm hw hB hz hk hS => ?_)
    replace hw : r_4 = (o_X5_thrown ((o_X5_wideEnd a1 f1 false p2).2.2.2)) := hw
    subst r_4
    have hP := xP_keep hP hk
    refine lv_iload hx hb dL_law_966 (lv_at hl 1 rfl) ?_
    refine lv_icmp_eq (tgt := 973) hx hb dL_law_968 (by decide +kernel) (fun c9 => ?_) (fun c9 => absurd (show o_X5_thrown _ = _ from (qx_wideEnd).symm) c9)
    refine lv_iload hx hb dL_law_973 (lv_at hl 1 rfl) ?_
    refine lv_if_ne (tgt := 991) hx hb dL_law_975 (by decide +kernel) (fun c_5 => ?_) (fun c_5 => ?_)
    · skip
      refine lv_goto (tgt := 3660) hx hb dL_law_991 (by decide +kernel) ?_
      refine W.widen (k := cells + 760) (n := slots + 4500) (by omega) (by omega) ?_
      have qe_b1 : (o_X5_wideEnd a1 f1 false p2).2.1 = (o_L_wideEnd a1 f1 nv false p2).2.1 := (by have hm := ml_wideEnd a1 nv false p2 hka1; rw [hm.1] <;> rfl)
      have qe_e1 : (o_X5_wideEnd a1 f1 false p2).2.2.1 = (o_L_wideEnd a1 f1 nv false p2).2.2.1 := (by have hm := ml_wideEnd a1 nv false p2 hka1; rw [hm.1] <;> rfl)
      have qk_1 : okA true ((o_L_wideEnd a1 f1 nv false p2).2.2.1) := (by have hm := ml_wideEnd a1 nv false p2 hka1; rw [hm.1]; exact hm.2)
      exact K ((o_L_wideEnd a1 f1 nv false p2).2.1) r1 ((o_L_wideEnd a1 f1 nv false p2).2.2.1) g1 a2 r2 f2 g2 kn ((o_L_wideEnd a1 f1 nv false p2).2.2.2) sv ((o_X5_wideEnd a1 f1 false p2).2.2.2) ((o_X5_wideEnd a1 f1 false p2).2.1) ((o_X5_wideEnd a1 f1 false p2).2.2.1) a2 f2 (r1 + r2) kn _ _ _ qe_b1 qe_e1 rfl rfl rfl rfl qk_1 hka2 hP hD hS (lv_sub hl [2, 3, 4, 5, 6] rfl)
    · skip
      refine lv_aload_n hx hb dL_law_978 rfl (lv_at hl 5 rfl) ?_
      refine va_getN (D := (dC, dI)) (ci := 5) (v := .long ((o_L_wideEnd a1 f1 nv false p2).2.2.2)) (C := RX3) (T := TX3) (N := 2) hx hb hts (by decide +kernel) hown hK hP 9 rfl rfl 0 (by decide +kernel) (va_Nw.use rfl (hG.1 (.fieldLinkNest RL 13 "EdgefloatsLaw$Out" "n" "J" RL) (List.mem_of_getElem? (i := 6) rfl))) (fun _ h9 => h9) rfl dL_law_979 ?_
      refine lv_iload hx hb dL_law_982 (lv_at hl 0 rfl) ?_
      refine lv_i2l (v := (((o_X5_wideEnd a1 f1 false p2).1).toInt64)) hx hb dL_law_984 rfl ?_
      refine xc_eq (tgt := 991) hx hb dL_law_985 dL_law_986 (by decide +kernel) (fun c9 => ?_) (fun c9 => absurd ((qn_wideEnd).trans (if_pos ((qx_wideEnd).symm.trans c_5))) c9)
      refine lv_goto (tgt := 3660) hx hb dL_law_991 (by decide +kernel) ?_
      refine W.widen (k := cells + 760) (n := slots + 4500) (by omega) (by omega) ?_
      have qe_b1 : (o_X5_wideEnd a1 f1 false p2).2.1 = (o_L_wideEnd a1 f1 nv false p2).2.1 := (by have hm := ml_wideEnd a1 nv false p2 hka1; rw [hm.1] <;> rfl)
      have qe_e1 : (o_X5_wideEnd a1 f1 false p2).2.2.1 = (o_L_wideEnd a1 f1 nv false p2).2.2.1 := (by have hm := ml_wideEnd a1 nv false p2 hka1; rw [hm.1] <;> rfl)
      have qk_1 : okA true ((o_L_wideEnd a1 f1 nv false p2).2.2.1) := (by have hm := ml_wideEnd a1 nv false p2 hka1; rw [hm.1]; exact hm.2)
      exact K ((o_L_wideEnd a1 f1 nv false p2).2.1) r1 ((o_L_wideEnd a1 f1 nv false p2).2.2.1) g1 a2 r2 f2 g2 kn ((o_L_wideEnd a1 f1 nv false p2).2.2.2) sv ((o_X5_wideEnd a1 f1 false p2).2.2.2) ((o_X5_wideEnd a1 f1 false p2).2.1) ((o_X5_wideEnd a1 f1 false p2).2.2.1) a2 f2 (r1 + r2) kn _ _ _ qe_b1 qe_e1 rfl rfl rfl rfl qk_1 hka2 hP hD hS (lv_sub hl [2, 3, 4, 5, 6] rfl)
  · skip
    refine lv_iconst (v := 1) hx hb dL_law_919 (by decide +kernel) ?_
    refine lv_goto (tgt := 924) hx hb dL_law_920 (by decide +kernel) ?_
    refine lv_aload_n hx hb dL_law_924 rfl (lv_at hl 0 rfl) ?_
    refine lv_iload hx hb dL_law_925 (lv_at hl 4 rfl) ?_
    refine lv_iconst (v := 2) hx hb dL_law_927 (by decide +kernel) ?_
    refine lv_iadd hx hb dL_law_928 ?_
    rw [nI_p2 i]
    refine xa_sld hx hb hX hbl hbA hS (k := i + 2) (by omega) hL hp2 dL_law_929 ?_
    refine lv_aload_n hx hb dL_law_930 rfl (lv_at hl 3 rfl) ?_
    have hPc := hP.sub (ws' := [(h0, eE h1 h2 kn), (h1, eR hw1 hc1 hb1 a1 r1), (hw1, eW true), (hc1, eA cy f1), (hb1, eA cy g1), (h2, eR hw2 hc2 hb2 a2 r2), (hw2, eW false), (hc2, eA cy f2), (hb2, eA cy g2), (ho, eO nv sv)]) [0, 1, 2, 3, 4, 5, 6, 7, 8, 9] rfl
    have hDc := hD.sub (ws' := [(h0, eE h1 h2 kn), (h1, eR hw1 hc1 hb1 a1 r1), (hw1, eW true), (hc1, eA cy f1), (hb1, eA cy g1), (h2, eR hw2 hc2 hb2 a2 r2), (hw2, eW false), (hc2, eA cy f2), (hb2, eA cy g2), (ho, eO nv sv)]) [0, 1, 2, 3, 4, 5, 6, 7, 8, 9] (by decide +kernel) rfl
    have hKc := hK.sub (tys' := [(cy, .long)]) [0] rfl
    have hFc := va_free (wc := [(h0, eE h1 h2 kn), (h1, eR hw1 hc1 hb1 a1 r1), (hw1, eW true), (hc1, eA cy f1), (hb1, eA cy g1), (h2, eR hw2 hc2 hb2 a2 r2), (hw2, eW false), (hc2, eA cy f2), (hb2, eA cy g2), (ho, eO nv sv)]) hD hS hA [0, 1, 2, 3, 4, 5, 6, 7, 8, 9] rfl
    refine va_calli (vx_runSW (As := [.ref h0, .int 1, .int p2, .ref ho]) (rest := []) ⟨hx, hb, hml, hown, hts⟩ (k_L_wideEnd l hfl dC dI cy h0 h1 hw1 hc1 hb1 h2 hw2 hc2 hb2 a1 r1 f1 g1 a2 r2 f2 g2 kn ho nv sv H.size N true p2) (vx_cwSW 4 hts gL_law_L_wideEnd rfl rfl rfl (by decide +kernel) ⟨Nat.le_of_ble_eq_true rfl, Nat.le_of_ble_eq_true rfl⟩) (xL.preS hKc hPc hDc hAN (Nat.le_trans hN hS.1) (hG.kept hS hAN) hnc) rfl rfl hl.1 rfl (lv_room (Nat.le_of_ble_eq_true rfl)) dL_law_931 ⟨(show _ ≤ 716141 by omega), (show _ ≤ 6947682 by omega)⟩) hS (fun q _ h => hFc q h) hFc (fun r_6 u t H locs ht hvm hw hB hz hk hS => ?_)
    replace hw : r_6 = (o_L_wideEnd a1 f1 nv true p2).1 := hw
    subst r_6
    obtain ⟨hP1, hD1⟩ := hB
    rw [ht] at hP1
    obtain ⟨hP, hD⟩ := va_join (wr := [(m0, eM m1 m2 th (r1 + r2) kn), (m1, eMR true mc1 a1), (mc1, eA cy f1), (m2, eMR false mc2 a2), (mc2, eA cy f2)]) (w1 := [(h0, eE h1 h2 kn), (h1, eR hw1 hc1 hb1 (o_L_wideEnd a1 f1 nv true p2).2.1 r1), (hw1, eW true), (hc1, eA cy (o_L_wideEnd a1 f1 nv true p2).2.2.1), (hb1, eA cy g1), (h2, eR hw2 hc2 hb2 a2 r2), (hw2, eW false), (hc2, eA cy f2), (hb2, eA cy g2), (ho, eO (o_L_wideEnd a1 f1 nv true p2).2.2.2 sv)]) hP hD [0, 1, 2, 3, 4, 5, 6, 7, 8, 9] [10, 11, 12, 13, 14] rfl rfl (by decide +kernel) (by decide +kernel) hk hFc hP1 hD1
    have hP := hP.sub (ws' := [(h0, eE h1 h2 kn), (h1, eR hw1 hc1 hb1 (o_L_wideEnd a1 f1 nv true p2).2.1 r1), (hw1, eW true), (hc1, eA cy (o_L_wideEnd a1 f1 nv true p2).2.2.1), (hb1, eA cy g1), (h2, eR hw2 hc2 hb2 a2 r2), (hw2, eW false), (hc2, eA cy f2), (hb2, eA cy g2), (ho, eO (o_L_wideEnd a1 f1 nv true p2).2.2.2 sv), (m0, eM m1 m2 th (r1 + r2) kn), (m1, eMR true mc1 a1), (mc1, eA cy f1), (m2, eMR false mc2 a2), (mc2, eA cy f2)]) [5, 6, 7, 8, 9, 10, 11, 12, 13, 14, 0, 1, 2, 3, 4] rfl
    have hD := hD.sub (ws' := [(h0, eE h1 h2 kn), (h1, eR hw1 hc1 hb1 (o_L_wideEnd a1 f1 nv true p2).2.1 r1), (hw1, eW true), (hc1, eA cy (o_L_wideEnd a1 f1 nv true p2).2.2.1), (hb1, eA cy g1), (h2, eR hw2 hc2 hb2 a2 r2), (hw2, eW false), (hc2, eA cy f2), (hb2, eA cy g2), (ho, eO (o_L_wideEnd a1 f1 nv true p2).2.2.2 sv), (m0, eM m1 m2 th (r1 + r2) kn), (m1, eMR true mc1 a1), (mc1, eA cy f1), (m2, eMR false mc2 a2), (mc2, eA cy f2)]) [5, 6, 7, 8, 9, 10, 11, 12, 13, 14, 0, 1, 2, 3, 4] (by decide +kernel) rfl
    refine lv_istore (lv' := [(5, .int ((o_L_wideEnd a1 f1 nv true p2).1)), (0, .ref b), (1, .ref h0), (2, .ref m0), (3, .ref ho), (4, .int (nI i))]) hx hb dL_law_934 hl (by decide +kernel) rfl (fun ls hl => ?_)
    refine lv_aload_n hx hb dL_law_936 rfl (lv_at hl 3 rfl) ?_
    refine lv_aload_n hx hb dL_law_937 rfl (lv_at hl 1 rfl) ?_
    refine lv_iload hx hb dL_law_938 (lv_at hl 5 rfl) ?_
    refine lv_iconst (v := 1) hx hb dL_law_940 (by decide +kernel) ?_
    refine lv_iadd hx hb dL_law_941 ?_
    rw [nI_1 i]
    refine xa_sld hx hb hX hbl hbA hS (k := i + 1) (by omega) hL hp1 dL_law_942 ?_
    refine lv_if_eq (tgt := 950) hx hb dL_law_943 (by decide +kernel) (fun c9 => absurd c9 c_1) (fun c9 => ?_)
    refine lv_iconst (v := 1) hx hb dL_law_946 (by decide +kernel) ?_
    refine lv_goto (tgt := 951) hx hb dL_law_947 (by decide +kernel) ?_
    refine lv_aload_n hx hb dL_law_951 rfl (lv_at hl 1 rfl) ?_
    refine lv_iload hx hb dL_law_952 (lv_at hl 5 rfl) ?_
    refine lv_iconst (v := 2) hx hb dL_law_954 (by decide +kernel) ?_
    refine lv_iadd hx hb dL_law_955 ?_
    rw [nI_p2 i]
    refine xa_sld hx hb hX hbl hbA hS (k := i + 2) (by omega) hL hp2 dL_law_956 ?_
    have hPc := hP.sub (ws' := [(m0, eM m1 m2 th (r1 + r2) kn), (m1, eMR true mc1 a1), (mc1, eA cy f1), (m2, eMR false mc2 a2), (mc2, eA cy f2)]) [10, 11, 12, 13, 14] rfl
    have hDc := hD.sub (ws' := [(m0, eM m1 m2 th (r1 + r2) kn), (m1, eMR true mc1 a1), (mc1, eA cy f1), (m2, eMR false mc2 a2), (mc2, eA cy f2)]) [10, 11, 12, 13, 14] (by decide +kernel) rfl
    have hKc := hK.sub (tys' := [(cy, .long)]) [0] rfl
    have hFc := va_free (wc := [(m0, eM m1 m2 th (r1 + r2) kn), (m1, eMR true mc1 a1), (mc1, eA cy f1), (m2, eMR false mc2 a2), (mc2, eA cy f2)]) hD hS hA [10, 11, 12, 13, 14] rfl
    refine va_calli (va_runV (As := [.int 1, .int p2]) (rest := []) ⟨hx, hb, hml, hown, hts⟩ (k_X5_wideEnd l dC dI cy m0 m1 mc1 m2 mc2 a1 f1 a2 f2 th (r1 + r2) kn H.size N true p2) (cwV 2 hts gL_law_X5_wideEnd rfl rfl rfl (by decide +kernel) ⟨Nat.le_of_ble_eq_true rfl, Nat.le_of_ble_eq_true rfl⟩) (xM.preV hKc hPc hDc hAN (Nat.le_trans hN hS.1) (hG.kept hS hAN) (ci := 7) (q0 := 0) rfl rfl) rfl rfl hl.1 rfl (lv_room (Nat.le_of_ble_eq_true rfl)) dL_law_957 ⟨(show _ ≤ 716141 by omega), (show _ ≤ 6947682 by omega)⟩) hS (fun q _ h => hFc q h) hFc (fun r_7 u t H locs ht hvm hw hB hz hk hS => ?_)
    replace hw : r_7 = (o_X5_wideEnd a1 f1 true p2).1 := hw
    subst r_7
    obtain ⟨hP1, hD1⟩ := hB
    rw [ht] at hP1
    obtain ⟨hP, hD⟩ := va_join (wr := [(h0, eE h1 h2 kn), (h1, eR hw1 hc1 hb1 (o_L_wideEnd a1 f1 nv true p2).2.1 r1), (hw1, eW true), (hc1, eA cy (o_L_wideEnd a1 f1 nv true p2).2.2.1), (hb1, eA cy g1), (h2, eR hw2 hc2 hb2 a2 r2), (hw2, eW false), (hc2, eA cy f2), (hb2, eA cy g2), (ho, eO (o_L_wideEnd a1 f1 nv true p2).2.2.2 sv)]) (w1 := [(m0, eM m1 m2 (o_X5_wideEnd a1 f1 true p2).2.2.2 (r1 + r2) kn), (m1, eMR true mc1 (o_X5_wideEnd a1 f1 true p2).2.1), (mc1, eA cy (o_X5_wideEnd a1 f1 true p2).2.2.1), (m2, eMR false mc2 a2), (mc2, eA cy f2)]) hP hD [10, 11, 12, 13, 14] [0, 1, 2, 3, 4, 5, 6, 7, 8, 9] rfl rfl (by decide +kernel) (by decide +kernel) hk hFc hP1 hD1
    have hP := hP.sub (ws' := [(h0, eE h1 h2 kn), (h1, eR hw1 hc1 hb1 (o_L_wideEnd a1 f1 nv true p2).2.1 r1), (hw1, eW true), (hc1, eA cy (o_L_wideEnd a1 f1 nv true p2).2.2.1), (hb1, eA cy g1), (h2, eR hw2 hc2 hb2 a2 r2), (hw2, eW false), (hc2, eA cy f2), (hb2, eA cy g2), (ho, eO (o_L_wideEnd a1 f1 nv true p2).2.2.2 sv), (m0, eM m1 m2 (o_X5_wideEnd a1 f1 true p2).2.2.2 (r1 + r2) kn), (m1, eMR true mc1 (o_X5_wideEnd a1 f1 true p2).2.1), (mc1, eA cy (o_X5_wideEnd a1 f1 true p2).2.2.1), (m2, eMR false mc2 a2), (mc2, eA cy f2)]) [0, 1, 2, 3, 4, 5, 6, 7, 8, 9, 10, 11, 12, 13, 14] rfl
    have hD := hD.sub (ws' := [(h0, eE h1 h2 kn), (h1, eR hw1 hc1 hb1 (o_L_wideEnd a1 f1 nv true p2).2.1 r1), (hw1, eW true), (hc1, eA cy (o_L_wideEnd a1 f1 nv true p2).2.2.1), (hb1, eA cy g1), (h2, eR hw2 hc2 hb2 a2 r2), (hw2, eW false), (hc2, eA cy f2), (hb2, eA cy g2), (ho, eO (o_L_wideEnd a1 f1 nv true p2).2.2.2 sv), (m0, eM m1 m2 (o_X5_wideEnd a1 f1 true p2).2.2.2 (r1 + r2) kn), (m1, eMR true mc1 (o_X5_wideEnd a1 f1 true p2).2.1), (mc1, eA cy (o_X5_wideEnd a1 f1 true p2).2.2.1), (m2, eMR false mc2 a2), (mc2, eA cy f2)]) [0, 1, 2, 3, 4, 5, 6, 7, 8, 9, 10, 11, 12, 13, 14] (by decide +kernel) rfl
    refine lv_istore (lv' := [(6, .int ((o_X5_wideEnd a1 f1 true p2).1)), (5, .int ((o_L_wideEnd a1 f1 nv true p2).1)), (0, .ref b), (1, .ref h0), (2, .ref m0), (3, .ref ho), (4, .int (nI i))]) hx hb dL_law_960 hl (by decide +kernel) rfl (fun ls hl => ?_)
    refine lv_aload_n hx hb dL_law_962 rfl (lv_at hl 4 rfl) ?_
    have hPc := hP.sub (ws' := [(m0, eM m1 m2 (o_X5_wideEnd a1 f1 true p2).2.2.2 (r1 + r2) kn)]) [10] rfl
    have hKc := hK.sub (tys' := []) [] rfl
    refine va_calli (va_runV (As := []) (rest := []) ⟨hx, hb, hml, hown, hts⟩ (k_X5_thrown l dC dI m0 m1 m2 ((o_X5_wideEnd a1 f1 true p2).2.2.2) (r1 + r2) kn H.size) (cwV 0 hts gL_law_X5_thrown rfl rfl rfl (by decide +kernel) ⟨Nat.le_of_ble_eq_true rfl, Nat.le_of_ble_eq_true rfl⟩) (xB.preV hKc hPc (ci := 7) (q0 := 0) rfl rfl) rfl rfl hl.1 rfl (lv_room (Nat.le_of_ble_eq_true rfl)) dL_law_963 ⟨(show _ ≤ 716141 by omega), (show _ ≤ 6947682 by omega)⟩) hS xA_old (fun q h => hA q (Nat.le_trans hS.1 h)) (fun r_8 u t H locs ht hvm hw hB hz hk hS => ?_)
    replace hw : r_8 = (o_X5_thrown ((o_X5_wideEnd a1 f1 true p2).2.2.2)) := hw
    subst r_8
    have hP := xP_keep hP hk
    refine lv_iload hx hb dL_law_966 (lv_at hl 1 rfl) ?_
    refine lv_icmp_eq (tgt := 973) hx hb dL_law_968 (by decide +kernel) (fun c9 => ?_) (fun c9 => absurd (show o_X5_thrown _ = _ from (qx_wideEnd_1).symm) c9)
    refine lv_iload hx hb dL_law_973 (lv_at hl 1 rfl) ?_
    refine lv_if_ne (tgt := 991) hx hb dL_law_975 (by decide +kernel) (fun c_9 => ?_) (fun c_9 => ?_)
    · skip
      refine lv_goto (tgt := 3660) hx hb dL_law_991 (by decide +kernel) ?_
      refine W.widen (k := cells + 760) (n := slots + 4500) (by omega) (by omega) ?_
      have qe_b1 : (o_X5_wideEnd a1 f1 true p2).2.1 = (o_L_wideEnd a1 f1 nv true p2).2.1 := (by have hm := ml_wideEnd a1 nv true p2 hka1; rw [hm.1] <;> rfl)
      have qe_e1 : (o_X5_wideEnd a1 f1 true p2).2.2.1 = (o_L_wideEnd a1 f1 nv true p2).2.2.1 := (by have hm := ml_wideEnd a1 nv true p2 hka1; rw [hm.1] <;> rfl)
      have qk_1 : okA true ((o_L_wideEnd a1 f1 nv true p2).2.2.1) := (by have hm := ml_wideEnd a1 nv true p2 hka1; rw [hm.1]; exact hm.2)
      exact K ((o_L_wideEnd a1 f1 nv true p2).2.1) r1 ((o_L_wideEnd a1 f1 nv true p2).2.2.1) g1 a2 r2 f2 g2 kn ((o_L_wideEnd a1 f1 nv true p2).2.2.2) sv ((o_X5_wideEnd a1 f1 true p2).2.2.2) ((o_X5_wideEnd a1 f1 true p2).2.1) ((o_X5_wideEnd a1 f1 true p2).2.2.1) a2 f2 (r1 + r2) kn _ _ _ qe_b1 qe_e1 rfl rfl rfl rfl qk_1 hka2 hP hD hS (lv_sub hl [2, 3, 4, 5, 6] rfl)
    · skip
      refine lv_aload_n hx hb dL_law_978 rfl (lv_at hl 5 rfl) ?_
      refine va_getN (D := (dC, dI)) (ci := 5) (v := .long ((o_L_wideEnd a1 f1 nv true p2).2.2.2)) (C := RX3) (T := TX3) (N := 2) hx hb hts (by decide +kernel) hown hK hP 9 rfl rfl 0 (by decide +kernel) (va_Nw.use rfl (hG.1 (.fieldLinkNest RL 13 "EdgefloatsLaw$Out" "n" "J" RL) (List.mem_of_getElem? (i := 6) rfl))) (fun _ h9 => h9) rfl dL_law_979 ?_
      refine lv_iload hx hb dL_law_982 (lv_at hl 0 rfl) ?_
      refine lv_i2l (v := (((o_X5_wideEnd a1 f1 true p2).1).toInt64)) hx hb dL_law_984 rfl ?_
      refine xc_eq (tgt := 991) hx hb dL_law_985 dL_law_986 (by decide +kernel) (fun c9 => ?_) (fun c9 => absurd ((qn_wideEnd_1).trans (if_pos ((qx_wideEnd_1).symm.trans c_9))) c9)
      refine lv_goto (tgt := 3660) hx hb dL_law_991 (by decide +kernel) ?_
      refine W.widen (k := cells + 760) (n := slots + 4500) (by omega) (by omega) ?_
      have qe_b1 : (o_X5_wideEnd a1 f1 true p2).2.1 = (o_L_wideEnd a1 f1 nv true p2).2.1 := (by have hm := ml_wideEnd a1 nv true p2 hka1; rw [hm.1] <;> rfl)
      have qe_e1 : (o_X5_wideEnd a1 f1 true p2).2.2.1 = (o_L_wideEnd a1 f1 nv true p2).2.2.1 := (by have hm := ml_wideEnd a1 nv true p2 hka1; rw [hm.1] <;> rfl)
      have qk_1 : okA true ((o_L_wideEnd a1 f1 nv true p2).2.2.1) := (by have hm := ml_wideEnd a1 nv true p2 hka1; rw [hm.1]; exact hm.2)
      exact K ((o_L_wideEnd a1 f1 nv true p2).2.1) r1 ((o_L_wideEnd a1 f1 nv true p2).2.2.1) g1 a2 r2 f2 g2 kn ((o_L_wideEnd a1 f1 nv true p2).2.2.2) sv ((o_X5_wideEnd a1 f1 true p2).2.2.2) ((o_X5_wideEnd a1 f1 true p2).2.1) ((o_X5_wideEnd a1 f1 true p2).2.2.1) a2 f2 (r1 + r2) kn _ _ _ qe_b1 qe_e1 rfl rfl rfl rfl qk_1 hka2 hP hD hS (lv_sub hl [2, 3, 4, 5, 6] rfl)
set_option maxHeartbeats 4000000 in
set_option maxRecDepth 100000 in
theorem st_10 (l : Launch) (p : Program) (e : Env) (s : State) (m : MethodId) (below : List Frame) (meth : Method) (c : Code) (b L N : Nat) (xs : Nat → Int32) (A : Nat → Prop) (dC : Nat → ClassId) (dI : Nat → Nat → Nat) (cy cB : ClassId) (h0 h1 hw1 hc1 hb1 h2 hw2 hc2 hb2 ho m0 m1 mc1 m2 mc2 : Nat) (C0 : lw_C l p e s m below meth c b L N xs A dC dI cy cB) (i : Nat) (hi : i + 4 ≤ L) (p1 p2 p3 : Int32) (hp1 : xs (i + 1) = p1) (hp2 : xs (i + 2) = p2) (hp3 : xs (i + 3) = p3) (cells slots : Nat) (hcs : cells + 760 ≤ 716141) (hss : slots + 4500 ≤ 6947682) (K : lw_K l p e s m below meth c b L N xs A dC dI cy cB h0 h1 hw1 hc1 hb1 h2 hw2 hc2 hb2 ho m0 m1 mc1 m2 mc2 i (cells + 760) (slots + 4500) 3660) (a1 : Int32) (r1 : Int32) (f1 : Nat → Int64) (g1 : Nat → Int64) (a2 : Int32) (r2 : Int32) (f2 : Nat → Int64) (g2 : Nat → Int64) (kn : Int32) (nv : Int64) (sv : Value) (th : Int32) (H : Heap) (locs : List Loc) (ls : Array Slot) (hka1 : okA true f1) (hka2 : okA false f2) (hP : va_P (dC, dI) xCl [(h0, eE h1 h2 kn), (h1, eR hw1 hc1 hb1 a1 r1), (hw1, eW true), (hc1, eA cy f1), (hb1, eA cy g1), (h2, eR hw2 hc2 hb2 a2 r2), (hw2, eW false), (hc2, eA cy f2), (hb2, eA cy g2), (ho, eO nv sv), (m0, eM m1 m2 th (r1 + r2) kn), (m1, eMR true mc1 a1), (mc1, eA cy f1), (m2, eMR false mc2 a2), (mc2, eA cy f2)] H) (hD : va_D A [(h0, eE h1 h2 kn), (h1, eR hw1 hc1 hb1 a1 r1), (hw1, eW true), (hc1, eA cy f1), (hb1, eA cy g1), (h2, eR hw2 hc2 hb2 a2 r2), (hw2, eW false), (hc2, eA cy f2), (hb2, eA cy g2), (ho, eO nv sv), (m0, eM m1 m2 th (r1 + r2) kn), (m1, eMR true mc1 a1), (mc1, eA cy f1), (m2, eMR false mc2 a2), (mc2, eA cy f2)]) (hS : va_S A s.heap H locs) (hl : lv_has ls 7 [(0, .ref b), (1, .ref h0), (2, .ref m0), (3, .ref ho), (4, .int (nI i))]) : W p l e room_1 s m #[Value.ref b] below meth c H locs cells slots (lw_Z below #[Value.ref b] s) (F0 m 994 ls []) := by
  obtain ⟨hfl, hx, hb, hr, hml, hown, hts, hX, hbl, hbA, hlocks, hK, hG, hnc, hA, hAN, hN, hL, hT, hNs⟩ := id C0
  have hok2 := me_okF hka2
  have hsp1 : ∀ k, k < 8 → o_X1_isSpoiled true (f1 k) = false := fun k hk => (hka1 k hk).2
  have hsp2 : ∀ k, k < 8 → o_X1_isSpoiled false (f2 k) = false := fun k hk => (hka2 k hk).2
  have qx_upper : (o_L_upper f1 nv p1).1 = (o_X5_upper f1 p1).2 := by have hm := ml_upper nv p1 hka1; rw [hm] <;> rfl
  have qn_upper : (o_L_upper f1 nv p1).2 = if (o_X5_upper f1 p1).2 = 0 then ((o_X5_upper f1 p1).1).toInt64 else nv := by have hm := ml_upper nv p1 hka1; rw [hm] <;> rfl
  refine lv_aload_n hx hb dL_law_994 rfl (lv_at hl 1 rfl) ?_
  refine lv_aload_n hx hb dL_law_995 rfl (lv_at hl 0 rfl) ?_
  refine lv_iload hx hb dL_law_996 (lv_at hl 4 rfl) ?_
  refine lv_iconst (v := 1) hx hb dL_law_998 (by decide +kernel) ?_
  refine lv_iadd hx hb dL_law_999 ?_
  rw [nI_1 i]
  refine xa_sld hx hb hX hbl hbA hS (k := i + 1) (by omega) hL hp1 dL_law_1000 ?_
  refine lv_aload_n hx hb dL_law_1001 rfl (lv_at hl 3 rfl) ?_
  have hPc := hP.sub (ws' := [(h0, eE h1 h2 kn), (h1, eR hw1 hc1 hb1 a1 r1), (hw1, eW true), (hc1, eA cy f1), (hb1, eA cy g1), (h2, eR hw2 hc2 hb2 a2 r2), (hw2, eW false), (hc2, eA cy f2), (hb2, eA cy g2), (ho, eO nv sv)]) [0, 1, 2, 3, 4, 5, 6, 7, 8, 9] rfl
  have hDc := hD.sub (ws' := [(h0, eE h1 h2 kn), (h1, eR hw1 hc1 hb1 a1 r1), (hw1, eW true), (hc1, eA cy f1), (hb1, eA cy g1), (h2, eR hw2 hc2 hb2 a2 r2), (hw2, eW false), (hc2, eA cy f2), (hb2, eA cy g2), (ho, eO nv sv)]) [0, 1, 2, 3, 4, 5, 6, 7, 8, 9] (by decide +kernel) rfl
  have hKc := hK.sub (tys' := [(cy, .long)]) [0] rfl
  have hFc := va_free (wc := [(h0, eE h1 h2 kn), (h1, eR hw1 hc1 hb1 a1 r1), (hw1, eW true), (hc1, eA cy f1), (hb1, eA cy g1), (h2, eR hw2 hc2 hb2 a2 r2), (hw2, eW false), (hc2, eA cy f2), (hb2, eA cy g2), (ho, eO nv sv)]) hD hS hA [0, 1, 2, 3, 4, 5, 6, 7, 8, 9] rfl
  refine va_calli (vx_runSW (As := [.ref h0, .int p1, .ref ho]) (rest := []) ⟨hx, hb, hml, hown, hts⟩ (k_L_upper l hfl dC dI cy h0 h1 hw1 hc1 hb1 h2 hw2 hc2 hb2 a1 r1 f1 g1 a2 r2 f2 g2 kn ho nv sv H.size N p1) (vx_cwSW 3 hts gL_law_L_upper rfl rfl rfl (by decide +kernel) ⟨Nat.le_of_ble_eq_true rfl, Nat.le_of_ble_eq_true rfl⟩) (xL.preS hKc hPc hDc hAN (Nat.le_trans hN hS.1) (hG.kept hS hAN) hnc) rfl rfl hl.1 rfl (lv_room (Nat.le_of_ble_eq_true rfl)) dL_law_1002 ⟨(show _ ≤ 716141 by omega), (show _ ≤ 6947682 by omega)⟩) hS (fun q _ h => hFc q h) hFc (fun r_1 u t H locs ht hvm hw hB hz hk hS => ?_)
  replace hw : r_1 = (o_L_upper f1 nv p1).1 := hw
  subst r_1
  obtain ⟨hP1, hD1⟩ := hB
  rw [ht] at hP1
  obtain ⟨hP, hD⟩ := va_join (wr := [(m0, eM m1 m2 th (r1 + r2) kn), (m1, eMR true mc1 a1), (mc1, eA cy f1), (m2, eMR false mc2 a2), (mc2, eA cy f2)]) (w1 := [(h0, eE h1 h2 kn), (h1, eR hw1 hc1 hb1 a1 r1), (hw1, eW true), (hc1, eA cy f1), (hb1, eA cy g1), (h2, eR hw2 hc2 hb2 a2 r2), (hw2, eW false), (hc2, eA cy f2), (hb2, eA cy g2), (ho, eO (o_L_upper f1 nv p1).2 sv)]) hP hD [0, 1, 2, 3, 4, 5, 6, 7, 8, 9] [10, 11, 12, 13, 14] rfl rfl (by decide +kernel) (by decide +kernel) hk hFc hP1 hD1
  have hP := hP.sub (ws' := [(h0, eE h1 h2 kn), (h1, eR hw1 hc1 hb1 a1 r1), (hw1, eW true), (hc1, eA cy f1), (hb1, eA cy g1), (h2, eR hw2 hc2 hb2 a2 r2), (hw2, eW false), (hc2, eA cy f2), (hb2, eA cy g2), (ho, eO (o_L_upper f1 nv p1).2 sv), (m0, eM m1 m2 th (r1 + r2) kn), (m1, eMR true mc1 a1), (mc1, eA cy f1), (m2, eMR false mc2 a2), (mc2, eA cy f2)]) [5, 6, 7, 8, 9, 10, 11, 12, 13, 14, 0, 1, 2, 3, 4] rfl
  have hD := hD.sub (ws' := [(h0, eE h1 h2 kn), (h1, eR hw1 hc1 hb1 a1 r1), (hw1, eW true), (hc1, eA cy f1), (hb1, eA cy g1), (h2, eR hw2 hc2 hb2 a2 r2), (hw2, eW false), (hc2, eA cy f2), (hb2, eA cy g2), (ho, eO (o_L_upper f1 nv p1).2 sv), (m0, eM m1 m2 th (r1 + r2) kn), (m1, eMR true mc1 a1), (mc1, eA cy f1), (m2, eMR false mc2 a2), (mc2, eA cy f2)]) [5, 6, 7, 8, 9, 10, 11, 12, 13, 14, 0, 1, 2, 3, 4] (by decide +kernel) rfl
  refine lv_istore (lv' := [(5, .int ((o_L_upper f1 nv p1).1)), (0, .ref b), (1, .ref h0), (2, .ref m0), (3, .ref ho), (4, .int (nI i))]) hx hb dL_law_1005 hl (by decide +kernel) rfl (fun ls hl => ?_)
  refine lv_aload_n hx hb dL_law_1007 rfl (lv_at hl 3 rfl) ?_
  refine lv_aload_n hx hb dL_law_1008 rfl (lv_at hl 1 rfl) ?_
  refine lv_iload hx hb dL_law_1009 (lv_at hl 5 rfl) ?_
  refine lv_iconst (v := 1) hx hb dL_law_1011 (by decide +kernel) ?_
  refine lv_iadd hx hb dL_law_1012 ?_
  rw [nI_1 i]
  refine xa_sld hx hb hX hbl hbA hS (k := i + 1) (by omega) hL hp1 dL_law_1013 ?_
  have hPc := hP.sub (ws' := [(m0, eM m1 m2 th (r1 + r2) kn), (m1, eMR true mc1 a1), (mc1, eA cy f1), (m2, eMR false mc2 a2), (mc2, eA cy f2)]) [10, 11, 12, 13, 14] rfl
  have hDc := hD.sub (ws' := [(m0, eM m1 m2 th (r1 + r2) kn), (m1, eMR true mc1 a1), (mc1, eA cy f1), (m2, eMR false mc2 a2), (mc2, eA cy f2)]) [10, 11, 12, 13, 14] (by decide +kernel) rfl
  have hKc := hK.sub (tys' := [(cy, .long)]) [0] rfl
  have hFc := va_free (wc := [(m0, eM m1 m2 th (r1 + r2) kn), (m1, eMR true mc1 a1), (mc1, eA cy f1), (m2, eMR false mc2 a2), (mc2, eA cy f2)]) hD hS hA [10, 11, 12, 13, 14] rfl
  refine va_calli (va_runV (As := [.int p1]) (rest := []) ⟨hx, hb, hml, hown, hts⟩ (k_X5_upper l dC dI cy m0 m1 mc1 m2 mc2 a1 f1 a2 f2 th (r1 + r2) kn H.size N p1) (cwV 1 hts gL_law_X5_upper rfl rfl rfl (by decide +kernel) ⟨Nat.le_of_ble_eq_true rfl, Nat.le_of_ble_eq_true rfl⟩) (xM.preV hKc hPc hDc hAN (Nat.le_trans hN hS.1) (hG.kept hS hAN) (ci := 7) (q0 := 0) rfl rfl) rfl rfl hl.1 rfl (lv_room (Nat.le_of_ble_eq_true rfl)) dL_law_1014 ⟨(show _ ≤ 716141 by omega), (show _ ≤ 6947682 by omega)⟩) hS (fun q _ h => hFc q h) hFc (fun r_2 u t H locs ht hvm hw hB hz hk hS => ?_)
  replace hw : r_2 = (o_X5_upper f1 p1).1 := hw
  subst r_2
  obtain ⟨hP1, hD1⟩ := hB
  rw [ht] at hP1
  obtain ⟨hP, hD⟩ := va_join (wr := [(h0, eE h1 h2 kn), (h1, eR hw1 hc1 hb1 a1 r1), (hw1, eW true), (hc1, eA cy f1), (hb1, eA cy g1), (h2, eR hw2 hc2 hb2 a2 r2), (hw2, eW false), (hc2, eA cy f2), (hb2, eA cy g2), (ho, eO (o_L_upper f1 nv p1).2 sv)]) (w1 := [(m0, eM m1 m2 (o_X5_upper f1 p1).2 (r1 + r2) kn), (m1, eMR true mc1 a1), (mc1, eA cy f1), (m2, eMR false mc2 a2), (mc2, eA cy f2)]) hP hD [10, 11, 12, 13, 14] [0, 1, 2, 3, 4, 5, 6, 7, 8, 9] rfl rfl (by decide +kernel) (by decide +kernel) hk hFc hP1 hD1
  have hP := hP.sub (ws' := [(h0, eE h1 h2 kn), (h1, eR hw1 hc1 hb1 a1 r1), (hw1, eW true), (hc1, eA cy f1), (hb1, eA cy g1), (h2, eR hw2 hc2 hb2 a2 r2), (hw2, eW false), (hc2, eA cy f2), (hb2, eA cy g2), (ho, eO (o_L_upper f1 nv p1).2 sv), (m0, eM m1 m2 (o_X5_upper f1 p1).2 (r1 + r2) kn), (m1, eMR true mc1 a1), (mc1, eA cy f1), (m2, eMR false mc2 a2), (mc2, eA cy f2)]) [0, 1, 2, 3, 4, 5, 6, 7, 8, 9, 10, 11, 12, 13, 14] rfl
  have hD := hD.sub (ws' := [(h0, eE h1 h2 kn), (h1, eR hw1 hc1 hb1 a1 r1), (hw1, eW true), (hc1, eA cy f1), (hb1, eA cy g1), (h2, eR hw2 hc2 hb2 a2 r2), (hw2, eW false), (hc2, eA cy f2), (hb2, eA cy g2), (ho, eO (o_L_upper f1 nv p1).2 sv), (m0, eM m1 m2 (o_X5_upper f1 p1).2 (r1 + r2) kn), (m1, eMR true mc1 a1), (mc1, eA cy f1), (m2, eMR false mc2 a2), (mc2, eA cy f2)]) [0, 1, 2, 3, 4, 5, 6, 7, 8, 9, 10, 11, 12, 13, 14] (by decide +kernel) rfl
  refine lv_istore (lv' := [(6, .int ((o_X5_upper f1 p1).1)), (5, .int ((o_L_upper f1 nv p1).1)), (0, .ref b), (1, .ref h0), (2, .ref m0), (3, .ref ho), (4, .int (nI i))]) hx hb dL_law_1017 hl (by decide +kernel) rfl (fun ls hl => ?_)
  refine lv_aload_n hx hb dL_law_1019 rfl (lv_at hl 4 rfl) ?_
  have hPc := hP.sub (ws' := [(m0, eM m1 m2 (o_X5_upper f1 p1).2 (r1 + r2) kn)]) [10] rfl
  have hKc := hK.sub (tys' := []) [] rfl
  refine va_calli (va_runV (As := []) (rest := []) ⟨hx, hb, hml, hown, hts⟩ (k_X5_thrown l dC dI m0 m1 m2 ((o_X5_upper f1 p1).2) (r1 + r2) kn H.size) (cwV 0 hts gL_law_X5_thrown rfl rfl rfl (by decide +kernel) ⟨Nat.le_of_ble_eq_true rfl, Nat.le_of_ble_eq_true rfl⟩) (xB.preV hKc hPc (ci := 7) (q0 := 0) rfl rfl) rfl rfl hl.1 rfl (lv_room (Nat.le_of_ble_eq_true rfl)) dL_law_1020 ⟨(show _ ≤ 716141 by omega), (show _ ≤ 6947682 by omega)⟩) hS xA_old (fun q h => hA q (Nat.le_trans hS.1 h)) (fun r_3 u t H locs ht hvm hw hB hz hk hS => ?_)
  replace hw : r_3 = (o_X5_thrown ((o_X5_upper f1 p1).2)) := hw
  subst r_3
  have hP := xP_keep hP hk
  refine lv_iload hx hb dL_law_1023 (lv_at hl 1 rfl) ?_
  refine lv_icmp_eq (tgt := 1030) hx hb dL_law_1025 (by decide +kernel) (fun c9 => ?_) (fun c9 => absurd (show o_X5_thrown _ = _ from (qx_upper).symm) c9)
  refine lv_iload hx hb dL_law_1030 (lv_at hl 1 rfl) ?_
  refine lv_if_ne (tgt := 1048) hx hb dL_law_1032 (by decide +kernel) (fun c_4 => ?_) (fun c_4 => ?_)
  · skip
    refine lv_goto (tgt := 3660) hx hb dL_law_1048 (by decide +kernel) ?_
    refine W.widen (k := cells + 760) (n := slots + 4500) (by omega) (by omega) ?_
    exact K a1 r1 f1 g1 a2 r2 f2 g2 kn ((o_L_upper f1 nv p1).2) sv ((o_X5_upper f1 p1).2) a1 f1 a2 f2 (r1 + r2) kn _ _ _ rfl rfl rfl rfl rfl rfl hka1 hka2 hP hD hS (lv_sub hl [2, 3, 4, 5, 6] rfl)
  · skip
    refine lv_aload_n hx hb dL_law_1035 rfl (lv_at hl 5 rfl) ?_
    refine va_getN (D := (dC, dI)) (ci := 5) (v := .long ((o_L_upper f1 nv p1).2)) (C := RX3) (T := TX3) (N := 2) hx hb hts (by decide +kernel) hown hK hP 9 rfl rfl 0 (by decide +kernel) (va_Nw.use rfl (hG.1 (.fieldLinkNest RL 13 "EdgefloatsLaw$Out" "n" "J" RL) (List.mem_of_getElem? (i := 6) rfl))) (fun _ h9 => h9) rfl dL_law_1036 ?_
    refine lv_iload hx hb dL_law_1039 (lv_at hl 0 rfl) ?_
    refine lv_i2l (v := (((o_X5_upper f1 p1).1).toInt64)) hx hb dL_law_1041 rfl ?_
    refine xc_eq (tgt := 1048) hx hb dL_law_1042 dL_law_1043 (by decide +kernel) (fun c9 => ?_) (fun c9 => absurd ((qn_upper).trans (if_pos ((qx_upper).symm.trans c_4))) c9)
    refine lv_goto (tgt := 3660) hx hb dL_law_1048 (by decide +kernel) ?_
    refine W.widen (k := cells + 760) (n := slots + 4500) (by omega) (by omega) ?_
    exact K a1 r1 f1 g1 a2 r2 f2 g2 kn ((o_L_upper f1 nv p1).2) sv ((o_X5_upper f1 p1).2) a1 f1 a2 f2 (r1 + r2) kn _ _ _ rfl rfl rfl rfl rfl rfl hka1 hka2 hP hD hS (lv_sub hl [2, 3, 4, 5, 6] rfl)
set_option maxHeartbeats 4000000 in
set_option maxRecDepth 100000 in
theorem st_11 (l : Launch) (p : Program) (e : Env) (s : State) (m : MethodId) (below : List Frame) (meth : Method) (c : Code) (b L N : Nat) (xs : Nat → Int32) (A : Nat → Prop) (dC : Nat → ClassId) (dI : Nat → Nat → Nat) (cy cB : ClassId) (h0 h1 hw1 hc1 hb1 h2 hw2 hc2 hb2 ho m0 m1 mc1 m2 mc2 : Nat) (C0 : lw_C l p e s m below meth c b L N xs A dC dI cy cB) (i : Nat) (hi : i + 4 ≤ L) (p1 p2 p3 : Int32) (hp1 : xs (i + 1) = p1) (hp2 : xs (i + 2) = p2) (hp3 : xs (i + 3) = p3) (cells slots : Nat) (hcs : cells + 760 ≤ 716141) (hss : slots + 4500 ≤ 6947682) (K : lw_K l p e s m below meth c b L N xs A dC dI cy cB h0 h1 hw1 hc1 hb1 h2 hw2 hc2 hb2 ho m0 m1 mc1 m2 mc2 i (cells + 760) (slots + 4500) 3660) (a1 : Int32) (r1 : Int32) (f1 : Nat → Int64) (g1 : Nat → Int64) (a2 : Int32) (r2 : Int32) (f2 : Nat → Int64) (g2 : Nat → Int64) (kn : Int32) (nv : Int64) (sv : Value) (th : Int32) (H : Heap) (locs : List Loc) (ls : Array Slot) (hka1 : okA true f1) (hka2 : okA false f2) (hP : va_P (dC, dI) xCl [(h0, eE h1 h2 kn), (h1, eR hw1 hc1 hb1 a1 r1), (hw1, eW true), (hc1, eA cy f1), (hb1, eA cy g1), (h2, eR hw2 hc2 hb2 a2 r2), (hw2, eW false), (hc2, eA cy f2), (hb2, eA cy g2), (ho, eO nv sv), (m0, eM m1 m2 th (r1 + r2) kn), (m1, eMR true mc1 a1), (mc1, eA cy f1), (m2, eMR false mc2 a2), (mc2, eA cy f2)] H) (hD : va_D A [(h0, eE h1 h2 kn), (h1, eR hw1 hc1 hb1 a1 r1), (hw1, eW true), (hc1, eA cy f1), (hb1, eA cy g1), (h2, eR hw2 hc2 hb2 a2 r2), (hw2, eW false), (hc2, eA cy f2), (hb2, eA cy g2), (ho, eO nv sv), (m0, eM m1 m2 th (r1 + r2) kn), (m1, eMR true mc1 a1), (mc1, eA cy f1), (m2, eMR false mc2 a2), (mc2, eA cy f2)]) (hS : va_S A s.heap H locs) (hl : lv_has ls 7 [(0, .ref b), (1, .ref h0), (2, .ref m0), (3, .ref ho), (4, .int (nI i))]) : W p l e room_1 s m #[Value.ref b] below meth c H locs cells slots (lw_Z below #[Value.ref b] s) (F0 m 1051 ls []) := by
  obtain ⟨hfl, hx, hb, hr, hml, hown, hts, hX, hbl, hbA, hlocks, hK, hG, hnc, hA, hAN, hN, hL, hT, hNs⟩ := id C0
  have hok2 := me_okF hka2
  have hsp1 : ∀ k, k < 8 → o_X1_isSpoiled true (f1 k) = false := fun k hk => (hka1 k hk).2
  have hsp2 : ∀ k, k < 8 → o_X1_isSpoiled false (f2 k) = false := fun k hk => (hka2 k hk).2
  have qx_lower : (o_L_lower f1 nv p1).1 = (o_X5_lower f1 p1).2 := by have hm := ml_lower nv p1 hka1; rw [hm] <;> rfl
  have qn_lower : (o_L_lower f1 nv p1).2 = if (o_X5_lower f1 p1).2 = 0 then ((o_X5_lower f1 p1).1).toInt64 else nv := by have hm := ml_lower nv p1 hka1; rw [hm] <;> rfl
  refine lv_aload_n hx hb dL_law_1051 rfl (lv_at hl 1 rfl) ?_
  refine lv_aload_n hx hb dL_law_1052 rfl (lv_at hl 0 rfl) ?_
  refine lv_iload hx hb dL_law_1053 (lv_at hl 4 rfl) ?_
  refine lv_iconst (v := 1) hx hb dL_law_1055 (by decide +kernel) ?_
  refine lv_iadd hx hb dL_law_1056 ?_
  rw [nI_1 i]
  refine xa_sld hx hb hX hbl hbA hS (k := i + 1) (by omega) hL hp1 dL_law_1057 ?_
  refine lv_aload_n hx hb dL_law_1058 rfl (lv_at hl 3 rfl) ?_
  have hPc := hP.sub (ws' := [(h0, eE h1 h2 kn), (h1, eR hw1 hc1 hb1 a1 r1), (hw1, eW true), (hc1, eA cy f1), (hb1, eA cy g1), (h2, eR hw2 hc2 hb2 a2 r2), (hw2, eW false), (hc2, eA cy f2), (hb2, eA cy g2), (ho, eO nv sv)]) [0, 1, 2, 3, 4, 5, 6, 7, 8, 9] rfl
  have hDc := hD.sub (ws' := [(h0, eE h1 h2 kn), (h1, eR hw1 hc1 hb1 a1 r1), (hw1, eW true), (hc1, eA cy f1), (hb1, eA cy g1), (h2, eR hw2 hc2 hb2 a2 r2), (hw2, eW false), (hc2, eA cy f2), (hb2, eA cy g2), (ho, eO nv sv)]) [0, 1, 2, 3, 4, 5, 6, 7, 8, 9] (by decide +kernel) rfl
  have hKc := hK.sub (tys' := [(cy, .long)]) [0] rfl
  have hFc := va_free (wc := [(h0, eE h1 h2 kn), (h1, eR hw1 hc1 hb1 a1 r1), (hw1, eW true), (hc1, eA cy f1), (hb1, eA cy g1), (h2, eR hw2 hc2 hb2 a2 r2), (hw2, eW false), (hc2, eA cy f2), (hb2, eA cy g2), (ho, eO nv sv)]) hD hS hA [0, 1, 2, 3, 4, 5, 6, 7, 8, 9] rfl
  refine va_calli (vx_runSW (As := [.ref h0, .int p1, .ref ho]) (rest := []) ⟨hx, hb, hml, hown, hts⟩ (k_L_lower l hfl dC dI cy h0 h1 hw1 hc1 hb1 h2 hw2 hc2 hb2 a1 r1 f1 g1 a2 r2 f2 g2 kn ho nv sv H.size N p1) (vx_cwSW 3 hts gL_law_L_lower rfl rfl rfl (by decide +kernel) ⟨Nat.le_of_ble_eq_true rfl, Nat.le_of_ble_eq_true rfl⟩) (xL.preS hKc hPc hDc hAN (Nat.le_trans hN hS.1) (hG.kept hS hAN) hnc) rfl rfl hl.1 rfl (lv_room (Nat.le_of_ble_eq_true rfl)) dL_law_1059 ⟨(show _ ≤ 716141 by omega), (show _ ≤ 6947682 by omega)⟩) hS (fun q _ h => hFc q h) hFc (fun r_1 u t H locs ht hvm hw hB hz hk hS => ?_)
  replace hw : r_1 = (o_L_lower f1 nv p1).1 := hw
  subst r_1
  obtain ⟨hP1, hD1⟩ := hB
  rw [ht] at hP1
  obtain ⟨hP, hD⟩ := va_join (wr := [(m0, eM m1 m2 th (r1 + r2) kn), (m1, eMR true mc1 a1), (mc1, eA cy f1), (m2, eMR false mc2 a2), (mc2, eA cy f2)]) (w1 := [(h0, eE h1 h2 kn), (h1, eR hw1 hc1 hb1 a1 r1), (hw1, eW true), (hc1, eA cy f1), (hb1, eA cy g1), (h2, eR hw2 hc2 hb2 a2 r2), (hw2, eW false), (hc2, eA cy f2), (hb2, eA cy g2), (ho, eO (o_L_lower f1 nv p1).2 sv)]) hP hD [0, 1, 2, 3, 4, 5, 6, 7, 8, 9] [10, 11, 12, 13, 14] rfl rfl (by decide +kernel) (by decide +kernel) hk hFc hP1 hD1
  have hP := hP.sub (ws' := [(h0, eE h1 h2 kn), (h1, eR hw1 hc1 hb1 a1 r1), (hw1, eW true), (hc1, eA cy f1), (hb1, eA cy g1), (h2, eR hw2 hc2 hb2 a2 r2), (hw2, eW false), (hc2, eA cy f2), (hb2, eA cy g2), (ho, eO (o_L_lower f1 nv p1).2 sv), (m0, eM m1 m2 th (r1 + r2) kn), (m1, eMR true mc1 a1), (mc1, eA cy f1), (m2, eMR false mc2 a2), (mc2, eA cy f2)]) [5, 6, 7, 8, 9, 10, 11, 12, 13, 14, 0, 1, 2, 3, 4] rfl
  have hD := hD.sub (ws' := [(h0, eE h1 h2 kn), (h1, eR hw1 hc1 hb1 a1 r1), (hw1, eW true), (hc1, eA cy f1), (hb1, eA cy g1), (h2, eR hw2 hc2 hb2 a2 r2), (hw2, eW false), (hc2, eA cy f2), (hb2, eA cy g2), (ho, eO (o_L_lower f1 nv p1).2 sv), (m0, eM m1 m2 th (r1 + r2) kn), (m1, eMR true mc1 a1), (mc1, eA cy f1), (m2, eMR false mc2 a2), (mc2, eA cy f2)]) [5, 6, 7, 8, 9, 10, 11, 12, 13, 14, 0, 1, 2, 3, 4] (by decide +kernel) rfl
  refine lv_istore (lv' := [(5, .int ((o_L_lower f1 nv p1).1)), (0, .ref b), (1, .ref h0), (2, .ref m0), (3, .ref ho), (4, .int (nI i))]) hx hb dL_law_1062 hl (by decide +kernel) rfl (fun ls hl => ?_)
  refine lv_aload_n hx hb dL_law_1064 rfl (lv_at hl 3 rfl) ?_
  refine lv_aload_n hx hb dL_law_1065 rfl (lv_at hl 1 rfl) ?_
  refine lv_iload hx hb dL_law_1066 (lv_at hl 5 rfl) ?_
  refine lv_iconst (v := 1) hx hb dL_law_1068 (by decide +kernel) ?_
  refine lv_iadd hx hb dL_law_1069 ?_
  rw [nI_1 i]
  refine xa_sld hx hb hX hbl hbA hS (k := i + 1) (by omega) hL hp1 dL_law_1070 ?_
  have hPc := hP.sub (ws' := [(m0, eM m1 m2 th (r1 + r2) kn), (m1, eMR true mc1 a1), (mc1, eA cy f1), (m2, eMR false mc2 a2), (mc2, eA cy f2)]) [10, 11, 12, 13, 14] rfl
  have hDc := hD.sub (ws' := [(m0, eM m1 m2 th (r1 + r2) kn), (m1, eMR true mc1 a1), (mc1, eA cy f1), (m2, eMR false mc2 a2), (mc2, eA cy f2)]) [10, 11, 12, 13, 14] (by decide +kernel) rfl
  have hKc := hK.sub (tys' := [(cy, .long)]) [0] rfl
  have hFc := va_free (wc := [(m0, eM m1 m2 th (r1 + r2) kn), (m1, eMR true mc1 a1), (mc1, eA cy f1), (m2, eMR false mc2 a2), (mc2, eA cy f2)]) hD hS hA [10, 11, 12, 13, 14] rfl
  refine va_calli (va_runV (As := [.int p1]) (rest := []) ⟨hx, hb, hml, hown, hts⟩ (k_X5_lower l dC dI cy m0 m1 mc1 m2 mc2 a1 f1 a2 f2 th (r1 + r2) kn H.size N p1) (cwV 1 hts gL_law_X5_lower rfl rfl rfl (by decide +kernel) ⟨Nat.le_of_ble_eq_true rfl, Nat.le_of_ble_eq_true rfl⟩) (xM.preV hKc hPc hDc hAN (Nat.le_trans hN hS.1) (hG.kept hS hAN) (ci := 7) (q0 := 0) rfl rfl) rfl rfl hl.1 rfl (lv_room (Nat.le_of_ble_eq_true rfl)) dL_law_1071 ⟨(show _ ≤ 716141 by omega), (show _ ≤ 6947682 by omega)⟩) hS (fun q _ h => hFc q h) hFc (fun r_2 u t H locs ht hvm hw hB hz hk hS => ?_)
  replace hw : r_2 = (o_X5_lower f1 p1).1 := hw
  subst r_2
  obtain ⟨hP1, hD1⟩ := hB
  rw [ht] at hP1
  obtain ⟨hP, hD⟩ := va_join (wr := [(h0, eE h1 h2 kn), (h1, eR hw1 hc1 hb1 a1 r1), (hw1, eW true), (hc1, eA cy f1), (hb1, eA cy g1), (h2, eR hw2 hc2 hb2 a2 r2), (hw2, eW false), (hc2, eA cy f2), (hb2, eA cy g2), (ho, eO (o_L_lower f1 nv p1).2 sv)]) (w1 := [(m0, eM m1 m2 (o_X5_lower f1 p1).2 (r1 + r2) kn), (m1, eMR true mc1 a1), (mc1, eA cy f1), (m2, eMR false mc2 a2), (mc2, eA cy f2)]) hP hD [10, 11, 12, 13, 14] [0, 1, 2, 3, 4, 5, 6, 7, 8, 9] rfl rfl (by decide +kernel) (by decide +kernel) hk hFc hP1 hD1
  have hP := hP.sub (ws' := [(h0, eE h1 h2 kn), (h1, eR hw1 hc1 hb1 a1 r1), (hw1, eW true), (hc1, eA cy f1), (hb1, eA cy g1), (h2, eR hw2 hc2 hb2 a2 r2), (hw2, eW false), (hc2, eA cy f2), (hb2, eA cy g2), (ho, eO (o_L_lower f1 nv p1).2 sv), (m0, eM m1 m2 (o_X5_lower f1 p1).2 (r1 + r2) kn), (m1, eMR true mc1 a1), (mc1, eA cy f1), (m2, eMR false mc2 a2), (mc2, eA cy f2)]) [0, 1, 2, 3, 4, 5, 6, 7, 8, 9, 10, 11, 12, 13, 14] rfl
  have hD := hD.sub (ws' := [(h0, eE h1 h2 kn), (h1, eR hw1 hc1 hb1 a1 r1), (hw1, eW true), (hc1, eA cy f1), (hb1, eA cy g1), (h2, eR hw2 hc2 hb2 a2 r2), (hw2, eW false), (hc2, eA cy f2), (hb2, eA cy g2), (ho, eO (o_L_lower f1 nv p1).2 sv), (m0, eM m1 m2 (o_X5_lower f1 p1).2 (r1 + r2) kn), (m1, eMR true mc1 a1), (mc1, eA cy f1), (m2, eMR false mc2 a2), (mc2, eA cy f2)]) [0, 1, 2, 3, 4, 5, 6, 7, 8, 9, 10, 11, 12, 13, 14] (by decide +kernel) rfl
  refine lv_istore (lv' := [(6, .int ((o_X5_lower f1 p1).1)), (5, .int ((o_L_lower f1 nv p1).1)), (0, .ref b), (1, .ref h0), (2, .ref m0), (3, .ref ho), (4, .int (nI i))]) hx hb dL_law_1074 hl (by decide +kernel) rfl (fun ls hl => ?_)
  refine lv_aload_n hx hb dL_law_1076 rfl (lv_at hl 4 rfl) ?_
  have hPc := hP.sub (ws' := [(m0, eM m1 m2 (o_X5_lower f1 p1).2 (r1 + r2) kn)]) [10] rfl
  have hKc := hK.sub (tys' := []) [] rfl
  refine va_calli (va_runV (As := []) (rest := []) ⟨hx, hb, hml, hown, hts⟩ (k_X5_thrown l dC dI m0 m1 m2 ((o_X5_lower f1 p1).2) (r1 + r2) kn H.size) (cwV 0 hts gL_law_X5_thrown rfl rfl rfl (by decide +kernel) ⟨Nat.le_of_ble_eq_true rfl, Nat.le_of_ble_eq_true rfl⟩) (xB.preV hKc hPc (ci := 7) (q0 := 0) rfl rfl) rfl rfl hl.1 rfl (lv_room (Nat.le_of_ble_eq_true rfl)) dL_law_1077 ⟨(show _ ≤ 716141 by omega), (show _ ≤ 6947682 by omega)⟩) hS xA_old (fun q h => hA q (Nat.le_trans hS.1 h)) (fun r_3 u t H locs ht hvm hw hB hz hk hS => ?_)
  replace hw : r_3 = (o_X5_thrown ((o_X5_lower f1 p1).2)) := hw
  subst r_3
  have hP := xP_keep hP hk
  refine lv_iload hx hb dL_law_1080 (lv_at hl 1 rfl) ?_
  refine lv_icmp_eq (tgt := 1087) hx hb dL_law_1082 (by decide +kernel) (fun c9 => ?_) (fun c9 => absurd (show o_X5_thrown _ = _ from (qx_lower).symm) c9)
  refine lv_iload hx hb dL_law_1087 (lv_at hl 1 rfl) ?_
  refine lv_if_ne (tgt := 1105) hx hb dL_law_1089 (by decide +kernel) (fun c_4 => ?_) (fun c_4 => ?_)
  · skip
    refine lv_goto (tgt := 3660) hx hb dL_law_1105 (by decide +kernel) ?_
    refine W.widen (k := cells + 760) (n := slots + 4500) (by omega) (by omega) ?_
    exact K a1 r1 f1 g1 a2 r2 f2 g2 kn ((o_L_lower f1 nv p1).2) sv ((o_X5_lower f1 p1).2) a1 f1 a2 f2 (r1 + r2) kn _ _ _ rfl rfl rfl rfl rfl rfl hka1 hka2 hP hD hS (lv_sub hl [2, 3, 4, 5, 6] rfl)
  · skip
    refine lv_aload_n hx hb dL_law_1092 rfl (lv_at hl 5 rfl) ?_
    refine va_getN (D := (dC, dI)) (ci := 5) (v := .long ((o_L_lower f1 nv p1).2)) (C := RX3) (T := TX3) (N := 2) hx hb hts (by decide +kernel) hown hK hP 9 rfl rfl 0 (by decide +kernel) (va_Nw.use rfl (hG.1 (.fieldLinkNest RL 13 "EdgefloatsLaw$Out" "n" "J" RL) (List.mem_of_getElem? (i := 6) rfl))) (fun _ h9 => h9) rfl dL_law_1093 ?_
    refine lv_iload hx hb dL_law_1096 (lv_at hl 0 rfl) ?_
    refine lv_i2l (v := (((o_X5_lower f1 p1).1).toInt64)) hx hb dL_law_1098 rfl ?_
    refine xc_eq (tgt := 1105) hx hb dL_law_1099 dL_law_1100 (by decide +kernel) (fun c9 => ?_) (fun c9 => absurd ((qn_lower).trans (if_pos ((qx_lower).symm.trans c_4))) c9)
    refine lv_goto (tgt := 3660) hx hb dL_law_1105 (by decide +kernel) ?_
    refine W.widen (k := cells + 760) (n := slots + 4500) (by omega) (by omega) ?_
    exact K a1 r1 f1 g1 a2 r2 f2 g2 kn ((o_L_lower f1 nv p1).2) sv ((o_X5_lower f1 p1).2) a1 f1 a2 f2 (r1 + r2) kn _ _ _ rfl rfl rfl rfl rfl rfl hka1 hka2 hP hD hS (lv_sub hl [2, 3, 4, 5, 6] rfl)
set_option maxHeartbeats 4000000 in
set_option maxRecDepth 100000 in
theorem st_12 (l : Launch) (p : Program) (e : Env) (s : State) (m : MethodId) (below : List Frame) (meth : Method) (c : Code) (b L N : Nat) (xs : Nat → Int32) (A : Nat → Prop) (dC : Nat → ClassId) (dI : Nat → Nat → Nat) (cy cB : ClassId) (h0 h1 hw1 hc1 hb1 h2 hw2 hc2 hb2 ho m0 m1 mc1 m2 mc2 : Nat) (C0 : lw_C l p e s m below meth c b L N xs A dC dI cy cB) (i : Nat) (hi : i + 4 ≤ L) (p1 p2 p3 : Int32) (hp1 : xs (i + 1) = p1) (hp2 : xs (i + 2) = p2) (hp3 : xs (i + 3) = p3) (cells slots : Nat) (hcs : cells + 760 ≤ 716141) (hss : slots + 4500 ≤ 6947682) (K : lw_K l p e s m below meth c b L N xs A dC dI cy cB h0 h1 hw1 hc1 hb1 h2 hw2 hc2 hb2 ho m0 m1 mc1 m2 mc2 i (cells + 760) (slots + 4500) 3660) (a1 : Int32) (r1 : Int32) (f1 : Nat → Int64) (g1 : Nat → Int64) (a2 : Int32) (r2 : Int32) (f2 : Nat → Int64) (g2 : Nat → Int64) (kn : Int32) (nv : Int64) (sv : Value) (th : Int32) (H : Heap) (locs : List Loc) (ls : Array Slot) (hka1 : okA true f1) (hka2 : okA false f2) (hP : va_P (dC, dI) xCl [(h0, eE h1 h2 kn), (h1, eR hw1 hc1 hb1 a1 r1), (hw1, eW true), (hc1, eA cy f1), (hb1, eA cy g1), (h2, eR hw2 hc2 hb2 a2 r2), (hw2, eW false), (hc2, eA cy f2), (hb2, eA cy g2), (ho, eO nv sv), (m0, eM m1 m2 th (r1 + r2) kn), (m1, eMR true mc1 a1), (mc1, eA cy f1), (m2, eMR false mc2 a2), (mc2, eA cy f2)] H) (hD : va_D A [(h0, eE h1 h2 kn), (h1, eR hw1 hc1 hb1 a1 r1), (hw1, eW true), (hc1, eA cy f1), (hb1, eA cy g1), (h2, eR hw2 hc2 hb2 a2 r2), (hw2, eW false), (hc2, eA cy f2), (hb2, eA cy g2), (ho, eO nv sv), (m0, eM m1 m2 th (r1 + r2) kn), (m1, eMR true mc1 a1), (mc1, eA cy f1), (m2, eMR false mc2 a2), (mc2, eA cy f2)]) (hS : va_S A s.heap H locs) (hl : lv_has ls 7 [(0, .ref b), (1, .ref h0), (2, .ref m0), (3, .ref ho), (4, .int (nI i))]) : W p l e room_1 s m #[Value.ref b] below meth c H locs cells slots (lw_Z below #[Value.ref b] s) (F0 m 1108 ls []) := by
  obtain ⟨hfl, hx, hb, hr, hml, hown, hts, hX, hbl, hbA, hlocks, hK, hG, hnc, hA, hAN, hN, hL, hT, hNs⟩ := id C0
  have hok2 := me_okF hka2
  have hsp1 : ∀ k, k < 8 → o_X1_isSpoiled true (f1 k) = false := fun k hk => (hka1 k hk).2
  have hsp2 : ∀ k, k < 8 → o_X1_isSpoiled false (f2 k) = false := fun k hk => (hka2 k hk).2
  rcases me_cell p1 with ⟨hcz, hno, -⟩ | ⟨hcz, hno⟩
  · skip
    refine lv_aload_n hx hb dL_law_1108 rfl (lv_at hl 1 rfl) ?_
    refine lv_aload_n hx hb dL_law_1109 rfl (lv_at hl 0 rfl) ?_
    refine lv_iload hx hb dL_law_1110 (lv_at hl 4 rfl) ?_
    refine lv_iconst (v := 1) hx hb dL_law_1112 (by decide +kernel) ?_
    refine lv_iadd hx hb dL_law_1113 ?_
    rw [nI_1 i]
    refine xa_sld hx hb hX hbl hbA hS (k := i + 1) (by omega) hL hp1 dL_law_1114 ?_
    refine lv_aload_n hx hb dL_law_1115 rfl (lv_at hl 3 rfl) ?_
    have hPc := hP.sub (ws' := [(h0, eE h1 h2 kn), (h1, eR hw1 hc1 hb1 a1 r1), (hw1, eW true), (hc1, eA cy f1), (hb1, eA cy g1), (h2, eR hw2 hc2 hb2 a2 r2), (hw2, eW false), (hc2, eA cy f2), (hb2, eA cy g2), (ho, eO nv sv)]) [0, 1, 2, 3, 4, 5, 6, 7, 8, 9] rfl
    have hDc := hD.sub (ws' := [(h0, eE h1 h2 kn), (h1, eR hw1 hc1 hb1 a1 r1), (hw1, eW true), (hc1, eA cy f1), (hb1, eA cy g1), (h2, eR hw2 hc2 hb2 a2 r2), (hw2, eW false), (hc2, eA cy f2), (hb2, eA cy g2), (ho, eO nv sv)]) [0, 1, 2, 3, 4, 5, 6, 7, 8, 9] (by decide +kernel) rfl
    have hKc := hK.sub (tys' := [(cy, .long), (cB, .byte)]) [0, 1] rfl
    have hFc := va_free (wc := [(h0, eE h1 h2 kn), (h1, eR hw1 hc1 hb1 a1 r1), (hw1, eW true), (hc1, eA cy f1), (hb1, eA cy g1), (h2, eR hw2 hc2 hb2 a2 r2), (hw2, eW false), (hc2, eA cy f2), (hb2, eA cy g2), (ho, eO nv sv)]) hD hS hA [0, 1, 2, 3, 4, 5, 6, 7, 8, 9] rfl
    refine va_calli (vx_runSW (As := [.ref h0, .int p1, .ref ho]) (rest := []) ⟨hx, hb, hml, hown, hts⟩ (kka_L_wideText l hfl dC dI cy cB h0 h1 hw1 hc1 hb1 h2 hw2 hc2 hb2 a1 r1 f1 g1 a2 r2 f2 g2 kn ho nv sv H.size N p1 hok2 hcz) (vx_cwSW 3 hts gL_law_L_wideText rfl rfl rfl (by decide +kernel) ⟨Nat.le_of_ble_eq_true rfl, Nat.le_of_ble_eq_true rfl⟩) (xU.preS hKc hPc hDc hAN (Nat.le_trans hN hS.1) (hG.kept hS hAN) (hT.kept hS hAN) hnc) rfl rfl hl.1 rfl (lv_room (Nat.le_of_ble_eq_true rfl)) dL_law_1116 ⟨(show _ ≤ 716141 by omega), (show _ ≤ 6947682 by omega)⟩) hS (fun q _ h => hFc q h) hFc (fun r_1 u_2 t H locs ht hvm hw hB hz hk hS => ?_)
    obtain ⟨hP1, hD1⟩ := hB
    rw [ht] at hP1
    obtain ⟨sr, sva, sna, sfa⟩ := u_2
    obtain ⟨hr9, hn9, hL9⟩ : r_1 = 0 ∧ sna ≤ 34 ∧ tL (tTx true (f1 p1.toNatClampNeg)) sna sfa := hw
    subst hr9
    obtain ⟨hP, hD⟩ := va_join (wr := [(m0, eM m1 m2 th (r1 + r2) kn), (m1, eMR true mc1 a1), (mc1, eA cy f1), (m2, eMR false mc2 a2), (mc2, eA cy f2)]) (w1 := [(h0, eE h1 h2 kn), (h1, eR hw1 hc1 hb1 a1 r1), (hw1, eW true), (hc1, eA cy f1), (hb1, eA cy g1), (h2, eR hw2 hc2 hb2 a2 r2), (hw2, eW false), (hc2, eA cy f2), (hb2, eA cy g2), (ho, eO nv (.ref sr)), (sr, .inr (0, [.ref sva, .int 0, .int 0, .int 0])), (sva, eY cB sna sfa)]) hP hD [0, 1, 2, 3, 4, 5, 6, 7, 8, 9] [10, 11, 12, 13, 14] rfl rfl (by decide +kernel) (by decide +kernel) hk hFc hP1 hD1
    have hP := hP.sub (ws' := [(h0, eE h1 h2 kn), (h1, eR hw1 hc1 hb1 a1 r1), (hw1, eW true), (hc1, eA cy f1), (hb1, eA cy g1), (h2, eR hw2 hc2 hb2 a2 r2), (hw2, eW false), (hc2, eA cy f2), (hb2, eA cy g2), (ho, eO nv (.ref sr)), (m0, eM m1 m2 th (r1 + r2) kn), (m1, eMR true mc1 a1), (mc1, eA cy f1), (m2, eMR false mc2 a2), (mc2, eA cy f2), (sr, .inr (0, [.ref sva, .int 0, .int 0, .int 0])), (sva, eY cB sna sfa)]) [5, 6, 7, 8, 9, 10, 11, 12, 13, 14, 0, 1, 2, 3, 4, 15, 16] rfl
    have hD := hD.sub (ws' := [(h0, eE h1 h2 kn), (h1, eR hw1 hc1 hb1 a1 r1), (hw1, eW true), (hc1, eA cy f1), (hb1, eA cy g1), (h2, eR hw2 hc2 hb2 a2 r2), (hw2, eW false), (hc2, eA cy f2), (hb2, eA cy g2), (ho, eO nv (.ref sr)), (m0, eM m1 m2 th (r1 + r2) kn), (m1, eMR true mc1 a1), (mc1, eA cy f1), (m2, eMR false mc2 a2), (mc2, eA cy f2), (sr, .inr (0, [.ref sva, .int 0, .int 0, .int 0])), (sva, eY cB sna sfa)]) [5, 6, 7, 8, 9, 10, 11, 12, 13, 14, 0, 1, 2, 3, 4, 15, 16] (by decide +kernel) rfl
    refine lv_istore (lv' := [(5, .int 0), (0, .ref b), (1, .ref h0), (2, .ref m0), (3, .ref ho), (4, .int (nI i))]) hx hb dL_law_1119 hl (by decide +kernel) rfl (fun ls hl => ?_)
    refine lv_aload_n hx hb dL_law_1121 rfl (lv_at hl 3 rfl) ?_
    refine lv_aload_n hx hb dL_law_1122 rfl (lv_at hl 1 rfl) ?_
    refine lv_iload hx hb dL_law_1123 (lv_at hl 5 rfl) ?_
    refine lv_iconst (v := 1) hx hb dL_law_1125 (by decide +kernel) ?_
    refine lv_iadd hx hb dL_law_1126 ?_
    rw [nI_1 i]
    refine xa_sld hx hb hX hbl hbA hS (k := i + 1) (by omega) hL hp1 dL_law_1127 ?_
    have hPc := hP.sub (ws' := [(m0, eM m1 m2 th (r1 + r2) kn), (m1, eMR true mc1 a1), (mc1, eA cy f1), (m2, eMR false mc2 a2), (mc2, eA cy f2)]) [10, 11, 12, 13, 14] rfl
    have hDc := hD.sub (ws' := [(m0, eM m1 m2 th (r1 + r2) kn), (m1, eMR true mc1 a1), (mc1, eA cy f1), (m2, eMR false mc2 a2), (mc2, eA cy f2)]) [10, 11, 12, 13, 14] (by decide +kernel) rfl
    have hKc := hK.sub (tys' := [(cy, .long), (cB, .byte)]) [0, 1] rfl
    have hFc := va_free (wc := [(m0, eM m1 m2 th (r1 + r2) kn), (m1, eMR true mc1 a1), (mc1, eA cy f1), (m2, eMR false mc2 a2), (mc2, eA cy f2)]) hD hS hA [10, 11, 12, 13, 14] rfl
    refine va_callr (va_runV (As := [.int p1]) (rest := []) ⟨hx, hb, hml, hown, hts⟩ (kka_X5_wideText l dC dI cy cB m0 m1 mc1 m2 mc2 a1 f1 a2 f2 th (r1 + r2) kn p1 H.size N hok2 hno) (cwV 1 hts gL_law_X5_wideText rfl rfl rfl (by decide +kernel) ⟨Nat.le_of_ble_eq_true rfl, Nat.le_of_ble_eq_true rfl⟩) (xT.preV (ci := 7) (q0 := 0) hKc hPc hDc hAN (Nat.le_trans hN hS.1) (hG.kept hS hAN) (hT.kept hS hAN) rfl rfl) rfl rfl hl.1 rfl (lv_room (Nat.le_of_ble_eq_true rfl)) dL_law_1128 ⟨(show _ ≤ 716141 by omega), (show _ ≤ 6947682 by omega)⟩) hS (fun q _ h => hFc q h) hFc (fun u_4 r_3 t H locs ht hvm hw hB hz hk hS => ?_)
    obtain ⟨hP1, hD1⟩ := hB
    rw [ht] at hP1
    obtain ⟨th9, tva, tna, tfa⟩ := u_4
    obtain ⟨ht9, hn8, hL8⟩ : th9 = (o_X5_fails (o_X5_isNo p1) false).2 ∧ tna ≤ 34 ∧ tL (tTx true (f1 p1.toNatClampNeg)) tna tfa := hw
    obtain ⟨hP, hD⟩ := va_join (wr := [(h0, eE h1 h2 kn), (h1, eR hw1 hc1 hb1 a1 r1), (hw1, eW true), (hc1, eA cy f1), (hb1, eA cy g1), (h2, eR hw2 hc2 hb2 a2 r2), (hw2, eW false), (hc2, eA cy f2), (hb2, eA cy g2), (ho, eO nv (.ref sr)), (sr, .inr (0, [.ref sva, .int 0, .int 0, .int 0])), (sva, eY cB sna sfa)]) (w1 := [(m0, eM m1 m2 th9 (r1 + r2) kn), (m1, eMR true mc1 a1), (mc1, eA cy f1), (m2, eMR false mc2 a2), (mc2, eA cy f2), (r_3, .inr (0, [.ref tva, .int 0, .int 0, .int 0])), (tva, eY cB tna tfa)]) hP hD [10, 11, 12, 13, 14] [0, 1, 2, 3, 4, 5, 6, 7, 8, 9, 15, 16] rfl rfl (by decide +kernel) (by decide +kernel) hk hFc hP1 hD1
    have hP := hP.sub (ws' := [(h0, eE h1 h2 kn), (h1, eR hw1 hc1 hb1 a1 r1), (hw1, eW true), (hc1, eA cy f1), (hb1, eA cy g1), (h2, eR hw2 hc2 hb2 a2 r2), (hw2, eW false), (hc2, eA cy f2), (hb2, eA cy g2), (ho, eO nv (.ref sr)), (m0, eM m1 m2 th9 (r1 + r2) kn), (m1, eMR true mc1 a1), (mc1, eA cy f1), (m2, eMR false mc2 a2), (mc2, eA cy f2), (sr, .inr (0, [.ref sva, .int 0, .int 0, .int 0])), (sva, eY cB sna sfa), (r_3, .inr (0, [.ref tva, .int 0, .int 0, .int 0])), (tva, eY cB tna tfa)]) [0, 1, 2, 3, 4, 5, 6, 7, 8, 9, 12, 13, 14, 15, 16, 10, 11, 17, 18] rfl
    have hD := hD.sub (ws' := [(h0, eE h1 h2 kn), (h1, eR hw1 hc1 hb1 a1 r1), (hw1, eW true), (hc1, eA cy f1), (hb1, eA cy g1), (h2, eR hw2 hc2 hb2 a2 r2), (hw2, eW false), (hc2, eA cy f2), (hb2, eA cy g2), (ho, eO nv (.ref sr)), (m0, eM m1 m2 th9 (r1 + r2) kn), (m1, eMR true mc1 a1), (mc1, eA cy f1), (m2, eMR false mc2 a2), (mc2, eA cy f2), (sr, .inr (0, [.ref sva, .int 0, .int 0, .int 0])), (sva, eY cB sna sfa), (r_3, .inr (0, [.ref tva, .int 0, .int 0, .int 0])), (tva, eY cB tna tfa)]) [0, 1, 2, 3, 4, 5, 6, 7, 8, 9, 12, 13, 14, 15, 16, 10, 11, 17, 18] (by decide +kernel) rfl
    refine lv_astore (lv' := [(6, .ref r_3), (5, .int 0), (0, .ref b), (1, .ref h0), (2, .ref m0), (3, .ref ho), (4, .int (nI i))]) hx hb dL_law_1131 hl (by decide +kernel) rfl (fun ls hl => ?_)
    refine lv_aload_n hx hb dL_law_1133 rfl (lv_at hl 4 rfl) ?_
    have hPc := hP.sub (ws' := [(m0, eM m1 m2 th9 (r1 + r2) kn)]) [10] rfl
    have hKc := hK.sub (tys' := []) [] rfl
    refine va_calli (va_runV (As := []) (rest := []) ⟨hx, hb, hml, hown, hts⟩ (k_X5_thrown l dC dI m0 m1 m2 th9 (r1 + r2) kn H.size) (cwV 0 hts gL_law_X5_thrown rfl rfl rfl (by decide +kernel) ⟨Nat.le_of_ble_eq_true rfl, Nat.le_of_ble_eq_true rfl⟩) (xB.preV hKc hPc (ci := 7) (q0 := 0) rfl rfl) rfl rfl hl.1 rfl (lv_room (Nat.le_of_ble_eq_true rfl)) dL_law_1134 ⟨(show _ ≤ 716141 by omega), (show _ ≤ 6947682 by omega)⟩) hS xA_old (fun q h => hA q (Nat.le_trans hS.1 h)) (fun r_5 u t H locs ht hvm hw hB hz hk hS => ?_)
    replace hw : r_5 = (o_X5_thrown th9) := hw
    subst r_5
    have hP := xP_keep hP hk
    refine lv_iload hx hb dL_law_1137 (lv_at hl 1 rfl) ?_
    refine lv_icmp_eq (tgt := 1144) hx hb dL_law_1139 (by decide +kernel) (fun c9 => ?_) (fun c9 => absurd (show o_X5_thrown _ = _ from ht9.trans (by rw [hno]; rfl)) c9)
    refine lv_iload hx hb dL_law_1144 (lv_at hl 1 rfl) ?_
    refine lv_if_ne (tgt := 1163) hx hb dL_law_1146 (by decide +kernel) (fun c9 => absurd c9 (by decide +kernel)) (fun _ => ?_)
    refine lv_aload_n hx hb dL_law_1149 rfl (lv_at hl 5 rfl) ?_
    refine va_getN (D := (dC, dI)) (ci := 5) (v := .ref sr) (C := RX3) (T := TX3) (N := 2) hx hb hts (by decide +kernel) hown hK hP 9 rfl rfl 1 (by decide +kernel) (va_Nw.use rfl (hG.1 (.fieldLinkNest RL 63 "EdgefloatsLaw$Out" "s" "Ljava/lang/String;" RL) (List.mem_of_getElem? (i := 7) rfl))) (fun _ h9 => h9) rfl dL_law_1150 ?_
    refine lv_aload hx hb dL_law_1153 (lv_at hl 0 rfl) ?_
    obtain ⟨hm9, he9⟩ := tL_eq hL9 hL8
    have hm8 := hm9.symm
    subst hm8
    have hPc := hP.sub (ws' := [(sr, .inr (0, [.ref sva, .int 0, .int 0, .int 0])), (sva, eY cB sna sfa), (r_3, .inr (0, [.ref tva, .int 0, .int 0, .int 0])), (tva, eY cB sna tfa)]) [15, 16, 17, 18] rfl
    have hDc := hD.sub (ws' := [(sr, .inr (0, [.ref sva, .int 0, .int 0, .int 0])), (sva, eY cB sna sfa), (r_3, .inr (0, [.ref tva, .int 0, .int 0, .int 0])), (tva, eY cB sna tfa)]) [15, 16, 17, 18] (by decide +kernel) rfl
    have hKc := hK.sub (tys' := [(cB, .byte)]) [1] rfl
    have hFc := va_free (wc := [(sr, .inr (0, [.ref sva, .int 0, .int 0, .int 0])), (sva, eY cB sna sfa), (r_3, .inr (0, [.ref tva, .int 0, .int 0, .int 0])), (tva, eY cB sna tfa)]) hD hS hA [15, 16, 17, 18] rfl
    refine va_calli (va_runV (As := [.ref r_3]) (rest := []) ⟨hx, hb, hml, hown, hts⟩ (kk_J0_equals_9ea2d l dC dI cB sr r_3 sva tva sna sfa tfa H.size N hn9 he9) (cwV 1 hts gL_law_J0_equals_9ea2d rfl rfl rfl (by decide +kernel) ⟨Nat.le_of_ble_eq_true rfl, Nat.le_of_ble_eq_true rfl⟩) (xT.preV (ci := 0) (q0 := 0) hKc hPc hDc hAN (Nat.le_trans hN hS.1) (hG.kept hS hAN) (hT.kept hS hAN) rfl rfl) rfl rfl hl.1 rfl (lv_room (Nat.le_of_ble_eq_true rfl)) dL_law_1155 ⟨(show _ ≤ 716141 by omega), (show _ ≤ 6947682 by omega)⟩) hS (fun q _ h => hFc q h) hFc (fun r_6 u_7 t H locs ht hvm hw hB hz hk hS => ?_)
    obtain ⟨hP1, hD1⟩ := hB
    rw [ht] at hP1
    obtain ⟨hP, hD⟩ := va_join (wr := [(h0, eE h1 h2 kn), (h1, eR hw1 hc1 hb1 a1 r1), (hw1, eW true), (hc1, eA cy f1), (hb1, eA cy g1), (h2, eR hw2 hc2 hb2 a2 r2), (hw2, eW false), (hc2, eA cy f2), (hb2, eA cy g2), (ho, eO nv (.ref sr)), (m0, eM m1 m2 th9 (r1 + r2) kn), (m1, eMR true mc1 a1), (mc1, eA cy f1), (m2, eMR false mc2 a2), (mc2, eA cy f2)]) (w1 := [(sr, .inr (0, [.ref sva, .int 0, .int 0, .int 0])), (sva, eY cB sna sfa), (r_3, .inr (0, [.ref tva, .int 0, .int 0, .int 0])), (tva, eY cB sna tfa)]) hP hD [15, 16, 17, 18] [0, 1, 2, 3, 4, 5, 6, 7, 8, 9, 10, 11, 12, 13, 14] rfl rfl (by decide +kernel) (by decide +kernel) hk hFc hP1 hD1
    have hP := hP.sub (ws' := [(h0, eE h1 h2 kn), (h1, eR hw1 hc1 hb1 a1 r1), (hw1, eW true), (hc1, eA cy f1), (hb1, eA cy g1), (h2, eR hw2 hc2 hb2 a2 r2), (hw2, eW false), (hc2, eA cy f2), (hb2, eA cy g2), (ho, eO nv (.ref sr)), (m0, eM m1 m2 th9 (r1 + r2) kn), (m1, eMR true mc1 a1), (mc1, eA cy f1), (m2, eMR false mc2 a2), (mc2, eA cy f2), (sr, .inr (0, [.ref sva, .int 0, .int 0, .int 0])), (sva, eY cB sna sfa), (r_3, .inr (0, [.ref tva, .int 0, .int 0, .int 0])), (tva, eY cB sna tfa)]) [0, 1, 2, 3, 4, 5, 6, 7, 8, 9, 10, 11, 12, 13, 14, 15, 16, 17, 18] rfl
    have hD := hD.sub (ws' := [(h0, eE h1 h2 kn), (h1, eR hw1 hc1 hb1 a1 r1), (hw1, eW true), (hc1, eA cy f1), (hb1, eA cy g1), (h2, eR hw2 hc2 hb2 a2 r2), (hw2, eW false), (hc2, eA cy f2), (hb2, eA cy g2), (ho, eO nv (.ref sr)), (m0, eM m1 m2 th9 (r1 + r2) kn), (m1, eMR true mc1 a1), (mc1, eA cy f1), (m2, eMR false mc2 a2), (mc2, eA cy f2), (sr, .inr (0, [.ref sva, .int 0, .int 0, .int 0])), (sva, eY cB sna sfa), (r_3, .inr (0, [.ref tva, .int 0, .int 0, .int 0])), (tva, eY cB sna tfa)]) [0, 1, 2, 3, 4, 5, 6, 7, 8, 9, 10, 11, 12, 13, 14, 15, 16, 17, 18] (by decide +kernel) rfl
    have hr8 : r_6 = 1 := hw
    subst hr8
    refine lv_if_ne (tgt := 1163) hx hb dL_law_1158 (by decide +kernel) (fun _ => ?_) (fun c9 => absurd c9 (by decide +kernel))
    refine lv_goto (tgt := 3660) hx hb dL_law_1163 (by decide +kernel) ?_
    refine W.widen (k := cells + 760) (n := slots + 4500) (by omega) (by omega) ?_
    have hP := hP.sub (ws' := [(h0, eE h1 h2 kn), (h1, eR hw1 hc1 hb1 a1 r1), (hw1, eW true), (hc1, eA cy f1), (hb1, eA cy g1), (h2, eR hw2 hc2 hb2 a2 r2), (hw2, eW false), (hc2, eA cy f2), (hb2, eA cy g2), (ho, eO nv (.ref sr)), (m0, eM m1 m2 th9 (r1 + r2) kn), (m1, eMR true mc1 a1), (mc1, eA cy f1), (m2, eMR false mc2 a2), (mc2, eA cy f2)]) [0, 1, 2, 3, 4, 5, 6, 7, 8, 9, 10, 11, 12, 13, 14] rfl
    have hD := hD.sub (ws' := [(h0, eE h1 h2 kn), (h1, eR hw1 hc1 hb1 a1 r1), (hw1, eW true), (hc1, eA cy f1), (hb1, eA cy g1), (h2, eR hw2 hc2 hb2 a2 r2), (hw2, eW false), (hc2, eA cy f2), (hb2, eA cy g2), (ho, eO nv (.ref sr)), (m0, eM m1 m2 th9 (r1 + r2) kn), (m1, eMR true mc1 a1), (mc1, eA cy f1), (m2, eMR false mc2 a2), (mc2, eA cy f2)]) [0, 1, 2, 3, 4, 5, 6, 7, 8, 9, 10, 11, 12, 13, 14] (by decide +kernel) rfl
    exact K a1 r1 f1 g1 a2 r2 f2 g2 kn nv (.ref sr) th9 a1 f1 a2 f2 (r1 + r2) kn _ _ _ rfl rfl rfl rfl rfl rfl hka1 hka2 hP hD hS (lv_sub hl [2, 3, 4, 5, 6] rfl)
  · skip
    refine lv_aload_n hx hb dL_law_1108 rfl (lv_at hl 1 rfl) ?_
    refine lv_aload_n hx hb dL_law_1109 rfl (lv_at hl 0 rfl) ?_
    refine lv_iload hx hb dL_law_1110 (lv_at hl 4 rfl) ?_
    refine lv_iconst (v := 1) hx hb dL_law_1112 (by decide +kernel) ?_
    refine lv_iadd hx hb dL_law_1113 ?_
    rw [nI_1 i]
    refine xa_sld hx hb hX hbl hbA hS (k := i + 1) (by omega) hL hp1 dL_law_1114 ?_
    refine lv_aload_n hx hb dL_law_1115 rfl (lv_at hl 3 rfl) ?_
    have hPc := hP.sub (ws' := [(h0, eE h1 h2 kn), (h1, eR hw1 hc1 hb1 a1 r1), (hw1, eW true), (hc1, eA cy f1), (hb1, eA cy g1), (h2, eR hw2 hc2 hb2 a2 r2), (hw2, eW false), (hc2, eA cy f2), (hb2, eA cy g2), (ho, eO nv sv)]) [0, 1, 2, 3, 4, 5, 6, 7, 8, 9] rfl
    have hDc := hD.sub (ws' := [(h0, eE h1 h2 kn), (h1, eR hw1 hc1 hb1 a1 r1), (hw1, eW true), (hc1, eA cy f1), (hb1, eA cy g1), (h2, eR hw2 hc2 hb2 a2 r2), (hw2, eW false), (hc2, eA cy f2), (hb2, eA cy g2), (ho, eO nv sv)]) [0, 1, 2, 3, 4, 5, 6, 7, 8, 9] (by decide +kernel) rfl
    have hKc := hK.sub (tys' := [(cy, .long), (cB, .byte)]) [0, 1] rfl
    have hFc := va_free (wc := [(h0, eE h1 h2 kn), (h1, eR hw1 hc1 hb1 a1 r1), (hw1, eW true), (hc1, eA cy f1), (hb1, eA cy g1), (h2, eR hw2 hc2 hb2 a2 r2), (hw2, eW false), (hc2, eA cy f2), (hb2, eA cy g2), (ho, eO nv sv)]) hD hS hA [0, 1, 2, 3, 4, 5, 6, 7, 8, 9] rfl
    refine va_calli (vx_runSW (As := [.ref h0, .int p1, .ref ho]) (rest := []) ⟨hx, hb, hml, hown, hts⟩ (kkb_L_wideText l hfl dC dI cy cB h0 h1 hw1 hc1 hb1 h2 hw2 hc2 hb2 a1 r1 f1 g1 a2 r2 f2 g2 kn ho nv sv H.size N p1 hok2 hcz) (vx_cwSW 3 hts gL_law_L_wideText rfl rfl rfl (by decide +kernel) ⟨Nat.le_of_ble_eq_true rfl, Nat.le_of_ble_eq_true rfl⟩) (xU.preS hKc hPc hDc hAN (Nat.le_trans hN hS.1) (hG.kept hS hAN) (hT.kept hS hAN) hnc) rfl rfl hl.1 rfl (lv_room (Nat.le_of_ble_eq_true rfl)) dL_law_1116 ⟨(show _ ≤ 716141 by omega), (show _ ≤ 6947682 by omega)⟩) hS (fun q _ h => hFc q h) hFc (fun r_8 u_9 t H locs ht hvm hw hB hz hk hS => ?_)
    obtain ⟨hP1, hD1⟩ := hB
    rw [ht] at hP1
    have hr9 : r_8 = 1 := hw
    subst hr9
    obtain ⟨hP, hD⟩ := va_join (wr := [(m0, eM m1 m2 th (r1 + r2) kn), (m1, eMR true mc1 a1), (mc1, eA cy f1), (m2, eMR false mc2 a2), (mc2, eA cy f2)]) (w1 := [(h0, eE h1 h2 kn), (h1, eR hw1 hc1 hb1 a1 r1), (hw1, eW true), (hc1, eA cy f1), (hb1, eA cy g1), (h2, eR hw2 hc2 hb2 a2 r2), (hw2, eW false), (hc2, eA cy f2), (hb2, eA cy g2), (ho, eO nv sv)]) hP hD [0, 1, 2, 3, 4, 5, 6, 7, 8, 9] [10, 11, 12, 13, 14] rfl rfl (by decide +kernel) (by decide +kernel) hk hFc hP1 hD1
    have hP := hP.sub (ws' := [(h0, eE h1 h2 kn), (h1, eR hw1 hc1 hb1 a1 r1), (hw1, eW true), (hc1, eA cy f1), (hb1, eA cy g1), (h2, eR hw2 hc2 hb2 a2 r2), (hw2, eW false), (hc2, eA cy f2), (hb2, eA cy g2), (ho, eO nv sv), (m0, eM m1 m2 th (r1 + r2) kn), (m1, eMR true mc1 a1), (mc1, eA cy f1), (m2, eMR false mc2 a2), (mc2, eA cy f2)]) [5, 6, 7, 8, 9, 10, 11, 12, 13, 14, 0, 1, 2, 3, 4] rfl
    have hD := hD.sub (ws' := [(h0, eE h1 h2 kn), (h1, eR hw1 hc1 hb1 a1 r1), (hw1, eW true), (hc1, eA cy f1), (hb1, eA cy g1), (h2, eR hw2 hc2 hb2 a2 r2), (hw2, eW false), (hc2, eA cy f2), (hb2, eA cy g2), (ho, eO nv sv), (m0, eM m1 m2 th (r1 + r2) kn), (m1, eMR true mc1 a1), (mc1, eA cy f1), (m2, eMR false mc2 a2), (mc2, eA cy f2)]) [5, 6, 7, 8, 9, 10, 11, 12, 13, 14, 0, 1, 2, 3, 4] (by decide +kernel) rfl
    refine lv_istore (lv' := [(5, .int 1), (0, .ref b), (1, .ref h0), (2, .ref m0), (3, .ref ho), (4, .int (nI i))]) hx hb dL_law_1119 hl (by decide +kernel) rfl (fun ls hl => ?_)
    refine lv_aload_n hx hb dL_law_1121 rfl (lv_at hl 3 rfl) ?_
    refine lv_aload_n hx hb dL_law_1122 rfl (lv_at hl 1 rfl) ?_
    refine lv_iload hx hb dL_law_1123 (lv_at hl 5 rfl) ?_
    refine lv_iconst (v := 1) hx hb dL_law_1125 (by decide +kernel) ?_
    refine lv_iadd hx hb dL_law_1126 ?_
    rw [nI_1 i]
    refine xa_sld hx hb hX hbl hbA hS (k := i + 1) (by omega) hL hp1 dL_law_1127 ?_
    have hPc := hP.sub (ws' := [(m0, eM m1 m2 th (r1 + r2) kn), (m1, eMR true mc1 a1), (mc1, eA cy f1), (m2, eMR false mc2 a2), (mc2, eA cy f2)]) [10, 11, 12, 13, 14] rfl
    have hDc := hD.sub (ws' := [(m0, eM m1 m2 th (r1 + r2) kn), (m1, eMR true mc1 a1), (mc1, eA cy f1), (m2, eMR false mc2 a2), (mc2, eA cy f2)]) [10, 11, 12, 13, 14] (by decide +kernel) rfl
    have hKc := hK.sub (tys' := [(cy, .long), (cB, .byte)]) [0, 1] rfl
    have hFc := va_free (wc := [(m0, eM m1 m2 th (r1 + r2) kn), (m1, eMR true mc1 a1), (mc1, eA cy f1), (m2, eMR false mc2 a2), (mc2, eA cy f2)]) hD hS hA [10, 11, 12, 13, 14] rfl
    refine va_callr (va_runV (As := [.int p1]) (rest := []) ⟨hx, hb, hml, hown, hts⟩ (kkb_X5_wideText l dC dI cy cB m0 m1 mc1 m2 mc2 a1 f1 a2 f2 th (r1 + r2) kn p1 H.size N hok2) (cwV 1 hts gL_law_X5_wideText rfl rfl rfl (by decide +kernel) ⟨Nat.le_of_ble_eq_true rfl, Nat.le_of_ble_eq_true rfl⟩) (xT.preV (ci := 7) (q0 := 0) hKc hPc hDc hAN (Nat.le_trans hN hS.1) (hG.kept hS hAN) (hT.kept hS hAN) rfl rfl) rfl rfl hl.1 rfl (lv_room (Nat.le_of_ble_eq_true rfl)) dL_law_1128 ⟨(show _ ≤ 716141 by omega), (show _ ≤ 6947682 by omega)⟩) hS (fun q _ h => hFc q h) hFc (fun u_11 r_10 t H locs ht hvm hw hB hz hk hS => ?_)
    obtain ⟨hP1, hD1⟩ := hB
    rw [ht] at hP1
    obtain ⟨th9, hth9⟩ : ∃ z : Int32, z = u_11 := ⟨_, rfl⟩
    rw [← hth9] at hP1 hD1
    have ht9 : th9 = (o_X5_fails (o_X5_isNo p1) false).2 := hth9.trans hw
    obtain ⟨hP, hD⟩ := va_join (wr := [(h0, eE h1 h2 kn), (h1, eR hw1 hc1 hb1 a1 r1), (hw1, eW true), (hc1, eA cy f1), (hb1, eA cy g1), (h2, eR hw2 hc2 hb2 a2 r2), (hw2, eW false), (hc2, eA cy f2), (hb2, eA cy g2), (ho, eO nv sv)]) (w1 := [(m0, eM m1 m2 th9 (r1 + r2) kn), (m1, eMR true mc1 a1), (mc1, eA cy f1), (m2, eMR false mc2 a2), (mc2, eA cy f2)]) hP hD [10, 11, 12, 13, 14] [0, 1, 2, 3, 4, 5, 6, 7, 8, 9] rfl rfl (by decide +kernel) (by decide +kernel) hk hFc hP1 hD1
    have hP := hP.sub (ws' := [(h0, eE h1 h2 kn), (h1, eR hw1 hc1 hb1 a1 r1), (hw1, eW true), (hc1, eA cy f1), (hb1, eA cy g1), (h2, eR hw2 hc2 hb2 a2 r2), (hw2, eW false), (hc2, eA cy f2), (hb2, eA cy g2), (ho, eO nv sv), (m0, eM m1 m2 th9 (r1 + r2) kn), (m1, eMR true mc1 a1), (mc1, eA cy f1), (m2, eMR false mc2 a2), (mc2, eA cy f2)]) [0, 1, 2, 3, 4, 5, 6, 7, 8, 9, 10, 11, 12, 13, 14] rfl
    have hD := hD.sub (ws' := [(h0, eE h1 h2 kn), (h1, eR hw1 hc1 hb1 a1 r1), (hw1, eW true), (hc1, eA cy f1), (hb1, eA cy g1), (h2, eR hw2 hc2 hb2 a2 r2), (hw2, eW false), (hc2, eA cy f2), (hb2, eA cy g2), (ho, eO nv sv), (m0, eM m1 m2 th9 (r1 + r2) kn), (m1, eMR true mc1 a1), (mc1, eA cy f1), (m2, eMR false mc2 a2), (mc2, eA cy f2)]) [0, 1, 2, 3, 4, 5, 6, 7, 8, 9, 10, 11, 12, 13, 14] (by decide +kernel) rfl
    refine lv_astore (lv' := [(6, .ref r_10), (5, .int 1), (0, .ref b), (1, .ref h0), (2, .ref m0), (3, .ref ho), (4, .int (nI i))]) hx hb dL_law_1131 hl (by decide +kernel) rfl (fun ls hl => ?_)
    refine lv_aload_n hx hb dL_law_1133 rfl (lv_at hl 4 rfl) ?_
    have hPc := hP.sub (ws' := [(m0, eM m1 m2 th9 (r1 + r2) kn)]) [10] rfl
    have hKc := hK.sub (tys' := []) [] rfl
    refine va_calli (va_runV (As := []) (rest := []) ⟨hx, hb, hml, hown, hts⟩ (k_X5_thrown l dC dI m0 m1 m2 th9 (r1 + r2) kn H.size) (cwV 0 hts gL_law_X5_thrown rfl rfl rfl (by decide +kernel) ⟨Nat.le_of_ble_eq_true rfl, Nat.le_of_ble_eq_true rfl⟩) (xB.preV hKc hPc (ci := 7) (q0 := 0) rfl rfl) rfl rfl hl.1 rfl (lv_room (Nat.le_of_ble_eq_true rfl)) dL_law_1134 ⟨(show _ ≤ 716141 by omega), (show _ ≤ 6947682 by omega)⟩) hS xA_old (fun q h => hA q (Nat.le_trans hS.1 h)) (fun r_12 u t H locs ht hvm hw hB hz hk hS => ?_)
    replace hw : r_12 = (o_X5_thrown th9) := hw
    subst r_12
    have hP := xP_keep hP hk
    refine lv_iload hx hb dL_law_1137 (lv_at hl 1 rfl) ?_
    refine lv_icmp_eq (tgt := 1144) hx hb dL_law_1139 (by decide +kernel) (fun c9 => ?_) (fun c9 => absurd (show o_X5_thrown _ = _ from ht9.trans (by rw [hno]; rfl)) c9)
    refine lv_iload hx hb dL_law_1144 (lv_at hl 1 rfl) ?_
    refine lv_if_ne (tgt := 1163) hx hb dL_law_1146 (by decide +kernel) (fun _ => ?_) (fun c9 => absurd c9 (by decide +kernel))
    refine lv_goto (tgt := 3660) hx hb dL_law_1163 (by decide +kernel) ?_
    refine W.widen (k := cells + 760) (n := slots + 4500) (by omega) (by omega) ?_
    exact K a1 r1 f1 g1 a2 r2 f2 g2 kn nv sv th9 a1 f1 a2 f2 (r1 + r2) kn _ _ _ rfl rfl rfl rfl rfl rfl hka1 hka2 hP hD hS (lv_sub hl [2, 3, 4, 5, 6] rfl)
set_option maxHeartbeats 4000000 in
set_option maxRecDepth 100000 in
theorem st_13 (l : Launch) (p : Program) (e : Env) (s : State) (m : MethodId) (below : List Frame) (meth : Method) (c : Code) (b L N : Nat) (xs : Nat → Int32) (A : Nat → Prop) (dC : Nat → ClassId) (dI : Nat → Nat → Nat) (cy cB : ClassId) (h0 h1 hw1 hc1 hb1 h2 hw2 hc2 hb2 ho m0 m1 mc1 m2 mc2 : Nat) (C0 : lw_C l p e s m below meth c b L N xs A dC dI cy cB) (i : Nat) (hi : i + 4 ≤ L) (p1 p2 p3 : Int32) (hp1 : xs (i + 1) = p1) (hp2 : xs (i + 2) = p2) (hp3 : xs (i + 3) = p3) (cells slots : Nat) (hcs : cells + 760 ≤ 716141) (hss : slots + 4500 ≤ 6947682) (K : lw_K l p e s m below meth c b L N xs A dC dI cy cB h0 h1 hw1 hc1 hb1 h2 hw2 hc2 hb2 ho m0 m1 mc1 m2 mc2 i (cells + 760) (slots + 4500) 3660) (a1 : Int32) (r1 : Int32) (f1 : Nat → Int64) (g1 : Nat → Int64) (a2 : Int32) (r2 : Int32) (f2 : Nat → Int64) (g2 : Nat → Int64) (kn : Int32) (nv : Int64) (sv : Value) (th : Int32) (H : Heap) (locs : List Loc) (ls : Array Slot) (hka1 : okA true f1) (hka2 : okA false f2) (hP : va_P (dC, dI) xCl [(h0, eE h1 h2 kn), (h1, eR hw1 hc1 hb1 a1 r1), (hw1, eW true), (hc1, eA cy f1), (hb1, eA cy g1), (h2, eR hw2 hc2 hb2 a2 r2), (hw2, eW false), (hc2, eA cy f2), (hb2, eA cy g2), (ho, eO nv sv), (m0, eM m1 m2 th (r1 + r2) kn), (m1, eMR true mc1 a1), (mc1, eA cy f1), (m2, eMR false mc2 a2), (mc2, eA cy f2)] H) (hD : va_D A [(h0, eE h1 h2 kn), (h1, eR hw1 hc1 hb1 a1 r1), (hw1, eW true), (hc1, eA cy f1), (hb1, eA cy g1), (h2, eR hw2 hc2 hb2 a2 r2), (hw2, eW false), (hc2, eA cy f2), (hb2, eA cy g2), (ho, eO nv sv), (m0, eM m1 m2 th (r1 + r2) kn), (m1, eMR true mc1 a1), (mc1, eA cy f1), (m2, eMR false mc2 a2), (mc2, eA cy f2)]) (hS : va_S A s.heap H locs) (hl : lv_has ls 7 [(0, .ref b), (1, .ref h0), (2, .ref m0), (3, .ref ho), (4, .int (nI i))]) : W p l e room_1 s m #[Value.ref b] below meth c H locs cells slots (lw_Z below #[Value.ref b] s) (F0 m 1166 ls []) := by
  obtain ⟨hfl, hx, hb, hr, hml, hown, hts, hX, hbl, hbA, hlocks, hK, hG, hnc, hA, hAN, hN, hL, hT, hNs⟩ := id C0
  have hok2 := me_okF hka2
  have hsp1 : ∀ k, k < 8 → o_X1_isSpoiled true (f1 k) = false := fun k hk => (hka1 k hk).2
  have hsp2 : ∀ k, k < 8 → o_X1_isSpoiled false (f2 k) = false := fun k hk => (hka2 k hk).2
  have qx_wideOrder : (o_L_wideOrder f1 nv p1 p2 p3).1 = (o_X5_wideOrder f1 p1 p2 p3).2 := by have hm := ml_wideOrder nv p1 p2 p3 hka1; rw [hm] <;> rfl
  have qn_wideOrder : (o_L_wideOrder f1 nv p1 p2 p3).2 = if (o_X5_wideOrder f1 p1 p2 p3).2 = 0 then ((o_X5_wideOrder f1 p1 p2 p3).1).toInt64 else nv := by have hm := ml_wideOrder nv p1 p2 p3 hka1; rw [hm] <;> rfl
  refine lv_aload_n hx hb dL_law_1166 rfl (lv_at hl 1 rfl) ?_
  refine lv_aload_n hx hb dL_law_1167 rfl (lv_at hl 0 rfl) ?_
  refine lv_iload hx hb dL_law_1168 (lv_at hl 4 rfl) ?_
  refine lv_iconst (v := 1) hx hb dL_law_1170 (by decide +kernel) ?_
  refine lv_iadd hx hb dL_law_1171 ?_
  rw [nI_1 i]
  refine xa_sld hx hb hX hbl hbA hS (k := i + 1) (by omega) hL hp1 dL_law_1172 ?_
  refine lv_aload_n hx hb dL_law_1173 rfl (lv_at hl 0 rfl) ?_
  refine lv_iload hx hb dL_law_1174 (lv_at hl 4 rfl) ?_
  refine lv_iconst (v := 2) hx hb dL_law_1176 (by decide +kernel) ?_
  refine lv_iadd hx hb dL_law_1177 ?_
  rw [nI_p2 i]
  refine xa_sld hx hb hX hbl hbA hS (k := i + 2) (by omega) hL hp2 dL_law_1178 ?_
  refine lv_aload_n hx hb dL_law_1179 rfl (lv_at hl 0 rfl) ?_
  refine lv_iload hx hb dL_law_1180 (lv_at hl 4 rfl) ?_
  refine lv_iconst (v := 3) hx hb dL_law_1182 (by decide +kernel) ?_
  refine lv_iadd hx hb dL_law_1183 ?_
  rw [nI_p3 i]
  refine xa_sld hx hb hX hbl hbA hS (k := i + 3) (by omega) hL hp3 dL_law_1184 ?_
  refine lv_aload_n hx hb dL_law_1185 rfl (lv_at hl 3 rfl) ?_
  have hPc := hP.sub (ws' := [(h0, eE h1 h2 kn), (h1, eR hw1 hc1 hb1 a1 r1), (hw1, eW true), (hc1, eA cy f1), (hb1, eA cy g1), (h2, eR hw2 hc2 hb2 a2 r2), (hw2, eW false), (hc2, eA cy f2), (hb2, eA cy g2), (ho, eO nv sv)]) [0, 1, 2, 3, 4, 5, 6, 7, 8, 9] rfl
  have hDc := hD.sub (ws' := [(h0, eE h1 h2 kn), (h1, eR hw1 hc1 hb1 a1 r1), (hw1, eW true), (hc1, eA cy f1), (hb1, eA cy g1), (h2, eR hw2 hc2 hb2 a2 r2), (hw2, eW false), (hc2, eA cy f2), (hb2, eA cy g2), (ho, eO nv sv)]) [0, 1, 2, 3, 4, 5, 6, 7, 8, 9] (by decide +kernel) rfl
  have hKc := hK.sub (tys' := [(cy, .long)]) [0] rfl
  have hFc := va_free (wc := [(h0, eE h1 h2 kn), (h1, eR hw1 hc1 hb1 a1 r1), (hw1, eW true), (hc1, eA cy f1), (hb1, eA cy g1), (h2, eR hw2 hc2 hb2 a2 r2), (hw2, eW false), (hc2, eA cy f2), (hb2, eA cy g2), (ho, eO nv sv)]) hD hS hA [0, 1, 2, 3, 4, 5, 6, 7, 8, 9] rfl
  refine va_calli (vx_runSW (As := [.ref h0, .int p1, .int p2, .int p3, .ref ho]) (rest := []) ⟨hx, hb, hml, hown, hts⟩ (k_L_wideOrder l hfl dC dI cy h0 h1 hw1 hc1 hb1 h2 hw2 hc2 hb2 a1 r1 f1 g1 a2 r2 f2 g2 kn ho nv sv H.size N p1 p2 p3) (vx_cwSW 5 hts gL_law_L_wideOrder rfl rfl rfl (by decide +kernel) ⟨Nat.le_of_ble_eq_true rfl, Nat.le_of_ble_eq_true rfl⟩) (xL.preS hKc hPc hDc hAN (Nat.le_trans hN hS.1) (hG.kept hS hAN) hnc) rfl rfl hl.1 rfl (lv_room (Nat.le_of_ble_eq_true rfl)) dL_law_1186 ⟨(show _ ≤ 716141 by omega), (show _ ≤ 6947682 by omega)⟩) hS (fun q _ h => hFc q h) hFc (fun r_1 u t H locs ht hvm hw hB hz hk hS => ?_)
  replace hw : r_1 = (o_L_wideOrder f1 nv p1 p2 p3).1 := hw
  subst r_1
  obtain ⟨hP1, hD1⟩ := hB
  rw [ht] at hP1
  obtain ⟨hP, hD⟩ := va_join (wr := [(m0, eM m1 m2 th (r1 + r2) kn), (m1, eMR true mc1 a1), (mc1, eA cy f1), (m2, eMR false mc2 a2), (mc2, eA cy f2)]) (w1 := [(h0, eE h1 h2 kn), (h1, eR hw1 hc1 hb1 a1 r1), (hw1, eW true), (hc1, eA cy f1), (hb1, eA cy g1), (h2, eR hw2 hc2 hb2 a2 r2), (hw2, eW false), (hc2, eA cy f2), (hb2, eA cy g2), (ho, eO (o_L_wideOrder f1 nv p1 p2 p3).2 sv)]) hP hD [0, 1, 2, 3, 4, 5, 6, 7, 8, 9] [10, 11, 12, 13, 14] rfl rfl (by decide +kernel) (by decide +kernel) hk hFc hP1 hD1
  have hP := hP.sub (ws' := [(h0, eE h1 h2 kn), (h1, eR hw1 hc1 hb1 a1 r1), (hw1, eW true), (hc1, eA cy f1), (hb1, eA cy g1), (h2, eR hw2 hc2 hb2 a2 r2), (hw2, eW false), (hc2, eA cy f2), (hb2, eA cy g2), (ho, eO (o_L_wideOrder f1 nv p1 p2 p3).2 sv), (m0, eM m1 m2 th (r1 + r2) kn), (m1, eMR true mc1 a1), (mc1, eA cy f1), (m2, eMR false mc2 a2), (mc2, eA cy f2)]) [5, 6, 7, 8, 9, 10, 11, 12, 13, 14, 0, 1, 2, 3, 4] rfl
  have hD := hD.sub (ws' := [(h0, eE h1 h2 kn), (h1, eR hw1 hc1 hb1 a1 r1), (hw1, eW true), (hc1, eA cy f1), (hb1, eA cy g1), (h2, eR hw2 hc2 hb2 a2 r2), (hw2, eW false), (hc2, eA cy f2), (hb2, eA cy g2), (ho, eO (o_L_wideOrder f1 nv p1 p2 p3).2 sv), (m0, eM m1 m2 th (r1 + r2) kn), (m1, eMR true mc1 a1), (mc1, eA cy f1), (m2, eMR false mc2 a2), (mc2, eA cy f2)]) [5, 6, 7, 8, 9, 10, 11, 12, 13, 14, 0, 1, 2, 3, 4] (by decide +kernel) rfl
  refine lv_istore (lv' := [(5, .int ((o_L_wideOrder f1 nv p1 p2 p3).1)), (0, .ref b), (1, .ref h0), (2, .ref m0), (3, .ref ho), (4, .int (nI i))]) hx hb dL_law_1189 hl (by decide +kernel) rfl (fun ls hl => ?_)
  refine lv_aload_n hx hb dL_law_1191 rfl (lv_at hl 3 rfl) ?_
  refine lv_aload_n hx hb dL_law_1192 rfl (lv_at hl 1 rfl) ?_
  refine lv_iload hx hb dL_law_1193 (lv_at hl 5 rfl) ?_
  refine lv_iconst (v := 1) hx hb dL_law_1195 (by decide +kernel) ?_
  refine lv_iadd hx hb dL_law_1196 ?_
  rw [nI_1 i]
  refine xa_sld hx hb hX hbl hbA hS (k := i + 1) (by omega) hL hp1 dL_law_1197 ?_
  refine lv_aload_n hx hb dL_law_1198 rfl (lv_at hl 1 rfl) ?_
  refine lv_iload hx hb dL_law_1199 (lv_at hl 5 rfl) ?_
  refine lv_iconst (v := 2) hx hb dL_law_1201 (by decide +kernel) ?_
  refine lv_iadd hx hb dL_law_1202 ?_
  rw [nI_p2 i]
  refine xa_sld hx hb hX hbl hbA hS (k := i + 2) (by omega) hL hp2 dL_law_1203 ?_
  refine lv_aload_n hx hb dL_law_1204 rfl (lv_at hl 1 rfl) ?_
  refine lv_iload hx hb dL_law_1205 (lv_at hl 5 rfl) ?_
  refine lv_iconst (v := 3) hx hb dL_law_1207 (by decide +kernel) ?_
  refine lv_iadd hx hb dL_law_1208 ?_
  rw [nI_p3 i]
  refine xa_sld hx hb hX hbl hbA hS (k := i + 3) (by omega) hL hp3 dL_law_1209 ?_
  have hPc := hP.sub (ws' := [(m0, eM m1 m2 th (r1 + r2) kn), (m1, eMR true mc1 a1), (mc1, eA cy f1), (m2, eMR false mc2 a2), (mc2, eA cy f2)]) [10, 11, 12, 13, 14] rfl
  have hDc := hD.sub (ws' := [(m0, eM m1 m2 th (r1 + r2) kn), (m1, eMR true mc1 a1), (mc1, eA cy f1), (m2, eMR false mc2 a2), (mc2, eA cy f2)]) [10, 11, 12, 13, 14] (by decide +kernel) rfl
  have hKc := hK.sub (tys' := [(cy, .long)]) [0] rfl
  have hFc := va_free (wc := [(m0, eM m1 m2 th (r1 + r2) kn), (m1, eMR true mc1 a1), (mc1, eA cy f1), (m2, eMR false mc2 a2), (mc2, eA cy f2)]) hD hS hA [10, 11, 12, 13, 14] rfl
  refine va_calli (va_runV (As := [.int p1, .int p2, .int p3]) (rest := []) ⟨hx, hb, hml, hown, hts⟩ (k_X5_wideOrder l dC dI cy m0 m1 mc1 m2 mc2 a1 f1 a2 f2 th (r1 + r2) kn H.size N p1 p2 p3) (cwV 3 hts gL_law_X5_wideOrder rfl rfl rfl (by decide +kernel) ⟨Nat.le_of_ble_eq_true rfl, Nat.le_of_ble_eq_true rfl⟩) (xM.preV hKc hPc hDc hAN (Nat.le_trans hN hS.1) (hG.kept hS hAN) (ci := 7) (q0 := 0) rfl rfl) rfl rfl hl.1 rfl (lv_room (Nat.le_of_ble_eq_true rfl)) dL_law_1210 ⟨(show _ ≤ 716141 by omega), (show _ ≤ 6947682 by omega)⟩) hS (fun q _ h => hFc q h) hFc (fun r_2 u t H locs ht hvm hw hB hz hk hS => ?_)
  replace hw : r_2 = (o_X5_wideOrder f1 p1 p2 p3).1 := hw
  subst r_2
  obtain ⟨hP1, hD1⟩ := hB
  rw [ht] at hP1
  obtain ⟨hP, hD⟩ := va_join (wr := [(h0, eE h1 h2 kn), (h1, eR hw1 hc1 hb1 a1 r1), (hw1, eW true), (hc1, eA cy f1), (hb1, eA cy g1), (h2, eR hw2 hc2 hb2 a2 r2), (hw2, eW false), (hc2, eA cy f2), (hb2, eA cy g2), (ho, eO (o_L_wideOrder f1 nv p1 p2 p3).2 sv)]) (w1 := [(m0, eM m1 m2 (o_X5_wideOrder f1 p1 p2 p3).2 (r1 + r2) kn), (m1, eMR true mc1 a1), (mc1, eA cy f1), (m2, eMR false mc2 a2), (mc2, eA cy f2)]) hP hD [10, 11, 12, 13, 14] [0, 1, 2, 3, 4, 5, 6, 7, 8, 9] rfl rfl (by decide +kernel) (by decide +kernel) hk hFc hP1 hD1
  have hP := hP.sub (ws' := [(h0, eE h1 h2 kn), (h1, eR hw1 hc1 hb1 a1 r1), (hw1, eW true), (hc1, eA cy f1), (hb1, eA cy g1), (h2, eR hw2 hc2 hb2 a2 r2), (hw2, eW false), (hc2, eA cy f2), (hb2, eA cy g2), (ho, eO (o_L_wideOrder f1 nv p1 p2 p3).2 sv), (m0, eM m1 m2 (o_X5_wideOrder f1 p1 p2 p3).2 (r1 + r2) kn), (m1, eMR true mc1 a1), (mc1, eA cy f1), (m2, eMR false mc2 a2), (mc2, eA cy f2)]) [0, 1, 2, 3, 4, 5, 6, 7, 8, 9, 10, 11, 12, 13, 14] rfl
  have hD := hD.sub (ws' := [(h0, eE h1 h2 kn), (h1, eR hw1 hc1 hb1 a1 r1), (hw1, eW true), (hc1, eA cy f1), (hb1, eA cy g1), (h2, eR hw2 hc2 hb2 a2 r2), (hw2, eW false), (hc2, eA cy f2), (hb2, eA cy g2), (ho, eO (o_L_wideOrder f1 nv p1 p2 p3).2 sv), (m0, eM m1 m2 (o_X5_wideOrder f1 p1 p2 p3).2 (r1 + r2) kn), (m1, eMR true mc1 a1), (mc1, eA cy f1), (m2, eMR false mc2 a2), (mc2, eA cy f2)]) [0, 1, 2, 3, 4, 5, 6, 7, 8, 9, 10, 11, 12, 13, 14] (by decide +kernel) rfl
  refine lv_istore (lv' := [(6, .int ((o_X5_wideOrder f1 p1 p2 p3).1)), (5, .int ((o_L_wideOrder f1 nv p1 p2 p3).1)), (0, .ref b), (1, .ref h0), (2, .ref m0), (3, .ref ho), (4, .int (nI i))]) hx hb dL_law_1213 hl (by decide +kernel) rfl (fun ls hl => ?_)
  refine lv_aload_n hx hb dL_law_1215 rfl (lv_at hl 4 rfl) ?_
  have hPc := hP.sub (ws' := [(m0, eM m1 m2 (o_X5_wideOrder f1 p1 p2 p3).2 (r1 + r2) kn)]) [10] rfl
  have hKc := hK.sub (tys' := []) [] rfl
  refine va_calli (va_runV (As := []) (rest := []) ⟨hx, hb, hml, hown, hts⟩ (k_X5_thrown l dC dI m0 m1 m2 ((o_X5_wideOrder f1 p1 p2 p3).2) (r1 + r2) kn H.size) (cwV 0 hts gL_law_X5_thrown rfl rfl rfl (by decide +kernel) ⟨Nat.le_of_ble_eq_true rfl, Nat.le_of_ble_eq_true rfl⟩) (xB.preV hKc hPc (ci := 7) (q0 := 0) rfl rfl) rfl rfl hl.1 rfl (lv_room (Nat.le_of_ble_eq_true rfl)) dL_law_1216 ⟨(show _ ≤ 716141 by omega), (show _ ≤ 6947682 by omega)⟩) hS xA_old (fun q h => hA q (Nat.le_trans hS.1 h)) (fun r_3 u t H locs ht hvm hw hB hz hk hS => ?_)
  replace hw : r_3 = (o_X5_thrown ((o_X5_wideOrder f1 p1 p2 p3).2)) := hw
  subst r_3
  have hP := xP_keep hP hk
  refine lv_iload hx hb dL_law_1219 (lv_at hl 1 rfl) ?_
  refine lv_icmp_eq (tgt := 1226) hx hb dL_law_1221 (by decide +kernel) (fun c9 => ?_) (fun c9 => absurd (show o_X5_thrown _ = _ from (qx_wideOrder).symm) c9)
  refine lv_iload hx hb dL_law_1226 (lv_at hl 1 rfl) ?_
  refine lv_if_ne (tgt := 1244) hx hb dL_law_1228 (by decide +kernel) (fun c_4 => ?_) (fun c_4 => ?_)
  · skip
    refine lv_goto (tgt := 3660) hx hb dL_law_1244 (by decide +kernel) ?_
    refine W.widen (k := cells + 760) (n := slots + 4500) (by omega) (by omega) ?_
    exact K a1 r1 f1 g1 a2 r2 f2 g2 kn ((o_L_wideOrder f1 nv p1 p2 p3).2) sv ((o_X5_wideOrder f1 p1 p2 p3).2) a1 f1 a2 f2 (r1 + r2) kn _ _ _ rfl rfl rfl rfl rfl rfl hka1 hka2 hP hD hS (lv_sub hl [2, 3, 4, 5, 6] rfl)
  · skip
    refine lv_aload_n hx hb dL_law_1231 rfl (lv_at hl 5 rfl) ?_
    refine va_getN (D := (dC, dI)) (ci := 5) (v := .long ((o_L_wideOrder f1 nv p1 p2 p3).2)) (C := RX3) (T := TX3) (N := 2) hx hb hts (by decide +kernel) hown hK hP 9 rfl rfl 0 (by decide +kernel) (va_Nw.use rfl (hG.1 (.fieldLinkNest RL 13 "EdgefloatsLaw$Out" "n" "J" RL) (List.mem_of_getElem? (i := 6) rfl))) (fun _ h9 => h9) rfl dL_law_1232 ?_
    refine lv_iload hx hb dL_law_1235 (lv_at hl 0 rfl) ?_
    refine lv_i2l (v := (((o_X5_wideOrder f1 p1 p2 p3).1).toInt64)) hx hb dL_law_1237 rfl ?_
    refine xc_eq (tgt := 1244) hx hb dL_law_1238 dL_law_1239 (by decide +kernel) (fun c9 => ?_) (fun c9 => absurd ((qn_wideOrder).trans (if_pos ((qx_wideOrder).symm.trans c_4))) c9)
    refine lv_goto (tgt := 3660) hx hb dL_law_1244 (by decide +kernel) ?_
    refine W.widen (k := cells + 760) (n := slots + 4500) (by omega) (by omega) ?_
    exact K a1 r1 f1 g1 a2 r2 f2 g2 kn ((o_L_wideOrder f1 nv p1 p2 p3).2) sv ((o_X5_wideOrder f1 p1 p2 p3).2) a1 f1 a2 f2 (r1 + r2) kn _ _ _ rfl rfl rfl rfl rfl rfl hka1 hka2 hP hD hS (lv_sub hl [2, 3, 4, 5, 6] rfl)
set_option maxHeartbeats 4000000 in
set_option maxRecDepth 100000 in
theorem st_14 (l : Launch) (p : Program) (e : Env) (s : State) (m : MethodId) (below : List Frame) (meth : Method) (c : Code) (b L N : Nat) (xs : Nat → Int32) (A : Nat → Prop) (dC : Nat → ClassId) (dI : Nat → Nat → Nat) (cy cB : ClassId) (h0 h1 hw1 hc1 hb1 h2 hw2 hc2 hb2 ho m0 m1 mc1 m2 mc2 : Nat) (C0 : lw_C l p e s m below meth c b L N xs A dC dI cy cB) (i : Nat) (hi : i + 4 ≤ L) (p1 p2 p3 : Int32) (hp1 : xs (i + 1) = p1) (hp2 : xs (i + 2) = p2) (hp3 : xs (i + 3) = p3) (cells slots : Nat) (hcs : cells + 760 ≤ 716141) (hss : slots + 4500 ≤ 6947682) (K : lw_K l p e s m below meth c b L N xs A dC dI cy cB h0 h1 hw1 hc1 hb1 h2 hw2 hc2 hb2 ho m0 m1 mc1 m2 mc2 i (cells + 760) (slots + 4500) 3660) (a1 : Int32) (r1 : Int32) (f1 : Nat → Int64) (g1 : Nat → Int64) (a2 : Int32) (r2 : Int32) (f2 : Nat → Int64) (g2 : Nat → Int64) (kn : Int32) (nv : Int64) (sv : Value) (th : Int32) (H : Heap) (locs : List Loc) (ls : Array Slot) (hka1 : okA true f1) (hka2 : okA false f2) (hP : va_P (dC, dI) xCl [(h0, eE h1 h2 kn), (h1, eR hw1 hc1 hb1 a1 r1), (hw1, eW true), (hc1, eA cy f1), (hb1, eA cy g1), (h2, eR hw2 hc2 hb2 a2 r2), (hw2, eW false), (hc2, eA cy f2), (hb2, eA cy g2), (ho, eO nv sv), (m0, eM m1 m2 th (r1 + r2) kn), (m1, eMR true mc1 a1), (mc1, eA cy f1), (m2, eMR false mc2 a2), (mc2, eA cy f2)] H) (hD : va_D A [(h0, eE h1 h2 kn), (h1, eR hw1 hc1 hb1 a1 r1), (hw1, eW true), (hc1, eA cy f1), (hb1, eA cy g1), (h2, eR hw2 hc2 hb2 a2 r2), (hw2, eW false), (hc2, eA cy f2), (hb2, eA cy g2), (ho, eO nv sv), (m0, eM m1 m2 th (r1 + r2) kn), (m1, eMR true mc1 a1), (mc1, eA cy f1), (m2, eMR false mc2 a2), (mc2, eA cy f2)]) (hS : va_S A s.heap H locs) (hl : lv_has ls 7 [(0, .ref b), (1, .ref h0), (2, .ref m0), (3, .ref ho), (4, .int (nI i))]) : W p l e room_1 s m #[Value.ref b] below meth c H locs cells slots (lw_Z below #[Value.ref b] s) (F0 m 1247 ls []) := by
  obtain ⟨hfl, hx, hb, hr, hml, hown, hts, hX, hbl, hbA, hlocks, hK, hG, hnc, hA, hAN, hN, hL, hT, hNs⟩ := id C0
  have hok2 := me_okF hka2
  have hsp1 : ∀ k, k < 8 → o_X1_isSpoiled true (f1 k) = false := fun k hk => (hka1 k hk).2
  have hsp2 : ∀ k, k < 8 → o_X1_isSpoiled false (f2 k) = false := fun k hk => (hka2 k hk).2
  have qx_wideSame : (o_L_wideSame f1 nv p1 p2 p3).1 = (o_X5_wideSame f1 p1 p2 p3).2 := by have hm := ml_wideSame nv p1 p2 p3 hka1; rw [hm] <;> rfl
  have qn_wideSame : (o_L_wideSame f1 nv p1 p2 p3).2 = if (o_X5_wideSame f1 p1 p2 p3).2 = 0 then (if (o_X5_wideSame f1 p1 p2 p3).1 = true then 1 else 0) else nv := by have hm := ml_wideSame nv p1 p2 p3 hka1; rw [hm] <;> rfl
  refine lv_aload_n hx hb dL_law_1247 rfl (lv_at hl 1 rfl) ?_
  refine lv_aload_n hx hb dL_law_1248 rfl (lv_at hl 0 rfl) ?_
  refine lv_iload hx hb dL_law_1249 (lv_at hl 4 rfl) ?_
  refine lv_iconst (v := 1) hx hb dL_law_1251 (by decide +kernel) ?_
  refine lv_iadd hx hb dL_law_1252 ?_
  rw [nI_1 i]
  refine xa_sld hx hb hX hbl hbA hS (k := i + 1) (by omega) hL hp1 dL_law_1253 ?_
  refine lv_aload_n hx hb dL_law_1254 rfl (lv_at hl 0 rfl) ?_
  refine lv_iload hx hb dL_law_1255 (lv_at hl 4 rfl) ?_
  refine lv_iconst (v := 2) hx hb dL_law_1257 (by decide +kernel) ?_
  refine lv_iadd hx hb dL_law_1258 ?_
  rw [nI_p2 i]
  refine xa_sld hx hb hX hbl hbA hS (k := i + 2) (by omega) hL hp2 dL_law_1259 ?_
  refine lv_aload_n hx hb dL_law_1260 rfl (lv_at hl 0 rfl) ?_
  refine lv_iload hx hb dL_law_1261 (lv_at hl 4 rfl) ?_
  refine lv_iconst (v := 3) hx hb dL_law_1263 (by decide +kernel) ?_
  refine lv_iadd hx hb dL_law_1264 ?_
  rw [nI_p3 i]
  refine xa_sld hx hb hX hbl hbA hS (k := i + 3) (by omega) hL hp3 dL_law_1265 ?_
  refine lv_aload_n hx hb dL_law_1266 rfl (lv_at hl 3 rfl) ?_
  have hPc := hP.sub (ws' := [(h0, eE h1 h2 kn), (h1, eR hw1 hc1 hb1 a1 r1), (hw1, eW true), (hc1, eA cy f1), (hb1, eA cy g1), (h2, eR hw2 hc2 hb2 a2 r2), (hw2, eW false), (hc2, eA cy f2), (hb2, eA cy g2), (ho, eO nv sv)]) [0, 1, 2, 3, 4, 5, 6, 7, 8, 9] rfl
  have hDc := hD.sub (ws' := [(h0, eE h1 h2 kn), (h1, eR hw1 hc1 hb1 a1 r1), (hw1, eW true), (hc1, eA cy f1), (hb1, eA cy g1), (h2, eR hw2 hc2 hb2 a2 r2), (hw2, eW false), (hc2, eA cy f2), (hb2, eA cy g2), (ho, eO nv sv)]) [0, 1, 2, 3, 4, 5, 6, 7, 8, 9] (by decide +kernel) rfl
  have hKc := hK.sub (tys' := [(cy, .long)]) [0] rfl
  have hFc := va_free (wc := [(h0, eE h1 h2 kn), (h1, eR hw1 hc1 hb1 a1 r1), (hw1, eW true), (hc1, eA cy f1), (hb1, eA cy g1), (h2, eR hw2 hc2 hb2 a2 r2), (hw2, eW false), (hc2, eA cy f2), (hb2, eA cy g2), (ho, eO nv sv)]) hD hS hA [0, 1, 2, 3, 4, 5, 6, 7, 8, 9] rfl
  refine va_calli (vx_runSW (As := [.ref h0, .int p1, .int p2, .int p3, .ref ho]) (rest := []) ⟨hx, hb, hml, hown, hts⟩ (k_L_wideSame l hfl dC dI cy h0 h1 hw1 hc1 hb1 h2 hw2 hc2 hb2 a1 r1 f1 g1 a2 r2 f2 g2 kn ho nv sv H.size N p1 p2 p3) (vx_cwSW 5 hts gL_law_L_wideSame rfl rfl rfl (by decide +kernel) ⟨Nat.le_of_ble_eq_true rfl, Nat.le_of_ble_eq_true rfl⟩) (xL.preS hKc hPc hDc hAN (Nat.le_trans hN hS.1) (hG.kept hS hAN) hnc) rfl rfl hl.1 rfl (lv_room (Nat.le_of_ble_eq_true rfl)) dL_law_1267 ⟨(show _ ≤ 716141 by omega), (show _ ≤ 6947682 by omega)⟩) hS (fun q _ h => hFc q h) hFc (fun r_1 u t H locs ht hvm hw hB hz hk hS => ?_)
  replace hw : r_1 = (o_L_wideSame f1 nv p1 p2 p3).1 := hw
  subst r_1
  obtain ⟨hP1, hD1⟩ := hB
  rw [ht] at hP1
  obtain ⟨hP, hD⟩ := va_join (wr := [(m0, eM m1 m2 th (r1 + r2) kn), (m1, eMR true mc1 a1), (mc1, eA cy f1), (m2, eMR false mc2 a2), (mc2, eA cy f2)]) (w1 := [(h0, eE h1 h2 kn), (h1, eR hw1 hc1 hb1 a1 r1), (hw1, eW true), (hc1, eA cy f1), (hb1, eA cy g1), (h2, eR hw2 hc2 hb2 a2 r2), (hw2, eW false), (hc2, eA cy f2), (hb2, eA cy g2), (ho, eO (o_L_wideSame f1 nv p1 p2 p3).2 sv)]) hP hD [0, 1, 2, 3, 4, 5, 6, 7, 8, 9] [10, 11, 12, 13, 14] rfl rfl (by decide +kernel) (by decide +kernel) hk hFc hP1 hD1
  have hP := hP.sub (ws' := [(h0, eE h1 h2 kn), (h1, eR hw1 hc1 hb1 a1 r1), (hw1, eW true), (hc1, eA cy f1), (hb1, eA cy g1), (h2, eR hw2 hc2 hb2 a2 r2), (hw2, eW false), (hc2, eA cy f2), (hb2, eA cy g2), (ho, eO (o_L_wideSame f1 nv p1 p2 p3).2 sv), (m0, eM m1 m2 th (r1 + r2) kn), (m1, eMR true mc1 a1), (mc1, eA cy f1), (m2, eMR false mc2 a2), (mc2, eA cy f2)]) [5, 6, 7, 8, 9, 10, 11, 12, 13, 14, 0, 1, 2, 3, 4] rfl
  have hD := hD.sub (ws' := [(h0, eE h1 h2 kn), (h1, eR hw1 hc1 hb1 a1 r1), (hw1, eW true), (hc1, eA cy f1), (hb1, eA cy g1), (h2, eR hw2 hc2 hb2 a2 r2), (hw2, eW false), (hc2, eA cy f2), (hb2, eA cy g2), (ho, eO (o_L_wideSame f1 nv p1 p2 p3).2 sv), (m0, eM m1 m2 th (r1 + r2) kn), (m1, eMR true mc1 a1), (mc1, eA cy f1), (m2, eMR false mc2 a2), (mc2, eA cy f2)]) [5, 6, 7, 8, 9, 10, 11, 12, 13, 14, 0, 1, 2, 3, 4] (by decide +kernel) rfl
  refine lv_istore (lv' := [(5, .int ((o_L_wideSame f1 nv p1 p2 p3).1)), (0, .ref b), (1, .ref h0), (2, .ref m0), (3, .ref ho), (4, .int (nI i))]) hx hb dL_law_1270 hl (by decide +kernel) rfl (fun ls hl => ?_)
  refine lv_aload_n hx hb dL_law_1272 rfl (lv_at hl 3 rfl) ?_
  refine lv_aload_n hx hb dL_law_1273 rfl (lv_at hl 1 rfl) ?_
  refine lv_iload hx hb dL_law_1274 (lv_at hl 5 rfl) ?_
  refine lv_iconst (v := 1) hx hb dL_law_1276 (by decide +kernel) ?_
  refine lv_iadd hx hb dL_law_1277 ?_
  rw [nI_1 i]
  refine xa_sld hx hb hX hbl hbA hS (k := i + 1) (by omega) hL hp1 dL_law_1278 ?_
  refine lv_aload_n hx hb dL_law_1279 rfl (lv_at hl 1 rfl) ?_
  refine lv_iload hx hb dL_law_1280 (lv_at hl 5 rfl) ?_
  refine lv_iconst (v := 2) hx hb dL_law_1282 (by decide +kernel) ?_
  refine lv_iadd hx hb dL_law_1283 ?_
  rw [nI_p2 i]
  refine xa_sld hx hb hX hbl hbA hS (k := i + 2) (by omega) hL hp2 dL_law_1284 ?_
  refine lv_aload_n hx hb dL_law_1285 rfl (lv_at hl 1 rfl) ?_
  refine lv_iload hx hb dL_law_1286 (lv_at hl 5 rfl) ?_
  refine lv_iconst (v := 3) hx hb dL_law_1288 (by decide +kernel) ?_
  refine lv_iadd hx hb dL_law_1289 ?_
  rw [nI_p3 i]
  refine xa_sld hx hb hX hbl hbA hS (k := i + 3) (by omega) hL hp3 dL_law_1290 ?_
  have hPc := hP.sub (ws' := [(m0, eM m1 m2 th (r1 + r2) kn), (m1, eMR true mc1 a1), (mc1, eA cy f1), (m2, eMR false mc2 a2), (mc2, eA cy f2)]) [10, 11, 12, 13, 14] rfl
  have hDc := hD.sub (ws' := [(m0, eM m1 m2 th (r1 + r2) kn), (m1, eMR true mc1 a1), (mc1, eA cy f1), (m2, eMR false mc2 a2), (mc2, eA cy f2)]) [10, 11, 12, 13, 14] (by decide +kernel) rfl
  have hKc := hK.sub (tys' := [(cy, .long)]) [0] rfl
  have hFc := va_free (wc := [(m0, eM m1 m2 th (r1 + r2) kn), (m1, eMR true mc1 a1), (mc1, eA cy f1), (m2, eMR false mc2 a2), (mc2, eA cy f2)]) hD hS hA [10, 11, 12, 13, 14] rfl
  refine va_calli (va_runV (As := [.int p1, .int p2, .int p3]) (rest := []) ⟨hx, hb, hml, hown, hts⟩ (k_X5_wideSame l dC dI cy m0 m1 mc1 m2 mc2 a1 f1 a2 f2 th (r1 + r2) kn H.size N p1 p2 p3) (cwV 3 hts gL_law_X5_wideSame rfl rfl rfl (by decide +kernel) ⟨Nat.le_of_ble_eq_true rfl, Nat.le_of_ble_eq_true rfl⟩) (xM.preV hKc hPc hDc hAN (Nat.le_trans hN hS.1) (hG.kept hS hAN) (ci := 7) (q0 := 0) rfl rfl) rfl rfl hl.1 rfl (lv_room (Nat.le_of_ble_eq_true rfl)) dL_law_1291 ⟨(show _ ≤ 716141 by omega), (show _ ≤ 6947682 by omega)⟩) hS (fun q _ h => hFc q h) hFc (fun r_2 u t H locs ht hvm hw hB hz hk hS => ?_)
  replace hw : r_2 = b2i ((o_X5_wideSame f1 p1 p2 p3).1) := hw
  subst r_2
  obtain ⟨hP1, hD1⟩ := hB
  rw [ht] at hP1
  obtain ⟨hP, hD⟩ := va_join (wr := [(h0, eE h1 h2 kn), (h1, eR hw1 hc1 hb1 a1 r1), (hw1, eW true), (hc1, eA cy f1), (hb1, eA cy g1), (h2, eR hw2 hc2 hb2 a2 r2), (hw2, eW false), (hc2, eA cy f2), (hb2, eA cy g2), (ho, eO (o_L_wideSame f1 nv p1 p2 p3).2 sv)]) (w1 := [(m0, eM m1 m2 (o_X5_wideSame f1 p1 p2 p3).2 (r1 + r2) kn), (m1, eMR true mc1 a1), (mc1, eA cy f1), (m2, eMR false mc2 a2), (mc2, eA cy f2)]) hP hD [10, 11, 12, 13, 14] [0, 1, 2, 3, 4, 5, 6, 7, 8, 9] rfl rfl (by decide +kernel) (by decide +kernel) hk hFc hP1 hD1
  have hP := hP.sub (ws' := [(h0, eE h1 h2 kn), (h1, eR hw1 hc1 hb1 a1 r1), (hw1, eW true), (hc1, eA cy f1), (hb1, eA cy g1), (h2, eR hw2 hc2 hb2 a2 r2), (hw2, eW false), (hc2, eA cy f2), (hb2, eA cy g2), (ho, eO (o_L_wideSame f1 nv p1 p2 p3).2 sv), (m0, eM m1 m2 (o_X5_wideSame f1 p1 p2 p3).2 (r1 + r2) kn), (m1, eMR true mc1 a1), (mc1, eA cy f1), (m2, eMR false mc2 a2), (mc2, eA cy f2)]) [0, 1, 2, 3, 4, 5, 6, 7, 8, 9, 10, 11, 12, 13, 14] rfl
  have hD := hD.sub (ws' := [(h0, eE h1 h2 kn), (h1, eR hw1 hc1 hb1 a1 r1), (hw1, eW true), (hc1, eA cy f1), (hb1, eA cy g1), (h2, eR hw2 hc2 hb2 a2 r2), (hw2, eW false), (hc2, eA cy f2), (hb2, eA cy g2), (ho, eO (o_L_wideSame f1 nv p1 p2 p3).2 sv), (m0, eM m1 m2 (o_X5_wideSame f1 p1 p2 p3).2 (r1 + r2) kn), (m1, eMR true mc1 a1), (mc1, eA cy f1), (m2, eMR false mc2 a2), (mc2, eA cy f2)]) [0, 1, 2, 3, 4, 5, 6, 7, 8, 9, 10, 11, 12, 13, 14] (by decide +kernel) rfl
  refine lv_istore (lv' := [(6, .int (b2i ((o_X5_wideSame f1 p1 p2 p3).1))), (5, .int ((o_L_wideSame f1 nv p1 p2 p3).1)), (0, .ref b), (1, .ref h0), (2, .ref m0), (3, .ref ho), (4, .int (nI i))]) hx hb dL_law_1294 hl (by decide +kernel) rfl (fun ls hl => ?_)
  refine lv_aload_n hx hb dL_law_1296 rfl (lv_at hl 4 rfl) ?_
  have hPc := hP.sub (ws' := [(m0, eM m1 m2 (o_X5_wideSame f1 p1 p2 p3).2 (r1 + r2) kn)]) [10] rfl
  have hKc := hK.sub (tys' := []) [] rfl
  refine va_calli (va_runV (As := []) (rest := []) ⟨hx, hb, hml, hown, hts⟩ (k_X5_thrown l dC dI m0 m1 m2 ((o_X5_wideSame f1 p1 p2 p3).2) (r1 + r2) kn H.size) (cwV 0 hts gL_law_X5_thrown rfl rfl rfl (by decide +kernel) ⟨Nat.le_of_ble_eq_true rfl, Nat.le_of_ble_eq_true rfl⟩) (xB.preV hKc hPc (ci := 7) (q0 := 0) rfl rfl) rfl rfl hl.1 rfl (lv_room (Nat.le_of_ble_eq_true rfl)) dL_law_1297 ⟨(show _ ≤ 716141 by omega), (show _ ≤ 6947682 by omega)⟩) hS xA_old (fun q h => hA q (Nat.le_trans hS.1 h)) (fun r_3 u t H locs ht hvm hw hB hz hk hS => ?_)
  replace hw : r_3 = (o_X5_thrown ((o_X5_wideSame f1 p1 p2 p3).2)) := hw
  subst r_3
  have hP := xP_keep hP hk
  refine lv_iload hx hb dL_law_1300 (lv_at hl 1 rfl) ?_
  refine lv_icmp_eq (tgt := 1307) hx hb dL_law_1302 (by decide +kernel) (fun c9 => ?_) (fun c9 => absurd (show o_X5_thrown _ = _ from (qx_wideSame).symm) c9)
  refine lv_iload hx hb dL_law_1307 (lv_at hl 1 rfl) ?_
  refine lv_if_ne (tgt := 1332) hx hb dL_law_1309 (by decide +kernel) (fun c_4 => ?_) (fun c_4 => ?_)
  · skip
    refine lv_goto (tgt := 3660) hx hb dL_law_1332 (by decide +kernel) ?_
    refine W.widen (k := cells + 760) (n := slots + 4500) (by omega) (by omega) ?_
    exact K a1 r1 f1 g1 a2 r2 f2 g2 kn ((o_L_wideSame f1 nv p1 p2 p3).2) sv ((o_X5_wideSame f1 p1 p2 p3).2) a1 f1 a2 f2 (r1 + r2) kn _ _ _ rfl rfl rfl rfl rfl rfl hka1 hka2 hP hD hS (lv_sub hl [2, 3, 4, 5, 6] rfl)
  · skip
    refine lv_aload_n hx hb dL_law_1312 rfl (lv_at hl 5 rfl) ?_
    refine va_getN (D := (dC, dI)) (ci := 5) (v := .long ((o_L_wideSame f1 nv p1 p2 p3).2)) (C := RX3) (T := TX3) (N := 2) hx hb hts (by decide +kernel) hown hK hP 9 rfl rfl 0 (by decide +kernel) (va_Nw.use rfl (hG.1 (.fieldLinkNest RL 13 "EdgefloatsLaw$Out" "n" "J" RL) (List.mem_of_getElem? (i := 6) rfl))) (fun _ h9 => h9) rfl dL_law_1313 ?_
    refine lv_iload hx hb dL_law_1316 (lv_at hl 0 rfl) ?_
    refine xz_eq (tgt := 1325) hx hb dL_law_1318 (by decide +kernel) (fun c_5 => ?_) (fun c_5 => ?_)
    · skip
      refine lv_lconst (v := 0) hx hb dL_law_1325 (by decide +kernel) ?_
      refine xc_eq (tgt := 1332) hx hb dL_law_1326 dL_law_1327 (by decide +kernel) (fun c9 => ?_) (fun c9 => absurd (((qn_wideSame).trans (if_pos ((qx_wideSame).symm.trans c_4))).trans (if_neg c_5)) c9)
      refine lv_goto (tgt := 3660) hx hb dL_law_1332 (by decide +kernel) ?_
      refine W.widen (k := cells + 760) (n := slots + 4500) (by omega) (by omega) ?_
      exact K a1 r1 f1 g1 a2 r2 f2 g2 kn ((o_L_wideSame f1 nv p1 p2 p3).2) sv ((o_X5_wideSame f1 p1 p2 p3).2) a1 f1 a2 f2 (r1 + r2) kn _ _ _ rfl rfl rfl rfl rfl rfl hka1 hka2 hP hD hS (lv_sub hl [2, 3, 4, 5, 6] rfl)
    · skip
      refine lv_lconst (v := 1) hx hb dL_law_1321 (by decide +kernel) ?_
      refine lv_goto (tgt := 1326) hx hb dL_law_1322 (by decide +kernel) ?_
      refine xc_eq (tgt := 1332) hx hb dL_law_1326 dL_law_1327 (by decide +kernel) (fun c9 => ?_) (fun c9 => absurd (((qn_wideSame).trans (if_pos ((qx_wideSame).symm.trans c_4))).trans (if_pos c_5)) c9)
      refine lv_goto (tgt := 3660) hx hb dL_law_1332 (by decide +kernel) ?_
      refine W.widen (k := cells + 760) (n := slots + 4500) (by omega) (by omega) ?_
      exact K a1 r1 f1 g1 a2 r2 f2 g2 kn ((o_L_wideSame f1 nv p1 p2 p3).2) sv ((o_X5_wideSame f1 p1 p2 p3).2) a1 f1 a2 f2 (r1 + r2) kn _ _ _ rfl rfl rfl rfl rfl rfl hka1 hka2 hP hD hS (lv_sub hl [2, 3, 4, 5, 6] rfl)
set_option maxHeartbeats 4000000 in
set_option maxRecDepth 100000 in
theorem st_15 (l : Launch) (p : Program) (e : Env) (s : State) (m : MethodId) (below : List Frame) (meth : Method) (c : Code) (b L N : Nat) (xs : Nat → Int32) (A : Nat → Prop) (dC : Nat → ClassId) (dI : Nat → Nat → Nat) (cy cB : ClassId) (h0 h1 hw1 hc1 hb1 h2 hw2 hc2 hb2 ho m0 m1 mc1 m2 mc2 : Nat) (C0 : lw_C l p e s m below meth c b L N xs A dC dI cy cB) (i : Nat) (hi : i + 4 ≤ L) (p1 p2 p3 : Int32) (hp1 : xs (i + 1) = p1) (hp2 : xs (i + 2) = p2) (hp3 : xs (i + 3) = p3) (cells slots : Nat) (hcs : cells + 760 ≤ 716141) (hss : slots + 4500 ≤ 6947682) (K : lw_K l p e s m below meth c b L N xs A dC dI cy cB h0 h1 hw1 hc1 hb1 h2 hw2 hc2 hb2 ho m0 m1 mc1 m2 mc2 i (cells + 760) (slots + 4500) 3660) (a1 : Int32) (r1 : Int32) (f1 : Nat → Int64) (g1 : Nat → Int64) (a2 : Int32) (r2 : Int32) (f2 : Nat → Int64) (g2 : Nat → Int64) (kn : Int32) (nv : Int64) (sv : Value) (th : Int32) (H : Heap) (locs : List Loc) (ls : Array Slot) (hka1 : okA true f1) (hka2 : okA false f2) (hP : va_P (dC, dI) xCl [(h0, eE h1 h2 kn), (h1, eR hw1 hc1 hb1 a1 r1), (hw1, eW true), (hc1, eA cy f1), (hb1, eA cy g1), (h2, eR hw2 hc2 hb2 a2 r2), (hw2, eW false), (hc2, eA cy f2), (hb2, eA cy g2), (ho, eO nv sv), (m0, eM m1 m2 th (r1 + r2) kn), (m1, eMR true mc1 a1), (mc1, eA cy f1), (m2, eMR false mc2 a2), (mc2, eA cy f2)] H) (hD : va_D A [(h0, eE h1 h2 kn), (h1, eR hw1 hc1 hb1 a1 r1), (hw1, eW true), (hc1, eA cy f1), (hb1, eA cy g1), (h2, eR hw2 hc2 hb2 a2 r2), (hw2, eW false), (hc2, eA cy f2), (hb2, eA cy g2), (ho, eO nv sv), (m0, eM m1 m2 th (r1 + r2) kn), (m1, eMR true mc1 a1), (mc1, eA cy f1), (m2, eMR false mc2 a2), (mc2, eA cy f2)]) (hS : va_S A s.heap H locs) (hl : lv_has ls 7 [(0, .ref b), (1, .ref h0), (2, .ref m0), (3, .ref ho), (4, .int (nI i))]) : W p l e room_1 s m #[Value.ref b] below meth c H locs cells slots (lw_Z below #[Value.ref b] s) (F0 m 1335 ls []) := by
  obtain ⟨hfl, hx, hb, hr, hml, hown, hts, hX, hbl, hbA, hlocks, hK, hG, hnc, hA, hAN, hN, hL, hT, hNs⟩ := id C0
  have hok2 := me_okF hka2
  have hsp1 : ∀ k, k < 8 → o_X1_isSpoiled true (f1 k) = false := fun k hk => (hka1 k hk).2
  have hsp2 : ∀ k, k < 8 → o_X1_isSpoiled false (f2 k) = false := fun k hk => (hka2 k hk).2
  have qx_wideOther : (o_L_wideOther nv p1 p2).1 = (o_X5_wideOther p1 p2).2 := by have hm := ml_wideOther nv p1 p2; rw [hm] <;> rfl
  have qn_wideOther : (o_L_wideOther nv p1 p2).2 = if (o_X5_wideOther p1 p2).2 = 0 then (if (o_X5_wideOther p1 p2).1 = true then 1 else 0) else nv := by have hm := ml_wideOther nv p1 p2; rw [hm] <;> rfl
  refine lv_aload_n hx hb dL_law_1335 rfl (lv_at hl 1 rfl) ?_
  refine lv_aload_n hx hb dL_law_1336 rfl (lv_at hl 0 rfl) ?_
  refine lv_iload hx hb dL_law_1337 (lv_at hl 4 rfl) ?_
  refine lv_iconst (v := 1) hx hb dL_law_1339 (by decide +kernel) ?_
  refine lv_iadd hx hb dL_law_1340 ?_
  rw [nI_1 i]
  refine xa_sld hx hb hX hbl hbA hS (k := i + 1) (by omega) hL hp1 dL_law_1341 ?_
  refine lv_aload_n hx hb dL_law_1342 rfl (lv_at hl 0 rfl) ?_
  refine lv_iload hx hb dL_law_1343 (lv_at hl 4 rfl) ?_
  refine lv_iconst (v := 2) hx hb dL_law_1345 (by decide +kernel) ?_
  refine lv_iadd hx hb dL_law_1346 ?_
  rw [nI_p2 i]
  refine xa_sld hx hb hX hbl hbA hS (k := i + 2) (by omega) hL hp2 dL_law_1347 ?_
  refine lv_aload_n hx hb dL_law_1348 rfl (lv_at hl 3 rfl) ?_
  have hPc := hP.sub (ws' := [(h0, eE h1 h2 kn), (h1, eR hw1 hc1 hb1 a1 r1), (hw1, eW true), (hc1, eA cy f1), (hb1, eA cy g1), (h2, eR hw2 hc2 hb2 a2 r2), (hw2, eW false), (hc2, eA cy f2), (hb2, eA cy g2), (ho, eO nv sv)]) [0, 1, 2, 3, 4, 5, 6, 7, 8, 9] rfl
  have hDc := hD.sub (ws' := [(h0, eE h1 h2 kn), (h1, eR hw1 hc1 hb1 a1 r1), (hw1, eW true), (hc1, eA cy f1), (hb1, eA cy g1), (h2, eR hw2 hc2 hb2 a2 r2), (hw2, eW false), (hc2, eA cy f2), (hb2, eA cy g2), (ho, eO nv sv)]) [0, 1, 2, 3, 4, 5, 6, 7, 8, 9] (by decide +kernel) rfl
  have hKc := hK.sub (tys' := [(cy, .long)]) [0] rfl
  have hFc := va_free (wc := [(h0, eE h1 h2 kn), (h1, eR hw1 hc1 hb1 a1 r1), (hw1, eW true), (hc1, eA cy f1), (hb1, eA cy g1), (h2, eR hw2 hc2 hb2 a2 r2), (hw2, eW false), (hc2, eA cy f2), (hb2, eA cy g2), (ho, eO nv sv)]) hD hS hA [0, 1, 2, 3, 4, 5, 6, 7, 8, 9] rfl
  refine va_calli (vx_runSW (As := [.ref h0, .int p1, .int p2, .ref ho]) (rest := []) ⟨hx, hb, hml, hown, hts⟩ (k_L_wideOther l hfl dC dI cy h0 h1 hw1 hc1 hb1 h2 hw2 hc2 hb2 a1 r1 f1 g1 a2 r2 f2 g2 kn ho nv sv H.size N p1 p2) (vx_cwSW 4 hts gL_law_L_wideOther rfl rfl rfl (by decide +kernel) ⟨Nat.le_of_ble_eq_true rfl, Nat.le_of_ble_eq_true rfl⟩) (xL.preS hKc hPc hDc hAN (Nat.le_trans hN hS.1) (hG.kept hS hAN) hnc) rfl rfl hl.1 rfl (lv_room (Nat.le_of_ble_eq_true rfl)) dL_law_1349 ⟨(show _ ≤ 716141 by omega), (show _ ≤ 6947682 by omega)⟩) hS (fun q _ h => hFc q h) hFc (fun r_1 u t H locs ht hvm hw hB hz hk hS => ?_)
  replace hw : r_1 = (o_L_wideOther nv p1 p2).1 := hw
  subst r_1
  obtain ⟨hP1, hD1⟩ := hB
  rw [ht] at hP1
  obtain ⟨hP, hD⟩ := va_join (wr := [(m0, eM m1 m2 th (r1 + r2) kn), (m1, eMR true mc1 a1), (mc1, eA cy f1), (m2, eMR false mc2 a2), (mc2, eA cy f2)]) (w1 := [(h0, eE h1 h2 kn), (h1, eR hw1 hc1 hb1 a1 r1), (hw1, eW true), (hc1, eA cy f1), (hb1, eA cy g1), (h2, eR hw2 hc2 hb2 a2 r2), (hw2, eW false), (hc2, eA cy f2), (hb2, eA cy g2), (ho, eO (o_L_wideOther nv p1 p2).2 sv)]) hP hD [0, 1, 2, 3, 4, 5, 6, 7, 8, 9] [10, 11, 12, 13, 14] rfl rfl (by decide +kernel) (by decide +kernel) hk hFc hP1 hD1
  have hP := hP.sub (ws' := [(h0, eE h1 h2 kn), (h1, eR hw1 hc1 hb1 a1 r1), (hw1, eW true), (hc1, eA cy f1), (hb1, eA cy g1), (h2, eR hw2 hc2 hb2 a2 r2), (hw2, eW false), (hc2, eA cy f2), (hb2, eA cy g2), (ho, eO (o_L_wideOther nv p1 p2).2 sv), (m0, eM m1 m2 th (r1 + r2) kn), (m1, eMR true mc1 a1), (mc1, eA cy f1), (m2, eMR false mc2 a2), (mc2, eA cy f2)]) [5, 6, 7, 8, 9, 10, 11, 12, 13, 14, 0, 1, 2, 3, 4] rfl
  have hD := hD.sub (ws' := [(h0, eE h1 h2 kn), (h1, eR hw1 hc1 hb1 a1 r1), (hw1, eW true), (hc1, eA cy f1), (hb1, eA cy g1), (h2, eR hw2 hc2 hb2 a2 r2), (hw2, eW false), (hc2, eA cy f2), (hb2, eA cy g2), (ho, eO (o_L_wideOther nv p1 p2).2 sv), (m0, eM m1 m2 th (r1 + r2) kn), (m1, eMR true mc1 a1), (mc1, eA cy f1), (m2, eMR false mc2 a2), (mc2, eA cy f2)]) [5, 6, 7, 8, 9, 10, 11, 12, 13, 14, 0, 1, 2, 3, 4] (by decide +kernel) rfl
  refine lv_istore (lv' := [(5, .int ((o_L_wideOther nv p1 p2).1)), (0, .ref b), (1, .ref h0), (2, .ref m0), (3, .ref ho), (4, .int (nI i))]) hx hb dL_law_1352 hl (by decide +kernel) rfl (fun ls hl => ?_)
  refine lv_aload_n hx hb dL_law_1354 rfl (lv_at hl 3 rfl) ?_
  refine lv_aload_n hx hb dL_law_1355 rfl (lv_at hl 1 rfl) ?_
  refine lv_iload hx hb dL_law_1356 (lv_at hl 5 rfl) ?_
  refine lv_iconst (v := 1) hx hb dL_law_1358 (by decide +kernel) ?_
  refine lv_iadd hx hb dL_law_1359 ?_
  rw [nI_1 i]
  refine xa_sld hx hb hX hbl hbA hS (k := i + 1) (by omega) hL hp1 dL_law_1360 ?_
  refine lv_aload_n hx hb dL_law_1361 rfl (lv_at hl 1 rfl) ?_
  refine lv_iload hx hb dL_law_1362 (lv_at hl 5 rfl) ?_
  refine lv_iconst (v := 2) hx hb dL_law_1364 (by decide +kernel) ?_
  refine lv_iadd hx hb dL_law_1365 ?_
  rw [nI_p2 i]
  refine xa_sld hx hb hX hbl hbA hS (k := i + 2) (by omega) hL hp2 dL_law_1366 ?_
  have hPc := hP.sub (ws' := [(m0, eM m1 m2 th (r1 + r2) kn), (m1, eMR true mc1 a1), (mc1, eA cy f1), (m2, eMR false mc2 a2), (mc2, eA cy f2)]) [10, 11, 12, 13, 14] rfl
  have hDc := hD.sub (ws' := [(m0, eM m1 m2 th (r1 + r2) kn), (m1, eMR true mc1 a1), (mc1, eA cy f1), (m2, eMR false mc2 a2), (mc2, eA cy f2)]) [10, 11, 12, 13, 14] (by decide +kernel) rfl
  have hKc := hK.sub (tys' := [(cy, .long)]) [0] rfl
  have hFc := va_free (wc := [(m0, eM m1 m2 th (r1 + r2) kn), (m1, eMR true mc1 a1), (mc1, eA cy f1), (m2, eMR false mc2 a2), (mc2, eA cy f2)]) hD hS hA [10, 11, 12, 13, 14] rfl
  refine va_calli (va_runV (As := [.int p1, .int p2]) (rest := []) ⟨hx, hb, hml, hown, hts⟩ (k_X5_wideOther l dC dI cy m0 m1 mc1 m2 mc2 a1 f1 a2 f2 th (r1 + r2) kn H.size N p1 p2) (cwV 2 hts gL_law_X5_wideOther rfl rfl rfl (by decide +kernel) ⟨Nat.le_of_ble_eq_true rfl, Nat.le_of_ble_eq_true rfl⟩) (xM.preV hKc hPc hDc hAN (Nat.le_trans hN hS.1) (hG.kept hS hAN) (ci := 7) (q0 := 0) rfl rfl) rfl rfl hl.1 rfl (lv_room (Nat.le_of_ble_eq_true rfl)) dL_law_1367 ⟨(show _ ≤ 716141 by omega), (show _ ≤ 6947682 by omega)⟩) hS (fun q _ h => hFc q h) hFc (fun r_2 u t H locs ht hvm hw hB hz hk hS => ?_)
  replace hw : r_2 = b2i ((o_X5_wideOther p1 p2).1) := hw
  subst r_2
  obtain ⟨hP1, hD1⟩ := hB
  rw [ht] at hP1
  obtain ⟨hP, hD⟩ := va_join (wr := [(h0, eE h1 h2 kn), (h1, eR hw1 hc1 hb1 a1 r1), (hw1, eW true), (hc1, eA cy f1), (hb1, eA cy g1), (h2, eR hw2 hc2 hb2 a2 r2), (hw2, eW false), (hc2, eA cy f2), (hb2, eA cy g2), (ho, eO (o_L_wideOther nv p1 p2).2 sv)]) (w1 := [(m0, eM m1 m2 (o_X5_wideOther p1 p2).2 (r1 + r2) kn), (m1, eMR true mc1 a1), (mc1, eA cy f1), (m2, eMR false mc2 a2), (mc2, eA cy f2)]) hP hD [10, 11, 12, 13, 14] [0, 1, 2, 3, 4, 5, 6, 7, 8, 9] rfl rfl (by decide +kernel) (by decide +kernel) hk hFc hP1 hD1
  have hP := hP.sub (ws' := [(h0, eE h1 h2 kn), (h1, eR hw1 hc1 hb1 a1 r1), (hw1, eW true), (hc1, eA cy f1), (hb1, eA cy g1), (h2, eR hw2 hc2 hb2 a2 r2), (hw2, eW false), (hc2, eA cy f2), (hb2, eA cy g2), (ho, eO (o_L_wideOther nv p1 p2).2 sv), (m0, eM m1 m2 (o_X5_wideOther p1 p2).2 (r1 + r2) kn), (m1, eMR true mc1 a1), (mc1, eA cy f1), (m2, eMR false mc2 a2), (mc2, eA cy f2)]) [0, 1, 2, 3, 4, 5, 6, 7, 8, 9, 10, 11, 12, 13, 14] rfl
  have hD := hD.sub (ws' := [(h0, eE h1 h2 kn), (h1, eR hw1 hc1 hb1 a1 r1), (hw1, eW true), (hc1, eA cy f1), (hb1, eA cy g1), (h2, eR hw2 hc2 hb2 a2 r2), (hw2, eW false), (hc2, eA cy f2), (hb2, eA cy g2), (ho, eO (o_L_wideOther nv p1 p2).2 sv), (m0, eM m1 m2 (o_X5_wideOther p1 p2).2 (r1 + r2) kn), (m1, eMR true mc1 a1), (mc1, eA cy f1), (m2, eMR false mc2 a2), (mc2, eA cy f2)]) [0, 1, 2, 3, 4, 5, 6, 7, 8, 9, 10, 11, 12, 13, 14] (by decide +kernel) rfl
  refine lv_istore (lv' := [(6, .int (b2i ((o_X5_wideOther p1 p2).1))), (5, .int ((o_L_wideOther nv p1 p2).1)), (0, .ref b), (1, .ref h0), (2, .ref m0), (3, .ref ho), (4, .int (nI i))]) hx hb dL_law_1370 hl (by decide +kernel) rfl (fun ls hl => ?_)
  refine lv_aload_n hx hb dL_law_1372 rfl (lv_at hl 4 rfl) ?_
  have hPc := hP.sub (ws' := [(m0, eM m1 m2 (o_X5_wideOther p1 p2).2 (r1 + r2) kn)]) [10] rfl
  have hKc := hK.sub (tys' := []) [] rfl
  refine va_calli (va_runV (As := []) (rest := []) ⟨hx, hb, hml, hown, hts⟩ (k_X5_thrown l dC dI m0 m1 m2 ((o_X5_wideOther p1 p2).2) (r1 + r2) kn H.size) (cwV 0 hts gL_law_X5_thrown rfl rfl rfl (by decide +kernel) ⟨Nat.le_of_ble_eq_true rfl, Nat.le_of_ble_eq_true rfl⟩) (xB.preV hKc hPc (ci := 7) (q0 := 0) rfl rfl) rfl rfl hl.1 rfl (lv_room (Nat.le_of_ble_eq_true rfl)) dL_law_1373 ⟨(show _ ≤ 716141 by omega), (show _ ≤ 6947682 by omega)⟩) hS xA_old (fun q h => hA q (Nat.le_trans hS.1 h)) (fun r_3 u t H locs ht hvm hw hB hz hk hS => ?_)
  replace hw : r_3 = (o_X5_thrown ((o_X5_wideOther p1 p2).2)) := hw
  subst r_3
  have hP := xP_keep hP hk
  refine lv_iload hx hb dL_law_1376 (lv_at hl 1 rfl) ?_
  refine lv_icmp_eq (tgt := 1383) hx hb dL_law_1378 (by decide +kernel) (fun c9 => ?_) (fun c9 => absurd (show o_X5_thrown _ = _ from (qx_wideOther).symm) c9)
  refine lv_iload hx hb dL_law_1383 (lv_at hl 1 rfl) ?_
  refine lv_if_ne (tgt := 1408) hx hb dL_law_1385 (by decide +kernel) (fun c_4 => ?_) (fun c_4 => ?_)
  · skip
    refine lv_goto (tgt := 3660) hx hb dL_law_1408 (by decide +kernel) ?_
    refine W.widen (k := cells + 760) (n := slots + 4500) (by omega) (by omega) ?_
    exact K a1 r1 f1 g1 a2 r2 f2 g2 kn ((o_L_wideOther nv p1 p2).2) sv ((o_X5_wideOther p1 p2).2) a1 f1 a2 f2 (r1 + r2) kn _ _ _ rfl rfl rfl rfl rfl rfl hka1 hka2 hP hD hS (lv_sub hl [2, 3, 4, 5, 6] rfl)
  · skip
    refine lv_aload_n hx hb dL_law_1388 rfl (lv_at hl 5 rfl) ?_
    refine va_getN (D := (dC, dI)) (ci := 5) (v := .long ((o_L_wideOther nv p1 p2).2)) (C := RX3) (T := TX3) (N := 2) hx hb hts (by decide +kernel) hown hK hP 9 rfl rfl 0 (by decide +kernel) (va_Nw.use rfl (hG.1 (.fieldLinkNest RL 13 "EdgefloatsLaw$Out" "n" "J" RL) (List.mem_of_getElem? (i := 6) rfl))) (fun _ h9 => h9) rfl dL_law_1389 ?_
    refine lv_iload hx hb dL_law_1392 (lv_at hl 0 rfl) ?_
    refine xz_eq (tgt := 1401) hx hb dL_law_1394 (by decide +kernel) (fun c_5 => ?_) (fun c_5 => ?_)
    · skip
      refine lv_lconst (v := 0) hx hb dL_law_1401 (by decide +kernel) ?_
      refine xc_eq (tgt := 1408) hx hb dL_law_1402 dL_law_1403 (by decide +kernel) (fun c9 => ?_) (fun c9 => absurd (((qn_wideOther).trans (if_pos ((qx_wideOther).symm.trans c_4))).trans (if_neg c_5)) c9)
      refine lv_goto (tgt := 3660) hx hb dL_law_1408 (by decide +kernel) ?_
      refine W.widen (k := cells + 760) (n := slots + 4500) (by omega) (by omega) ?_
      exact K a1 r1 f1 g1 a2 r2 f2 g2 kn ((o_L_wideOther nv p1 p2).2) sv ((o_X5_wideOther p1 p2).2) a1 f1 a2 f2 (r1 + r2) kn _ _ _ rfl rfl rfl rfl rfl rfl hka1 hka2 hP hD hS (lv_sub hl [2, 3, 4, 5, 6] rfl)
    · skip
      refine lv_lconst (v := 1) hx hb dL_law_1397 (by decide +kernel) ?_
      refine lv_goto (tgt := 1402) hx hb dL_law_1398 (by decide +kernel) ?_
      refine xc_eq (tgt := 1408) hx hb dL_law_1402 dL_law_1403 (by decide +kernel) (fun c9 => ?_) (fun c9 => absurd (((qn_wideOther).trans (if_pos ((qx_wideOther).symm.trans c_4))).trans (if_pos c_5)) c9)
      refine lv_goto (tgt := 3660) hx hb dL_law_1408 (by decide +kernel) ?_
      refine W.widen (k := cells + 760) (n := slots + 4500) (by omega) (by omega) ?_
      exact K a1 r1 f1 g1 a2 r2 f2 g2 kn ((o_L_wideOther nv p1 p2).2) sv ((o_X5_wideOther p1 p2).2) a1 f1 a2 f2 (r1 + r2) kn _ _ _ rfl rfl rfl rfl rfl rfl hka1 hka2 hP hD hS (lv_sub hl [2, 3, 4, 5, 6] rfl)
set_option maxHeartbeats 4000000 in
set_option maxRecDepth 100000 in
theorem st_16 (l : Launch) (p : Program) (e : Env) (s : State) (m : MethodId) (below : List Frame) (meth : Method) (c : Code) (b L N : Nat) (xs : Nat → Int32) (A : Nat → Prop) (dC : Nat → ClassId) (dI : Nat → Nat → Nat) (cy cB : ClassId) (h0 h1 hw1 hc1 hb1 h2 hw2 hc2 hb2 ho m0 m1 mc1 m2 mc2 : Nat) (C0 : lw_C l p e s m below meth c b L N xs A dC dI cy cB) (i : Nat) (hi : i + 4 ≤ L) (p1 p2 p3 : Int32) (hp1 : xs (i + 1) = p1) (hp2 : xs (i + 2) = p2) (hp3 : xs (i + 3) = p3) (cells slots : Nat) (hcs : cells + 760 ≤ 716141) (hss : slots + 4500 ≤ 6947682) (K : lw_K l p e s m below meth c b L N xs A dC dI cy cB h0 h1 hw1 hc1 hb1 h2 hw2 hc2 hb2 ho m0 m1 mc1 m2 mc2 i (cells + 760) (slots + 4500) 3660) (a1 : Int32) (r1 : Int32) (f1 : Nat → Int64) (g1 : Nat → Int64) (a2 : Int32) (r2 : Int32) (f2 : Nat → Int64) (g2 : Nat → Int64) (kn : Int32) (nv : Int64) (sv : Value) (th : Int32) (H : Heap) (locs : List Loc) (ls : Array Slot) (hka1 : okA true f1) (hka2 : okA false f2) (hP : va_P (dC, dI) xCl [(h0, eE h1 h2 kn), (h1, eR hw1 hc1 hb1 a1 r1), (hw1, eW true), (hc1, eA cy f1), (hb1, eA cy g1), (h2, eR hw2 hc2 hb2 a2 r2), (hw2, eW false), (hc2, eA cy f2), (hb2, eA cy g2), (ho, eO nv sv), (m0, eM m1 m2 th (r1 + r2) kn), (m1, eMR true mc1 a1), (mc1, eA cy f1), (m2, eMR false mc2 a2), (mc2, eA cy f2)] H) (hD : va_D A [(h0, eE h1 h2 kn), (h1, eR hw1 hc1 hb1 a1 r1), (hw1, eW true), (hc1, eA cy f1), (hb1, eA cy g1), (h2, eR hw2 hc2 hb2 a2 r2), (hw2, eW false), (hc2, eA cy f2), (hb2, eA cy g2), (ho, eO nv sv), (m0, eM m1 m2 th (r1 + r2) kn), (m1, eMR true mc1 a1), (mc1, eA cy f1), (m2, eMR false mc2 a2), (mc2, eA cy f2)]) (hS : va_S A s.heap H locs) (hl : lv_has ls 7 [(0, .ref b), (1, .ref h0), (2, .ref m0), (3, .ref ho), (4, .int (nI i))]) : W p l e room_1 s m #[Value.ref b] below meth c H locs cells slots (lw_Z below #[Value.ref b] s) (F0 m 1411 ls []) := by
  obtain ⟨hfl, hx, hb, hr, hml, hown, hts, hX, hbl, hbA, hlocks, hK, hG, hnc, hA, hAN, hN, hL, hT, hNs⟩ := id C0
  have hok2 := me_okF hka2
  have hsp1 : ∀ k, k < 8 → o_X1_isSpoiled true (f1 k) = false := fun k hk => (hka1 k hk).2
  have hsp2 : ∀ k, k < 8 → o_X1_isSpoiled false (f2 k) = false := fun k hk => (hka2 k hk).2
  have qx_wideLike : (o_L_wideLike f1 nv p1 p2).1 = (o_X5_wideLike f1 p1 p2).2 := by have hm := ml_wideLike nv p1 p2 hka1; rw [hm] <;> rfl
  have qn_wideLike : (o_L_wideLike f1 nv p1 p2).2 = if (o_X5_wideLike f1 p1 p2).2 = 0 then (if (o_X5_wideLike f1 p1 p2).1 = true then 1 else 0) else nv := by have hm := ml_wideLike nv p1 p2 hka1; rw [hm] <;> rfl
  refine lv_aload_n hx hb dL_law_1411 rfl (lv_at hl 1 rfl) ?_
  refine lv_aload_n hx hb dL_law_1412 rfl (lv_at hl 0 rfl) ?_
  refine lv_iload hx hb dL_law_1413 (lv_at hl 4 rfl) ?_
  refine lv_iconst (v := 1) hx hb dL_law_1415 (by decide +kernel) ?_
  refine lv_iadd hx hb dL_law_1416 ?_
  rw [nI_1 i]
  refine xa_sld hx hb hX hbl hbA hS (k := i + 1) (by omega) hL hp1 dL_law_1417 ?_
  refine lv_aload_n hx hb dL_law_1418 rfl (lv_at hl 0 rfl) ?_
  refine lv_iload hx hb dL_law_1419 (lv_at hl 4 rfl) ?_
  refine lv_iconst (v := 2) hx hb dL_law_1421 (by decide +kernel) ?_
  refine lv_iadd hx hb dL_law_1422 ?_
  rw [nI_p2 i]
  refine xa_sld hx hb hX hbl hbA hS (k := i + 2) (by omega) hL hp2 dL_law_1423 ?_
  refine lv_aload_n hx hb dL_law_1424 rfl (lv_at hl 3 rfl) ?_
  have hPc := hP.sub (ws' := [(h0, eE h1 h2 kn), (h1, eR hw1 hc1 hb1 a1 r1), (hw1, eW true), (hc1, eA cy f1), (hb1, eA cy g1), (h2, eR hw2 hc2 hb2 a2 r2), (hw2, eW false), (hc2, eA cy f2), (hb2, eA cy g2), (ho, eO nv sv)]) [0, 1, 2, 3, 4, 5, 6, 7, 8, 9] rfl
  have hDc := hD.sub (ws' := [(h0, eE h1 h2 kn), (h1, eR hw1 hc1 hb1 a1 r1), (hw1, eW true), (hc1, eA cy f1), (hb1, eA cy g1), (h2, eR hw2 hc2 hb2 a2 r2), (hw2, eW false), (hc2, eA cy f2), (hb2, eA cy g2), (ho, eO nv sv)]) [0, 1, 2, 3, 4, 5, 6, 7, 8, 9] (by decide +kernel) rfl
  have hKc := hK.sub (tys' := [(cy, .long)]) [0] rfl
  have hFc := va_free (wc := [(h0, eE h1 h2 kn), (h1, eR hw1 hc1 hb1 a1 r1), (hw1, eW true), (hc1, eA cy f1), (hb1, eA cy g1), (h2, eR hw2 hc2 hb2 a2 r2), (hw2, eW false), (hc2, eA cy f2), (hb2, eA cy g2), (ho, eO nv sv)]) hD hS hA [0, 1, 2, 3, 4, 5, 6, 7, 8, 9] rfl
  refine va_calli (vx_runSW (As := [.ref h0, .int p1, .int p2, .ref ho]) (rest := []) ⟨hx, hb, hml, hown, hts⟩ (k_L_wideLike l hfl dC dI cy h0 h1 hw1 hc1 hb1 h2 hw2 hc2 hb2 a1 r1 f1 g1 a2 r2 f2 g2 kn ho nv sv H.size N p1 p2) (vx_cwSW 4 hts gL_law_L_wideLike rfl rfl rfl (by decide +kernel) ⟨Nat.le_of_ble_eq_true rfl, Nat.le_of_ble_eq_true rfl⟩) (xL.preS hKc hPc hDc hAN (Nat.le_trans hN hS.1) (hG.kept hS hAN) hnc) rfl rfl hl.1 rfl (lv_room (Nat.le_of_ble_eq_true rfl)) dL_law_1425 ⟨(show _ ≤ 716141 by omega), (show _ ≤ 6947682 by omega)⟩) hS (fun q _ h => hFc q h) hFc (fun r_1 u t H locs ht hvm hw hB hz hk hS => ?_)
  replace hw : r_1 = (o_L_wideLike f1 nv p1 p2).1 := hw
  subst r_1
  obtain ⟨hP1, hD1⟩ := hB
  rw [ht] at hP1
  obtain ⟨hP, hD⟩ := va_join (wr := [(m0, eM m1 m2 th (r1 + r2) kn), (m1, eMR true mc1 a1), (mc1, eA cy f1), (m2, eMR false mc2 a2), (mc2, eA cy f2)]) (w1 := [(h0, eE h1 h2 kn), (h1, eR hw1 hc1 hb1 a1 r1), (hw1, eW true), (hc1, eA cy f1), (hb1, eA cy g1), (h2, eR hw2 hc2 hb2 a2 r2), (hw2, eW false), (hc2, eA cy f2), (hb2, eA cy g2), (ho, eO (o_L_wideLike f1 nv p1 p2).2 sv)]) hP hD [0, 1, 2, 3, 4, 5, 6, 7, 8, 9] [10, 11, 12, 13, 14] rfl rfl (by decide +kernel) (by decide +kernel) hk hFc hP1 hD1
  have hP := hP.sub (ws' := [(h0, eE h1 h2 kn), (h1, eR hw1 hc1 hb1 a1 r1), (hw1, eW true), (hc1, eA cy f1), (hb1, eA cy g1), (h2, eR hw2 hc2 hb2 a2 r2), (hw2, eW false), (hc2, eA cy f2), (hb2, eA cy g2), (ho, eO (o_L_wideLike f1 nv p1 p2).2 sv), (m0, eM m1 m2 th (r1 + r2) kn), (m1, eMR true mc1 a1), (mc1, eA cy f1), (m2, eMR false mc2 a2), (mc2, eA cy f2)]) [5, 6, 7, 8, 9, 10, 11, 12, 13, 14, 0, 1, 2, 3, 4] rfl
  have hD := hD.sub (ws' := [(h0, eE h1 h2 kn), (h1, eR hw1 hc1 hb1 a1 r1), (hw1, eW true), (hc1, eA cy f1), (hb1, eA cy g1), (h2, eR hw2 hc2 hb2 a2 r2), (hw2, eW false), (hc2, eA cy f2), (hb2, eA cy g2), (ho, eO (o_L_wideLike f1 nv p1 p2).2 sv), (m0, eM m1 m2 th (r1 + r2) kn), (m1, eMR true mc1 a1), (mc1, eA cy f1), (m2, eMR false mc2 a2), (mc2, eA cy f2)]) [5, 6, 7, 8, 9, 10, 11, 12, 13, 14, 0, 1, 2, 3, 4] (by decide +kernel) rfl
  refine lv_istore (lv' := [(5, .int ((o_L_wideLike f1 nv p1 p2).1)), (0, .ref b), (1, .ref h0), (2, .ref m0), (3, .ref ho), (4, .int (nI i))]) hx hb dL_law_1428 hl (by decide +kernel) rfl (fun ls hl => ?_)
  refine lv_aload_n hx hb dL_law_1430 rfl (lv_at hl 3 rfl) ?_
  refine lv_aload_n hx hb dL_law_1431 rfl (lv_at hl 1 rfl) ?_
  refine lv_iload hx hb dL_law_1432 (lv_at hl 5 rfl) ?_
  refine lv_iconst (v := 1) hx hb dL_law_1434 (by decide +kernel) ?_
  refine lv_iadd hx hb dL_law_1435 ?_
  rw [nI_1 i]
  refine xa_sld hx hb hX hbl hbA hS (k := i + 1) (by omega) hL hp1 dL_law_1436 ?_
  refine lv_aload_n hx hb dL_law_1437 rfl (lv_at hl 1 rfl) ?_
  refine lv_iload hx hb dL_law_1438 (lv_at hl 5 rfl) ?_
  refine lv_iconst (v := 2) hx hb dL_law_1440 (by decide +kernel) ?_
  refine lv_iadd hx hb dL_law_1441 ?_
  rw [nI_p2 i]
  refine xa_sld hx hb hX hbl hbA hS (k := i + 2) (by omega) hL hp2 dL_law_1442 ?_
  have hPc := hP.sub (ws' := [(m0, eM m1 m2 th (r1 + r2) kn), (m1, eMR true mc1 a1), (mc1, eA cy f1), (m2, eMR false mc2 a2), (mc2, eA cy f2)]) [10, 11, 12, 13, 14] rfl
  have hDc := hD.sub (ws' := [(m0, eM m1 m2 th (r1 + r2) kn), (m1, eMR true mc1 a1), (mc1, eA cy f1), (m2, eMR false mc2 a2), (mc2, eA cy f2)]) [10, 11, 12, 13, 14] (by decide +kernel) rfl
  have hKc := hK.sub (tys' := [(cy, .long)]) [0] rfl
  have hFc := va_free (wc := [(m0, eM m1 m2 th (r1 + r2) kn), (m1, eMR true mc1 a1), (mc1, eA cy f1), (m2, eMR false mc2 a2), (mc2, eA cy f2)]) hD hS hA [10, 11, 12, 13, 14] rfl
  refine va_calli (va_runV (As := [.int p1, .int p2]) (rest := []) ⟨hx, hb, hml, hown, hts⟩ (k_X5_wideLike l dC dI cy m0 m1 mc1 m2 mc2 a1 f1 a2 f2 th (r1 + r2) kn H.size N p1 p2) (cwV 2 hts gL_law_X5_wideLike rfl rfl rfl (by decide +kernel) ⟨Nat.le_of_ble_eq_true rfl, Nat.le_of_ble_eq_true rfl⟩) (xM.preV hKc hPc hDc hAN (Nat.le_trans hN hS.1) (hG.kept hS hAN) (ci := 7) (q0 := 0) rfl rfl) rfl rfl hl.1 rfl (lv_room (Nat.le_of_ble_eq_true rfl)) dL_law_1443 ⟨(show _ ≤ 716141 by omega), (show _ ≤ 6947682 by omega)⟩) hS (fun q _ h => hFc q h) hFc (fun r_2 u t H locs ht hvm hw hB hz hk hS => ?_)
  replace hw : r_2 = b2i ((o_X5_wideLike f1 p1 p2).1) := hw
  subst r_2
  obtain ⟨hP1, hD1⟩ := hB
  rw [ht] at hP1
  obtain ⟨hP, hD⟩ := va_join (wr := [(h0, eE h1 h2 kn), (h1, eR hw1 hc1 hb1 a1 r1), (hw1, eW true), (hc1, eA cy f1), (hb1, eA cy g1), (h2, eR hw2 hc2 hb2 a2 r2), (hw2, eW false), (hc2, eA cy f2), (hb2, eA cy g2), (ho, eO (o_L_wideLike f1 nv p1 p2).2 sv)]) (w1 := [(m0, eM m1 m2 (o_X5_wideLike f1 p1 p2).2 (r1 + r2) kn), (m1, eMR true mc1 a1), (mc1, eA cy f1), (m2, eMR false mc2 a2), (mc2, eA cy f2)]) hP hD [10, 11, 12, 13, 14] [0, 1, 2, 3, 4, 5, 6, 7, 8, 9] rfl rfl (by decide +kernel) (by decide +kernel) hk hFc hP1 hD1
  have hP := hP.sub (ws' := [(h0, eE h1 h2 kn), (h1, eR hw1 hc1 hb1 a1 r1), (hw1, eW true), (hc1, eA cy f1), (hb1, eA cy g1), (h2, eR hw2 hc2 hb2 a2 r2), (hw2, eW false), (hc2, eA cy f2), (hb2, eA cy g2), (ho, eO (o_L_wideLike f1 nv p1 p2).2 sv), (m0, eM m1 m2 (o_X5_wideLike f1 p1 p2).2 (r1 + r2) kn), (m1, eMR true mc1 a1), (mc1, eA cy f1), (m2, eMR false mc2 a2), (mc2, eA cy f2)]) [0, 1, 2, 3, 4, 5, 6, 7, 8, 9, 10, 11, 12, 13, 14] rfl
  have hD := hD.sub (ws' := [(h0, eE h1 h2 kn), (h1, eR hw1 hc1 hb1 a1 r1), (hw1, eW true), (hc1, eA cy f1), (hb1, eA cy g1), (h2, eR hw2 hc2 hb2 a2 r2), (hw2, eW false), (hc2, eA cy f2), (hb2, eA cy g2), (ho, eO (o_L_wideLike f1 nv p1 p2).2 sv), (m0, eM m1 m2 (o_X5_wideLike f1 p1 p2).2 (r1 + r2) kn), (m1, eMR true mc1 a1), (mc1, eA cy f1), (m2, eMR false mc2 a2), (mc2, eA cy f2)]) [0, 1, 2, 3, 4, 5, 6, 7, 8, 9, 10, 11, 12, 13, 14] (by decide +kernel) rfl
  refine lv_istore (lv' := [(6, .int (b2i ((o_X5_wideLike f1 p1 p2).1))), (5, .int ((o_L_wideLike f1 nv p1 p2).1)), (0, .ref b), (1, .ref h0), (2, .ref m0), (3, .ref ho), (4, .int (nI i))]) hx hb dL_law_1446 hl (by decide +kernel) rfl (fun ls hl => ?_)
  refine lv_aload_n hx hb dL_law_1448 rfl (lv_at hl 4 rfl) ?_
  have hPc := hP.sub (ws' := [(m0, eM m1 m2 (o_X5_wideLike f1 p1 p2).2 (r1 + r2) kn)]) [10] rfl
  have hKc := hK.sub (tys' := []) [] rfl
  refine va_calli (va_runV (As := []) (rest := []) ⟨hx, hb, hml, hown, hts⟩ (k_X5_thrown l dC dI m0 m1 m2 ((o_X5_wideLike f1 p1 p2).2) (r1 + r2) kn H.size) (cwV 0 hts gL_law_X5_thrown rfl rfl rfl (by decide +kernel) ⟨Nat.le_of_ble_eq_true rfl, Nat.le_of_ble_eq_true rfl⟩) (xB.preV hKc hPc (ci := 7) (q0 := 0) rfl rfl) rfl rfl hl.1 rfl (lv_room (Nat.le_of_ble_eq_true rfl)) dL_law_1449 ⟨(show _ ≤ 716141 by omega), (show _ ≤ 6947682 by omega)⟩) hS xA_old (fun q h => hA q (Nat.le_trans hS.1 h)) (fun r_3 u t H locs ht hvm hw hB hz hk hS => ?_)
  replace hw : r_3 = (o_X5_thrown ((o_X5_wideLike f1 p1 p2).2)) := hw
  subst r_3
  have hP := xP_keep hP hk
  refine lv_iload hx hb dL_law_1452 (lv_at hl 1 rfl) ?_
  refine lv_icmp_eq (tgt := 1459) hx hb dL_law_1454 (by decide +kernel) (fun c9 => ?_) (fun c9 => absurd (show o_X5_thrown _ = _ from (qx_wideLike).symm) c9)
  refine lv_iload hx hb dL_law_1459 (lv_at hl 1 rfl) ?_
  refine lv_if_ne (tgt := 1484) hx hb dL_law_1461 (by decide +kernel) (fun c_4 => ?_) (fun c_4 => ?_)
  · skip
    refine lv_goto (tgt := 3660) hx hb dL_law_1484 (by decide +kernel) ?_
    refine W.widen (k := cells + 760) (n := slots + 4500) (by omega) (by omega) ?_
    exact K a1 r1 f1 g1 a2 r2 f2 g2 kn ((o_L_wideLike f1 nv p1 p2).2) sv ((o_X5_wideLike f1 p1 p2).2) a1 f1 a2 f2 (r1 + r2) kn _ _ _ rfl rfl rfl rfl rfl rfl hka1 hka2 hP hD hS (lv_sub hl [2, 3, 4, 5, 6] rfl)
  · skip
    refine lv_aload_n hx hb dL_law_1464 rfl (lv_at hl 5 rfl) ?_
    refine va_getN (D := (dC, dI)) (ci := 5) (v := .long ((o_L_wideLike f1 nv p1 p2).2)) (C := RX3) (T := TX3) (N := 2) hx hb hts (by decide +kernel) hown hK hP 9 rfl rfl 0 (by decide +kernel) (va_Nw.use rfl (hG.1 (.fieldLinkNest RL 13 "EdgefloatsLaw$Out" "n" "J" RL) (List.mem_of_getElem? (i := 6) rfl))) (fun _ h9 => h9) rfl dL_law_1465 ?_
    refine lv_iload hx hb dL_law_1468 (lv_at hl 0 rfl) ?_
    refine xz_eq (tgt := 1477) hx hb dL_law_1470 (by decide +kernel) (fun c_5 => ?_) (fun c_5 => ?_)
    · skip
      refine lv_lconst (v := 0) hx hb dL_law_1477 (by decide +kernel) ?_
      refine xc_eq (tgt := 1484) hx hb dL_law_1478 dL_law_1479 (by decide +kernel) (fun c9 => ?_) (fun c9 => absurd (((qn_wideLike).trans (if_pos ((qx_wideLike).symm.trans c_4))).trans (if_neg c_5)) c9)
      refine lv_goto (tgt := 3660) hx hb dL_law_1484 (by decide +kernel) ?_
      refine W.widen (k := cells + 760) (n := slots + 4500) (by omega) (by omega) ?_
      exact K a1 r1 f1 g1 a2 r2 f2 g2 kn ((o_L_wideLike f1 nv p1 p2).2) sv ((o_X5_wideLike f1 p1 p2).2) a1 f1 a2 f2 (r1 + r2) kn _ _ _ rfl rfl rfl rfl rfl rfl hka1 hka2 hP hD hS (lv_sub hl [2, 3, 4, 5, 6] rfl)
    · skip
      refine lv_lconst (v := 1) hx hb dL_law_1473 (by decide +kernel) ?_
      refine lv_goto (tgt := 1478) hx hb dL_law_1474 (by decide +kernel) ?_
      refine xc_eq (tgt := 1484) hx hb dL_law_1478 dL_law_1479 (by decide +kernel) (fun c9 => ?_) (fun c9 => absurd (((qn_wideLike).trans (if_pos ((qx_wideLike).symm.trans c_4))).trans (if_pos c_5)) c9)
      refine lv_goto (tgt := 3660) hx hb dL_law_1484 (by decide +kernel) ?_
      refine W.widen (k := cells + 760) (n := slots + 4500) (by omega) (by omega) ?_
      exact K a1 r1 f1 g1 a2 r2 f2 g2 kn ((o_L_wideLike f1 nv p1 p2).2) sv ((o_X5_wideLike f1 p1 p2).2) a1 f1 a2 f2 (r1 + r2) kn _ _ _ rfl rfl rfl rfl rfl rfl hka1 hka2 hP hD hS (lv_sub hl [2, 3, 4, 5, 6] rfl)
set_option maxHeartbeats 4000000 in
set_option maxRecDepth 100000 in
theorem st_17 (l : Launch) (p : Program) (e : Env) (s : State) (m : MethodId) (below : List Frame) (meth : Method) (c : Code) (b L N : Nat) (xs : Nat → Int32) (A : Nat → Prop) (dC : Nat → ClassId) (dI : Nat → Nat → Nat) (cy cB : ClassId) (h0 h1 hw1 hc1 hb1 h2 hw2 hc2 hb2 ho m0 m1 mc1 m2 mc2 : Nat) (C0 : lw_C l p e s m below meth c b L N xs A dC dI cy cB) (i : Nat) (hi : i + 4 ≤ L) (p1 p2 p3 : Int32) (hp1 : xs (i + 1) = p1) (hp2 : xs (i + 2) = p2) (hp3 : xs (i + 3) = p3) (cells slots : Nat) (hcs : cells + 760 ≤ 716141) (hss : slots + 4500 ≤ 6947682) (K : lw_K l p e s m below meth c b L N xs A dC dI cy cB h0 h1 hw1 hc1 hb1 h2 hw2 hc2 hb2 ho m0 m1 mc1 m2 mc2 i (cells + 760) (slots + 4500) 3660) (a1 : Int32) (r1 : Int32) (f1 : Nat → Int64) (g1 : Nat → Int64) (a2 : Int32) (r2 : Int32) (f2 : Nat → Int64) (g2 : Nat → Int64) (kn : Int32) (nv : Int64) (sv : Value) (th : Int32) (H : Heap) (locs : List Loc) (ls : Array Slot) (hka1 : okA true f1) (hka2 : okA false f2) (hP : va_P (dC, dI) xCl [(h0, eE h1 h2 kn), (h1, eR hw1 hc1 hb1 a1 r1), (hw1, eW true), (hc1, eA cy f1), (hb1, eA cy g1), (h2, eR hw2 hc2 hb2 a2 r2), (hw2, eW false), (hc2, eA cy f2), (hb2, eA cy g2), (ho, eO nv sv), (m0, eM m1 m2 th (r1 + r2) kn), (m1, eMR true mc1 a1), (mc1, eA cy f1), (m2, eMR false mc2 a2), (mc2, eA cy f2)] H) (hD : va_D A [(h0, eE h1 h2 kn), (h1, eR hw1 hc1 hb1 a1 r1), (hw1, eW true), (hc1, eA cy f1), (hb1, eA cy g1), (h2, eR hw2 hc2 hb2 a2 r2), (hw2, eW false), (hc2, eA cy f2), (hb2, eA cy g2), (ho, eO nv sv), (m0, eM m1 m2 th (r1 + r2) kn), (m1, eMR true mc1 a1), (mc1, eA cy f1), (m2, eMR false mc2 a2), (mc2, eA cy f2)]) (hS : va_S A s.heap H locs) (hl : lv_has ls 7 [(0, .ref b), (1, .ref h0), (2, .ref m0), (3, .ref ho), (4, .int (nI i))]) : W p l e room_1 s m #[Value.ref b] below meth c H locs cells slots (lw_Z below #[Value.ref b] s) (F0 m 1487 ls []) := by
  obtain ⟨hfl, hx, hb, hr, hml, hown, hts, hX, hbl, hbA, hlocks, hK, hG, hnc, hA, hAN, hN, hL, hT, hNs⟩ := id C0
  have hok2 := me_okF hka2
  have hsp1 : ∀ k, k < 8 → o_X1_isSpoiled true (f1 k) = false := fun k hk => (hka1 k hk).2
  have hsp2 : ∀ k, k < 8 → o_X1_isSpoiled false (f2 k) = false := fun k hk => (hka2 k hk).2
  have qx_wideBelow : (o_L_wideBelow f1 nv p1 p2 false).1 = (o_X5_wideBelow f1 p1 p2 false).2 := by have hm := ml_wideBelow nv p1 p2 false hka1; rw [hm] <;> rfl
  have qn_wideBelow : (o_L_wideBelow f1 nv p1 p2 false).2 = if (o_X5_wideBelow f1 p1 p2 false).2 = 0 then (if (o_X5_wideBelow f1 p1 p2 false).1 = true then 1 else 0) else nv := by have hm := ml_wideBelow nv p1 p2 false hka1; rw [hm] <;> rfl
  have qx_wideBelow_1 : (o_L_wideBelow f1 nv p1 p2 true).1 = (o_X5_wideBelow f1 p1 p2 true).2 := by have hm := ml_wideBelow nv p1 p2 true hka1; rw [hm] <;> rfl
  have qn_wideBelow_1 : (o_L_wideBelow f1 nv p1 p2 true).2 = if (o_X5_wideBelow f1 p1 p2 true).2 = 0 then (if (o_X5_wideBelow f1 p1 p2 true).1 = true then 1 else 0) else nv := by have hm := ml_wideBelow nv p1 p2 true hka1; rw [hm] <;> rfl
  refine lv_aload_n hx hb dL_law_1487 rfl (lv_at hl 1 rfl) ?_
  refine lv_aload_n hx hb dL_law_1488 rfl (lv_at hl 0 rfl) ?_
  refine lv_iload hx hb dL_law_1489 (lv_at hl 4 rfl) ?_
  refine lv_iconst (v := 1) hx hb dL_law_1491 (by decide +kernel) ?_
  refine lv_iadd hx hb dL_law_1492 ?_
  rw [nI_1 i]
  refine xa_sld hx hb hX hbl hbA hS (k := i + 1) (by omega) hL hp1 dL_law_1493 ?_
  refine lv_aload_n hx hb dL_law_1494 rfl (lv_at hl 0 rfl) ?_
  refine lv_iload hx hb dL_law_1495 (lv_at hl 4 rfl) ?_
  refine lv_iconst (v := 2) hx hb dL_law_1497 (by decide +kernel) ?_
  refine lv_iadd hx hb dL_law_1498 ?_
  rw [nI_p2 i]
  refine xa_sld hx hb hX hbl hbA hS (k := i + 2) (by omega) hL hp2 dL_law_1499 ?_
  refine lv_aload_n hx hb dL_law_1500 rfl (lv_at hl 0 rfl) ?_
  refine lv_iload hx hb dL_law_1501 (lv_at hl 4 rfl) ?_
  refine lv_iconst (v := 3) hx hb dL_law_1503 (by decide +kernel) ?_
  refine lv_iadd hx hb dL_law_1504 ?_
  rw [nI_p3 i]
  refine xa_sld hx hb hX hbl hbA hS (k := i + 3) (by omega) hL hp3 dL_law_1505 ?_
  refine lv_if_eq (tgt := 1513) hx hb dL_law_1506 (by decide +kernel) (fun c_1 => ?_) (fun c_1 => ?_)
  · skip
    refine lv_iconst (v := 0) hx hb dL_law_1513 (by decide +kernel) ?_
    refine lv_aload_n hx hb dL_law_1514 rfl (lv_at hl 3 rfl) ?_
    have hPc := hP.sub (ws' := [(h0, eE h1 h2 kn), (h1, eR hw1 hc1 hb1 a1 r1), (hw1, eW true), (hc1, eA cy f1), (hb1, eA cy g1), (h2, eR hw2 hc2 hb2 a2 r2), (hw2, eW false), (hc2, eA cy f2), (hb2, eA cy g2), (ho, eO nv sv)]) [0, 1, 2, 3, 4, 5, 6, 7, 8, 9] rfl
    have hDc := hD.sub (ws' := [(h0, eE h1 h2 kn), (h1, eR hw1 hc1 hb1 a1 r1), (hw1, eW true), (hc1, eA cy f1), (hb1, eA cy g1), (h2, eR hw2 hc2 hb2 a2 r2), (hw2, eW false), (hc2, eA cy f2), (hb2, eA cy g2), (ho, eO nv sv)]) [0, 1, 2, 3, 4, 5, 6, 7, 8, 9] (by decide +kernel) rfl
    have hKc := hK.sub (tys' := [(cy, .long)]) [0] rfl
    have hFc := va_free (wc := [(h0, eE h1 h2 kn), (h1, eR hw1 hc1 hb1 a1 r1), (hw1, eW true), (hc1, eA cy f1), (hb1, eA cy g1), (h2, eR hw2 hc2 hb2 a2 r2), (hw2, eW false), (hc2, eA cy f2), (hb2, eA cy g2), (ho, eO nv sv)]) hD hS hA [0, 1, 2, 3, 4, 5, 6, 7, 8, 9] rfl
    refine va_calli (vx_runSW (As := [.ref h0, .int p1, .int p2, .int 0, .ref ho]) (rest := []) ⟨hx, hb, hml, hown, hts⟩ (k_L_wideBelow l hfl dC dI cy h0 h1 hw1 hc1 hb1 h2 hw2 hc2 hb2 a1 r1 f1 g1 a2 r2 f2 g2 kn ho nv sv H.size N p1 p2 false) (vx_cwSW 5 hts gL_law_L_wideBelow rfl rfl rfl (by decide +kernel) ⟨Nat.le_of_ble_eq_true rfl, Nat.le_of_ble_eq_true rfl⟩) (xL.preS hKc hPc hDc hAN (Nat.le_trans hN hS.1) (hG.kept hS hAN) hnc) rfl rfl hl.1 rfl (lv_room (Nat.le_of_ble_eq_true rfl)) dL_law_1515 ⟨(show _ ≤ 716141 by omega), (show _ ≤ 6947682 by omega)⟩) hS (fun q _ h => hFc q h) hFc (fun r_2 u t H locs ht hvm hw hB hz hk hS => ?_)
    replace hw : r_2 = (o_L_wideBelow f1 nv p1 p2 false).1 := hw
    subst r_2
    obtain ⟨hP1, hD1⟩ := hB
    rw [ht] at hP1
    obtain ⟨hP, hD⟩ := va_join (wr := [(m0, eM m1 m2 th (r1 + r2) kn), (m1, eMR true mc1 a1), (mc1, eA cy f1), (m2, eMR false mc2 a2), (mc2, eA cy f2)]) (w1 := [(h0, eE h1 h2 kn), (h1, eR hw1 hc1 hb1 a1 r1), (hw1, eW true), (hc1, eA cy f1), (hb1, eA cy g1), (h2, eR hw2 hc2 hb2 a2 r2), (hw2, eW false), (hc2, eA cy f2), (hb2, eA cy g2), (ho, eO (o_L_wideBelow f1 nv p1 p2 false).2 sv)]) hP hD [0, 1, 2, 3, 4, 5, 6, 7, 8, 9] [10, 11, 12, 13, 14] rfl rfl (by decide +kernel) (by decide +kernel) hk hFc hP1 hD1
    have hP := hP.sub (ws' := [(h0, eE h1 h2 kn), (h1, eR hw1 hc1 hb1 a1 r1), (hw1, eW true), (hc1, eA cy f1), (hb1, eA cy g1), (h2, eR hw2 hc2 hb2 a2 r2), (hw2, eW false), (hc2, eA cy f2), (hb2, eA cy g2), (ho, eO (o_L_wideBelow f1 nv p1 p2 false).2 sv), (m0, eM m1 m2 th (r1 + r2) kn), (m1, eMR true mc1 a1), (mc1, eA cy f1), (m2, eMR false mc2 a2), (mc2, eA cy f2)]) [5, 6, 7, 8, 9, 10, 11, 12, 13, 14, 0, 1, 2, 3, 4] rfl
    have hD := hD.sub (ws' := [(h0, eE h1 h2 kn), (h1, eR hw1 hc1 hb1 a1 r1), (hw1, eW true), (hc1, eA cy f1), (hb1, eA cy g1), (h2, eR hw2 hc2 hb2 a2 r2), (hw2, eW false), (hc2, eA cy f2), (hb2, eA cy g2), (ho, eO (o_L_wideBelow f1 nv p1 p2 false).2 sv), (m0, eM m1 m2 th (r1 + r2) kn), (m1, eMR true mc1 a1), (mc1, eA cy f1), (m2, eMR false mc2 a2), (mc2, eA cy f2)]) [5, 6, 7, 8, 9, 10, 11, 12, 13, 14, 0, 1, 2, 3, 4] (by decide +kernel) rfl
    refine lv_istore (lv' := [(5, .int ((o_L_wideBelow f1 nv p1 p2 false).1)), (0, .ref b), (1, .ref h0), (2, .ref m0), (3, .ref ho), (4, .int (nI i))]) hx hb dL_law_1518 hl (by decide +kernel) rfl (fun ls hl => ?_)
    refine lv_aload_n hx hb dL_law_1520 rfl (lv_at hl 3 rfl) ?_
    refine lv_aload_n hx hb dL_law_1521 rfl (lv_at hl 1 rfl) ?_
    refine lv_iload hx hb dL_law_1522 (lv_at hl 5 rfl) ?_
    refine lv_iconst (v := 1) hx hb dL_law_1524 (by decide +kernel) ?_
    refine lv_iadd hx hb dL_law_1525 ?_
    rw [nI_1 i]
    refine xa_sld hx hb hX hbl hbA hS (k := i + 1) (by omega) hL hp1 dL_law_1526 ?_
    refine lv_aload_n hx hb dL_law_1527 rfl (lv_at hl 1 rfl) ?_
    refine lv_iload hx hb dL_law_1528 (lv_at hl 5 rfl) ?_
    refine lv_iconst (v := 2) hx hb dL_law_1530 (by decide +kernel) ?_
    refine lv_iadd hx hb dL_law_1531 ?_
    rw [nI_p2 i]
    refine xa_sld hx hb hX hbl hbA hS (k := i + 2) (by omega) hL hp2 dL_law_1532 ?_
    refine lv_aload_n hx hb dL_law_1533 rfl (lv_at hl 1 rfl) ?_
    refine lv_iload hx hb dL_law_1534 (lv_at hl 5 rfl) ?_
    refine lv_iconst (v := 3) hx hb dL_law_1536 (by decide +kernel) ?_
    refine lv_iadd hx hb dL_law_1537 ?_
    rw [nI_p3 i]
    refine xa_sld hx hb hX hbl hbA hS (k := i + 3) (by omega) hL hp3 dL_law_1538 ?_
    refine lv_if_eq (tgt := 1546) hx hb dL_law_1539 (by decide +kernel) (fun c9 => ?_) (fun c9 => absurd c_1 c9)
    refine lv_iconst (v := 0) hx hb dL_law_1546 (by decide +kernel) ?_
    have hPc := hP.sub (ws' := [(m0, eM m1 m2 th (r1 + r2) kn), (m1, eMR true mc1 a1), (mc1, eA cy f1), (m2, eMR false mc2 a2), (mc2, eA cy f2)]) [10, 11, 12, 13, 14] rfl
    have hDc := hD.sub (ws' := [(m0, eM m1 m2 th (r1 + r2) kn), (m1, eMR true mc1 a1), (mc1, eA cy f1), (m2, eMR false mc2 a2), (mc2, eA cy f2)]) [10, 11, 12, 13, 14] (by decide +kernel) rfl
    have hKc := hK.sub (tys' := [(cy, .long)]) [0] rfl
    have hFc := va_free (wc := [(m0, eM m1 m2 th (r1 + r2) kn), (m1, eMR true mc1 a1), (mc1, eA cy f1), (m2, eMR false mc2 a2), (mc2, eA cy f2)]) hD hS hA [10, 11, 12, 13, 14] rfl
    refine va_calli (va_runV (As := [.int p1, .int p2, .int 0]) (rest := []) ⟨hx, hb, hml, hown, hts⟩ (k_X5_wideBelow l dC dI cy m0 m1 mc1 m2 mc2 a1 f1 a2 f2 th (r1 + r2) kn H.size N p1 p2 false) (cwV 3 hts gL_law_X5_wideBelow rfl rfl rfl (by decide +kernel) ⟨Nat.le_of_ble_eq_true rfl, Nat.le_of_ble_eq_true rfl⟩) (xM.preV hKc hPc hDc hAN (Nat.le_trans hN hS.1) (hG.kept hS hAN) (ci := 7) (q0 := 0) rfl rfl) rfl rfl hl.1 rfl (lv_room (Nat.le_of_ble_eq_true rfl)) dL_law_1547 ⟨(show _ ≤ 716141 by omega), (show _ ≤ 6947682 by omega)⟩) hS (fun q _ h => hFc q h) hFc (fun r_3 u t H locs ht hvm hw hB hz hk hS => ?_)
    replace hw : r_3 = b2i ((o_X5_wideBelow f1 p1 p2 false).1) := hw
    subst r_3
    obtain ⟨hP1, hD1⟩ := hB
    rw [ht] at hP1
    obtain ⟨hP, hD⟩ := va_join (wr := [(h0, eE h1 h2 kn), (h1, eR hw1 hc1 hb1 a1 r1), (hw1, eW true), (hc1, eA cy f1), (hb1, eA cy g1), (h2, eR hw2 hc2 hb2 a2 r2), (hw2, eW false), (hc2, eA cy f2), (hb2, eA cy g2), (ho, eO (o_L_wideBelow f1 nv p1 p2 false).2 sv)]) (w1 := [(m0, eM m1 m2 (o_X5_wideBelow f1 p1 p2 false).2 (r1 + r2) kn), (m1, eMR true mc1 a1), (mc1, eA cy f1), (m2, eMR false mc2 a2), (mc2, eA cy f2)]) hP hD [10, 11, 12, 13, 14] [0, 1, 2, 3, 4, 5, 6, 7, 8, 9] rfl rfl (by decide +kernel) (by decide +kernel) hk hFc hP1 hD1
    have hP := hP.sub (ws' := [(h0, eE h1 h2 kn), (h1, eR hw1 hc1 hb1 a1 r1), (hw1, eW true), (hc1, eA cy f1), (hb1, eA cy g1), (h2, eR hw2 hc2 hb2 a2 r2), (hw2, eW false), (hc2, eA cy f2), (hb2, eA cy g2), (ho, eO (o_L_wideBelow f1 nv p1 p2 false).2 sv), (m0, eM m1 m2 (o_X5_wideBelow f1 p1 p2 false).2 (r1 + r2) kn), (m1, eMR true mc1 a1), (mc1, eA cy f1), (m2, eMR false mc2 a2), (mc2, eA cy f2)]) [0, 1, 2, 3, 4, 5, 6, 7, 8, 9, 10, 11, 12, 13, 14] rfl
    have hD := hD.sub (ws' := [(h0, eE h1 h2 kn), (h1, eR hw1 hc1 hb1 a1 r1), (hw1, eW true), (hc1, eA cy f1), (hb1, eA cy g1), (h2, eR hw2 hc2 hb2 a2 r2), (hw2, eW false), (hc2, eA cy f2), (hb2, eA cy g2), (ho, eO (o_L_wideBelow f1 nv p1 p2 false).2 sv), (m0, eM m1 m2 (o_X5_wideBelow f1 p1 p2 false).2 (r1 + r2) kn), (m1, eMR true mc1 a1), (mc1, eA cy f1), (m2, eMR false mc2 a2), (mc2, eA cy f2)]) [0, 1, 2, 3, 4, 5, 6, 7, 8, 9, 10, 11, 12, 13, 14] (by decide +kernel) rfl
    refine lv_istore (lv' := [(6, .int (b2i ((o_X5_wideBelow f1 p1 p2 false).1))), (5, .int ((o_L_wideBelow f1 nv p1 p2 false).1)), (0, .ref b), (1, .ref h0), (2, .ref m0), (3, .ref ho), (4, .int (nI i))]) hx hb dL_law_1550 hl (by decide +kernel) rfl (fun ls hl => ?_)
    refine lv_aload_n hx hb dL_law_1552 rfl (lv_at hl 4 rfl) ?_
    have hPc := hP.sub (ws' := [(m0, eM m1 m2 (o_X5_wideBelow f1 p1 p2 false).2 (r1 + r2) kn)]) [10] rfl
    have hKc := hK.sub (tys' := []) [] rfl
    refine va_calli (va_runV (As := []) (rest := []) ⟨hx, hb, hml, hown, hts⟩ (k_X5_thrown l dC dI m0 m1 m2 ((o_X5_wideBelow f1 p1 p2 false).2) (r1 + r2) kn H.size) (cwV 0 hts gL_law_X5_thrown rfl rfl rfl (by decide +kernel) ⟨Nat.le_of_ble_eq_true rfl, Nat.le_of_ble_eq_true rfl⟩) (xB.preV hKc hPc (ci := 7) (q0 := 0) rfl rfl) rfl rfl hl.1 rfl (lv_room (Nat.le_of_ble_eq_true rfl)) dL_law_1553 ⟨(show _ ≤ 716141 by omega), (show _ ≤ 6947682 by omega)⟩) hS xA_old (fun q h => hA q (Nat.le_trans hS.1 h)) (fun r_4 u t H locs ht hvm hw hB hz hk hS => ?_)
    replace hw : r_4 = (o_X5_thrown ((o_X5_wideBelow f1 p1 p2 false).2)) := hw
    subst r_4
    have hP := xP_keep hP hk
    refine lv_iload hx hb dL_law_1556 (lv_at hl 1 rfl) ?_
    refine lv_icmp_eq (tgt := 1563) hx hb dL_law_1558 (by decide +kernel) (fun c9 => ?_) (fun c9 => absurd (show o_X5_thrown _ = _ from (qx_wideBelow).symm) c9)
    refine lv_iload hx hb dL_law_1563 (lv_at hl 1 rfl) ?_
    refine lv_if_ne (tgt := 1588) hx hb dL_law_1565 (by decide +kernel) (fun c_5 => ?_) (fun c_5 => ?_)
    · skip
      refine lv_goto (tgt := 3660) hx hb dL_law_1588 (by decide +kernel) ?_
      refine W.widen (k := cells + 760) (n := slots + 4500) (by omega) (by omega) ?_
      exact K a1 r1 f1 g1 a2 r2 f2 g2 kn ((o_L_wideBelow f1 nv p1 p2 false).2) sv ((o_X5_wideBelow f1 p1 p2 false).2) a1 f1 a2 f2 (r1 + r2) kn _ _ _ rfl rfl rfl rfl rfl rfl hka1 hka2 hP hD hS (lv_sub hl [2, 3, 4, 5, 6] rfl)
    · skip
      refine lv_aload_n hx hb dL_law_1568 rfl (lv_at hl 5 rfl) ?_
      refine va_getN (D := (dC, dI)) (ci := 5) (v := .long ((o_L_wideBelow f1 nv p1 p2 false).2)) (C := RX3) (T := TX3) (N := 2) hx hb hts (by decide +kernel) hown hK hP 9 rfl rfl 0 (by decide +kernel) (va_Nw.use rfl (hG.1 (.fieldLinkNest RL 13 "EdgefloatsLaw$Out" "n" "J" RL) (List.mem_of_getElem? (i := 6) rfl))) (fun _ h9 => h9) rfl dL_law_1569 ?_
      refine lv_iload hx hb dL_law_1572 (lv_at hl 0 rfl) ?_
      refine xz_eq (tgt := 1581) hx hb dL_law_1574 (by decide +kernel) (fun c_6 => ?_) (fun c_6 => ?_)
      · skip
        refine lv_lconst (v := 0) hx hb dL_law_1581 (by decide +kernel) ?_
        refine xc_eq (tgt := 1588) hx hb dL_law_1582 dL_law_1583 (by decide +kernel) (fun c9 => ?_) (fun c9 => absurd (((qn_wideBelow).trans (if_pos ((qx_wideBelow).symm.trans c_5))).trans (if_neg c_6)) c9)
        refine lv_goto (tgt := 3660) hx hb dL_law_1588 (by decide +kernel) ?_
        refine W.widen (k := cells + 760) (n := slots + 4500) (by omega) (by omega) ?_
        exact K a1 r1 f1 g1 a2 r2 f2 g2 kn ((o_L_wideBelow f1 nv p1 p2 false).2) sv ((o_X5_wideBelow f1 p1 p2 false).2) a1 f1 a2 f2 (r1 + r2) kn _ _ _ rfl rfl rfl rfl rfl rfl hka1 hka2 hP hD hS (lv_sub hl [2, 3, 4, 5, 6] rfl)
      · skip
        refine lv_lconst (v := 1) hx hb dL_law_1577 (by decide +kernel) ?_
        refine lv_goto (tgt := 1582) hx hb dL_law_1578 (by decide +kernel) ?_
        refine xc_eq (tgt := 1588) hx hb dL_law_1582 dL_law_1583 (by decide +kernel) (fun c9 => ?_) (fun c9 => absurd (((qn_wideBelow).trans (if_pos ((qx_wideBelow).symm.trans c_5))).trans (if_pos c_6)) c9)
        refine lv_goto (tgt := 3660) hx hb dL_law_1588 (by decide +kernel) ?_
        refine W.widen (k := cells + 760) (n := slots + 4500) (by omega) (by omega) ?_
        exact K a1 r1 f1 g1 a2 r2 f2 g2 kn ((o_L_wideBelow f1 nv p1 p2 false).2) sv ((o_X5_wideBelow f1 p1 p2 false).2) a1 f1 a2 f2 (r1 + r2) kn _ _ _ rfl rfl rfl rfl rfl rfl hka1 hka2 hP hD hS (lv_sub hl [2, 3, 4, 5, 6] rfl)
  · skip
    refine lv_iconst (v := 1) hx hb dL_law_1509 (by decide +kernel) ?_
    refine lv_goto (tgt := 1514) hx hb dL_law_1510 (by decide +kernel) ?_
    refine lv_aload_n hx hb dL_law_1514 rfl (lv_at hl 3 rfl) ?_
    have hPc := hP.sub (ws' := [(h0, eE h1 h2 kn), (h1, eR hw1 hc1 hb1 a1 r1), (hw1, eW true), (hc1, eA cy f1), (hb1, eA cy g1), (h2, eR hw2 hc2 hb2 a2 r2), (hw2, eW false), (hc2, eA cy f2), (hb2, eA cy g2), (ho, eO nv sv)]) [0, 1, 2, 3, 4, 5, 6, 7, 8, 9] rfl
    have hDc := hD.sub (ws' := [(h0, eE h1 h2 kn), (h1, eR hw1 hc1 hb1 a1 r1), (hw1, eW true), (hc1, eA cy f1), (hb1, eA cy g1), (h2, eR hw2 hc2 hb2 a2 r2), (hw2, eW false), (hc2, eA cy f2), (hb2, eA cy g2), (ho, eO nv sv)]) [0, 1, 2, 3, 4, 5, 6, 7, 8, 9] (by decide +kernel) rfl
    have hKc := hK.sub (tys' := [(cy, .long)]) [0] rfl
    have hFc := va_free (wc := [(h0, eE h1 h2 kn), (h1, eR hw1 hc1 hb1 a1 r1), (hw1, eW true), (hc1, eA cy f1), (hb1, eA cy g1), (h2, eR hw2 hc2 hb2 a2 r2), (hw2, eW false), (hc2, eA cy f2), (hb2, eA cy g2), (ho, eO nv sv)]) hD hS hA [0, 1, 2, 3, 4, 5, 6, 7, 8, 9] rfl
    refine va_calli (vx_runSW (As := [.ref h0, .int p1, .int p2, .int 1, .ref ho]) (rest := []) ⟨hx, hb, hml, hown, hts⟩ (k_L_wideBelow l hfl dC dI cy h0 h1 hw1 hc1 hb1 h2 hw2 hc2 hb2 a1 r1 f1 g1 a2 r2 f2 g2 kn ho nv sv H.size N p1 p2 true) (vx_cwSW 5 hts gL_law_L_wideBelow rfl rfl rfl (by decide +kernel) ⟨Nat.le_of_ble_eq_true rfl, Nat.le_of_ble_eq_true rfl⟩) (xL.preS hKc hPc hDc hAN (Nat.le_trans hN hS.1) (hG.kept hS hAN) hnc) rfl rfl hl.1 rfl (lv_room (Nat.le_of_ble_eq_true rfl)) dL_law_1515 ⟨(show _ ≤ 716141 by omega), (show _ ≤ 6947682 by omega)⟩) hS (fun q _ h => hFc q h) hFc (fun r_7 u t H locs ht hvm hw hB hz hk hS => ?_)
    replace hw : r_7 = (o_L_wideBelow f1 nv p1 p2 true).1 := hw
    subst r_7
    obtain ⟨hP1, hD1⟩ := hB
    rw [ht] at hP1
    obtain ⟨hP, hD⟩ := va_join (wr := [(m0, eM m1 m2 th (r1 + r2) kn), (m1, eMR true mc1 a1), (mc1, eA cy f1), (m2, eMR false mc2 a2), (mc2, eA cy f2)]) (w1 := [(h0, eE h1 h2 kn), (h1, eR hw1 hc1 hb1 a1 r1), (hw1, eW true), (hc1, eA cy f1), (hb1, eA cy g1), (h2, eR hw2 hc2 hb2 a2 r2), (hw2, eW false), (hc2, eA cy f2), (hb2, eA cy g2), (ho, eO (o_L_wideBelow f1 nv p1 p2 true).2 sv)]) hP hD [0, 1, 2, 3, 4, 5, 6, 7, 8, 9] [10, 11, 12, 13, 14] rfl rfl (by decide +kernel) (by decide +kernel) hk hFc hP1 hD1
    have hP := hP.sub (ws' := [(h0, eE h1 h2 kn), (h1, eR hw1 hc1 hb1 a1 r1), (hw1, eW true), (hc1, eA cy f1), (hb1, eA cy g1), (h2, eR hw2 hc2 hb2 a2 r2), (hw2, eW false), (hc2, eA cy f2), (hb2, eA cy g2), (ho, eO (o_L_wideBelow f1 nv p1 p2 true).2 sv), (m0, eM m1 m2 th (r1 + r2) kn), (m1, eMR true mc1 a1), (mc1, eA cy f1), (m2, eMR false mc2 a2), (mc2, eA cy f2)]) [5, 6, 7, 8, 9, 10, 11, 12, 13, 14, 0, 1, 2, 3, 4] rfl
    have hD := hD.sub (ws' := [(h0, eE h1 h2 kn), (h1, eR hw1 hc1 hb1 a1 r1), (hw1, eW true), (hc1, eA cy f1), (hb1, eA cy g1), (h2, eR hw2 hc2 hb2 a2 r2), (hw2, eW false), (hc2, eA cy f2), (hb2, eA cy g2), (ho, eO (o_L_wideBelow f1 nv p1 p2 true).2 sv), (m0, eM m1 m2 th (r1 + r2) kn), (m1, eMR true mc1 a1), (mc1, eA cy f1), (m2, eMR false mc2 a2), (mc2, eA cy f2)]) [5, 6, 7, 8, 9, 10, 11, 12, 13, 14, 0, 1, 2, 3, 4] (by decide +kernel) rfl
    refine lv_istore (lv' := [(5, .int ((o_L_wideBelow f1 nv p1 p2 true).1)), (0, .ref b), (1, .ref h0), (2, .ref m0), (3, .ref ho), (4, .int (nI i))]) hx hb dL_law_1518 hl (by decide +kernel) rfl (fun ls hl => ?_)
    refine lv_aload_n hx hb dL_law_1520 rfl (lv_at hl 3 rfl) ?_
    refine lv_aload_n hx hb dL_law_1521 rfl (lv_at hl 1 rfl) ?_
    refine lv_iload hx hb dL_law_1522 (lv_at hl 5 rfl) ?_
    refine lv_iconst (v := 1) hx hb dL_law_1524 (by decide +kernel) ?_
    refine lv_iadd hx hb dL_law_1525 ?_
    rw [nI_1 i]
    refine xa_sld hx hb hX hbl hbA hS (k := i + 1) (by omega) hL hp1 dL_law_1526 ?_
    refine lv_aload_n hx hb dL_law_1527 rfl (lv_at hl 1 rfl) ?_
    refine lv_iload hx hb dL_law_1528 (lv_at hl 5 rfl) ?_
    refine lv_iconst (v := 2) hx hb dL_law_1530 (by decide +kernel) ?_
    refine lv_iadd hx hb dL_law_1531 ?_
    rw [nI_p2 i]
    refine xa_sld hx hb hX hbl hbA hS (k := i + 2) (by omega) hL hp2 dL_law_1532 ?_
    refine lv_aload_n hx hb dL_law_1533 rfl (lv_at hl 1 rfl) ?_
    refine lv_iload hx hb dL_law_1534 (lv_at hl 5 rfl) ?_
    refine lv_iconst (v := 3) hx hb dL_law_1536 (by decide +kernel) ?_
    refine lv_iadd hx hb dL_law_1537 ?_
    rw [nI_p3 i]
    refine xa_sld hx hb hX hbl hbA hS (k := i + 3) (by omega) hL hp3 dL_law_1538 ?_
    refine lv_if_eq (tgt := 1546) hx hb dL_law_1539 (by decide +kernel) (fun c9 => absurd c9 c_1) (fun c9 => ?_)
    refine lv_iconst (v := 1) hx hb dL_law_1542 (by decide +kernel) ?_
    refine lv_goto (tgt := 1547) hx hb dL_law_1543 (by decide +kernel) ?_
    have hPc := hP.sub (ws' := [(m0, eM m1 m2 th (r1 + r2) kn), (m1, eMR true mc1 a1), (mc1, eA cy f1), (m2, eMR false mc2 a2), (mc2, eA cy f2)]) [10, 11, 12, 13, 14] rfl
    have hDc := hD.sub (ws' := [(m0, eM m1 m2 th (r1 + r2) kn), (m1, eMR true mc1 a1), (mc1, eA cy f1), (m2, eMR false mc2 a2), (mc2, eA cy f2)]) [10, 11, 12, 13, 14] (by decide +kernel) rfl
    have hKc := hK.sub (tys' := [(cy, .long)]) [0] rfl
    have hFc := va_free (wc := [(m0, eM m1 m2 th (r1 + r2) kn), (m1, eMR true mc1 a1), (mc1, eA cy f1), (m2, eMR false mc2 a2), (mc2, eA cy f2)]) hD hS hA [10, 11, 12, 13, 14] rfl
    refine va_calli (va_runV (As := [.int p1, .int p2, .int 1]) (rest := []) ⟨hx, hb, hml, hown, hts⟩ (k_X5_wideBelow l dC dI cy m0 m1 mc1 m2 mc2 a1 f1 a2 f2 th (r1 + r2) kn H.size N p1 p2 true) (cwV 3 hts gL_law_X5_wideBelow rfl rfl rfl (by decide +kernel) ⟨Nat.le_of_ble_eq_true rfl, Nat.le_of_ble_eq_true rfl⟩) (xM.preV hKc hPc hDc hAN (Nat.le_trans hN hS.1) (hG.kept hS hAN) (ci := 7) (q0 := 0) rfl rfl) rfl rfl hl.1 rfl (lv_room (Nat.le_of_ble_eq_true rfl)) dL_law_1547 ⟨(show _ ≤ 716141 by omega), (show _ ≤ 6947682 by omega)⟩) hS (fun q _ h => hFc q h) hFc (fun r_8 u t H locs ht hvm hw hB hz hk hS => ?_)
    replace hw : r_8 = b2i ((o_X5_wideBelow f1 p1 p2 true).1) := hw
    subst r_8
    obtain ⟨hP1, hD1⟩ := hB
    rw [ht] at hP1
    obtain ⟨hP, hD⟩ := va_join (wr := [(h0, eE h1 h2 kn), (h1, eR hw1 hc1 hb1 a1 r1), (hw1, eW true), (hc1, eA cy f1), (hb1, eA cy g1), (h2, eR hw2 hc2 hb2 a2 r2), (hw2, eW false), (hc2, eA cy f2), (hb2, eA cy g2), (ho, eO (o_L_wideBelow f1 nv p1 p2 true).2 sv)]) (w1 := [(m0, eM m1 m2 (o_X5_wideBelow f1 p1 p2 true).2 (r1 + r2) kn), (m1, eMR true mc1 a1), (mc1, eA cy f1), (m2, eMR false mc2 a2), (mc2, eA cy f2)]) hP hD [10, 11, 12, 13, 14] [0, 1, 2, 3, 4, 5, 6, 7, 8, 9] rfl rfl (by decide +kernel) (by decide +kernel) hk hFc hP1 hD1
    have hP := hP.sub (ws' := [(h0, eE h1 h2 kn), (h1, eR hw1 hc1 hb1 a1 r1), (hw1, eW true), (hc1, eA cy f1), (hb1, eA cy g1), (h2, eR hw2 hc2 hb2 a2 r2), (hw2, eW false), (hc2, eA cy f2), (hb2, eA cy g2), (ho, eO (o_L_wideBelow f1 nv p1 p2 true).2 sv), (m0, eM m1 m2 (o_X5_wideBelow f1 p1 p2 true).2 (r1 + r2) kn), (m1, eMR true mc1 a1), (mc1, eA cy f1), (m2, eMR false mc2 a2), (mc2, eA cy f2)]) [0, 1, 2, 3, 4, 5, 6, 7, 8, 9, 10, 11, 12, 13, 14] rfl
    have hD := hD.sub (ws' := [(h0, eE h1 h2 kn), (h1, eR hw1 hc1 hb1 a1 r1), (hw1, eW true), (hc1, eA cy f1), (hb1, eA cy g1), (h2, eR hw2 hc2 hb2 a2 r2), (hw2, eW false), (hc2, eA cy f2), (hb2, eA cy g2), (ho, eO (o_L_wideBelow f1 nv p1 p2 true).2 sv), (m0, eM m1 m2 (o_X5_wideBelow f1 p1 p2 true).2 (r1 + r2) kn), (m1, eMR true mc1 a1), (mc1, eA cy f1), (m2, eMR false mc2 a2), (mc2, eA cy f2)]) [0, 1, 2, 3, 4, 5, 6, 7, 8, 9, 10, 11, 12, 13, 14] (by decide +kernel) rfl
    refine lv_istore (lv' := [(6, .int (b2i ((o_X5_wideBelow f1 p1 p2 true).1))), (5, .int ((o_L_wideBelow f1 nv p1 p2 true).1)), (0, .ref b), (1, .ref h0), (2, .ref m0), (3, .ref ho), (4, .int (nI i))]) hx hb dL_law_1550 hl (by decide +kernel) rfl (fun ls hl => ?_)
    refine lv_aload_n hx hb dL_law_1552 rfl (lv_at hl 4 rfl) ?_
    have hPc := hP.sub (ws' := [(m0, eM m1 m2 (o_X5_wideBelow f1 p1 p2 true).2 (r1 + r2) kn)]) [10] rfl
    have hKc := hK.sub (tys' := []) [] rfl
    refine va_calli (va_runV (As := []) (rest := []) ⟨hx, hb, hml, hown, hts⟩ (k_X5_thrown l dC dI m0 m1 m2 ((o_X5_wideBelow f1 p1 p2 true).2) (r1 + r2) kn H.size) (cwV 0 hts gL_law_X5_thrown rfl rfl rfl (by decide +kernel) ⟨Nat.le_of_ble_eq_true rfl, Nat.le_of_ble_eq_true rfl⟩) (xB.preV hKc hPc (ci := 7) (q0 := 0) rfl rfl) rfl rfl hl.1 rfl (lv_room (Nat.le_of_ble_eq_true rfl)) dL_law_1553 ⟨(show _ ≤ 716141 by omega), (show _ ≤ 6947682 by omega)⟩) hS xA_old (fun q h => hA q (Nat.le_trans hS.1 h)) (fun r_9 u t H locs ht hvm hw hB hz hk hS => ?_)
    replace hw : r_9 = (o_X5_thrown ((o_X5_wideBelow f1 p1 p2 true).2)) := hw
    subst r_9
    have hP := xP_keep hP hk
    refine lv_iload hx hb dL_law_1556 (lv_at hl 1 rfl) ?_
    refine lv_icmp_eq (tgt := 1563) hx hb dL_law_1558 (by decide +kernel) (fun c9 => ?_) (fun c9 => absurd (show o_X5_thrown _ = _ from (qx_wideBelow_1).symm) c9)
    refine lv_iload hx hb dL_law_1563 (lv_at hl 1 rfl) ?_
    refine lv_if_ne (tgt := 1588) hx hb dL_law_1565 (by decide +kernel) (fun c_10 => ?_) (fun c_10 => ?_)
    · skip
      refine lv_goto (tgt := 3660) hx hb dL_law_1588 (by decide +kernel) ?_
      refine W.widen (k := cells + 760) (n := slots + 4500) (by omega) (by omega) ?_
      exact K a1 r1 f1 g1 a2 r2 f2 g2 kn ((o_L_wideBelow f1 nv p1 p2 true).2) sv ((o_X5_wideBelow f1 p1 p2 true).2) a1 f1 a2 f2 (r1 + r2) kn _ _ _ rfl rfl rfl rfl rfl rfl hka1 hka2 hP hD hS (lv_sub hl [2, 3, 4, 5, 6] rfl)
    · skip
      refine lv_aload_n hx hb dL_law_1568 rfl (lv_at hl 5 rfl) ?_
      refine va_getN (D := (dC, dI)) (ci := 5) (v := .long ((o_L_wideBelow f1 nv p1 p2 true).2)) (C := RX3) (T := TX3) (N := 2) hx hb hts (by decide +kernel) hown hK hP 9 rfl rfl 0 (by decide +kernel) (va_Nw.use rfl (hG.1 (.fieldLinkNest RL 13 "EdgefloatsLaw$Out" "n" "J" RL) (List.mem_of_getElem? (i := 6) rfl))) (fun _ h9 => h9) rfl dL_law_1569 ?_
      refine lv_iload hx hb dL_law_1572 (lv_at hl 0 rfl) ?_
      refine xz_eq (tgt := 1581) hx hb dL_law_1574 (by decide +kernel) (fun c_11 => ?_) (fun c_11 => ?_)
      · skip
        refine lv_lconst (v := 0) hx hb dL_law_1581 (by decide +kernel) ?_
        refine xc_eq (tgt := 1588) hx hb dL_law_1582 dL_law_1583 (by decide +kernel) (fun c9 => ?_) (fun c9 => absurd (((qn_wideBelow_1).trans (if_pos ((qx_wideBelow_1).symm.trans c_10))).trans (if_neg c_11)) c9)
        refine lv_goto (tgt := 3660) hx hb dL_law_1588 (by decide +kernel) ?_
        refine W.widen (k := cells + 760) (n := slots + 4500) (by omega) (by omega) ?_
        exact K a1 r1 f1 g1 a2 r2 f2 g2 kn ((o_L_wideBelow f1 nv p1 p2 true).2) sv ((o_X5_wideBelow f1 p1 p2 true).2) a1 f1 a2 f2 (r1 + r2) kn _ _ _ rfl rfl rfl rfl rfl rfl hka1 hka2 hP hD hS (lv_sub hl [2, 3, 4, 5, 6] rfl)
      · skip
        refine lv_lconst (v := 1) hx hb dL_law_1577 (by decide +kernel) ?_
        refine lv_goto (tgt := 1582) hx hb dL_law_1578 (by decide +kernel) ?_
        refine xc_eq (tgt := 1588) hx hb dL_law_1582 dL_law_1583 (by decide +kernel) (fun c9 => ?_) (fun c9 => absurd (((qn_wideBelow_1).trans (if_pos ((qx_wideBelow_1).symm.trans c_10))).trans (if_pos c_11)) c9)
        refine lv_goto (tgt := 3660) hx hb dL_law_1588 (by decide +kernel) ?_
        refine W.widen (k := cells + 760) (n := slots + 4500) (by omega) (by omega) ?_
        exact K a1 r1 f1 g1 a2 r2 f2 g2 kn ((o_L_wideBelow f1 nv p1 p2 true).2) sv ((o_X5_wideBelow f1 p1 p2 true).2) a1 f1 a2 f2 (r1 + r2) kn _ _ _ rfl rfl rfl rfl rfl rfl hka1 hka2 hP hD hS (lv_sub hl [2, 3, 4, 5, 6] rfl)
set_option maxHeartbeats 4000000 in
set_option maxRecDepth 100000 in
theorem st_18 (l : Launch) (p : Program) (e : Env) (s : State) (m : MethodId) (below : List Frame) (meth : Method) (c : Code) (b L N : Nat) (xs : Nat → Int32) (A : Nat → Prop) (dC : Nat → ClassId) (dI : Nat → Nat → Nat) (cy cB : ClassId) (h0 h1 hw1 hc1 hb1 h2 hw2 hc2 hb2 ho m0 m1 mc1 m2 mc2 : Nat) (C0 : lw_C l p e s m below meth c b L N xs A dC dI cy cB) (i : Nat) (hi : i + 4 ≤ L) (p1 p2 p3 : Int32) (hp1 : xs (i + 1) = p1) (hp2 : xs (i + 2) = p2) (hp3 : xs (i + 3) = p3) (cells slots : Nat) (hcs : cells + 760 ≤ 716141) (hss : slots + 4500 ≤ 6947682) (K : lw_K l p e s m below meth c b L N xs A dC dI cy cB h0 h1 hw1 hc1 hb1 h2 hw2 hc2 hb2 ho m0 m1 mc1 m2 mc2 i (cells + 760) (slots + 4500) 3660) (a1 : Int32) (r1 : Int32) (f1 : Nat → Int64) (g1 : Nat → Int64) (a2 : Int32) (r2 : Int32) (f2 : Nat → Int64) (g2 : Nat → Int64) (kn : Int32) (nv : Int64) (sv : Value) (th : Int32) (H : Heap) (locs : List Loc) (ls : Array Slot) (hka1 : okA true f1) (hka2 : okA false f2) (hP : va_P (dC, dI) xCl [(h0, eE h1 h2 kn), (h1, eR hw1 hc1 hb1 a1 r1), (hw1, eW true), (hc1, eA cy f1), (hb1, eA cy g1), (h2, eR hw2 hc2 hb2 a2 r2), (hw2, eW false), (hc2, eA cy f2), (hb2, eA cy g2), (ho, eO nv sv), (m0, eM m1 m2 th (r1 + r2) kn), (m1, eMR true mc1 a1), (mc1, eA cy f1), (m2, eMR false mc2 a2), (mc2, eA cy f2)] H) (hD : va_D A [(h0, eE h1 h2 kn), (h1, eR hw1 hc1 hb1 a1 r1), (hw1, eW true), (hc1, eA cy f1), (hb1, eA cy g1), (h2, eR hw2 hc2 hb2 a2 r2), (hw2, eW false), (hc2, eA cy f2), (hb2, eA cy g2), (ho, eO nv sv), (m0, eM m1 m2 th (r1 + r2) kn), (m1, eMR true mc1 a1), (mc1, eA cy f1), (m2, eMR false mc2 a2), (mc2, eA cy f2)]) (hS : va_S A s.heap H locs) (hl : lv_has ls 7 [(0, .ref b), (1, .ref h0), (2, .ref m0), (3, .ref ho), (4, .int (nI i))]) : W p l e room_1 s m #[Value.ref b] below meth c H locs cells slots (lw_Z below #[Value.ref b] s) (F0 m 1591 ls []) := by
  obtain ⟨hfl, hx, hb, hr, hml, hown, hts, hX, hbl, hbA, hlocks, hK, hG, hnc, hA, hAN, hN, hL, hT, hNs⟩ := id C0
  have hok2 := me_okF hka2
  have hsp1 : ∀ k, k < 8 → o_X1_isSpoiled true (f1 k) = false := fun k hk => (hka1 k hk).2
  have hsp2 : ∀ k, k < 8 → o_X1_isSpoiled false (f2 k) = false := fun k hk => (hka2 k hk).2
  have qx_wideHash : (o_L_wideHash f1 nv p1 p2).1 = (o_X5_wideHash f1 p1 p2).2 := by have hm := ml_wideHash nv p1 p2 hka1; rw [hm] <;> rfl
  have qn_wideHash : (o_L_wideHash f1 nv p1 p2).2 = if (o_X5_wideHash f1 p1 p2).2 = 0 then ((o_X5_wideHash f1 p1 p2).1).toInt64 else nv := by have hm := ml_wideHash nv p1 p2 hka1; rw [hm] <;> rfl
  refine lv_aload_n hx hb dL_law_1591 rfl (lv_at hl 1 rfl) ?_
  refine lv_aload_n hx hb dL_law_1592 rfl (lv_at hl 0 rfl) ?_
  refine lv_iload hx hb dL_law_1593 (lv_at hl 4 rfl) ?_
  refine lv_iconst (v := 1) hx hb dL_law_1595 (by decide +kernel) ?_
  refine lv_iadd hx hb dL_law_1596 ?_
  rw [nI_1 i]
  refine xa_sld hx hb hX hbl hbA hS (k := i + 1) (by omega) hL hp1 dL_law_1597 ?_
  refine lv_aload_n hx hb dL_law_1598 rfl (lv_at hl 0 rfl) ?_
  refine lv_iload hx hb dL_law_1599 (lv_at hl 4 rfl) ?_
  refine lv_iconst (v := 2) hx hb dL_law_1601 (by decide +kernel) ?_
  refine lv_iadd hx hb dL_law_1602 ?_
  rw [nI_p2 i]
  refine xa_sld hx hb hX hbl hbA hS (k := i + 2) (by omega) hL hp2 dL_law_1603 ?_
  refine lv_aload_n hx hb dL_law_1604 rfl (lv_at hl 3 rfl) ?_
  have hPc := hP.sub (ws' := [(h0, eE h1 h2 kn), (h1, eR hw1 hc1 hb1 a1 r1), (hw1, eW true), (hc1, eA cy f1), (hb1, eA cy g1), (h2, eR hw2 hc2 hb2 a2 r2), (hw2, eW false), (hc2, eA cy f2), (hb2, eA cy g2), (ho, eO nv sv)]) [0, 1, 2, 3, 4, 5, 6, 7, 8, 9] rfl
  have hDc := hD.sub (ws' := [(h0, eE h1 h2 kn), (h1, eR hw1 hc1 hb1 a1 r1), (hw1, eW true), (hc1, eA cy f1), (hb1, eA cy g1), (h2, eR hw2 hc2 hb2 a2 r2), (hw2, eW false), (hc2, eA cy f2), (hb2, eA cy g2), (ho, eO nv sv)]) [0, 1, 2, 3, 4, 5, 6, 7, 8, 9] (by decide +kernel) rfl
  have hKc := hK.sub (tys' := [(cy, .long)]) [0] rfl
  have hFc := va_free (wc := [(h0, eE h1 h2 kn), (h1, eR hw1 hc1 hb1 a1 r1), (hw1, eW true), (hc1, eA cy f1), (hb1, eA cy g1), (h2, eR hw2 hc2 hb2 a2 r2), (hw2, eW false), (hc2, eA cy f2), (hb2, eA cy g2), (ho, eO nv sv)]) hD hS hA [0, 1, 2, 3, 4, 5, 6, 7, 8, 9] rfl
  refine va_calli (vx_runSW (As := [.ref h0, .int p1, .int p2, .ref ho]) (rest := []) ⟨hx, hb, hml, hown, hts⟩ (k_L_wideHash l hfl dC dI cy h0 h1 hw1 hc1 hb1 h2 hw2 hc2 hb2 a1 r1 f1 g1 a2 r2 f2 g2 kn ho nv sv H.size N p1 p2) (vx_cwSW 4 hts gL_law_L_wideHash rfl rfl rfl (by decide +kernel) ⟨Nat.le_of_ble_eq_true rfl, Nat.le_of_ble_eq_true rfl⟩) (xL.preS hKc hPc hDc hAN (Nat.le_trans hN hS.1) (hG.kept hS hAN) hnc) rfl rfl hl.1 rfl (lv_room (Nat.le_of_ble_eq_true rfl)) dL_law_1605 ⟨(show _ ≤ 716141 by omega), (show _ ≤ 6947682 by omega)⟩) hS (fun q _ h => hFc q h) hFc (fun r_1 u t H locs ht hvm hw hB hz hk hS => ?_)
  replace hw : r_1 = (o_L_wideHash f1 nv p1 p2).1 := hw
  subst r_1
  obtain ⟨hP1, hD1⟩ := hB
  rw [ht] at hP1
  obtain ⟨hP, hD⟩ := va_join (wr := [(m0, eM m1 m2 th (r1 + r2) kn), (m1, eMR true mc1 a1), (mc1, eA cy f1), (m2, eMR false mc2 a2), (mc2, eA cy f2)]) (w1 := [(h0, eE h1 h2 kn), (h1, eR hw1 hc1 hb1 a1 r1), (hw1, eW true), (hc1, eA cy f1), (hb1, eA cy g1), (h2, eR hw2 hc2 hb2 a2 r2), (hw2, eW false), (hc2, eA cy f2), (hb2, eA cy g2), (ho, eO (o_L_wideHash f1 nv p1 p2).2 sv)]) hP hD [0, 1, 2, 3, 4, 5, 6, 7, 8, 9] [10, 11, 12, 13, 14] rfl rfl (by decide +kernel) (by decide +kernel) hk hFc hP1 hD1
  have hP := hP.sub (ws' := [(h0, eE h1 h2 kn), (h1, eR hw1 hc1 hb1 a1 r1), (hw1, eW true), (hc1, eA cy f1), (hb1, eA cy g1), (h2, eR hw2 hc2 hb2 a2 r2), (hw2, eW false), (hc2, eA cy f2), (hb2, eA cy g2), (ho, eO (o_L_wideHash f1 nv p1 p2).2 sv), (m0, eM m1 m2 th (r1 + r2) kn), (m1, eMR true mc1 a1), (mc1, eA cy f1), (m2, eMR false mc2 a2), (mc2, eA cy f2)]) [5, 6, 7, 8, 9, 10, 11, 12, 13, 14, 0, 1, 2, 3, 4] rfl
  have hD := hD.sub (ws' := [(h0, eE h1 h2 kn), (h1, eR hw1 hc1 hb1 a1 r1), (hw1, eW true), (hc1, eA cy f1), (hb1, eA cy g1), (h2, eR hw2 hc2 hb2 a2 r2), (hw2, eW false), (hc2, eA cy f2), (hb2, eA cy g2), (ho, eO (o_L_wideHash f1 nv p1 p2).2 sv), (m0, eM m1 m2 th (r1 + r2) kn), (m1, eMR true mc1 a1), (mc1, eA cy f1), (m2, eMR false mc2 a2), (mc2, eA cy f2)]) [5, 6, 7, 8, 9, 10, 11, 12, 13, 14, 0, 1, 2, 3, 4] (by decide +kernel) rfl
  refine lv_istore (lv' := [(5, .int ((o_L_wideHash f1 nv p1 p2).1)), (0, .ref b), (1, .ref h0), (2, .ref m0), (3, .ref ho), (4, .int (nI i))]) hx hb dL_law_1608 hl (by decide +kernel) rfl (fun ls hl => ?_)
  refine lv_aload_n hx hb dL_law_1610 rfl (lv_at hl 3 rfl) ?_
  refine lv_aload_n hx hb dL_law_1611 rfl (lv_at hl 1 rfl) ?_
  refine lv_iload hx hb dL_law_1612 (lv_at hl 5 rfl) ?_
  refine lv_iconst (v := 1) hx hb dL_law_1614 (by decide +kernel) ?_
  refine lv_iadd hx hb dL_law_1615 ?_
  rw [nI_1 i]
  refine xa_sld hx hb hX hbl hbA hS (k := i + 1) (by omega) hL hp1 dL_law_1616 ?_
  refine lv_aload_n hx hb dL_law_1617 rfl (lv_at hl 1 rfl) ?_
  refine lv_iload hx hb dL_law_1618 (lv_at hl 5 rfl) ?_
  refine lv_iconst (v := 2) hx hb dL_law_1620 (by decide +kernel) ?_
  refine lv_iadd hx hb dL_law_1621 ?_
  rw [nI_p2 i]
  refine xa_sld hx hb hX hbl hbA hS (k := i + 2) (by omega) hL hp2 dL_law_1622 ?_
  have hPc := hP.sub (ws' := [(m0, eM m1 m2 th (r1 + r2) kn), (m1, eMR true mc1 a1), (mc1, eA cy f1), (m2, eMR false mc2 a2), (mc2, eA cy f2)]) [10, 11, 12, 13, 14] rfl
  have hDc := hD.sub (ws' := [(m0, eM m1 m2 th (r1 + r2) kn), (m1, eMR true mc1 a1), (mc1, eA cy f1), (m2, eMR false mc2 a2), (mc2, eA cy f2)]) [10, 11, 12, 13, 14] (by decide +kernel) rfl
  have hKc := hK.sub (tys' := [(cy, .long)]) [0] rfl
  have hFc := va_free (wc := [(m0, eM m1 m2 th (r1 + r2) kn), (m1, eMR true mc1 a1), (mc1, eA cy f1), (m2, eMR false mc2 a2), (mc2, eA cy f2)]) hD hS hA [10, 11, 12, 13, 14] rfl
  refine va_calli (va_runV (As := [.int p1, .int p2]) (rest := []) ⟨hx, hb, hml, hown, hts⟩ (k_X5_wideHash l dC dI cy m0 m1 mc1 m2 mc2 a1 f1 a2 f2 th (r1 + r2) kn H.size N p1 p2) (cwV 2 hts gL_law_X5_wideHash rfl rfl rfl (by decide +kernel) ⟨Nat.le_of_ble_eq_true rfl, Nat.le_of_ble_eq_true rfl⟩) (xM.preV hKc hPc hDc hAN (Nat.le_trans hN hS.1) (hG.kept hS hAN) (ci := 7) (q0 := 0) rfl rfl) rfl rfl hl.1 rfl (lv_room (Nat.le_of_ble_eq_true rfl)) dL_law_1623 ⟨(show _ ≤ 716141 by omega), (show _ ≤ 6947682 by omega)⟩) hS (fun q _ h => hFc q h) hFc (fun r_2 u t H locs ht hvm hw hB hz hk hS => ?_)
  replace hw : r_2 = (o_X5_wideHash f1 p1 p2).1 := hw
  subst r_2
  obtain ⟨hP1, hD1⟩ := hB
  rw [ht] at hP1
  obtain ⟨hP, hD⟩ := va_join (wr := [(h0, eE h1 h2 kn), (h1, eR hw1 hc1 hb1 a1 r1), (hw1, eW true), (hc1, eA cy f1), (hb1, eA cy g1), (h2, eR hw2 hc2 hb2 a2 r2), (hw2, eW false), (hc2, eA cy f2), (hb2, eA cy g2), (ho, eO (o_L_wideHash f1 nv p1 p2).2 sv)]) (w1 := [(m0, eM m1 m2 (o_X5_wideHash f1 p1 p2).2 (r1 + r2) kn), (m1, eMR true mc1 a1), (mc1, eA cy f1), (m2, eMR false mc2 a2), (mc2, eA cy f2)]) hP hD [10, 11, 12, 13, 14] [0, 1, 2, 3, 4, 5, 6, 7, 8, 9] rfl rfl (by decide +kernel) (by decide +kernel) hk hFc hP1 hD1
  have hP := hP.sub (ws' := [(h0, eE h1 h2 kn), (h1, eR hw1 hc1 hb1 a1 r1), (hw1, eW true), (hc1, eA cy f1), (hb1, eA cy g1), (h2, eR hw2 hc2 hb2 a2 r2), (hw2, eW false), (hc2, eA cy f2), (hb2, eA cy g2), (ho, eO (o_L_wideHash f1 nv p1 p2).2 sv), (m0, eM m1 m2 (o_X5_wideHash f1 p1 p2).2 (r1 + r2) kn), (m1, eMR true mc1 a1), (mc1, eA cy f1), (m2, eMR false mc2 a2), (mc2, eA cy f2)]) [0, 1, 2, 3, 4, 5, 6, 7, 8, 9, 10, 11, 12, 13, 14] rfl
  have hD := hD.sub (ws' := [(h0, eE h1 h2 kn), (h1, eR hw1 hc1 hb1 a1 r1), (hw1, eW true), (hc1, eA cy f1), (hb1, eA cy g1), (h2, eR hw2 hc2 hb2 a2 r2), (hw2, eW false), (hc2, eA cy f2), (hb2, eA cy g2), (ho, eO (o_L_wideHash f1 nv p1 p2).2 sv), (m0, eM m1 m2 (o_X5_wideHash f1 p1 p2).2 (r1 + r2) kn), (m1, eMR true mc1 a1), (mc1, eA cy f1), (m2, eMR false mc2 a2), (mc2, eA cy f2)]) [0, 1, 2, 3, 4, 5, 6, 7, 8, 9, 10, 11, 12, 13, 14] (by decide +kernel) rfl
  refine lv_istore (lv' := [(6, .int ((o_X5_wideHash f1 p1 p2).1)), (5, .int ((o_L_wideHash f1 nv p1 p2).1)), (0, .ref b), (1, .ref h0), (2, .ref m0), (3, .ref ho), (4, .int (nI i))]) hx hb dL_law_1626 hl (by decide +kernel) rfl (fun ls hl => ?_)
  refine lv_aload_n hx hb dL_law_1628 rfl (lv_at hl 4 rfl) ?_
  have hPc := hP.sub (ws' := [(m0, eM m1 m2 (o_X5_wideHash f1 p1 p2).2 (r1 + r2) kn)]) [10] rfl
  have hKc := hK.sub (tys' := []) [] rfl
  refine va_calli (va_runV (As := []) (rest := []) ⟨hx, hb, hml, hown, hts⟩ (k_X5_thrown l dC dI m0 m1 m2 ((o_X5_wideHash f1 p1 p2).2) (r1 + r2) kn H.size) (cwV 0 hts gL_law_X5_thrown rfl rfl rfl (by decide +kernel) ⟨Nat.le_of_ble_eq_true rfl, Nat.le_of_ble_eq_true rfl⟩) (xB.preV hKc hPc (ci := 7) (q0 := 0) rfl rfl) rfl rfl hl.1 rfl (lv_room (Nat.le_of_ble_eq_true rfl)) dL_law_1629 ⟨(show _ ≤ 716141 by omega), (show _ ≤ 6947682 by omega)⟩) hS xA_old (fun q h => hA q (Nat.le_trans hS.1 h)) (fun r_3 u t H locs ht hvm hw hB hz hk hS => ?_)
  replace hw : r_3 = (o_X5_thrown ((o_X5_wideHash f1 p1 p2).2)) := hw
  subst r_3
  have hP := xP_keep hP hk
  refine lv_iload hx hb dL_law_1632 (lv_at hl 1 rfl) ?_
  refine lv_icmp_eq (tgt := 1639) hx hb dL_law_1634 (by decide +kernel) (fun c9 => ?_) (fun c9 => absurd (show o_X5_thrown _ = _ from (qx_wideHash).symm) c9)
  refine lv_iload hx hb dL_law_1639 (lv_at hl 1 rfl) ?_
  refine lv_if_ne (tgt := 1657) hx hb dL_law_1641 (by decide +kernel) (fun c_4 => ?_) (fun c_4 => ?_)
  · skip
    refine lv_goto (tgt := 3660) hx hb dL_law_1657 (by decide +kernel) ?_
    refine W.widen (k := cells + 760) (n := slots + 4500) (by omega) (by omega) ?_
    exact K a1 r1 f1 g1 a2 r2 f2 g2 kn ((o_L_wideHash f1 nv p1 p2).2) sv ((o_X5_wideHash f1 p1 p2).2) a1 f1 a2 f2 (r1 + r2) kn _ _ _ rfl rfl rfl rfl rfl rfl hka1 hka2 hP hD hS (lv_sub hl [2, 3, 4, 5, 6] rfl)
  · skip
    refine lv_aload_n hx hb dL_law_1644 rfl (lv_at hl 5 rfl) ?_
    refine va_getN (D := (dC, dI)) (ci := 5) (v := .long ((o_L_wideHash f1 nv p1 p2).2)) (C := RX3) (T := TX3) (N := 2) hx hb hts (by decide +kernel) hown hK hP 9 rfl rfl 0 (by decide +kernel) (va_Nw.use rfl (hG.1 (.fieldLinkNest RL 13 "EdgefloatsLaw$Out" "n" "J" RL) (List.mem_of_getElem? (i := 6) rfl))) (fun _ h9 => h9) rfl dL_law_1645 ?_
    refine lv_iload hx hb dL_law_1648 (lv_at hl 0 rfl) ?_
    refine lv_i2l (v := (((o_X5_wideHash f1 p1 p2).1).toInt64)) hx hb dL_law_1650 rfl ?_
    refine xc_eq (tgt := 1657) hx hb dL_law_1651 dL_law_1652 (by decide +kernel) (fun c9 => ?_) (fun c9 => absurd ((qn_wideHash).trans (if_pos ((qx_wideHash).symm.trans c_4))) c9)
    refine lv_goto (tgt := 3660) hx hb dL_law_1657 (by decide +kernel) ?_
    refine W.widen (k := cells + 760) (n := slots + 4500) (by omega) (by omega) ?_
    exact K a1 r1 f1 g1 a2 r2 f2 g2 kn ((o_L_wideHash f1 nv p1 p2).2) sv ((o_X5_wideHash f1 p1 p2).2) a1 f1 a2 f2 (r1 + r2) kn _ _ _ rfl rfl rfl rfl rfl rfl hka1 hka2 hP hD hS (lv_sub hl [2, 3, 4, 5, 6] rfl)
set_option maxHeartbeats 4000000 in
set_option maxRecDepth 100000 in
theorem st_19 (l : Launch) (p : Program) (e : Env) (s : State) (m : MethodId) (below : List Frame) (meth : Method) (c : Code) (b L N : Nat) (xs : Nat → Int32) (A : Nat → Prop) (dC : Nat → ClassId) (dI : Nat → Nat → Nat) (cy cB : ClassId) (h0 h1 hw1 hc1 hb1 h2 hw2 hc2 hb2 ho m0 m1 mc1 m2 mc2 : Nat) (C0 : lw_C l p e s m below meth c b L N xs A dC dI cy cB) (i : Nat) (hi : i + 4 ≤ L) (p1 p2 p3 : Int32) (hp1 : xs (i + 1) = p1) (hp2 : xs (i + 2) = p2) (hp3 : xs (i + 3) = p3) (cells slots : Nat) (hcs : cells + 760 ≤ 716141) (hss : slots + 4500 ≤ 6947682) (K : lw_K l p e s m below meth c b L N xs A dC dI cy cB h0 h1 hw1 hc1 hb1 h2 hw2 hc2 hb2 ho m0 m1 mc1 m2 mc2 i (cells + 760) (slots + 4500) 3660) (a1 : Int32) (r1 : Int32) (f1 : Nat → Int64) (g1 : Nat → Int64) (a2 : Int32) (r2 : Int32) (f2 : Nat → Int64) (g2 : Nat → Int64) (kn : Int32) (nv : Int64) (sv : Value) (th : Int32) (H : Heap) (locs : List Loc) (ls : Array Slot) (hka1 : okA true f1) (hka2 : okA false f2) (hP : va_P (dC, dI) xCl [(h0, eE h1 h2 kn), (h1, eR hw1 hc1 hb1 a1 r1), (hw1, eW true), (hc1, eA cy f1), (hb1, eA cy g1), (h2, eR hw2 hc2 hb2 a2 r2), (hw2, eW false), (hc2, eA cy f2), (hb2, eA cy g2), (ho, eO nv sv), (m0, eM m1 m2 th (r1 + r2) kn), (m1, eMR true mc1 a1), (mc1, eA cy f1), (m2, eMR false mc2 a2), (mc2, eA cy f2)] H) (hD : va_D A [(h0, eE h1 h2 kn), (h1, eR hw1 hc1 hb1 a1 r1), (hw1, eW true), (hc1, eA cy f1), (hb1, eA cy g1), (h2, eR hw2 hc2 hb2 a2 r2), (hw2, eW false), (hc2, eA cy f2), (hb2, eA cy g2), (ho, eO nv sv), (m0, eM m1 m2 th (r1 + r2) kn), (m1, eMR true mc1 a1), (mc1, eA cy f1), (m2, eMR false mc2 a2), (mc2, eA cy f2)]) (hS : va_S A s.heap H locs) (hl : lv_has ls 7 [(0, .ref b), (1, .ref h0), (2, .ref m0), (3, .ref ho), (4, .int (nI i))]) : W p l e room_1 s m #[Value.ref b] below meth c H locs cells slots (lw_Z below #[Value.ref b] s) (F0 m 1660 ls []) := by
  obtain ⟨hfl, hx, hb, hr, hml, hown, hts, hX, hbl, hbA, hlocks, hK, hG, hnc, hA, hAN, hN, hL, hT, hNs⟩ := id C0
  have hok2 := me_okF hka2
  have hsp1 : ∀ k, k < 8 → o_X1_isSpoiled true (f1 k) = false := fun k hk => (hka1 k hk).2
  have hsp2 : ∀ k, k < 8 → o_X1_isSpoiled false (f2 k) = false := fun k hk => (hka2 k hk).2
  have qx_wideEndless : (o_L_wideEndless f1 nv p1 p2).1 = (o_X5_wideEndless f1 p1 p2).2 := by have hm := ml_wideEndless nv p1 p2 hka1; rw [hm] <;> rfl
  have qn_wideEndless : (o_L_wideEndless f1 nv p1 p2).2 = if (o_X5_wideEndless f1 p1 p2).2 = 0 then (if (o_X5_wideEndless f1 p1 p2).1 = true then 1 else 0) else nv := by have hm := ml_wideEndless nv p1 p2 hka1; rw [hm] <;> rfl
  refine lv_aload_n hx hb dL_law_1660 rfl (lv_at hl 1 rfl) ?_
  refine lv_aload_n hx hb dL_law_1661 rfl (lv_at hl 0 rfl) ?_
  refine lv_iload hx hb dL_law_1662 (lv_at hl 4 rfl) ?_
  refine lv_iconst (v := 1) hx hb dL_law_1664 (by decide +kernel) ?_
  refine lv_iadd hx hb dL_law_1665 ?_
  rw [nI_1 i]
  refine xa_sld hx hb hX hbl hbA hS (k := i + 1) (by omega) hL hp1 dL_law_1666 ?_
  refine lv_aload_n hx hb dL_law_1667 rfl (lv_at hl 0 rfl) ?_
  refine lv_iload hx hb dL_law_1668 (lv_at hl 4 rfl) ?_
  refine lv_iconst (v := 2) hx hb dL_law_1670 (by decide +kernel) ?_
  refine lv_iadd hx hb dL_law_1671 ?_
  rw [nI_p2 i]
  refine xa_sld hx hb hX hbl hbA hS (k := i + 2) (by omega) hL hp2 dL_law_1672 ?_
  refine lv_aload_n hx hb dL_law_1673 rfl (lv_at hl 3 rfl) ?_
  have hPc := hP.sub (ws' := [(h0, eE h1 h2 kn), (h1, eR hw1 hc1 hb1 a1 r1), (hw1, eW true), (hc1, eA cy f1), (hb1, eA cy g1), (h2, eR hw2 hc2 hb2 a2 r2), (hw2, eW false), (hc2, eA cy f2), (hb2, eA cy g2), (ho, eO nv sv)]) [0, 1, 2, 3, 4, 5, 6, 7, 8, 9] rfl
  have hDc := hD.sub (ws' := [(h0, eE h1 h2 kn), (h1, eR hw1 hc1 hb1 a1 r1), (hw1, eW true), (hc1, eA cy f1), (hb1, eA cy g1), (h2, eR hw2 hc2 hb2 a2 r2), (hw2, eW false), (hc2, eA cy f2), (hb2, eA cy g2), (ho, eO nv sv)]) [0, 1, 2, 3, 4, 5, 6, 7, 8, 9] (by decide +kernel) rfl
  have hKc := hK.sub (tys' := [(cy, .long)]) [0] rfl
  have hFc := va_free (wc := [(h0, eE h1 h2 kn), (h1, eR hw1 hc1 hb1 a1 r1), (hw1, eW true), (hc1, eA cy f1), (hb1, eA cy g1), (h2, eR hw2 hc2 hb2 a2 r2), (hw2, eW false), (hc2, eA cy f2), (hb2, eA cy g2), (ho, eO nv sv)]) hD hS hA [0, 1, 2, 3, 4, 5, 6, 7, 8, 9] rfl
  refine va_calli (vx_runSW (As := [.ref h0, .int p1, .int p2, .ref ho]) (rest := []) ⟨hx, hb, hml, hown, hts⟩ (k_L_wideEndless l hfl dC dI cy h0 h1 hw1 hc1 hb1 h2 hw2 hc2 hb2 a1 r1 f1 g1 a2 r2 f2 g2 kn ho nv sv H.size N p1 p2) (vx_cwSW 4 hts gL_law_L_wideEndless rfl rfl rfl (by decide +kernel) ⟨Nat.le_of_ble_eq_true rfl, Nat.le_of_ble_eq_true rfl⟩) (xL.preS hKc hPc hDc hAN (Nat.le_trans hN hS.1) (hG.kept hS hAN) hnc) rfl rfl hl.1 rfl (lv_room (Nat.le_of_ble_eq_true rfl)) dL_law_1674 ⟨(show _ ≤ 716141 by omega), (show _ ≤ 6947682 by omega)⟩) hS (fun q _ h => hFc q h) hFc (fun r_1 u t H locs ht hvm hw hB hz hk hS => ?_)
  replace hw : r_1 = (o_L_wideEndless f1 nv p1 p2).1 := hw
  subst r_1
  obtain ⟨hP1, hD1⟩ := hB
  rw [ht] at hP1
  obtain ⟨hP, hD⟩ := va_join (wr := [(m0, eM m1 m2 th (r1 + r2) kn), (m1, eMR true mc1 a1), (mc1, eA cy f1), (m2, eMR false mc2 a2), (mc2, eA cy f2)]) (w1 := [(h0, eE h1 h2 kn), (h1, eR hw1 hc1 hb1 a1 r1), (hw1, eW true), (hc1, eA cy f1), (hb1, eA cy g1), (h2, eR hw2 hc2 hb2 a2 r2), (hw2, eW false), (hc2, eA cy f2), (hb2, eA cy g2), (ho, eO (o_L_wideEndless f1 nv p1 p2).2 sv)]) hP hD [0, 1, 2, 3, 4, 5, 6, 7, 8, 9] [10, 11, 12, 13, 14] rfl rfl (by decide +kernel) (by decide +kernel) hk hFc hP1 hD1
  have hP := hP.sub (ws' := [(h0, eE h1 h2 kn), (h1, eR hw1 hc1 hb1 a1 r1), (hw1, eW true), (hc1, eA cy f1), (hb1, eA cy g1), (h2, eR hw2 hc2 hb2 a2 r2), (hw2, eW false), (hc2, eA cy f2), (hb2, eA cy g2), (ho, eO (o_L_wideEndless f1 nv p1 p2).2 sv), (m0, eM m1 m2 th (r1 + r2) kn), (m1, eMR true mc1 a1), (mc1, eA cy f1), (m2, eMR false mc2 a2), (mc2, eA cy f2)]) [5, 6, 7, 8, 9, 10, 11, 12, 13, 14, 0, 1, 2, 3, 4] rfl
  have hD := hD.sub (ws' := [(h0, eE h1 h2 kn), (h1, eR hw1 hc1 hb1 a1 r1), (hw1, eW true), (hc1, eA cy f1), (hb1, eA cy g1), (h2, eR hw2 hc2 hb2 a2 r2), (hw2, eW false), (hc2, eA cy f2), (hb2, eA cy g2), (ho, eO (o_L_wideEndless f1 nv p1 p2).2 sv), (m0, eM m1 m2 th (r1 + r2) kn), (m1, eMR true mc1 a1), (mc1, eA cy f1), (m2, eMR false mc2 a2), (mc2, eA cy f2)]) [5, 6, 7, 8, 9, 10, 11, 12, 13, 14, 0, 1, 2, 3, 4] (by decide +kernel) rfl
  refine lv_istore (lv' := [(5, .int ((o_L_wideEndless f1 nv p1 p2).1)), (0, .ref b), (1, .ref h0), (2, .ref m0), (3, .ref ho), (4, .int (nI i))]) hx hb dL_law_1677 hl (by decide +kernel) rfl (fun ls hl => ?_)
  refine lv_aload_n hx hb dL_law_1679 rfl (lv_at hl 3 rfl) ?_
  refine lv_aload_n hx hb dL_law_1680 rfl (lv_at hl 1 rfl) ?_
  refine lv_iload hx hb dL_law_1681 (lv_at hl 5 rfl) ?_
  refine lv_iconst (v := 1) hx hb dL_law_1683 (by decide +kernel) ?_
  refine lv_iadd hx hb dL_law_1684 ?_
  rw [nI_1 i]
  refine xa_sld hx hb hX hbl hbA hS (k := i + 1) (by omega) hL hp1 dL_law_1685 ?_
  refine lv_aload_n hx hb dL_law_1686 rfl (lv_at hl 1 rfl) ?_
  refine lv_iload hx hb dL_law_1687 (lv_at hl 5 rfl) ?_
  refine lv_iconst (v := 2) hx hb dL_law_1689 (by decide +kernel) ?_
  refine lv_iadd hx hb dL_law_1690 ?_
  rw [nI_p2 i]
  refine xa_sld hx hb hX hbl hbA hS (k := i + 2) (by omega) hL hp2 dL_law_1691 ?_
  have hPc := hP.sub (ws' := [(m0, eM m1 m2 th (r1 + r2) kn), (m1, eMR true mc1 a1), (mc1, eA cy f1), (m2, eMR false mc2 a2), (mc2, eA cy f2)]) [10, 11, 12, 13, 14] rfl
  have hDc := hD.sub (ws' := [(m0, eM m1 m2 th (r1 + r2) kn), (m1, eMR true mc1 a1), (mc1, eA cy f1), (m2, eMR false mc2 a2), (mc2, eA cy f2)]) [10, 11, 12, 13, 14] (by decide +kernel) rfl
  have hKc := hK.sub (tys' := [(cy, .long)]) [0] rfl
  have hFc := va_free (wc := [(m0, eM m1 m2 th (r1 + r2) kn), (m1, eMR true mc1 a1), (mc1, eA cy f1), (m2, eMR false mc2 a2), (mc2, eA cy f2)]) hD hS hA [10, 11, 12, 13, 14] rfl
  refine va_calli (va_runV (As := [.int p1, .int p2]) (rest := []) ⟨hx, hb, hml, hown, hts⟩ (k_X5_wideEndless l dC dI cy m0 m1 mc1 m2 mc2 a1 f1 a2 f2 th (r1 + r2) kn H.size N p1 p2) (cwV 2 hts gL_law_X5_wideEndless rfl rfl rfl (by decide +kernel) ⟨Nat.le_of_ble_eq_true rfl, Nat.le_of_ble_eq_true rfl⟩) (xM.preV hKc hPc hDc hAN (Nat.le_trans hN hS.1) (hG.kept hS hAN) (ci := 7) (q0 := 0) rfl rfl) rfl rfl hl.1 rfl (lv_room (Nat.le_of_ble_eq_true rfl)) dL_law_1692 ⟨(show _ ≤ 716141 by omega), (show _ ≤ 6947682 by omega)⟩) hS (fun q _ h => hFc q h) hFc (fun r_2 u t H locs ht hvm hw hB hz hk hS => ?_)
  replace hw : r_2 = b2i ((o_X5_wideEndless f1 p1 p2).1) := hw
  subst r_2
  obtain ⟨hP1, hD1⟩ := hB
  rw [ht] at hP1
  obtain ⟨hP, hD⟩ := va_join (wr := [(h0, eE h1 h2 kn), (h1, eR hw1 hc1 hb1 a1 r1), (hw1, eW true), (hc1, eA cy f1), (hb1, eA cy g1), (h2, eR hw2 hc2 hb2 a2 r2), (hw2, eW false), (hc2, eA cy f2), (hb2, eA cy g2), (ho, eO (o_L_wideEndless f1 nv p1 p2).2 sv)]) (w1 := [(m0, eM m1 m2 (o_X5_wideEndless f1 p1 p2).2 (r1 + r2) kn), (m1, eMR true mc1 a1), (mc1, eA cy f1), (m2, eMR false mc2 a2), (mc2, eA cy f2)]) hP hD [10, 11, 12, 13, 14] [0, 1, 2, 3, 4, 5, 6, 7, 8, 9] rfl rfl (by decide +kernel) (by decide +kernel) hk hFc hP1 hD1
  have hP := hP.sub (ws' := [(h0, eE h1 h2 kn), (h1, eR hw1 hc1 hb1 a1 r1), (hw1, eW true), (hc1, eA cy f1), (hb1, eA cy g1), (h2, eR hw2 hc2 hb2 a2 r2), (hw2, eW false), (hc2, eA cy f2), (hb2, eA cy g2), (ho, eO (o_L_wideEndless f1 nv p1 p2).2 sv), (m0, eM m1 m2 (o_X5_wideEndless f1 p1 p2).2 (r1 + r2) kn), (m1, eMR true mc1 a1), (mc1, eA cy f1), (m2, eMR false mc2 a2), (mc2, eA cy f2)]) [0, 1, 2, 3, 4, 5, 6, 7, 8, 9, 10, 11, 12, 13, 14] rfl
  have hD := hD.sub (ws' := [(h0, eE h1 h2 kn), (h1, eR hw1 hc1 hb1 a1 r1), (hw1, eW true), (hc1, eA cy f1), (hb1, eA cy g1), (h2, eR hw2 hc2 hb2 a2 r2), (hw2, eW false), (hc2, eA cy f2), (hb2, eA cy g2), (ho, eO (o_L_wideEndless f1 nv p1 p2).2 sv), (m0, eM m1 m2 (o_X5_wideEndless f1 p1 p2).2 (r1 + r2) kn), (m1, eMR true mc1 a1), (mc1, eA cy f1), (m2, eMR false mc2 a2), (mc2, eA cy f2)]) [0, 1, 2, 3, 4, 5, 6, 7, 8, 9, 10, 11, 12, 13, 14] (by decide +kernel) rfl
  refine lv_istore (lv' := [(6, .int (b2i ((o_X5_wideEndless f1 p1 p2).1))), (5, .int ((o_L_wideEndless f1 nv p1 p2).1)), (0, .ref b), (1, .ref h0), (2, .ref m0), (3, .ref ho), (4, .int (nI i))]) hx hb dL_law_1695 hl (by decide +kernel) rfl (fun ls hl => ?_)
  refine lv_aload_n hx hb dL_law_1697 rfl (lv_at hl 4 rfl) ?_
  have hPc := hP.sub (ws' := [(m0, eM m1 m2 (o_X5_wideEndless f1 p1 p2).2 (r1 + r2) kn)]) [10] rfl
  have hKc := hK.sub (tys' := []) [] rfl
  refine va_calli (va_runV (As := []) (rest := []) ⟨hx, hb, hml, hown, hts⟩ (k_X5_thrown l dC dI m0 m1 m2 ((o_X5_wideEndless f1 p1 p2).2) (r1 + r2) kn H.size) (cwV 0 hts gL_law_X5_thrown rfl rfl rfl (by decide +kernel) ⟨Nat.le_of_ble_eq_true rfl, Nat.le_of_ble_eq_true rfl⟩) (xB.preV hKc hPc (ci := 7) (q0 := 0) rfl rfl) rfl rfl hl.1 rfl (lv_room (Nat.le_of_ble_eq_true rfl)) dL_law_1698 ⟨(show _ ≤ 716141 by omega), (show _ ≤ 6947682 by omega)⟩) hS xA_old (fun q h => hA q (Nat.le_trans hS.1 h)) (fun r_3 u t H locs ht hvm hw hB hz hk hS => ?_)
  replace hw : r_3 = (o_X5_thrown ((o_X5_wideEndless f1 p1 p2).2)) := hw
  subst r_3
  have hP := xP_keep hP hk
  refine lv_iload hx hb dL_law_1701 (lv_at hl 1 rfl) ?_
  refine lv_icmp_eq (tgt := 1708) hx hb dL_law_1703 (by decide +kernel) (fun c9 => ?_) (fun c9 => absurd (show o_X5_thrown _ = _ from (qx_wideEndless).symm) c9)
  refine lv_iload hx hb dL_law_1708 (lv_at hl 1 rfl) ?_
  refine lv_if_ne (tgt := 1733) hx hb dL_law_1710 (by decide +kernel) (fun c_4 => ?_) (fun c_4 => ?_)
  · skip
    refine lv_goto (tgt := 3660) hx hb dL_law_1733 (by decide +kernel) ?_
    refine W.widen (k := cells + 760) (n := slots + 4500) (by omega) (by omega) ?_
    exact K a1 r1 f1 g1 a2 r2 f2 g2 kn ((o_L_wideEndless f1 nv p1 p2).2) sv ((o_X5_wideEndless f1 p1 p2).2) a1 f1 a2 f2 (r1 + r2) kn _ _ _ rfl rfl rfl rfl rfl rfl hka1 hka2 hP hD hS (lv_sub hl [2, 3, 4, 5, 6] rfl)
  · skip
    refine lv_aload_n hx hb dL_law_1713 rfl (lv_at hl 5 rfl) ?_
    refine va_getN (D := (dC, dI)) (ci := 5) (v := .long ((o_L_wideEndless f1 nv p1 p2).2)) (C := RX3) (T := TX3) (N := 2) hx hb hts (by decide +kernel) hown hK hP 9 rfl rfl 0 (by decide +kernel) (va_Nw.use rfl (hG.1 (.fieldLinkNest RL 13 "EdgefloatsLaw$Out" "n" "J" RL) (List.mem_of_getElem? (i := 6) rfl))) (fun _ h9 => h9) rfl dL_law_1714 ?_
    refine lv_iload hx hb dL_law_1717 (lv_at hl 0 rfl) ?_
    refine xz_eq (tgt := 1726) hx hb dL_law_1719 (by decide +kernel) (fun c_5 => ?_) (fun c_5 => ?_)
    · skip
      refine lv_lconst (v := 0) hx hb dL_law_1726 (by decide +kernel) ?_
      refine xc_eq (tgt := 1733) hx hb dL_law_1727 dL_law_1728 (by decide +kernel) (fun c9 => ?_) (fun c9 => absurd (((qn_wideEndless).trans (if_pos ((qx_wideEndless).symm.trans c_4))).trans (if_neg c_5)) c9)
      refine lv_goto (tgt := 3660) hx hb dL_law_1733 (by decide +kernel) ?_
      refine W.widen (k := cells + 760) (n := slots + 4500) (by omega) (by omega) ?_
      exact K a1 r1 f1 g1 a2 r2 f2 g2 kn ((o_L_wideEndless f1 nv p1 p2).2) sv ((o_X5_wideEndless f1 p1 p2).2) a1 f1 a2 f2 (r1 + r2) kn _ _ _ rfl rfl rfl rfl rfl rfl hka1 hka2 hP hD hS (lv_sub hl [2, 3, 4, 5, 6] rfl)
    · skip
      refine lv_lconst (v := 1) hx hb dL_law_1722 (by decide +kernel) ?_
      refine lv_goto (tgt := 1727) hx hb dL_law_1723 (by decide +kernel) ?_
      refine xc_eq (tgt := 1733) hx hb dL_law_1727 dL_law_1728 (by decide +kernel) (fun c9 => ?_) (fun c9 => absurd (((qn_wideEndless).trans (if_pos ((qx_wideEndless).symm.trans c_4))).trans (if_pos c_5)) c9)
      refine lv_goto (tgt := 3660) hx hb dL_law_1733 (by decide +kernel) ?_
      refine W.widen (k := cells + 760) (n := slots + 4500) (by omega) (by omega) ?_
      exact K a1 r1 f1 g1 a2 r2 f2 g2 kn ((o_L_wideEndless f1 nv p1 p2).2) sv ((o_X5_wideEndless f1 p1 p2).2) a1 f1 a2 f2 (r1 + r2) kn _ _ _ rfl rfl rfl rfl rfl rfl hka1 hka2 hP hD hS (lv_sub hl [2, 3, 4, 5, 6] rfl)
set_option maxHeartbeats 4000000 in
set_option maxRecDepth 100000 in
theorem st_20 (l : Launch) (p : Program) (e : Env) (s : State) (m : MethodId) (below : List Frame) (meth : Method) (c : Code) (b L N : Nat) (xs : Nat → Int32) (A : Nat → Prop) (dC : Nat → ClassId) (dI : Nat → Nat → Nat) (cy cB : ClassId) (h0 h1 hw1 hc1 hb1 h2 hw2 hc2 hb2 ho m0 m1 mc1 m2 mc2 : Nat) (C0 : lw_C l p e s m below meth c b L N xs A dC dI cy cB) (i : Nat) (hi : i + 4 ≤ L) (p1 p2 p3 : Int32) (hp1 : xs (i + 1) = p1) (hp2 : xs (i + 2) = p2) (hp3 : xs (i + 3) = p3) (cells slots : Nat) (hcs : cells + 760 ≤ 716141) (hss : slots + 4500 ≤ 6947682) (K : lw_K l p e s m below meth c b L N xs A dC dI cy cB h0 h1 hw1 hc1 hb1 h2 hw2 hc2 hb2 ho m0 m1 mc1 m2 mc2 i (cells + 760) (slots + 4500) 3660) (a1 : Int32) (r1 : Int32) (f1 : Nat → Int64) (g1 : Nat → Int64) (a2 : Int32) (r2 : Int32) (f2 : Nat → Int64) (g2 : Nat → Int64) (kn : Int32) (nv : Int64) (sv : Value) (th : Int32) (H : Heap) (locs : List Loc) (ls : Array Slot) (hka1 : okA true f1) (hka2 : okA false f2) (hP : va_P (dC, dI) xCl [(h0, eE h1 h2 kn), (h1, eR hw1 hc1 hb1 a1 r1), (hw1, eW true), (hc1, eA cy f1), (hb1, eA cy g1), (h2, eR hw2 hc2 hb2 a2 r2), (hw2, eW false), (hc2, eA cy f2), (hb2, eA cy g2), (ho, eO nv sv), (m0, eM m1 m2 th (r1 + r2) kn), (m1, eMR true mc1 a1), (mc1, eA cy f1), (m2, eMR false mc2 a2), (mc2, eA cy f2)] H) (hD : va_D A [(h0, eE h1 h2 kn), (h1, eR hw1 hc1 hb1 a1 r1), (hw1, eW true), (hc1, eA cy f1), (hb1, eA cy g1), (h2, eR hw2 hc2 hb2 a2 r2), (hw2, eW false), (hc2, eA cy f2), (hb2, eA cy g2), (ho, eO nv sv), (m0, eM m1 m2 th (r1 + r2) kn), (m1, eMR true mc1 a1), (mc1, eA cy f1), (m2, eMR false mc2 a2), (mc2, eA cy f2)]) (hS : va_S A s.heap H locs) (hl : lv_has ls 7 [(0, .ref b), (1, .ref h0), (2, .ref m0), (3, .ref ho), (4, .int (nI i))]) : W p l e room_1 s m #[Value.ref b] below meth c H locs cells slots (lw_Z below #[Value.ref b] s) (F0 m 1736 ls []) := by
  obtain ⟨hfl, hx, hb, hr, hml, hown, hts, hX, hbl, hbA, hlocks, hK, hG, hnc, hA, hAN, hN, hL, hT, hNs⟩ := id C0
  have hok2 := me_okF hka2
  have hsp1 : ∀ k, k < 8 → o_X1_isSpoiled true (f1 k) = false := fun k hk => (hka1 k hk).2
  have hsp2 : ∀ k, k < 8 → o_X1_isSpoiled false (f2 k) = false := fun k hk => (hka2 k hk).2
  have qx_wideCount : (o_L_wideCount f1 nv p1).1 = (o_X5_wideCount f1 p1).2 := by have hm := ml_wideCount nv p1 hka1; rw [hm] <;> rfl
  have qn_wideCount : (o_L_wideCount f1 nv p1).2 = if (o_X5_wideCount f1 p1).2 = 0 then ((o_X5_wideCount f1 p1).1).toInt64 else nv := by have hm := ml_wideCount nv p1 hka1; rw [hm] <;> rfl
  refine lv_aload_n hx hb dL_law_1736 rfl (lv_at hl 1 rfl) ?_
  refine lv_aload_n hx hb dL_law_1737 rfl (lv_at hl 0 rfl) ?_
  refine lv_iload hx hb dL_law_1738 (lv_at hl 4 rfl) ?_
  refine lv_iconst (v := 1) hx hb dL_law_1740 (by decide +kernel) ?_
  refine lv_iadd hx hb dL_law_1741 ?_
  rw [nI_1 i]
  refine xa_sld hx hb hX hbl hbA hS (k := i + 1) (by omega) hL hp1 dL_law_1742 ?_
  refine lv_aload_n hx hb dL_law_1743 rfl (lv_at hl 3 rfl) ?_
  have hPc := hP.sub (ws' := [(h0, eE h1 h2 kn), (h1, eR hw1 hc1 hb1 a1 r1), (hw1, eW true), (hc1, eA cy f1), (hb1, eA cy g1), (h2, eR hw2 hc2 hb2 a2 r2), (hw2, eW false), (hc2, eA cy f2), (hb2, eA cy g2), (ho, eO nv sv)]) [0, 1, 2, 3, 4, 5, 6, 7, 8, 9] rfl
  have hDc := hD.sub (ws' := [(h0, eE h1 h2 kn), (h1, eR hw1 hc1 hb1 a1 r1), (hw1, eW true), (hc1, eA cy f1), (hb1, eA cy g1), (h2, eR hw2 hc2 hb2 a2 r2), (hw2, eW false), (hc2, eA cy f2), (hb2, eA cy g2), (ho, eO nv sv)]) [0, 1, 2, 3, 4, 5, 6, 7, 8, 9] (by decide +kernel) rfl
  have hKc := hK.sub (tys' := [(cy, .long)]) [0] rfl
  have hFc := va_free (wc := [(h0, eE h1 h2 kn), (h1, eR hw1 hc1 hb1 a1 r1), (hw1, eW true), (hc1, eA cy f1), (hb1, eA cy g1), (h2, eR hw2 hc2 hb2 a2 r2), (hw2, eW false), (hc2, eA cy f2), (hb2, eA cy g2), (ho, eO nv sv)]) hD hS hA [0, 1, 2, 3, 4, 5, 6, 7, 8, 9] rfl
  refine va_calli (vx_runSW (As := [.ref h0, .int p1, .ref ho]) (rest := []) ⟨hx, hb, hml, hown, hts⟩ (k_L_wideCount l hfl dC dI cy h0 h1 hw1 hc1 hb1 h2 hw2 hc2 hb2 a1 r1 f1 g1 a2 r2 f2 g2 kn ho nv sv H.size N p1) (vx_cwSW 3 hts gL_law_L_wideCount rfl rfl rfl (by decide +kernel) ⟨Nat.le_of_ble_eq_true rfl, Nat.le_of_ble_eq_true rfl⟩) (xL.preS hKc hPc hDc hAN (Nat.le_trans hN hS.1) (hG.kept hS hAN) hnc) rfl rfl hl.1 rfl (lv_room (Nat.le_of_ble_eq_true rfl)) dL_law_1744 ⟨(show _ ≤ 716141 by omega), (show _ ≤ 6947682 by omega)⟩) hS (fun q _ h => hFc q h) hFc (fun r_1 u t H locs ht hvm hw hB hz hk hS => ?_)
  replace hw : r_1 = (o_L_wideCount f1 nv p1).1 := hw
  subst r_1
  obtain ⟨hP1, hD1⟩ := hB
  rw [ht] at hP1
  obtain ⟨hP, hD⟩ := va_join (wr := [(m0, eM m1 m2 th (r1 + r2) kn), (m1, eMR true mc1 a1), (mc1, eA cy f1), (m2, eMR false mc2 a2), (mc2, eA cy f2)]) (w1 := [(h0, eE h1 h2 kn), (h1, eR hw1 hc1 hb1 a1 r1), (hw1, eW true), (hc1, eA cy f1), (hb1, eA cy g1), (h2, eR hw2 hc2 hb2 a2 r2), (hw2, eW false), (hc2, eA cy f2), (hb2, eA cy g2), (ho, eO (o_L_wideCount f1 nv p1).2 sv)]) hP hD [0, 1, 2, 3, 4, 5, 6, 7, 8, 9] [10, 11, 12, 13, 14] rfl rfl (by decide +kernel) (by decide +kernel) hk hFc hP1 hD1
  have hP := hP.sub (ws' := [(h0, eE h1 h2 kn), (h1, eR hw1 hc1 hb1 a1 r1), (hw1, eW true), (hc1, eA cy f1), (hb1, eA cy g1), (h2, eR hw2 hc2 hb2 a2 r2), (hw2, eW false), (hc2, eA cy f2), (hb2, eA cy g2), (ho, eO (o_L_wideCount f1 nv p1).2 sv), (m0, eM m1 m2 th (r1 + r2) kn), (m1, eMR true mc1 a1), (mc1, eA cy f1), (m2, eMR false mc2 a2), (mc2, eA cy f2)]) [5, 6, 7, 8, 9, 10, 11, 12, 13, 14, 0, 1, 2, 3, 4] rfl
  have hD := hD.sub (ws' := [(h0, eE h1 h2 kn), (h1, eR hw1 hc1 hb1 a1 r1), (hw1, eW true), (hc1, eA cy f1), (hb1, eA cy g1), (h2, eR hw2 hc2 hb2 a2 r2), (hw2, eW false), (hc2, eA cy f2), (hb2, eA cy g2), (ho, eO (o_L_wideCount f1 nv p1).2 sv), (m0, eM m1 m2 th (r1 + r2) kn), (m1, eMR true mc1 a1), (mc1, eA cy f1), (m2, eMR false mc2 a2), (mc2, eA cy f2)]) [5, 6, 7, 8, 9, 10, 11, 12, 13, 14, 0, 1, 2, 3, 4] (by decide +kernel) rfl
  refine lv_istore (lv' := [(5, .int ((o_L_wideCount f1 nv p1).1)), (0, .ref b), (1, .ref h0), (2, .ref m0), (3, .ref ho), (4, .int (nI i))]) hx hb dL_law_1747 hl (by decide +kernel) rfl (fun ls hl => ?_)
  refine lv_aload_n hx hb dL_law_1749 rfl (lv_at hl 3 rfl) ?_
  refine lv_aload_n hx hb dL_law_1750 rfl (lv_at hl 1 rfl) ?_
  refine lv_iload hx hb dL_law_1751 (lv_at hl 5 rfl) ?_
  refine lv_iconst (v := 1) hx hb dL_law_1753 (by decide +kernel) ?_
  refine lv_iadd hx hb dL_law_1754 ?_
  rw [nI_1 i]
  refine xa_sld hx hb hX hbl hbA hS (k := i + 1) (by omega) hL hp1 dL_law_1755 ?_
  have hPc := hP.sub (ws' := [(m0, eM m1 m2 th (r1 + r2) kn), (m1, eMR true mc1 a1), (mc1, eA cy f1), (m2, eMR false mc2 a2), (mc2, eA cy f2)]) [10, 11, 12, 13, 14] rfl
  have hDc := hD.sub (ws' := [(m0, eM m1 m2 th (r1 + r2) kn), (m1, eMR true mc1 a1), (mc1, eA cy f1), (m2, eMR false mc2 a2), (mc2, eA cy f2)]) [10, 11, 12, 13, 14] (by decide +kernel) rfl
  have hKc := hK.sub (tys' := [(cy, .long)]) [0] rfl
  have hFc := va_free (wc := [(m0, eM m1 m2 th (r1 + r2) kn), (m1, eMR true mc1 a1), (mc1, eA cy f1), (m2, eMR false mc2 a2), (mc2, eA cy f2)]) hD hS hA [10, 11, 12, 13, 14] rfl
  refine va_calli (va_runV (As := [.int p1]) (rest := []) ⟨hx, hb, hml, hown, hts⟩ (k_X5_wideCount l dC dI cy m0 m1 mc1 m2 mc2 a1 f1 a2 f2 th (r1 + r2) kn H.size N p1) (cwV 1 hts gL_law_X5_wideCount rfl rfl rfl (by decide +kernel) ⟨Nat.le_of_ble_eq_true rfl, Nat.le_of_ble_eq_true rfl⟩) (xM.preV hKc hPc hDc hAN (Nat.le_trans hN hS.1) (hG.kept hS hAN) (ci := 7) (q0 := 0) rfl rfl) rfl rfl hl.1 rfl (lv_room (Nat.le_of_ble_eq_true rfl)) dL_law_1756 ⟨(show _ ≤ 716141 by omega), (show _ ≤ 6947682 by omega)⟩) hS (fun q _ h => hFc q h) hFc (fun r_2 u t H locs ht hvm hw hB hz hk hS => ?_)
  replace hw : r_2 = (o_X5_wideCount f1 p1).1 := hw
  subst r_2
  obtain ⟨hP1, hD1⟩ := hB
  rw [ht] at hP1
  obtain ⟨hP, hD⟩ := va_join (wr := [(h0, eE h1 h2 kn), (h1, eR hw1 hc1 hb1 a1 r1), (hw1, eW true), (hc1, eA cy f1), (hb1, eA cy g1), (h2, eR hw2 hc2 hb2 a2 r2), (hw2, eW false), (hc2, eA cy f2), (hb2, eA cy g2), (ho, eO (o_L_wideCount f1 nv p1).2 sv)]) (w1 := [(m0, eM m1 m2 (o_X5_wideCount f1 p1).2 (r1 + r2) kn), (m1, eMR true mc1 a1), (mc1, eA cy f1), (m2, eMR false mc2 a2), (mc2, eA cy f2)]) hP hD [10, 11, 12, 13, 14] [0, 1, 2, 3, 4, 5, 6, 7, 8, 9] rfl rfl (by decide +kernel) (by decide +kernel) hk hFc hP1 hD1
  have hP := hP.sub (ws' := [(h0, eE h1 h2 kn), (h1, eR hw1 hc1 hb1 a1 r1), (hw1, eW true), (hc1, eA cy f1), (hb1, eA cy g1), (h2, eR hw2 hc2 hb2 a2 r2), (hw2, eW false), (hc2, eA cy f2), (hb2, eA cy g2), (ho, eO (o_L_wideCount f1 nv p1).2 sv), (m0, eM m1 m2 (o_X5_wideCount f1 p1).2 (r1 + r2) kn), (m1, eMR true mc1 a1), (mc1, eA cy f1), (m2, eMR false mc2 a2), (mc2, eA cy f2)]) [0, 1, 2, 3, 4, 5, 6, 7, 8, 9, 10, 11, 12, 13, 14] rfl
  have hD := hD.sub (ws' := [(h0, eE h1 h2 kn), (h1, eR hw1 hc1 hb1 a1 r1), (hw1, eW true), (hc1, eA cy f1), (hb1, eA cy g1), (h2, eR hw2 hc2 hb2 a2 r2), (hw2, eW false), (hc2, eA cy f2), (hb2, eA cy g2), (ho, eO (o_L_wideCount f1 nv p1).2 sv), (m0, eM m1 m2 (o_X5_wideCount f1 p1).2 (r1 + r2) kn), (m1, eMR true mc1 a1), (mc1, eA cy f1), (m2, eMR false mc2 a2), (mc2, eA cy f2)]) [0, 1, 2, 3, 4, 5, 6, 7, 8, 9, 10, 11, 12, 13, 14] (by decide +kernel) rfl
  refine lv_istore (lv' := [(6, .int ((o_X5_wideCount f1 p1).1)), (5, .int ((o_L_wideCount f1 nv p1).1)), (0, .ref b), (1, .ref h0), (2, .ref m0), (3, .ref ho), (4, .int (nI i))]) hx hb dL_law_1759 hl (by decide +kernel) rfl (fun ls hl => ?_)
  refine lv_aload_n hx hb dL_law_1761 rfl (lv_at hl 4 rfl) ?_
  have hPc := hP.sub (ws' := [(m0, eM m1 m2 (o_X5_wideCount f1 p1).2 (r1 + r2) kn)]) [10] rfl
  have hKc := hK.sub (tys' := []) [] rfl
  refine va_calli (va_runV (As := []) (rest := []) ⟨hx, hb, hml, hown, hts⟩ (k_X5_thrown l dC dI m0 m1 m2 ((o_X5_wideCount f1 p1).2) (r1 + r2) kn H.size) (cwV 0 hts gL_law_X5_thrown rfl rfl rfl (by decide +kernel) ⟨Nat.le_of_ble_eq_true rfl, Nat.le_of_ble_eq_true rfl⟩) (xB.preV hKc hPc (ci := 7) (q0 := 0) rfl rfl) rfl rfl hl.1 rfl (lv_room (Nat.le_of_ble_eq_true rfl)) dL_law_1762 ⟨(show _ ≤ 716141 by omega), (show _ ≤ 6947682 by omega)⟩) hS xA_old (fun q h => hA q (Nat.le_trans hS.1 h)) (fun r_3 u t H locs ht hvm hw hB hz hk hS => ?_)
  replace hw : r_3 = (o_X5_thrown ((o_X5_wideCount f1 p1).2)) := hw
  subst r_3
  have hP := xP_keep hP hk
  refine lv_iload hx hb dL_law_1765 (lv_at hl 1 rfl) ?_
  refine lv_icmp_eq (tgt := 1772) hx hb dL_law_1767 (by decide +kernel) (fun c9 => ?_) (fun c9 => absurd (show o_X5_thrown _ = _ from (qx_wideCount).symm) c9)
  refine lv_iload hx hb dL_law_1772 (lv_at hl 1 rfl) ?_
  refine lv_if_ne (tgt := 1790) hx hb dL_law_1774 (by decide +kernel) (fun c_4 => ?_) (fun c_4 => ?_)
  · skip
    refine lv_goto (tgt := 3660) hx hb dL_law_1790 (by decide +kernel) ?_
    refine W.widen (k := cells + 760) (n := slots + 4500) (by omega) (by omega) ?_
    exact K a1 r1 f1 g1 a2 r2 f2 g2 kn ((o_L_wideCount f1 nv p1).2) sv ((o_X5_wideCount f1 p1).2) a1 f1 a2 f2 (r1 + r2) kn _ _ _ rfl rfl rfl rfl rfl rfl hka1 hka2 hP hD hS (lv_sub hl [2, 3, 4, 5, 6] rfl)
  · skip
    refine lv_aload_n hx hb dL_law_1777 rfl (lv_at hl 5 rfl) ?_
    refine va_getN (D := (dC, dI)) (ci := 5) (v := .long ((o_L_wideCount f1 nv p1).2)) (C := RX3) (T := TX3) (N := 2) hx hb hts (by decide +kernel) hown hK hP 9 rfl rfl 0 (by decide +kernel) (va_Nw.use rfl (hG.1 (.fieldLinkNest RL 13 "EdgefloatsLaw$Out" "n" "J" RL) (List.mem_of_getElem? (i := 6) rfl))) (fun _ h9 => h9) rfl dL_law_1778 ?_
    refine lv_iload hx hb dL_law_1781 (lv_at hl 0 rfl) ?_
    refine lv_i2l (v := (((o_X5_wideCount f1 p1).1).toInt64)) hx hb dL_law_1783 rfl ?_
    refine xc_eq (tgt := 1790) hx hb dL_law_1784 dL_law_1785 (by decide +kernel) (fun c9 => ?_) (fun c9 => absurd ((qn_wideCount).trans (if_pos ((qx_wideCount).symm.trans c_4))) c9)
    refine lv_goto (tgt := 3660) hx hb dL_law_1790 (by decide +kernel) ?_
    refine W.widen (k := cells + 760) (n := slots + 4500) (by omega) (by omega) ?_
    exact K a1 r1 f1 g1 a2 r2 f2 g2 kn ((o_L_wideCount f1 nv p1).2) sv ((o_X5_wideCount f1 p1).2) a1 f1 a2 f2 (r1 + r2) kn _ _ _ rfl rfl rfl rfl rfl rfl hka1 hka2 hP hD hS (lv_sub hl [2, 3, 4, 5, 6] rfl)
