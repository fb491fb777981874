/-! THE CLAIM OUT OF ONE WALK OF THE LAW'S BODY. Your part is whole_start (and what it stands on); all else here is the same for every law, but numbers. -/
noncomputable def R_law : String := "EdgefloatsLaw"
noncomputable def lw_P (b : Addr) (xs : List Int32) (args : Array Value) (s : State) : Prop := args = #[.ref b] ∧ s.IntsAt b xs ∧ xs.length ≤ 2048 ∧ (Jvm.Cond.and given_1 narrow_1).before args s = true
noncomputable def lw_Q (_ : Array Value) (s : State) (o : Outcome) (t : State) : Prop := o = .returned (some (.int 1)) ∧ Framed s o t [] 989448 6127760
noncomputable def lw_Z (below : List Frame) (a : Array Value) (s : State) : State → Prop := fun t => ∃ o, t.status = .running ∧ Ended t below o ∧ lw_Q a s o t
/-- the law's own end, with 1 on the stack, nothing written that was there before, its room as the claim has it -/
theorem lw_ret {p : Program} {l : Launch} {e : Env} {s : State} {m : MethodId} {below : List Frame} {meth : Method} {c : Code} {b : Nat} (hx : p.tables.exec = Jvm.exec) (hb : c.code = code) (hr : meth.sig.returnType = ret) (hlocks : meth.locks = false) {pc : Nat} {H : Heap} {ls : Array Slot} (hdg : decode code pc = .ok (.ireturn, 1)) : W p l e room_1 s m #[Value.ref b] below meth c H [] 989448 6127760 (lw_Z below #[Value.ref b] s) (F0 m pc ls [.int 1]) := by
  intro T hT X
  obtain ⟨fs, hret, hrun, hended, hW, hframe⟩ := X.leave (v := some (.int 1)) (hlocks := hlocks) (fun h => by rw [hr] at h; cases h)
  have hmeth' : T.vm.method? m = some meth := X.method'
  refine ⟨T.setFrames fs, ?_, .returned (some (.int 1)), hrun, hended, rfl, ⟨_, rfl⟩, hW, hframe⟩
  jvm_step X.here [X.here.top, hx, hb, hdg, hmeth', hr, ret, narrow_b1]
  (try refine ⟨rfl, ?_⟩); (try refine ⟨rfl, ?_⟩)
  first | (intro acts; rw [hret _ acts rfl rfl rfl]) | rw [hret _ _ rfl rfl rfl]
  exact Steps.refl _
/-- what holds at the law's entry: the machine, the code, the tables' words (any of lw_tbl by 'hts w (by decide +kernel)'), the script of L ints xs at the cell b, what the Statement gives of the start (any of its parts by flat_of_before) -/
noncomputable def lw_At (p : Program) (s : State) (m : MethodId) (meth : Method) (c : Code) (b L : Nat) (xs : Nat → Int32) : Prop :=
  p.tables.exec = Jvm.exec ∧ c.code = code ∧ meth.sig.returnType = ret ∧ c.maxLocals = 7 ∧ s.vm.findClass R_law = some m.cls ∧ (∀ w ∈ lw_tbl, w.before #[Value.ref b] s = true) ∧ va_X b L xs s s.heap ∧ b < s.heap.size ∧ meth.locks = false ∧ (Jvm.Cond.and given_1 narrow_1).before #[Value.ref b] s = true
/-! the law: what holds at each of its states -/
theorem nI_p2 (n : Nat) : nI n + 2 = nI (n + 2) := nI_add n 2
theorem nI_p3 (n : Nat) : nI n + 3 = nI (n + 3) := nI_add n 3
theorem nI_p4 (n : Nat) : nI n + 4 = nI (n + 4) := nI_add n 4
section XSL
variable {p : Program} {l : Launch} {e : Env} {R : Room} {s : State} {m : MethodId} {args : Array Value} {below : List Frame} {meth : Method} {c : Code} {H : Heap} {locs : List Loc} {cells slots : Nat} {Q : State → Prop}
variable {pc : Nat} {ls : Array Slot} {rest : List Value} {cc : ByteArray} {H0 : Heap} {A : Nat → Prop}
theorem xa_sld (hexec : p.tables.exec = Jvm.exec) (hb : c.code = cc) {b L : Nat} {xs : Nat → Int32} (hX : va_X b L xs s H0) (hbl : b < H0.size) (hbA : ¬ A b) (hS : va_S A H0 H locs) {k : Nat} (hk : k < L) (hL : L ≤ 2048) {v : Int32} (hv : xs k = v) (hdg : decode cc pc = .ok (.iaload, 1))
    (kk : W p l e R s m args below meth c H locs cells slots Q (F0 m (pc + 1) ls (.int v :: rest))) : W p l e R s m args below meth c H locs cells slots Q (F0 m pc ls (.int (nI k) :: .ref b :: rest)) := by
  subst hv
  refine va_sld hexec hb hX hbl hbA hS (vp_in_nI hk (by omega)) hdg ?_
  rw [nI_clamp (by omega)]
  exact kk
end XSL
noncomputable def lw_C (l : Launch) (p : Program) (e : Env) (s : State) (m : MethodId) (below : List Frame) (meth : Method) (c : Code) (b L N : Nat) (xs : Nat → Int32) (A : Nat → Prop) (dC : Nat → ClassId) (dI : Nat → Nat → Nat) (cy cB : ClassId) : Prop := l.flags = flags0 ∧ p.tables.exec = Jvm.exec ∧ c.code = cL_law ∧ meth.sig.returnType = ret ∧ c.maxLocals = 7 ∧ s.vm.findClass RL = some m.cls ∧ (∀ w ∈ wsL_law, w.before #[Value.ref b] s = true) ∧ va_X b L xs s s.heap ∧ b < s.heap.size ∧ ¬ A b ∧ meth.locks = false ∧ va_K (dC, dI) xCl [(cy, .long), (cB, .byte)] s ∧ gG N s s.heap ∧ va_Nc "java/lang/IllegalArgumentException" "java/lang/IndexOutOfBoundsException" s ∧ (∀ q, s.heap.size ≤ q → A q) ∧ (∀ q, A q → N ≤ q) ∧ N ≤ s.heap.size ∧ L ≤ 2048 ∧ gT N s s.heap ∧ s.heap.size ≤ N
noncomputable def lw_K (l : Launch) (p : Program) (e : Env) (s : State) (m : MethodId) (below : List Frame) (meth : Method) (c : Code) (b L N : Nat) (xs : Nat → Int32) (A : Nat → Prop) (dC : Nat → ClassId) (dI : Nat → Nat → Nat) (cy cB : ClassId) (h0 h1 hw1 hc1 hb1 h2 hw2 hc2 hb2 ho m0 m1 mc1 m2 mc2 : Nat) (i cells slots pcX : Nat) : Prop := ∀ (a1 : Int32) (r1 : Int32) (f1 : Nat → Int64) (g1 : Nat → Int64) (a2 : Int32) (r2 : Int32) (f2 : Nat → Int64) (g2 : Nat → Int64) (kn : Int32) (nv : Int64) (sv : Value) (th : Int32) (b1 : Int32) (e1 : Nat → Int64) (b2 : Int32) (e2 : Nat → Int64) (rf : Int32) (kn2 : Int32) (H : Heap) (locs : List Loc) (ls : Array Slot), b1 = a1 → e1 = f1 → b2 = a2 → e2 = f2 → rf = r1 + r2 → kn2 = kn → okA true f1 → okA false f2 → va_P (dC, dI) xCl [(h0, eE h1 h2 kn), (h1, eR hw1 hc1 hb1 a1 r1), (hw1, eW true), (hc1, eA cy f1), (hb1, eA cy g1), (h2, eR hw2 hc2 hb2 a2 r2), (hw2, eW false), (hc2, eA cy f2), (hb2, eA cy g2), (ho, eO nv sv), (m0, eM m1 m2 th rf kn2), (m1, eMR true mc1 b1), (mc1, eA cy e1), (m2, eMR false mc2 b2), (mc2, eA cy e2)] H → va_D A [(h0, eE h1 h2 kn), (h1, eR hw1 hc1 hb1 a1 r1), (hw1, eW true), (hc1, eA cy f1), (hb1, eA cy g1), (h2, eR hw2 hc2 hb2 a2 r2), (hw2, eW false), (hc2, eA cy f2), (hb2, eA cy g2), (ho, eO nv sv), (m0, eM m1 m2 th rf kn2), (m1, eMR true mc1 b1), (mc1, eA cy e1), (m2, eMR false mc2 b2), (mc2, eA cy e2)] → va_S A s.heap H locs → lv_has ls 7 [(0, .ref b), (1, .ref h0), (2, .ref m0), (3, .ref ho), (4, .int (nI i))] → W p l e room_1 s m #[Value.ref b] below meth c H locs cells slots (lw_Z below #[Value.ref b] s) (F0 m pcX ls [])
set_option maxHeartbeats 4000000 in
set_option maxRecDepth 100000 in
theorem st_0 (l : Launch) (p : Program) (e : Env) (s : State) (m : MethodId) (below : List Frame) (meth : Method) (c : Code) (b L N : Nat) (xs : Nat → Int32) (A : Nat → Prop) (dC : Nat → ClassId) (dI : Nat → Nat → Nat) (cy cB : ClassId) (h0 h1 hw1 hc1 hb1 h2 hw2 hc2 hb2 ho m0 m1 mc1 m2 mc2 : Nat) (C0 : lw_C l p e s m below meth c b L N xs A dC dI cy cB) (i : Nat) (hi : i + 4 ≤ L) (p1 p2 p3 : Int32) (hp1 : xs (i + 1) = p1) (hp2 : xs (i + 2) = p2) (hp3 : xs (i + 3) = p3) (cells slots : Nat) (hcs : cells + 760 ≤ 989448) (hss : slots + 4500 ≤ 6127760) (K : lw_K l p e s m below meth c b L N xs A dC dI cy cB h0 h1 hw1 hc1 hb1 h2 hw2 hc2 hb2 ho m0 m1 mc1 m2 mc2 i (cells + 760) (slots + 4500) 2240) (a1 : Int32) (r1 : Int32) (f1 : Nat → Int64) (g1 : Nat → Int64) (a2 : Int32) (r2 : Int32) (f2 : Nat → Int64) (g2 : Nat → Int64) (kn : Int32) (nv : Int64) (sv : Value) (th : Int32) (H : Heap) (locs : List Loc) (ls : Array Slot) (hka1 : okA true f1) (hka2 : okA false f2) (hP : va_P (dC, dI) xCl [(h0, eE h1 h2 kn), (h1, eR hw1 hc1 hb1 a1 r1), (hw1, eW true), (hc1, eA cy f1), (hb1, eA cy g1), (h2, eR hw2 hc2 hb2 a2 r2), (hw2, eW false), (hc2, eA cy f2), (hb2, eA cy g2), (ho, eO nv sv), (m0, eM m1 m2 th (r1 + r2) kn), (m1, eMR true mc1 a1), (mc1, eA cy f1), (m2, eMR false mc2 a2), (mc2, eA cy f2)] H) (hD : va_D A [(h0, eE h1 h2 kn), (h1, eR hw1 hc1 hb1 a1 r1), (hw1, eW true), (hc1, eA cy f1), (hb1, eA cy g1), (h2, eR hw2 hc2 hb2 a2 r2), (hw2, eW false), (hc2, eA cy f2), (hb2, eA cy g2), (ho, eO nv sv), (m0, eM m1 m2 th (r1 + r2) kn), (m1, eMR true mc1 a1), (mc1, eA cy f1), (m2, eMR false mc2 a2), (mc2, eA cy f2)]) (hS : va_S A s.heap H locs) (hl : lv_has ls 7 [(0, .ref b), (1, .ref h0), (2, .ref m0), (3, .ref ho), (4, .int (nI i))]) : W p l e room_1 s m #[Value.ref b] below meth c H locs cells slots (lw_Z below #[Value.ref b] s) (F0 m 252 ls []) := by
  obtain ⟨hfl, hx, hb, hr, hml, hown, hts, hX, hbl, hbA, hlocks, hK, hG, hnc, hA, hAN, hN, hL, hT, hNs⟩ := id C0
  have hok2 := me_okF hka2
  have hsp1 : ∀ k, k < 8 → o_X1_isSpoiled true (f1 k) = false := fun k hk => (hka1 k hk).2
  have hsp2 : ∀ k, k < 8 → o_X1_isSpoiled false (f2 k) = false := fun k hk => (hka2 k hk).2
  refine lv_aload_n hx hb dL_law_252 rfl (lv_at hl 1 rfl) ?_
  refine lv_aload_n hx hb dL_law_253 rfl (lv_at hl 0 rfl) ?_
  refine lv_iload hx hb dL_law_254 (lv_at hl 4 rfl) ?_
  refine lv_iconst (v := 1) hx hb dL_law_256 (by decide +kernel) ?_
  refine lv_iadd hx hb dL_law_257 ?_
  rw [nI_1 i]
  refine xa_sld hx hb hX hbl hbA hS (k := i + 1) (by omega) hL hp1 dL_law_258 ?_
  refine lv_aload_n hx hb dL_law_259 rfl (lv_at hl 0 rfl) ?_
  refine lv_iload hx hb dL_law_260 (lv_at hl 4 rfl) ?_
  refine lv_iconst (v := 2) hx hb dL_law_262 (by decide +kernel) ?_
  refine lv_iadd hx hb dL_law_263 ?_
  rw [nI_p2 i]
  refine xa_sld hx hb hX hbl hbA hS (k := i + 2) (by omega) hL hp2 dL_law_264 ?_
  refine lv_aload_n hx hb dL_law_265 rfl (lv_at hl 0 rfl) ?_
  refine lv_iload hx hb dL_law_266 (lv_at hl 4 rfl) ?_
  refine lv_iconst (v := 3) hx hb dL_law_268 (by decide +kernel) ?_
  refine lv_iadd hx hb dL_law_269 ?_
  rw [nI_p3 i]
  refine xa_sld hx hb hX hbl hbA hS (k := i + 3) (by omega) hL hp3 dL_law_270 ?_
  refine lv_aload_n hx hb dL_law_271 rfl (lv_at hl 3 rfl) ?_
  have hPc := hP.sub (ws' := [(h0, eE h1 h2 kn), (h1, eR hw1 hc1 hb1 a1 r1), (hw1, eW true), (hc1, eA cy f1), (hb1, eA cy g1), (h2, eR hw2 hc2 hb2 a2 r2), (hw2, eW false), (hc2, eA cy f2), (hb2, eA cy g2), (ho, eO nv sv)]) [0, 1, 2, 3, 4, 5, 6, 7, 8, 9] rfl
  have hDc := hD.sub (ws' := [(h0, eE h1 h2 kn), (h1, eR hw1 hc1 hb1 a1 r1), (hw1, eW true), (hc1, eA cy f1), (hb1, eA cy g1), (h2, eR hw2 hc2 hb2 a2 r2), (hw2, eW false), (hc2, eA cy f2), (hb2, eA cy g2), (ho, eO nv sv)]) [0, 1, 2, 3, 4, 5, 6, 7, 8, 9] (by decide +kernel) rfl
  have hKc := hK.sub (tys' := [(cy, .long)]) [0] rfl
  have hFc := va_free (wc := [(h0, eE h1 h2 kn), (h1, eR hw1 hc1 hb1 a1 r1), (hw1, eW true), (hc1, eA cy f1), (hb1, eA cy g1), (h2, eR hw2 hc2 hb2 a2 r2), (hw2, eW false), (hc2, eA cy f2), (hb2, eA cy g2), (ho, eO nv sv)]) hD hS hA [0, 1, 2, 3, 4, 5, 6, 7, 8, 9] rfl
  refine va_calli (vx_runSW (As := [.ref h0, .int p1, .int p2, .int p3, .ref ho]) (rest := []) ⟨hx, hb, hml, hown, hts⟩ (k_L_putWide l hfl dC dI cy h0 h1 hw1 hc1 hb1 h2 hw2 hc2 hb2 a1 r1 f1 g1 a2 r2 f2 g2 kn ho nv sv H.size N p1 p2 p3) (vx_cwSW 5 hts gL_law_L_putWide rfl rfl rfl (by decide +kernel) ⟨Nat.le_of_ble_eq_true rfl, Nat.le_of_ble_eq_true rfl⟩) (xL.preS hKc hPc hDc hAN (Nat.le_trans hN hS.1) (hG.kept hS hAN) hnc) rfl rfl hl.1 rfl (lv_room (Nat.le_of_ble_eq_true rfl)) dL_law_272 ⟨(show _ ≤ 989448 by omega), (show _ ≤ 6127760 by omega)⟩) hS (fun q _ h => hFc q h) hFc (fun r_1 u t H locs ht hvm hw hB hz hk hS => ?_)
  replace hw : r_1 = (o_L_putWide a1 r1 f1 nv p1 p2 p3).1 := hw
  subst r_1
  obtain ⟨hP1, hD1⟩ := hB
  rw [ht] at hP1
  obtain ⟨hP, hD⟩ := va_join (wr := [(m0, eM m1 m2 th (r1 + r2) kn), (m1, eMR true mc1 a1), (mc1, eA cy f1), (m2, eMR false mc2 a2), (mc2, eA cy f2)]) (w1 := [(h0, eE h1 h2 kn), (h1, eR hw1 hc1 hb1 (o_L_putWide a1 r1 f1 nv p1 p2 p3).2.1 (o_L_putWide a1 r1 f1 nv p1 p2 p3).2.2.1), (hw1, eW true), (hc1, eA cy (o_L_putWide a1 r1 f1 nv p1 p2 p3).2.2.2.1), (hb1, eA cy g1), (h2, eR hw2 hc2 hb2 a2 r2), (hw2, eW false), (hc2, eA cy f2), (hb2, eA cy g2), (ho, eO (o_L_putWide a1 r1 f1 nv p1 p2 p3).2.2.2.2 sv)]) hP hD [0, 1, 2, 3, 4, 5, 6, 7, 8, 9] [10, 11, 12, 13, 14] rfl rfl (by decide +kernel) (by decide +kernel) hk hFc hP1 hD1
  have hP := hP.sub (ws' := [(h0, eE h1 h2 kn), (h1, eR hw1 hc1 hb1 (o_L_putWide a1 r1 f1 nv p1 p2 p3).2.1 (o_L_putWide a1 r1 f1 nv p1 p2 p3).2.2.1), (hw1, eW true), (hc1, eA cy (o_L_putWide a1 r1 f1 nv p1 p2 p3).2.2.2.1), (hb1, eA cy g1), (h2, eR hw2 hc2 hb2 a2 r2), (hw2, eW false), (hc2, eA cy f2), (hb2, eA cy g2), (ho, eO (o_L_putWide a1 r1 f1 nv p1 p2 p3).2.2.2.2 sv), (m0, eM m1 m2 th (r1 + r2) kn), (m1, eMR true mc1 a1), (mc1, eA cy f1), (m2, eMR false mc2 a2), (mc2, eA cy f2)]) [5, 6, 7, 8, 9, 10, 11, 12, 13, 14, 0, 1, 2, 3, 4] rfl
  have hD := hD.sub (ws' := [(h0, eE h1 h2 kn), (h1, eR hw1 hc1 hb1 (o_L_putWide a1 r1 f1 nv p1 p2 p3).2.1 (o_L_putWide a1 r1 f1 nv p1 p2 p3).2.2.1), (hw1, eW true), (hc1, eA cy (o_L_putWide a1 r1 f1 nv p1 p2 p3).2.2.2.1), (hb1, eA cy g1), (h2, eR hw2 hc2 hb2 a2 r2), (hw2, eW false), (hc2, eA cy f2), (hb2, eA cy g2), (ho, eO (o_L_putWide a1 r1 f1 nv p1 p2 p3).2.2.2.2 sv), (m0, eM m1 m2 th (r1 + r2) kn), (m1, eMR true mc1 a1), (mc1, eA cy f1), (m2, eMR false mc2 a2), (mc2, eA cy f2)]) [5, 6, 7, 8, 9, 10, 11, 12, 13, 14, 0, 1, 2, 3, 4] (by decide +kernel) rfl
  refine lv_istore (lv' := [(5, .int ((o_L_putWide a1 r1 f1 nv p1 p2 p3).1)), (0, .ref b), (1, .ref h0), (2, .ref m0), (3, .ref ho), (4, .int (nI i))]) hx hb dL_law_275 hl (by decide +kernel) rfl (fun ls hl => ?_)
  refine lv_aload_n hx hb dL_law_277 rfl (lv_at hl 3 rfl) ?_
  refine lv_aload_n hx hb dL_law_278 rfl (lv_at hl 1 rfl) ?_
  refine lv_iload hx hb dL_law_279 (lv_at hl 5 rfl) ?_
  refine lv_iconst (v := 1) hx hb dL_law_281 (by decide +kernel) ?_
  refine lv_iadd hx hb dL_law_282 ?_
  rw [nI_1 i]
  refine xa_sld hx hb hX hbl hbA hS (k := i + 1) (by omega) hL hp1 dL_law_283 ?_
  refine lv_aload_n hx hb dL_law_284 rfl (lv_at hl 1 rfl) ?_
  refine lv_iload hx hb dL_law_285 (lv_at hl 5 rfl) ?_
  refine lv_iconst (v := 2) hx hb dL_law_287 (by decide +kernel) ?_
  refine lv_iadd hx hb dL_law_288 ?_
  rw [nI_p2 i]
  refine xa_sld hx hb hX hbl hbA hS (k := i + 2) (by omega) hL hp2 dL_law_289 ?_
  refine lv_aload_n hx hb dL_law_290 rfl (lv_at hl 1 rfl) ?_
  refine lv_iload hx hb dL_law_291 (lv_at hl 5 rfl) ?_
  refine lv_iconst (v := 3) hx hb dL_law_293 (by decide +kernel) ?_
  refine lv_iadd hx hb dL_law_294 ?_
  rw [nI_p3 i]
  refine xa_sld hx hb hX hbl hbA hS (k := i + 3) (by omega) hL hp3 dL_law_295 ?_
  have hPc := hP.sub (ws' := [(m0, eM m1 m2 th (r1 + r2) kn), (m1, eMR true mc1 a1), (mc1, eA cy f1), (m2, eMR false mc2 a2), (mc2, eA cy f2)]) [10, 11, 12, 13, 14] rfl
  have hDc := hD.sub (ws' := [(m0, eM m1 m2 th (r1 + r2) kn), (m1, eMR true mc1 a1), (mc1, eA cy f1), (m2, eMR false mc2 a2), (mc2, eA cy f2)]) [10, 11, 12, 13, 14] (by decide +kernel) rfl
  have hKc := hK.sub (tys' := [(cy, .long)]) [0] rfl
  have hFc := va_free (wc := [(m0, eM m1 m2 th (r1 + r2) kn), (m1, eMR true mc1 a1), (mc1, eA cy f1), (m2, eMR false mc2 a2), (mc2, eA cy f2)]) hD hS hA [10, 11, 12, 13, 14] rfl
  refine va_calli (va_runV (As := [.int p1, .int p2, .int p3]) (rest := []) ⟨hx, hb, hml, hown, hts⟩ (k_X5_putWide l dC dI cy m0 m1 mc1 m2 mc2 a1 f1 a2 f2 th (r1 + r2) kn H.size N p1 p2 p3) (cwV 3 hts gL_law_X5_putWide rfl rfl rfl (by decide +kernel) ⟨Nat.le_of_ble_eq_true rfl, Nat.le_of_ble_eq_true rfl⟩) (xM.preV hKc hPc hDc hAN (Nat.le_trans hN hS.1) (hG.kept hS hAN) (ci := 7) (q0 := 0) rfl rfl) rfl rfl hl.1 rfl (lv_room (Nat.le_of_ble_eq_true rfl)) dL_law_296 ⟨(show _ ≤ 989448 by omega), (show _ ≤ 6127760 by omega)⟩) hS (fun q _ h => hFc q h) hFc (fun r_2 u t H locs ht hvm hw hB hz hk hS => ?_)
  replace hw : r_2 = (o_X5_putWide a1 f1 (r1 + r2) p1 p2 p3).1 := hw
  subst r_2
  obtain ⟨hP1, hD1⟩ := hB
  rw [ht] at hP1
  obtain ⟨hP, hD⟩ := va_join (wr := [(h0, eE h1 h2 kn), (h1, eR hw1 hc1 hb1 (o_L_putWide a1 r1 f1 nv p1 p2 p3).2.1 (o_L_putWide a1 r1 f1 nv p1 p2 p3).2.2.1), (hw1, eW true), (hc1, eA cy (o_L_putWide a1 r1 f1 nv p1 p2 p3).2.2.2.1), (hb1, eA cy g1), (h2, eR hw2 hc2 hb2 a2 r2), (hw2, eW false), (hc2, eA cy f2), (hb2, eA cy g2), (ho, eO (o_L_putWide a1 r1 f1 nv p1 p2 p3).2.2.2.2 sv)]) (w1 := [(m0, eM m1 m2 (o_X5_putWide a1 f1 (r1 + r2) p1 p2 p3).2.2.2.1 (o_X5_putWide a1 f1 (r1 + r2) p1 p2 p3).2.2.2.2 kn), (m1, eMR true mc1 (o_X5_putWide a1 f1 (r1 + r2) p1 p2 p3).2.1), (mc1, eA cy (o_X5_putWide a1 f1 (r1 + r2) p1 p2 p3).2.2.1), (m2, eMR false mc2 a2), (mc2, eA cy f2)]) hP hD [10, 11, 12, 13, 14] [0, 1, 2, 3, 4, 5, 6, 7, 8, 9] rfl rfl (by decide +kernel) (by decide +kernel) hk hFc hP1 hD1
  have hP := hP.sub (ws' := [(h0, eE h1 h2 kn), (h1, eR hw1 hc1 hb1 (o_L_putWide a1 r1 f1 nv p1 p2 p3).2.1 (o_L_putWide a1 r1 f1 nv p1 p2 p3).2.2.1), (hw1, eW true), (hc1, eA cy (o_L_putWide a1 r1 f1 nv p1 p2 p3).2.2.2.1), (hb1, eA cy g1), (h2, eR hw2 hc2 hb2 a2 r2), (hw2, eW false), (hc2, eA cy f2), (hb2, eA cy g2), (ho, eO (o_L_putWide a1 r1 f1 nv p1 p2 p3).2.2.2.2 sv), (m0, eM m1 m2 (o_X5_putWide a1 f1 (r1 + r2) p1 p2 p3).2.2.2.1 (o_X5_putWide a1 f1 (r1 + r2) p1 p2 p3).2.2.2.2 kn), (m1, eMR true mc1 (o_X5_putWide a1 f1 (r1 + r2) p1 p2 p3).2.1), (mc1, eA cy (o_X5_putWide a1 f1 (r1 + r2) p1 p2 p3).2.2.1), (m2, eMR false mc2 a2), (mc2, eA cy f2)]) [0, 1, 2, 3, 4, 5, 6, 7, 8, 9, 10, 11, 12, 13, 14] rfl
  have hD := hD.sub (ws' := [(h0, eE h1 h2 kn), (h1, eR hw1 hc1 hb1 (o_L_putWide a1 r1 f1 nv p1 p2 p3).2.1 (o_L_putWide a1 r1 f1 nv p1 p2 p3).2.2.1), (hw1, eW true), (hc1, eA cy (o_L_putWide a1 r1 f1 nv p1 p2 p3).2.2.2.1), (hb1, eA cy g1), (h2, eR hw2 hc2 hb2 a2 r2), (hw2, eW false), (hc2, eA cy f2), (hb2, eA cy g2), (ho, eO (o_L_putWide a1 r1 f1 nv p1 p2 p3).2.2.2.2 sv), (m0, eM m1 m2 (o_X5_putWide a1 f1 (r1 + r2) p1 p2 p3).2.2.2.1 (o_X5_putWide a1 f1 (r1 + r2) p1 p2 p3).2.2.2.2 kn), (m1, eMR true mc1 (o_X5_putWide a1 f1 (r1 + r2) p1 p2 p3).2.1), (mc1, eA cy (o_X5_putWide a1 f1 (r1 + r2) p1 p2 p3).2.2.1), (m2, eMR false mc2 a2), (mc2, eA cy f2)]) [0, 1, 2, 3, 4, 5, 6, 7, 8, 9, 10, 11, 12, 13, 14] (by decide +kernel) rfl
  refine lv_istore (lv' := [(6, .int ((o_X5_putWide a1 f1 (r1 + r2) p1 p2 p3).1)), (5, .int ((o_L_putWide a1 r1 f1 nv p1 p2 p3).1)), (0, .ref b), (1, .ref h0), (2, .ref m0), (3, .ref ho), (4, .int (nI i))]) hx hb dL_law_299 hl (by decide +kernel) rfl (fun ls hl => ?_)
  refine lv_goto (tgt := 2240) hx hb dL_law_301 (by decide +kernel) ?_
  refine W.widen (k := cells + 760) (n := slots + 4500) (by omega) (by omega) ?_
  have qe_b1 : (o_X5_putWide a1 f1 (r1 + r2) p1 p2 p3).2.1 = (o_L_putWide a1 r1 f1 nv p1 p2 p3).2.1 := (by have hm := ml_putWide a1 r1 r2 nv p1 p2 p3 hka1; exact hm.2.1.symm)
  have qe_e1 : (o_X5_putWide a1 f1 (r1 + r2) p1 p2 p3).2.2.1 = (o_L_putWide a1 r1 f1 nv p1 p2 p3).2.2.2.1 := (by have hm := ml_putWide a1 r1 r2 nv p1 p2 p3 hka1; exact hm.2.2.2.1.symm)
  have qe_rf : (o_X5_putWide a1 f1 (r1 + r2) p1 p2 p3).2.2.2.2 = (o_L_putWide a1 r1 f1 nv p1 p2 p3).2.2.1 + r2 := (by have hm := ml_putWide a1 r1 r2 nv p1 p2 p3 hka1; exact hm.2.2.1.symm)
  have qk_1 : okA true ((o_L_putWide a1 r1 f1 nv p1 p2 p3).2.2.2.1) := (by have hm := ml_putWide a1 r1 r2 nv p1 p2 p3 hka1; rw [hm.2.2.2.1]; exact hm.2.2.2.2.2)
  exact K ((o_L_putWide a1 r1 f1 nv p1 p2 p3).2.1) ((o_L_putWide a1 r1 f1 nv p1 p2 p3).2.2.1) ((o_L_putWide a1 r1 f1 nv p1 p2 p3).2.2.2.1) g1 a2 r2 f2 g2 kn ((o_L_putWide a1 r1 f1 nv p1 p2 p3).2.2.2.2) sv ((o_X5_putWide a1 f1 (r1 + r2) p1 p2 p3).2.2.2.1) ((o_X5_putWide a1 f1 (r1 + r2) p1 p2 p3).2.1) ((o_X5_putWide a1 f1 (r1 + r2) p1 p2 p3).2.2.1) a2 f2 ((o_X5_putWide a1 f1 (r1 + r2) p1 p2 p3).2.2.2.2) kn _ _ _ qe_b1 qe_e1 rfl rfl qe_rf rfl qk_1 hka2 hP hD hS (lv_sub hl [2, 3, 4, 5, 6] rfl)
set_option maxHeartbeats 4000000 in
set_option maxRecDepth 100000 in
theorem st_1 (l : Launch) (p : Program) (e : Env) (s : State) (m : MethodId) (below : List Frame) (meth : Method) (c : Code) (b L N : Nat) (xs : Nat → Int32) (A : Nat → Prop) (dC : Nat → ClassId) (dI : Nat → Nat → Nat) (cy cB : ClassId) (h0 h1 hw1 hc1 hb1 h2 hw2 hc2 hb2 ho m0 m1 mc1 m2 mc2 : Nat) (C0 : lw_C l p e s m below meth c b L N xs A dC dI cy cB) (i : Nat) (hi : i + 4 ≤ L) (p1 p2 p3 : Int32) (hp1 : xs (i + 1) = p1) (hp2 : xs (i + 2) = p2) (hp3 : xs (i + 3) = p3) (cells slots : Nat) (hcs : cells + 760 ≤ 989448) (hss : slots + 4500 ≤ 6127760) (K : lw_K l p e s m below meth c b L N xs A dC dI cy cB h0 h1 hw1 hc1 hb1 h2 hw2 hc2 hb2 ho m0 m1 mc1 m2 mc2 i (cells + 760) (slots + 4500) 2240) (a1 : Int32) (r1 : Int32) (f1 : Nat → Int64) (g1 : Nat → Int64) (a2 : Int32) (r2 : Int32) (f2 : Nat → Int64) (g2 : Nat → Int64) (kn : Int32) (nv : Int64) (sv : Value) (th : Int32) (H : Heap) (locs : List Loc) (ls : Array Slot) (hka1 : okA true f1) (hka2 : okA false f2) (hP : va_P (dC, dI) xCl [(h0, eE h1 h2 kn), (h1, eR hw1 hc1 hb1 a1 r1), (hw1, eW true), (hc1, eA cy f1), (hb1, eA cy g1), (h2, eR hw2 hc2 hb2 a2 r2), (hw2, eW false), (hc2, eA cy f2), (hb2, eA cy g2), (ho, eO nv sv), (m0, eM m1 m2 th (r1 + r2) kn), (m1, eMR true mc1 a1), (mc1, eA cy f1), (m2, eMR false mc2 a2), (mc2, eA cy f2)] H) (hD : va_D A [(h0, eE h1 h2 kn), (h1, eR hw1 hc1 hb1 a1 r1), (hw1, eW true), (hc1, eA cy f1), (hb1, eA cy g1), (h2, eR hw2 hc2 hb2 a2 r2), (hw2, eW false), (hc2, eA cy f2), (hb2, eA cy g2), (ho, eO nv sv), (m0, eM m1 m2 th (r1 + r2) kn), (m1, eMR true mc1 a1), (mc1, eA cy f1), (m2, eMR false mc2 a2), (mc2, eA cy f2)]) (hS : va_S A s.heap H locs) (hl : lv_has ls 7 [(0, .ref b), (1, .ref h0), (2, .ref m0), (3, .ref ho), (4, .int (nI i))]) : W p l e room_1 s m #[Value.ref b] below meth c H locs cells slots (lw_Z below #[Value.ref b] s) (F0 m 304 ls []) := by
  obtain ⟨hfl, hx, hb, hr, hml, hown, hts, hX, hbl, hbA, hlocks, hK, hG, hnc, hA, hAN, hN, hL, hT, hNs⟩ := id C0
  have hok2 := me_okF hka2
  have hsp1 : ∀ k, k < 8 → o_X1_isSpoiled true (f1 k) = false := fun k hk => (hka1 k hk).2
  have hsp2 : ∀ k, k < 8 → o_X1_isSpoiled false (f2 k) = false := fun k hk => (hka2 k hk).2
  refine lv_aload_n hx hb dL_law_304 rfl (lv_at hl 1 rfl) ?_
  refine lv_aload_n hx hb dL_law_305 rfl (lv_at hl 0 rfl) ?_
  refine lv_iload hx hb dL_law_306 (lv_at hl 4 rfl) ?_
  refine lv_iconst (v := 1) hx hb dL_law_308 (by decide +kernel) ?_
  refine lv_iadd hx hb dL_law_309 ?_
  rw [nI_1 i]
  refine xa_sld hx hb hX hbl hbA hS (k := i + 1) (by omega) hL hp1 dL_law_310 ?_
  refine lv_aload_n hx hb dL_law_311 rfl (lv_at hl 0 rfl) ?_
  refine lv_iload hx hb dL_law_312 (lv_at hl 4 rfl) ?_
  refine lv_iconst (v := 2) hx hb dL_law_314 (by decide +kernel) ?_
  refine lv_iadd hx hb dL_law_315 ?_
  rw [nI_p2 i]
  refine xa_sld hx hb hX hbl hbA hS (k := i + 2) (by omega) hL hp2 dL_law_316 ?_
  refine lv_aload_n hx hb dL_law_317 rfl (lv_at hl 3 rfl) ?_
  have hPc := hP.sub (ws' := [(h0, eE h1 h2 kn), (h1, eR hw1 hc1 hb1 a1 r1), (hw1, eW true), (hc1, eA cy f1), (hb1, eA cy g1), (h2, eR hw2 hc2 hb2 a2 r2), (hw2, eW false), (hc2, eA cy f2), (hb2, eA cy g2), (ho, eO nv sv)]) [0, 1, 2, 3, 4, 5, 6, 7, 8, 9] rfl
  have hDc := hD.sub (ws' := [(h0, eE h1 h2 kn), (h1, eR hw1 hc1 hb1 a1 r1), (hw1, eW true), (hc1, eA cy f1), (hb1, eA cy g1), (h2, eR hw2 hc2 hb2 a2 r2), (hw2, eW false), (hc2, eA cy f2), (hb2, eA cy g2), (ho, eO nv sv)]) [0, 1, 2, 3, 4, 5, 6, 7, 8, 9] (by decide +kernel) rfl
  have hKc := hK.sub (tys' := [(cy, .long)]) [0] rfl
  have hFc := va_free (wc := [(h0, eE h1 h2 kn), (h1, eR hw1 hc1 hb1 a1 r1), (hw1, eW true), (hc1, eA cy f1), (hb1, eA cy g1), (h2, eR hw2 hc2 hb2 a2 r2), (hw2, eW false), (hc2, eA cy f2), (hb2, eA cy g2), (ho, eO nv sv)]) hD hS hA [0, 1, 2, 3, 4, 5, 6, 7, 8, 9] rfl
  refine va_calli (vx_runSW (As := [.ref h0, .int p1, .int p2, .ref ho]) (rest := []) ⟨hx, hb, hml, hown, hts⟩ (k_L_wideQuarters l hfl dC dI cy h0 h1 hw1 hc1 hb1 h2 hw2 hc2 hb2 a1 r1 f1 g1 a2 r2 f2 g2 kn ho nv sv H.size N p1 p2) (vx_cwSW 4 hts gL_law_L_wideQuarters rfl rfl rfl (by decide +kernel) ⟨Nat.le_of_ble_eq_true rfl, Nat.le_of_ble_eq_true rfl⟩) (xL.preS hKc hPc hDc hAN (Nat.le_trans hN hS.1) (hG.kept hS hAN) hnc) rfl rfl hl.1 rfl (lv_room (Nat.le_of_ble_eq_true rfl)) dL_law_318 ⟨(show _ ≤ 989448 by omega), (show _ ≤ 6127760 by omega)⟩) hS (fun q _ h => hFc q h) hFc (fun r_1 u t H locs ht hvm hw hB hz hk hS => ?_)
  replace hw : r_1 = (o_L_wideQuarters a1 f1 nv p1 p2).1 := hw
  subst r_1
  obtain ⟨hP1, hD1⟩ := hB
  rw [ht] at hP1
  obtain ⟨hP, hD⟩ := va_join (wr := [(m0, eM m1 m2 th (r1 + r2) kn), (m1, eMR true mc1 a1), (mc1, eA cy f1), (m2, eMR false mc2 a2), (mc2, eA cy f2)]) (w1 := [(h0, eE h1 h2 kn), (h1, eR hw1 hc1 hb1 (o_L_wideQuarters a1 f1 nv p1 p2).2.1 r1), (hw1, eW true), (hc1, eA cy (o_L_wideQuarters a1 f1 nv p1 p2).2.2.1), (hb1, eA cy g1), (h2, eR hw2 hc2 hb2 a2 r2), (hw2, eW false), (hc2, eA cy f2), (hb2, eA cy g2), (ho, eO (o_L_wideQuarters a1 f1 nv p1 p2).2.2.2 sv)]) hP hD [0, 1, 2, 3, 4, 5, 6, 7, 8, 9] [10, 11, 12, 13, 14] rfl rfl (by decide +kernel) (by decide +kernel) hk hFc hP1 hD1
  have hP := hP.sub (ws' := [(h0, eE h1 h2 kn), (h1, eR hw1 hc1 hb1 (o_L_wideQuarters a1 f1 nv p1 p2).2.1 r1), (hw1, eW true), (hc1, eA cy (o_L_wideQuarters a1 f1 nv p1 p2).2.2.1), (hb1, eA cy g1), (h2, eR hw2 hc2 hb2 a2 r2), (hw2, eW false), (hc2, eA cy f2), (hb2, eA cy g2), (ho, eO (o_L_wideQuarters a1 f1 nv p1 p2).2.2.2 sv), (m0, eM m1 m2 th (r1 + r2) kn), (m1, eMR true mc1 a1), (mc1, eA cy f1), (m2, eMR false mc2 a2), (mc2, eA cy f2)]) [5, 6, 7, 8, 9, 10, 11, 12, 13, 14, 0, 1, 2, 3, 4] rfl
  have hD := hD.sub (ws' := [(h0, eE h1 h2 kn), (h1, eR hw1 hc1 hb1 (o_L_wideQuarters a1 f1 nv p1 p2).2.1 r1), (hw1, eW true), (hc1, eA cy (o_L_wideQuarters a1 f1 nv p1 p2).2.2.1), (hb1, eA cy g1), (h2, eR hw2 hc2 hb2 a2 r2), (hw2, eW false), (hc2, eA cy f2), (hb2, eA cy g2), (ho, eO (o_L_wideQuarters a1 f1 nv p1 p2).2.2.2 sv), (m0, eM m1 m2 th (r1 + r2) kn), (m1, eMR true mc1 a1), (mc1, eA cy f1), (m2, eMR false mc2 a2), (mc2, eA cy f2)]) [5, 6, 7, 8, 9, 10, 11, 12, 13, 14, 0, 1, 2, 3, 4] (by decide +kernel) rfl
  refine lv_istore (lv' := [(5, .int ((o_L_wideQuarters a1 f1 nv p1 p2).1)), (0, .ref b), (1, .ref h0), (2, .ref m0), (3, .ref ho), (4, .int (nI i))]) hx hb dL_law_321 hl (by decide +kernel) rfl (fun ls hl => ?_)
  refine lv_aload_n hx hb dL_law_323 rfl (lv_at hl 3 rfl) ?_
  refine lv_aload_n hx hb dL_law_324 rfl (lv_at hl 1 rfl) ?_
  refine lv_iload hx hb dL_law_325 (lv_at hl 5 rfl) ?_
  refine lv_iconst (v := 1) hx hb dL_law_327 (by decide +kernel) ?_
  refine lv_iadd hx hb dL_law_328 ?_
  rw [nI_1 i]
  refine xa_sld hx hb hX hbl hbA hS (k := i + 1) (by omega) hL hp1 dL_law_329 ?_
  refine lv_aload_n hx hb dL_law_330 rfl (lv_at hl 1 rfl) ?_
  refine lv_iload hx hb dL_law_331 (lv_at hl 5 rfl) ?_
  refine lv_iconst (v := 2) hx hb dL_law_333 (by decide +kernel) ?_
  refine lv_iadd hx hb dL_law_334 ?_
  rw [nI_p2 i]
  refine xa_sld hx hb hX hbl hbA hS (k := i + 2) (by omega) hL hp2 dL_law_335 ?_
  have hPc := hP.sub (ws' := [(m0, eM m1 m2 th (r1 + r2) kn), (m1, eMR true mc1 a1), (mc1, eA cy f1), (m2, eMR false mc2 a2), (mc2, eA cy f2)]) [10, 11, 12, 13, 14] rfl
  have hDc := hD.sub (ws' := [(m0, eM m1 m2 th (r1 + r2) kn), (m1, eMR true mc1 a1), (mc1, eA cy f1), (m2, eMR false mc2 a2), (mc2, eA cy f2)]) [10, 11, 12, 13, 14] (by decide +kernel) rfl
  have hKc := hK.sub (tys' := [(cy, .long)]) [0] rfl
  have hFc := va_free (wc := [(m0, eM m1 m2 th (r1 + r2) kn), (m1, eMR true mc1 a1), (mc1, eA cy f1), (m2, eMR false mc2 a2), (mc2, eA cy f2)]) hD hS hA [10, 11, 12, 13, 14] rfl
  refine va_calli (va_runV (As := [.int p1, .int p2]) (rest := []) ⟨hx, hb, hml, hown, hts⟩ (k_X5_wideQuarters l dC dI cy m0 m1 mc1 m2 mc2 a1 f1 a2 f2 th (r1 + r2) kn H.size N p1 p2) (cwV 2 hts gL_law_X5_wideQuarters rfl rfl rfl (by decide +kernel) ⟨Nat.le_of_ble_eq_true rfl, Nat.le_of_ble_eq_true rfl⟩) (xM.preV hKc hPc hDc hAN (Nat.le_trans hN hS.1) (hG.kept hS hAN) (ci := 7) (q0 := 0) rfl rfl) rfl rfl hl.1 rfl (lv_room (Nat.le_of_ble_eq_true rfl)) dL_law_336 ⟨(show _ ≤ 989448 by omega), (show _ ≤ 6127760 by omega)⟩) hS (fun q _ h => hFc q h) hFc (fun r_2 u t H locs ht hvm hw hB hz hk hS => ?_)
  replace hw : r_2 = (o_X5_wideQuarters a1 f1 p1 p2).1 := hw
  subst r_2
  obtain ⟨hP1, hD1⟩ := hB
  rw [ht] at hP1
  obtain ⟨hP, hD⟩ := va_join (wr := [(h0, eE h1 h2 kn), (h1, eR hw1 hc1 hb1 (o_L_wideQuarters a1 f1 nv p1 p2).2.1 r1), (hw1, eW true), (hc1, eA cy (o_L_wideQuarters a1 f1 nv p1 p2).2.2.1), (hb1, eA cy g1), (h2, eR hw2 hc2 hb2 a2 r2), (hw2, eW false), (hc2, eA cy f2), (hb2, eA cy g2), (ho, eO (o_L_wideQuarters a1 f1 nv p1 p2).2.2.2 sv)]) (w1 := [(m0, eM m1 m2 (o_X5_wideQuarters a1 f1 p1 p2).2.2.2 (r1 + r2) kn), (m1, eMR true mc1 (o_X5_wideQuarters a1 f1 p1 p2).2.1), (mc1, eA cy (o_X5_wideQuarters a1 f1 p1 p2).2.2.1), (m2, eMR false mc2 a2), (mc2, eA cy f2)]) hP hD [10, 11, 12, 13, 14] [0, 1, 2, 3, 4, 5, 6, 7, 8, 9] rfl rfl (by decide +kernel) (by decide +kernel) hk hFc hP1 hD1
  have hP := hP.sub (ws' := [(h0, eE h1 h2 kn), (h1, eR hw1 hc1 hb1 (o_L_wideQuarters a1 f1 nv p1 p2).2.1 r1), (hw1, eW true), (hc1, eA cy (o_L_wideQuarters a1 f1 nv p1 p2).2.2.1), (hb1, eA cy g1), (h2, eR hw2 hc2 hb2 a2 r2), (hw2, eW false), (hc2, eA cy f2), (hb2, eA cy g2), (ho, eO (o_L_wideQuarters a1 f1 nv p1 p2).2.2.2 sv), (m0, eM m1 m2 (o_X5_wideQuarters a1 f1 p1 p2).2.2.2 (r1 + r2) kn), (m1, eMR true mc1 (o_X5_wideQuarters a1 f1 p1 p2).2.1), (mc1, eA cy (o_X5_wideQuarters a1 f1 p1 p2).2.2.1), (m2, eMR false mc2 a2), (mc2, eA cy f2)]) [0, 1, 2, 3, 4, 5, 6, 7, 8, 9, 10, 11, 12, 13, 14] rfl
  have hD := hD.sub (ws' := [(h0, eE h1 h2 kn), (h1, eR hw1 hc1 hb1 (o_L_wideQuarters a1 f1 nv p1 p2).2.1 r1), (hw1, eW true), (hc1, eA cy (o_L_wideQuarters a1 f1 nv p1 p2).2.2.1), (hb1, eA cy g1), (h2, eR hw2 hc2 hb2 a2 r2), (hw2, eW false), (hc2, eA cy f2), (hb2, eA cy g2), (ho, eO (o_L_wideQuarters a1 f1 nv p1 p2).2.2.2 sv), (m0, eM m1 m2 (o_X5_wideQuarters a1 f1 p1 p2).2.2.2 (r1 + r2) kn), (m1, eMR true mc1 (o_X5_wideQuarters a1 f1 p1 p2).2.1), (mc1, eA cy (o_X5_wideQuarters a1 f1 p1 p2).2.2.1), (m2, eMR false mc2 a2), (mc2, eA cy f2)]) [0, 1, 2, 3, 4, 5, 6, 7, 8, 9, 10, 11, 12, 13, 14] (by decide +kernel) rfl
  refine lv_istore (lv' := [(6, .int ((o_X5_wideQuarters a1 f1 p1 p2).1)), (5, .int ((o_L_wideQuarters a1 f1 nv p1 p2).1)), (0, .ref b), (1, .ref h0), (2, .ref m0), (3, .ref ho), (4, .int (nI i))]) hx hb dL_law_339 hl (by decide +kernel) rfl (fun ls hl => ?_)
  refine lv_goto (tgt := 2240) hx hb dL_law_341 (by decide +kernel) ?_
  refine W.widen (k := cells + 760) (n := slots + 4500) (by omega) (by omega) ?_
  have qe_b1 : (o_X5_wideQuarters a1 f1 p1 p2).2.1 = (o_L_wideQuarters a1 f1 nv p1 p2).2.1 := (by have hm := ml_wideQuarters a1 nv p1 p2 hka1; rw [hm.1] <;> rfl)
  have qe_e1 : (o_X5_wideQuarters a1 f1 p1 p2).2.2.1 = (o_L_wideQuarters a1 f1 nv p1 p2).2.2.1 := (by have hm := ml_wideQuarters a1 nv p1 p2 hka1; rw [hm.1] <;> rfl)
  have qk_1 : okA true ((o_L_wideQuarters a1 f1 nv p1 p2).2.2.1) := (by have hm := ml_wideQuarters a1 nv p1 p2 hka1; rw [hm.1]; exact hm.2)
  exact K ((o_L_wideQuarters a1 f1 nv p1 p2).2.1) r1 ((o_L_wideQuarters a1 f1 nv p1 p2).2.2.1) g1 a2 r2 f2 g2 kn ((o_L_wideQuarters a1 f1 nv p1 p2).2.2.2) sv ((o_X5_wideQuarters a1 f1 p1 p2).2.2.2) ((o_X5_wideQuarters a1 f1 p1 p2).2.1) ((o_X5_wideQuarters a1 f1 p1 p2).2.2.1) a2 f2 (r1 + r2) kn _ _ _ qe_b1 qe_e1 rfl rfl rfl rfl qk_1 hka2 hP hD hS (lv_sub hl [2, 3, 4, 5, 6] rfl)
set_option maxHeartbeats 4000000 in
set_option maxRecDepth 100000 in
theorem st_2 (l : Launch) (p : Program) (e : Env) (s : State) (m : MethodId) (below : List Frame) (meth : Method) (c : Code) (b L N : Nat) (xs : Nat → Int32) (A : Nat → Prop) (dC : Nat → ClassId) (dI : Nat → Nat → Nat) (cy cB : ClassId) (h0 h1 hw1 hc1 hb1 h2 hw2 hc2 hb2 ho m0 m1 mc1 m2 mc2 : Nat) (C0 : lw_C l p e s m below meth c b L N xs A dC dI cy cB) (i : Nat) (hi : i + 4 ≤ L) (p1 p2 p3 : Int32) (hp1 : xs (i + 1) = p1) (hp2 : xs (i + 2) = p2) (hp3 : xs (i + 3) = p3) (cells slots : Nat) (hcs : cells + 760 ≤ 989448) (hss : slots + 4500 ≤ 6127760) (K : lw_K l p e s m below meth c b L N xs A dC dI cy cB h0 h1 hw1 hc1 hb1 h2 hw2 hc2 hb2 ho m0 m1 mc1 m2 mc2 i (cells + 760) (slots + 4500) 2240) (a1 : Int32) (r1 : Int32) (f1 : Nat → Int64) (g1 : Nat → Int64) (a2 : Int32) (r2 : Int32) (f2 : Nat → Int64) (g2 : Nat → Int64) (kn : Int32) (nv : Int64) (sv : Value) (th : Int32) (H : Heap) (locs : List Loc) (ls : Array Slot) (hka1 : okA true f1) (hka2 : okA false f2) (hP : va_P (dC, dI) xCl [(h0, eE h1 h2 kn), (h1, eR hw1 hc1 hb1 a1 r1), (hw1, eW true), (hc1, eA cy f1), (hb1, eA cy g1), (h2, eR hw2 hc2 hb2 a2 r2), (hw2, eW false), (hc2, eA cy f2), (hb2, eA cy g2), (ho, eO nv sv), (m0, eM m1 m2 th (r1 + r2) kn), (m1, eMR true mc1 a1), (mc1, eA cy f1), (m2, eMR false mc2 a2), (mc2, eA cy f2)] H) (hD : va_D A [(h0, eE h1 h2 kn), (h1, eR hw1 hc1 hb1 a1 r1), (hw1, eW true), (hc1, eA cy f1), (hb1, eA cy g1), (h2, eR hw2 hc2 hb2 a2 r2), (hw2, eW false), (hc2, eA cy f2), (hb2, eA cy g2), (ho, eO nv sv), (m0, eM m1 m2 th (r1 + r2) kn), (m1, eMR true mc1 a1), (mc1, eA cy f1), (m2, eMR false mc2 a2), (mc2, eA cy f2)]) (hS : va_S A s.heap H locs) (hl : lv_has ls 7 [(0, .ref b), (1, .ref h0), (2, .ref m0), (3, .ref ho), (4, .int (nI i))]) : W p l e room_1 s m #[Value.ref b] below meth c H locs cells slots (lw_Z below #[Value.ref b] s) (F0 m 344 ls []) := by
  obtain ⟨hfl, hx, hb, hr, hml, hown, hts, hX, hbl, hbA, hlocks, hK, hG, hnc, hA, hAN, hN, hL, hT, hNs⟩ := id C0
  have hok2 := me_okF hka2
  have hsp1 : ∀ k, k < 8 → o_X1_isSpoiled true (f1 k) = false := fun k hk => (hka1 k hk).2
  have hsp2 : ∀ k, k < 8 → o_X1_isSpoiled false (f2 k) = false := fun k hk => (hka2 k hk).2
  refine lv_aload_n hx hb dL_law_344 rfl (lv_at hl 1 rfl) ?_
  refine lv_aload_n hx hb dL_law_345 rfl (lv_at hl 0 rfl) ?_
  refine lv_iload hx hb dL_law_346 (lv_at hl 4 rfl) ?_
  refine lv_iconst (v := 1) hx hb dL_law_348 (by decide +kernel) ?_
  refine lv_iadd hx hb dL_law_349 ?_
  rw [nI_1 i]
  refine xa_sld hx hb hX hbl hbA hS (k := i + 1) (by omega) hL hp1 dL_law_350 ?_
  refine lv_aload_n hx hb dL_law_351 rfl (lv_at hl 0 rfl) ?_
  refine lv_iload hx hb dL_law_352 (lv_at hl 4 rfl) ?_
  refine lv_iconst (v := 2) hx hb dL_law_354 (by decide +kernel) ?_
  refine lv_iadd hx hb dL_law_355 ?_
  rw [nI_p2 i]
  refine xa_sld hx hb hX hbl hbA hS (k := i + 2) (by omega) hL hp2 dL_law_356 ?_
  refine lv_aload_n hx hb dL_law_357 rfl (lv_at hl 3 rfl) ?_
  have hPc := hP.sub (ws' := [(h0, eE h1 h2 kn), (h1, eR hw1 hc1 hb1 a1 r1), (hw1, eW true), (hc1, eA cy f1), (hb1, eA cy g1), (h2, eR hw2 hc2 hb2 a2 r2), (hw2, eW false), (hc2, eA cy f2), (hb2, eA cy g2), (ho, eO nv sv)]) [0, 1, 2, 3, 4, 5, 6, 7, 8, 9] rfl
  have hDc := hD.sub (ws' := [(h0, eE h1 h2 kn), (h1, eR hw1 hc1 hb1 a1 r1), (hw1, eW true), (hc1, eA cy f1), (hb1, eA cy g1), (h2, eR hw2 hc2 hb2 a2 r2), (hw2, eW false), (hc2, eA cy f2), (hb2, eA cy g2), (ho, eO nv sv)]) [0, 1, 2, 3, 4, 5, 6, 7, 8, 9] (by decide +kernel) rfl
  have hKc := hK.sub (tys' := [(cy, .long)]) [0] rfl
  have hFc := va_free (wc := [(h0, eE h1 h2 kn), (h1, eR hw1 hc1 hb1 a1 r1), (hw1, eW true), (hc1, eA cy f1), (hb1, eA cy g1), (h2, eR hw2 hc2 hb2 a2 r2), (hw2, eW false), (hc2, eA cy f2), (hb2, eA cy g2), (ho, eO nv sv)]) hD hS hA [0, 1, 2, 3, 4, 5, 6, 7, 8, 9] rfl
  refine va_calli (vx_runSW (As := [.ref h0, .int p1, .int p2, .ref ho]) (rest := []) ⟨hx, hb, hml, hown, hts⟩ (k_L_wideKnown l hfl dC dI cy h0 h1 hw1 hc1 hb1 h2 hw2 hc2 hb2 a1 r1 f1 g1 a2 r2 f2 g2 kn ho nv sv H.size N p1 p2) (vx_cwSW 4 hts gL_law_L_wideKnown rfl rfl rfl (by decide +kernel) ⟨Nat.le_of_ble_eq_true rfl, Nat.le_of_ble_eq_true rfl⟩) (xL.preS hKc hPc hDc hAN (Nat.le_trans hN hS.1) (hG.kept hS hAN) hnc) rfl rfl hl.1 rfl (lv_room (Nat.le_of_ble_eq_true rfl)) dL_law_358 ⟨(show _ ≤ 989448 by omega), (show _ ≤ 6127760 by omega)⟩) hS (fun q _ h => hFc q h) hFc (fun r_1 u t H locs ht hvm hw hB hz hk hS => ?_)
  replace hw : r_1 = (o_L_wideKnown a1 f1 nv p1 p2).1 := hw
  subst r_1
  obtain ⟨hP1, hD1⟩ := hB
  rw [ht] at hP1
  obtain ⟨hP, hD⟩ := va_join (wr := [(m0, eM m1 m2 th (r1 + r2) kn), (m1, eMR true mc1 a1), (mc1, eA cy f1), (m2, eMR false mc2 a2), (mc2, eA cy f2)]) (w1 := [(h0, eE h1 h2 kn), (h1, eR hw1 hc1 hb1 (o_L_wideKnown a1 f1 nv p1 p2).2.1 r1), (hw1, eW true), (hc1, eA cy (o_L_wideKnown a1 f1 nv p1 p2).2.2.1), (hb1, eA cy g1), (h2, eR hw2 hc2 hb2 a2 r2), (hw2, eW false), (hc2, eA cy f2), (hb2, eA cy g2), (ho, eO (o_L_wideKnown a1 f1 nv p1 p2).2.2.2 sv)]) hP hD [0, 1, 2, 3, 4, 5, 6, 7, 8, 9] [10, 11, 12, 13, 14] rfl rfl (by decide +kernel) (by decide +kernel) hk hFc hP1 hD1
  have hP := hP.sub (ws' := [(h0, eE h1 h2 kn), (h1, eR hw1 hc1 hb1 (o_L_wideKnown a1 f1 nv p1 p2).2.1 r1), (hw1, eW true), (hc1, eA cy (o_L_wideKnown a1 f1 nv p1 p2).2.2.1), (hb1, eA cy g1), (h2, eR hw2 hc2 hb2 a2 r2), (hw2, eW false), (hc2, eA cy f2), (hb2, eA cy g2), (ho, eO (o_L_wideKnown a1 f1 nv p1 p2).2.2.2 sv), (m0, eM m1 m2 th (r1 + r2) kn), (m1, eMR true mc1 a1), (mc1, eA cy f1), (m2, eMR false mc2 a2), (mc2, eA cy f2)]) [5, 6, 7, 8, 9, 10, 11, 12, 13, 14, 0, 1, 2, 3, 4] rfl
  have hD := hD.sub (ws' := [(h0, eE h1 h2 kn), (h1, eR hw1 hc1 hb1 (o_L_wideKnown a1 f1 nv p1 p2).2.1 r1), (hw1, eW true), (hc1, eA cy (o_L_wideKnown a1 f1 nv p1 p2).2.2.1), (hb1, eA cy g1), (h2, eR hw2 hc2 hb2 a2 r2), (hw2, eW false), (hc2, eA cy f2), (hb2, eA cy g2), (ho, eO (o_L_wideKnown a1 f1 nv p1 p2).2.2.2 sv), (m0, eM m1 m2 th (r1 + r2) kn), (m1, eMR true mc1 a1), (mc1, eA cy f1), (m2, eMR false mc2 a2), (mc2, eA cy f2)]) [5, 6, 7, 8, 9, 10, 11, 12, 13, 14, 0, 1, 2, 3, 4] (by decide +kernel) rfl
  refine lv_istore (lv' := [(5, .int ((o_L_wideKnown a1 f1 nv p1 p2).1)), (0, .ref b), (1, .ref h0), (2, .ref m0), (3, .ref ho), (4, .int (nI i))]) hx hb dL_law_361 hl (by decide +kernel) rfl (fun ls hl => ?_)
  refine lv_aload_n hx hb dL_law_363 rfl (lv_at hl 3 rfl) ?_
  refine lv_aload_n hx hb dL_law_364 rfl (lv_at hl 1 rfl) ?_
  refine lv_iload hx hb dL_law_365 (lv_at hl 5 rfl) ?_
  refine lv_iconst (v := 1) hx hb dL_law_367 (by decide +kernel) ?_
  refine lv_iadd hx hb dL_law_368 ?_
  rw [nI_1 i]
  refine xa_sld hx hb hX hbl hbA hS (k := i + 1) (by omega) hL hp1 dL_law_369 ?_
  refine lv_aload_n hx hb dL_law_370 rfl (lv_at hl 1 rfl) ?_
  refine lv_iload hx hb dL_law_371 (lv_at hl 5 rfl) ?_
  refine lv_iconst (v := 2) hx hb dL_law_373 (by decide +kernel) ?_
  refine lv_iadd hx hb dL_law_374 ?_
  rw [nI_p2 i]
  refine xa_sld hx hb hX hbl hbA hS (k := i + 2) (by omega) hL hp2 dL_law_375 ?_
  have hPc := hP.sub (ws' := [(m0, eM m1 m2 th (r1 + r2) kn), (m1, eMR true mc1 a1), (mc1, eA cy f1), (m2, eMR false mc2 a2), (mc2, eA cy f2)]) [10, 11, 12, 13, 14] rfl
  have hDc := hD.sub (ws' := [(m0, eM m1 m2 th (r1 + r2) kn), (m1, eMR true mc1 a1), (mc1, eA cy f1), (m2, eMR false mc2 a2), (mc2, eA cy f2)]) [10, 11, 12, 13, 14] (by decide +kernel) rfl
  have hKc := hK.sub (tys' := [(cy, .long)]) [0] rfl
  have hFc := va_free (wc := [(m0, eM m1 m2 th (r1 + r2) kn), (m1, eMR true mc1 a1), (mc1, eA cy f1), (m2, eMR false mc2 a2), (mc2, eA cy f2)]) hD hS hA [10, 11, 12, 13, 14] rfl
  refine va_calli (va_runV (As := [.int p1, .int p2]) (rest := []) ⟨hx, hb, hml, hown, hts⟩ (k_X5_wideKnown l dC dI cy m0 m1 mc1 m2 mc2 a1 f1 a2 f2 th (r1 + r2) kn H.size N p1 p2) (cwV 2 hts gL_law_X5_wideKnown rfl rfl rfl (by decide +kernel) ⟨Nat.le_of_ble_eq_true rfl, Nat.le_of_ble_eq_true rfl⟩) (xM.preV hKc hPc hDc hAN (Nat.le_trans hN hS.1) (hG.kept hS hAN) (ci := 7) (q0 := 0) rfl rfl) rfl rfl hl.1 rfl (lv_room (Nat.le_of_ble_eq_true rfl)) dL_law_376 ⟨(show _ ≤ 989448 by omega), (show _ ≤ 6127760 by omega)⟩) hS (fun q _ h => hFc q h) hFc (fun r_2 u t H locs ht hvm hw hB hz hk hS => ?_)
  replace hw : r_2 = (o_X5_wideKnown a1 f1 p1 p2).1 := hw
  subst r_2
  obtain ⟨hP1, hD1⟩ := hB
  rw [ht] at hP1
  obtain ⟨hP, hD⟩ := va_join (wr := [(h0, eE h1 h2 kn), (h1, eR hw1 hc1 hb1 (o_L_wideKnown a1 f1 nv p1 p2).2.1 r1), (hw1, eW true), (hc1, eA cy (o_L_wideKnown a1 f1 nv p1 p2).2.2.1), (hb1, eA cy g1), (h2, eR hw2 hc2 hb2 a2 r2), (hw2, eW false), (hc2, eA cy f2), (hb2, eA cy g2), (ho, eO (o_L_wideKnown a1 f1 nv p1 p2).2.2.2 sv)]) (w1 := [(m0, eM m1 m2 (o_X5_wideKnown a1 f1 p1 p2).2.2.2 (r1 + r2) kn), (m1, eMR true mc1 (o_X5_wideKnown a1 f1 p1 p2).2.1), (mc1, eA cy (o_X5_wideKnown a1 f1 p1 p2).2.2.1), (m2, eMR false mc2 a2), (mc2, eA cy f2)]) hP hD [10, 11, 12, 13, 14] [0, 1, 2, 3, 4, 5, 6, 7, 8, 9] rfl rfl (by decide +kernel) (by decide +kernel) hk hFc hP1 hD1
  have hP := hP.sub (ws' := [(h0, eE h1 h2 kn), (h1, eR hw1 hc1 hb1 (o_L_wideKnown a1 f1 nv p1 p2).2.1 r1), (hw1, eW true), (hc1, eA cy (o_L_wideKnown a1 f1 nv p1 p2).2.2.1), (hb1, eA cy g1), (h2, eR hw2 hc2 hb2 a2 r2), (hw2, eW false), (hc2, eA cy f2), (hb2, eA cy g2), (ho, eO (o_L_wideKnown a1 f1 nv p1 p2).2.2.2 sv), (m0, eM m1 m2 (o_X5_wideKnown a1 f1 p1 p2).2.2.2 (r1 + r2) kn), (m1, eMR true mc1 (o_X5_wideKnown a1 f1 p1 p2).2.1), (mc1, eA cy (o_X5_wideKnown a1 f1 p1 p2).2.2.1), (m2, eMR false mc2 a2), (mc2, eA cy f2)]) [0, 1, 2, 3, 4, 5, 6, 7, 8, 9, 10, 11, 12, 13, 14] rfl
  have hD := hD.sub (ws' := [(h0, eE h1 h2 kn), (h1, eR hw1 hc1 hb1 (o_L_wideKnown a1 f1 nv p1 p2).2.1 r1), (hw1, eW true), (hc1, eA cy (o_L_wideKnown a1 f1 nv p1 p2).2.2.1), (hb1, eA cy g1), (h2, eR hw2 hc2 hb2 a2 r2), (hw2, eW false), (hc2, eA cy f2), (hb2, eA cy g2), (ho, eO (o_L_wideKnown a1 f1 nv p1 p2).2.2.2 sv), (m0, eM m1 m2 (o_X5_wideKnown a1 f1 p1 p2).2.2.2 (r1 + r2) kn), (m1, eMR true mc1 (o_X5_wideKnown a1 f1 p1 p2).2.1), (mc1, eA cy (o_X5_wideKnown a1 f1 p1 p2).2.2.1), (m2, eMR false mc2 a2), (mc2, eA cy f2)]) [0, 1, 2, 3, 4, 5, 6, 7, 8, 9, 10, 11, 12, 13, 14] (by decide +kernel) rfl
  refine lv_istore (lv' := [(6, .int ((o_X5_wideKnown a1 f1 p1 p2).1)), (5, .int ((o_L_wideKnown a1 f1 nv p1 p2).1)), (0, .ref b), (1, .ref h0), (2, .ref m0), (3, .ref ho), (4, .int (nI i))]) hx hb dL_law_379 hl (by decide +kernel) rfl (fun ls hl => ?_)
  refine lv_goto (tgt := 2240) hx hb dL_law_381 (by decide +kernel) ?_
  refine W.widen (k := cells + 760) (n := slots + 4500) (by omega) (by omega) ?_
  have qe_b1 : (o_X5_wideKnown a1 f1 p1 p2).2.1 = (o_L_wideKnown a1 f1 nv p1 p2).2.1 := (by have hm := ml_wideKnown a1 nv p1 p2 hka1; rw [hm.1] <;> rfl)
  have qe_e1 : (o_X5_wideKnown a1 f1 p1 p2).2.2.1 = (o_L_wideKnown a1 f1 nv p1 p2).2.2.1 := (by have hm := ml_wideKnown a1 nv p1 p2 hka1; rw [hm.1] <;> rfl)
  have qk_1 : okA true ((o_L_wideKnown a1 f1 nv p1 p2).2.2.1) := (by have hm := ml_wideKnown a1 nv p1 p2 hka1; rw [hm.1]; exact hm.2)
  exact K ((o_L_wideKnown a1 f1 nv p1 p2).2.1) r1 ((o_L_wideKnown a1 f1 nv p1 p2).2.2.1) g1 a2 r2 f2 g2 kn ((o_L_wideKnown a1 f1 nv p1 p2).2.2.2) sv ((o_X5_wideKnown a1 f1 p1 p2).2.2.2) ((o_X5_wideKnown a1 f1 p1 p2).2.1) ((o_X5_wideKnown a1 f1 p1 p2).2.2.1) a2 f2 (r1 + r2) kn _ _ _ qe_b1 qe_e1 rfl rfl rfl rfl qk_1 hka2 hP hD hS (lv_sub hl [2, 3, 4, 5, 6] rfl)
set_option maxHeartbeats 4000000 in
set_option maxRecDepth 100000 in
theorem st_3 (l : Launch) (p : Program) (e : Env) (s : State) (m : MethodId) (below : List Frame) (meth : Method) (c : Code) (b L N : Nat) (xs : Nat → Int32) (A : Nat → Prop) (dC : Nat → ClassId) (dI : Nat → Nat → Nat) (cy cB : ClassId) (h0 h1 hw1 hc1 hb1 h2 hw2 hc2 hb2 ho m0 m1 mc1 m2 mc2 : Nat) (C0 : lw_C l p e s m below meth c b L N xs A dC dI cy cB) (i : Nat) (hi : i + 4 ≤ L) (p1 p2 p3 : Int32) (hp1 : xs (i + 1) = p1) (hp2 : xs (i + 2) = p2) (hp3 : xs (i + 3) = p3) (cells slots : Nat) (hcs : cells + 760 ≤ 989448) (hss : slots + 4500 ≤ 6127760) (K : lw_K l p e s m below meth c b L N xs A dC dI cy cB h0 h1 hw1 hc1 hb1 h2 hw2 hc2 hb2 ho m0 m1 mc1 m2 mc2 i (cells + 760) (slots + 4500) 2240) (a1 : Int32) (r1 : Int32) (f1 : Nat → Int64) (g1 : Nat → Int64) (a2 : Int32) (r2 : Int32) (f2 : Nat → Int64) (g2 : Nat → Int64) (kn : Int32) (nv : Int64) (sv : Value) (th : Int32) (H : Heap) (locs : List Loc) (ls : Array Slot) (hka1 : okA true f1) (hka2 : okA false f2) (hP : va_P (dC, dI) xCl [(h0, eE h1 h2 kn), (h1, eR hw1 hc1 hb1 a1 r1), (hw1, eW true), (hc1, eA cy f1), (hb1, eA cy g1), (h2, eR hw2 hc2 hb2 a2 r2), (hw2, eW false), (hc2, eA cy f2), (hb2, eA cy g2), (ho, eO nv sv), (m0, eM m1 m2 th (r1 + r2) kn), (m1, eMR true mc1 a1), (mc1, eA cy f1), (m2, eMR false mc2 a2), (mc2, eA cy f2)] H) (hD : va_D A [(h0, eE h1 h2 kn), (h1, eR hw1 hc1 hb1 a1 r1), (hw1, eW true), (hc1, eA cy f1), (hb1, eA cy g1), (h2, eR hw2 hc2 hb2 a2 r2), (hw2, eW false), (hc2, eA cy f2), (hb2, eA cy g2), (ho, eO nv sv), (m0, eM m1 m2 th (r1 + r2) kn), (m1, eMR true mc1 a1), (mc1, eA cy f1), (m2, eMR false mc2 a2), (mc2, eA cy f2)]) (hS : va_S A s.heap H locs) (hl : lv_has ls 7 [(0, .ref b), (1, .ref h0), (2, .ref m0), (3, .ref ho), (4, .int (nI i))]) : W p l e room_1 s m #[Value.ref b] below meth c H locs cells slots (lw_Z below #[Value.ref b] s) (F0 m 384 ls []) := by
  obtain ⟨hfl, hx, hb, hr, hml, hown, hts, hX, hbl, hbA, hlocks, hK, hG, hnc, hA, hAN, hN, hL, hT, hNs⟩ := id C0
  have hok2 := me_okF hka2
  have hsp1 : ∀ k, k < 8 → o_X1_isSpoiled true (f1 k) = false := fun k hk => (hka1 k hk).2
  have hsp2 : ∀ k, k < 8 → o_X1_isSpoiled false (f2 k) = false := fun k hk => (hka2 k hk).2
  refine lv_aload_n hx hb dL_law_384 rfl (lv_at hl 1 rfl) ?_
  refine lv_aload_n hx hb dL_law_385 rfl (lv_at hl 0 rfl) ?_
  refine lv_iload hx hb dL_law_386 (lv_at hl 4 rfl) ?_
  refine lv_iconst (v := 1) hx hb dL_law_388 (by decide +kernel) ?_
  refine lv_iadd hx hb dL_law_389 ?_
  rw [nI_1 i]
  refine xa_sld hx hb hX hbl hbA hS (k := i + 1) (by omega) hL hp1 dL_law_390 ?_
  refine lv_aload_n hx hb dL_law_391 rfl (lv_at hl 0 rfl) ?_
  refine lv_iload hx hb dL_law_392 (lv_at hl 4 rfl) ?_
  refine lv_iconst (v := 2) hx hb dL_law_394 (by decide +kernel) ?_
  refine lv_iadd hx hb dL_law_395 ?_
  rw [nI_p2 i]
  refine xa_sld hx hb hX hbl hbA hS (k := i + 2) (by omega) hL hp2 dL_law_396 ?_
  refine lv_aload_n hx hb dL_law_397 rfl (lv_at hl 3 rfl) ?_
  have hPc := hP.sub (ws' := [(h0, eE h1 h2 kn), (h1, eR hw1 hc1 hb1 a1 r1), (hw1, eW true), (hc1, eA cy f1), (hb1, eA cy g1), (h2, eR hw2 hc2 hb2 a2 r2), (hw2, eW false), (hc2, eA cy f2), (hb2, eA cy g2), (ho, eO nv sv)]) [0, 1, 2, 3, 4, 5, 6, 7, 8, 9] rfl
  have hDc := hD.sub (ws' := [(h0, eE h1 h2 kn), (h1, eR hw1 hc1 hb1 a1 r1), (hw1, eW true), (hc1, eA cy f1), (hb1, eA cy g1), (h2, eR hw2 hc2 hb2 a2 r2), (hw2, eW false), (hc2, eA cy f2), (hb2, eA cy g2), (ho, eO nv sv)]) [0, 1, 2, 3, 4, 5, 6, 7, 8, 9] (by decide +kernel) rfl
  have hKc := hK.sub (tys' := [(cy, .long)]) [0] rfl
  have hFc := va_free (wc := [(h0, eE h1 h2 kn), (h1, eR hw1 hc1 hb1 a1 r1), (hw1, eW true), (hc1, eA cy f1), (hb1, eA cy g1), (h2, eR hw2 hc2 hb2 a2 r2), (hw2, eW false), (hc2, eA cy f2), (hb2, eA cy g2), (ho, eO nv sv)]) hD hS hA [0, 1, 2, 3, 4, 5, 6, 7, 8, 9] rfl
  refine va_calli (vx_runSW (As := [.ref h0, .int p1, .int p2, .ref ho]) (rest := []) ⟨hx, hb, hml, hown, hts⟩ (k_L_wideCopy l hfl dC dI cy h0 h1 hw1 hc1 hb1 h2 hw2 hc2 hb2 a1 r1 f1 g1 a2 r2 f2 g2 kn ho nv sv H.size N p1 p2) (vx_cwSW 4 hts gL_law_L_wideCopy rfl rfl rfl (by decide +kernel) ⟨Nat.le_of_ble_eq_true rfl, Nat.le_of_ble_eq_true rfl⟩) (xL.preS hKc hPc hDc hAN (Nat.le_trans hN hS.1) (hG.kept hS hAN) hnc) rfl rfl hl.1 rfl (lv_room (Nat.le_of_ble_eq_true rfl)) dL_law_398 ⟨(show _ ≤ 989448 by omega), (show _ ≤ 6127760 by omega)⟩) hS (fun q _ h => hFc q h) hFc (fun r_1 u t H locs ht hvm hw hB hz hk hS => ?_)
  replace hw : r_1 = (o_L_wideCopy a1 f1 nv p1 p2).1 := hw
  subst r_1
  obtain ⟨hP1, hD1⟩ := hB
  rw [ht] at hP1
  obtain ⟨hP, hD⟩ := va_join (wr := [(m0, eM m1 m2 th (r1 + r2) kn), (m1, eMR true mc1 a1), (mc1, eA cy f1), (m2, eMR false mc2 a2), (mc2, eA cy f2)]) (w1 := [(h0, eE h1 h2 kn), (h1, eR hw1 hc1 hb1 (o_L_wideCopy a1 f1 nv p1 p2).2.1 r1), (hw1, eW true), (hc1, eA cy (o_L_wideCopy a1 f1 nv p1 p2).2.2.1), (hb1, eA cy g1), (h2, eR hw2 hc2 hb2 a2 r2), (hw2, eW false), (hc2, eA cy f2), (hb2, eA cy g2), (ho, eO (o_L_wideCopy a1 f1 nv p1 p2).2.2.2 sv)]) hP hD [0, 1, 2, 3, 4, 5, 6, 7, 8, 9] [10, 11, 12, 13, 14] rfl rfl (by decide +kernel) (by decide +kernel) hk hFc hP1 hD1
  have hP := hP.sub (ws' := [(h0, eE h1 h2 kn), (h1, eR hw1 hc1 hb1 (o_L_wideCopy a1 f1 nv p1 p2).2.1 r1), (hw1, eW true), (hc1, eA cy (o_L_wideCopy a1 f1 nv p1 p2).2.2.1), (hb1, eA cy g1), (h2, eR hw2 hc2 hb2 a2 r2), (hw2, eW false), (hc2, eA cy f2), (hb2, eA cy g2), (ho, eO (o_L_wideCopy a1 f1 nv p1 p2).2.2.2 sv), (m0, eM m1 m2 th (r1 + r2) kn), (m1, eMR true mc1 a1), (mc1, eA cy f1), (m2, eMR false mc2 a2), (mc2, eA cy f2)]) [5, 6, 7, 8, 9, 10, 11, 12, 13, 14, 0, 1, 2, 3, 4] rfl
  have hD := hD.sub (ws' := [(h0, eE h1 h2 kn), (h1, eR hw1 hc1 hb1 (o_L_wideCopy a1 f1 nv p1 p2).2.1 r1), (hw1, eW true), (hc1, eA cy (o_L_wideCopy a1 f1 nv p1 p2).2.2.1), (hb1, eA cy g1), (h2, eR hw2 hc2 hb2 a2 r2), (hw2, eW false), (hc2, eA cy f2), (hb2, eA cy g2), (ho, eO (o_L_wideCopy a1 f1 nv p1 p2).2.2.2 sv), (m0, eM m1 m2 th (r1 + r2) kn), (m1, eMR true mc1 a1), (mc1, eA cy f1), (m2, eMR false mc2 a2), (mc2, eA cy f2)]) [5, 6, 7, 8, 9, 10, 11, 12, 13, 14, 0, 1, 2, 3, 4] (by decide +kernel) rfl
  refine lv_istore (lv' := [(5, .int ((o_L_wideCopy a1 f1 nv p1 p2).1)), (0, .ref b), (1, .ref h0), (2, .ref m0), (3, .ref ho), (4, .int (nI i))]) hx hb dL_law_401 hl (by decide +kernel) rfl (fun ls hl => ?_)
  refine lv_aload_n hx hb dL_law_403 rfl (lv_at hl 3 rfl) ?_
  refine lv_aload_n hx hb dL_law_404 rfl (lv_at hl 1 rfl) ?_
  refine lv_iload hx hb dL_law_405 (lv_at hl 5 rfl) ?_
  refine lv_iconst (v := 1) hx hb dL_law_407 (by decide +kernel) ?_
  refine lv_iadd hx hb dL_law_408 ?_
  rw [nI_1 i]
  refine xa_sld hx hb hX hbl hbA hS (k := i + 1) (by omega) hL hp1 dL_law_409 ?_
  refine lv_aload_n hx hb dL_law_410 rfl (lv_at hl 1 rfl) ?_
  refine lv_iload hx hb dL_law_411 (lv_at hl 5 rfl) ?_
  refine lv_iconst (v := 2) hx hb dL_law_413 (by decide +kernel) ?_
  refine lv_iadd hx hb dL_law_414 ?_
  rw [nI_p2 i]
  refine xa_sld hx hb hX hbl hbA hS (k := i + 2) (by omega) hL hp2 dL_law_415 ?_
  have hPc := hP.sub (ws' := [(m0, eM m1 m2 th (r1 + r2) kn), (m1, eMR true mc1 a1), (mc1, eA cy f1), (m2, eMR false mc2 a2), (mc2, eA cy f2)]) [10, 11, 12, 13, 14] rfl
  have hDc := hD.sub (ws' := [(m0, eM m1 m2 th (r1 + r2) kn), (m1, eMR true mc1 a1), (mc1, eA cy f1), (m2, eMR false mc2 a2), (mc2, eA cy f2)]) [10, 11, 12, 13, 14] (by decide +kernel) rfl
  have hKc := hK.sub (tys' := [(cy, .long)]) [0] rfl
  have hFc := va_free (wc := [(m0, eM m1 m2 th (r1 + r2) kn), (m1, eMR true mc1 a1), (mc1, eA cy f1), (m2, eMR false mc2 a2), (mc2, eA cy f2)]) hD hS hA [10, 11, 12, 13, 14] rfl
  refine va_calli (va_runV (As := [.int p1, .int p2]) (rest := []) ⟨hx, hb, hml, hown, hts⟩ (k_X5_wideCopy l dC dI cy m0 m1 mc1 m2 mc2 a1 f1 a2 f2 th (r1 + r2) kn H.size N p1 p2) (cwV 2 hts gL_law_X5_wideCopy rfl rfl rfl (by decide +kernel) ⟨Nat.le_of_ble_eq_true rfl, Nat.le_of_ble_eq_true rfl⟩) (xM.preV hKc hPc hDc hAN (Nat.le_trans hN hS.1) (hG.kept hS hAN) (ci := 7) (q0 := 0) rfl rfl) rfl rfl hl.1 rfl (lv_room (Nat.le_of_ble_eq_true rfl)) dL_law_416 ⟨(show _ ≤ 989448 by omega), (show _ ≤ 6127760 by omega)⟩) hS (fun q _ h => hFc q h) hFc (fun r_2 u t H locs ht hvm hw hB hz hk hS => ?_)
  replace hw : r_2 = (o_X5_wideCopy a1 f1 p1 p2).1 := hw
  subst r_2
  obtain ⟨hP1, hD1⟩ := hB
  rw [ht] at hP1
  obtain ⟨hP, hD⟩ := va_join (wr := [(h0, eE h1 h2 kn), (h1, eR hw1 hc1 hb1 (o_L_wideCopy a1 f1 nv p1 p2).2.1 r1), (hw1, eW true), (hc1, eA cy (o_L_wideCopy a1 f1 nv p1 p2).2.2.1), (hb1, eA cy g1), (h2, eR hw2 hc2 hb2 a2 r2), (hw2, eW false), (hc2, eA cy f2), (hb2, eA cy g2), (ho, eO (o_L_wideCopy a1 f1 nv p1 p2).2.2.2 sv)]) (w1 := [(m0, eM m1 m2 (o_X5_wideCopy a1 f1 p1 p2).2.2.2 (r1 + r2) kn), (m1, eMR true mc1 (o_X5_wideCopy a1 f1 p1 p2).2.1), (mc1, eA cy (o_X5_wideCopy a1 f1 p1 p2).2.2.1), (m2, eMR false mc2 a2), (mc2, eA cy f2)]) hP hD [10, 11, 12, 13, 14] [0, 1, 2, 3, 4, 5, 6, 7, 8, 9] rfl rfl (by decide +kernel) (by decide +kernel) hk hFc hP1 hD1
  have hP := hP.sub (ws' := [(h0, eE h1 h2 kn), (h1, eR hw1 hc1 hb1 (o_L_wideCopy a1 f1 nv p1 p2).2.1 r1), (hw1, eW true), (hc1, eA cy (o_L_wideCopy a1 f1 nv p1 p2).2.2.1), (hb1, eA cy g1), (h2, eR hw2 hc2 hb2 a2 r2), (hw2, eW false), (hc2, eA cy f2), (hb2, eA cy g2), (ho, eO (o_L_wideCopy a1 f1 nv p1 p2).2.2.2 sv), (m0, eM m1 m2 (o_X5_wideCopy a1 f1 p1 p2).2.2.2 (r1 + r2) kn), (m1, eMR true mc1 (o_X5_wideCopy a1 f1 p1 p2).2.1), (mc1, eA cy (o_X5_wideCopy a1 f1 p1 p2).2.2.1), (m2, eMR false mc2 a2), (mc2, eA cy f2)]) [0, 1, 2, 3, 4, 5, 6, 7, 8, 9, 10, 11, 12, 13, 14] rfl
  have hD := hD.sub (ws' := [(h0, eE h1 h2 kn), (h1, eR hw1 hc1 hb1 (o_L_wideCopy a1 f1 nv p1 p2).2.1 r1), (hw1, eW true), (hc1, eA cy (o_L_wideCopy a1 f1 nv p1 p2).2.2.1), (hb1, eA cy g1), (h2, eR hw2 hc2 hb2 a2 r2), (hw2, eW false), (hc2, eA cy f2), (hb2, eA cy g2), (ho, eO (o_L_wideCopy a1 f1 nv p1 p2).2.2.2 sv), (m0, eM m1 m2 (o_X5_wideCopy a1 f1 p1 p2).2.2.2 (r1 + r2) kn), (m1, eMR true mc1 (o_X5_wideCopy a1 f1 p1 p2).2.1), (mc1, eA cy (o_X5_wideCopy a1 f1 p1 p2).2.2.1), (m2, eMR false mc2 a2), (mc2, eA cy f2)]) [0, 1, 2, 3, 4, 5, 6, 7, 8, 9, 10, 11, 12, 13, 14] (by decide +kernel) rfl
  refine lv_istore (lv' := [(6, .int ((o_X5_wideCopy a1 f1 p1 p2).1)), (5, .int ((o_L_wideCopy a1 f1 nv p1 p2).1)), (0, .ref b), (1, .ref h0), (2, .ref m0), (3, .ref ho), (4, .int (nI i))]) hx hb dL_law_419 hl (by decide +kernel) rfl (fun ls hl => ?_)
  refine lv_goto (tgt := 2240) hx hb dL_law_421 (by decide +kernel) ?_
  refine W.widen (k := cells + 760) (n := slots + 4500) (by omega) (by omega) ?_
  have qe_b1 : (o_X5_wideCopy a1 f1 p1 p2).2.1 = (o_L_wideCopy a1 f1 nv p1 p2).2.1 := (by have hm := ml_wideCopy a1 nv p1 p2 hka1; rw [hm.1] <;> rfl)
  have qe_e1 : (o_X5_wideCopy a1 f1 p1 p2).2.2.1 = (o_L_wideCopy a1 f1 nv p1 p2).2.2.1 := (by have hm := ml_wideCopy a1 nv p1 p2 hka1; rw [hm.1] <;> rfl)
  have qk_1 : okA true ((o_L_wideCopy a1 f1 nv p1 p2).2.2.1) := (by have hm := ml_wideCopy a1 nv p1 p2 hka1; rw [hm.1]; exact hm.2)
  exact K ((o_L_wideCopy a1 f1 nv p1 p2).2.1) r1 ((o_L_wideCopy a1 f1 nv p1 p2).2.2.1) g1 a2 r2 f2 g2 kn ((o_L_wideCopy a1 f1 nv p1 p2).2.2.2) sv ((o_X5_wideCopy a1 f1 p1 p2).2.2.2) ((o_X5_wideCopy a1 f1 p1 p2).2.1) ((o_X5_wideCopy a1 f1 p1 p2).2.2.1) a2 f2 (r1 + r2) kn _ _ _ qe_b1 qe_e1 rfl rfl rfl rfl qk_1 hka2 hP hD hS (lv_sub hl [2, 3, 4, 5, 6] rfl)
set_option maxHeartbeats 4000000 in
set_option maxRecDepth 100000 in
theorem st_4 (l : Launch) (p : Program) (e : Env) (s : State) (m : MethodId) (below : List Frame) (meth : Method) (c : Code) (b L N : Nat) (xs : Nat → Int32) (A : Nat → Prop) (dC : Nat → ClassId) (dI : Nat → Nat → Nat) (cy cB : ClassId) (h0 h1 hw1 hc1 hb1 h2 hw2 hc2 hb2 ho m0 m1 mc1 m2 mc2 : Nat) (C0 : lw_C l p e s m below meth c b L N xs A dC dI cy cB) (i : Nat) (hi : i + 4 ≤ L) (p1 p2 p3 : Int32) (hp1 : xs (i + 1) = p1) (hp2 : xs (i + 2) = p2) (hp3 : xs (i + 3) = p3) (cells slots : Nat) (hcs : cells + 760 ≤ 989448) (hss : slots + 4500 ≤ 6127760) (K : lw_K l p e s m below meth c b L N xs A dC dI cy cB h0 h1 hw1 hc1 hb1 h2 hw2 hc2 hb2 ho m0 m1 mc1 m2 mc2 i (cells + 760) (slots + 4500) 2240) (a1 : Int32) (r1 : Int32) (f1 : Nat → Int64) (g1 : Nat → Int64) (a2 : Int32) (r2 : Int32) (f2 : Nat → Int64) (g2 : Nat → Int64) (kn : Int32) (nv : Int64) (sv : Value) (th : Int32) (H : Heap) (locs : List Loc) (ls : Array Slot) (hka1 : okA true f1) (hka2 : okA false f2) (hP : va_P (dC, dI) xCl [(h0, eE h1 h2 kn), (h1, eR hw1 hc1 hb1 a1 r1), (hw1, eW true), (hc1, eA cy f1), (hb1, eA cy g1), (h2, eR hw2 hc2 hb2 a2 r2), (hw2, eW false), (hc2, eA cy f2), (hb2, eA cy g2), (ho, eO nv sv), (m0, eM m1 m2 th (r1 + r2) kn), (m1, eMR true mc1 a1), (mc1, eA cy f1), (m2, eMR false mc2 a2), (mc2, eA cy f2)] H) (hD : va_D A [(h0, eE h1 h2 kn), (h1, eR hw1 hc1 hb1 a1 r1), (hw1, eW true), (hc1, eA cy f1), (hb1, eA cy g1), (h2, eR hw2 hc2 hb2 a2 r2), (hw2, eW false), (hc2, eA cy f2), (hb2, eA cy g2), (ho, eO nv sv), (m0, eM m1 m2 th (r1 + r2) kn), (m1, eMR true mc1 a1), (mc1, eA cy f1), (m2, eMR false mc2 a2), (mc2, eA cy f2)]) (hS : va_S A s.heap H locs) (hl : lv_has ls 7 [(0, .ref b), (1, .ref h0), (2, .ref m0), (3, .ref ho), (4, .int (nI i))]) : W p l e room_1 s m #[Value.ref b] below meth c H locs cells slots (lw_Z below #[Value.ref b] s) (F0 m 424 ls []) := by
  obtain ⟨hfl, hx, hb, hr, hml, hown, hts, hX, hbl, hbA, hlocks, hK, hG, hnc, hA, hAN, hN, hL, hT, hNs⟩ := id C0
  have hok2 := me_okF hka2
  have hsp1 : ∀ k, k < 8 → o_X1_isSpoiled true (f1 k) = false := fun k hk => (hka1 k hk).2
  have hsp2 : ∀ k, k < 8 → o_X1_isSpoiled false (f2 k) = false := fun k hk => (hka2 k hk).2
  refine lv_aload_n hx hb dL_law_424 rfl (lv_at hl 1 rfl) ?_
  refine lv_aload_n hx hb dL_law_425 rfl (lv_at hl 0 rfl) ?_
  refine lv_iload hx hb dL_law_426 (lv_at hl 4 rfl) ?_
  refine lv_iconst (v := 1) hx hb dL_law_428 (by decide +kernel) ?_
  refine lv_iadd hx hb dL_law_429 ?_
  rw [nI_1 i]
  refine xa_sld hx hb hX hbl hbA hS (k := i + 1) (by omega) hL hp1 dL_law_430 ?_
  refine lv_aload_n hx hb dL_law_431 rfl (lv_at hl 0 rfl) ?_
  refine lv_iload hx hb dL_law_432 (lv_at hl 4 rfl) ?_
  refine lv_iconst (v := 2) hx hb dL_law_434 (by decide +kernel) ?_
  refine lv_iadd hx hb dL_law_435 ?_
  rw [nI_p2 i]
  refine xa_sld hx hb hX hbl hbA hS (k := i + 2) (by omega) hL hp2 dL_law_436 ?_
  refine lv_aload_n hx hb dL_law_437 rfl (lv_at hl 3 rfl) ?_
  have hPc := hP.sub (ws' := [(h0, eE h1 h2 kn), (h1, eR hw1 hc1 hb1 a1 r1), (hw1, eW true), (hc1, eA cy f1), (hb1, eA cy g1), (h2, eR hw2 hc2 hb2 a2 r2), (hw2, eW false), (hc2, eA cy f2), (hb2, eA cy g2), (ho, eO nv sv)]) [0, 1, 2, 3, 4, 5, 6, 7, 8, 9] rfl
  have hDc := hD.sub (ws' := [(h0, eE h1 h2 kn), (h1, eR hw1 hc1 hb1 a1 r1), (hw1, eW true), (hc1, eA cy f1), (hb1, eA cy g1), (h2, eR hw2 hc2 hb2 a2 r2), (hw2, eW false), (hc2, eA cy f2), (hb2, eA cy g2), (ho, eO nv sv)]) [0, 1, 2, 3, 4, 5, 6, 7, 8, 9] (by decide +kernel) rfl
  have hKc := hK.sub (tys' := [(cy, .long)]) [0] rfl
  have hFc := va_free (wc := [(h0, eE h1 h2 kn), (h1, eR hw1 hc1 hb1 a1 r1), (hw1, eW true), (hc1, eA cy f1), (hb1, eA cy g1), (h2, eR hw2 hc2 hb2 a2 r2), (hw2, eW false), (hc2, eA cy f2), (hb2, eA cy g2), (ho, eO nv sv)]) hD hS hA [0, 1, 2, 3, 4, 5, 6, 7, 8, 9] rfl
  refine va_calli (vx_runSW (As := [.ref h0, .int p1, .int p2, .ref ho]) (rest := []) ⟨hx, hb, hml, hown, hts⟩ (k_L_wideSwap l hfl dC dI cy h0 h1 hw1 hc1 hb1 h2 hw2 hc2 hb2 a1 r1 f1 g1 a2 r2 f2 g2 kn ho nv sv H.size N p1 p2) (vx_cwSW 4 hts gL_law_L_wideSwap rfl rfl rfl (by decide +kernel) ⟨Nat.le_of_ble_eq_true rfl, Nat.le_of_ble_eq_true rfl⟩) (xL.preS hKc hPc hDc hAN (Nat.le_trans hN hS.1) (hG.kept hS hAN) hnc) rfl rfl hl.1 rfl (lv_room (Nat.le_of_ble_eq_true rfl)) dL_law_438 ⟨(show _ ≤ 989448 by omega), (show _ ≤ 6127760 by omega)⟩) hS (fun q _ h => hFc q h) hFc (fun r_1 u t H locs ht hvm hw hB hz hk hS => ?_)
  replace hw : r_1 = (o_L_wideSwap a1 f1 nv p1 p2).1 := hw
  subst r_1
  obtain ⟨hP1, hD1⟩ := hB
  rw [ht] at hP1
  obtain ⟨hP, hD⟩ := va_join (wr := [(m0, eM m1 m2 th (r1 + r2) kn), (m1, eMR true mc1 a1), (mc1, eA cy f1), (m2, eMR false mc2 a2), (mc2, eA cy f2)]) (w1 := [(h0, eE h1 h2 kn), (h1, eR hw1 hc1 hb1 (o_L_wideSwap a1 f1 nv p1 p2).2.1 r1), (hw1, eW true), (hc1, eA cy (o_L_wideSwap a1 f1 nv p1 p2).2.2.1), (hb1, eA cy g1), (h2, eR hw2 hc2 hb2 a2 r2), (hw2, eW false), (hc2, eA cy f2), (hb2, eA cy g2), (ho, eO (o_L_wideSwap a1 f1 nv p1 p2).2.2.2 sv)]) hP hD [0, 1, 2, 3, 4, 5, 6, 7, 8, 9] [10, 11, 12, 13, 14] rfl rfl (by decide +kernel) (by decide +kernel) hk hFc hP1 hD1
  have hP := hP.sub (ws' := [(h0, eE h1 h2 kn), (h1, eR hw1 hc1 hb1 (o_L_wideSwap a1 f1 nv p1 p2).2.1 r1), (hw1, eW true), (hc1, eA cy (o_L_wideSwap a1 f1 nv p1 p2).2.2.1), (hb1, eA cy g1), (h2, eR hw2 hc2 hb2 a2 r2), (hw2, eW false), (hc2, eA cy f2), (hb2, eA cy g2), (ho, eO (o_L_wideSwap a1 f1 nv p1 p2).2.2.2 sv), (m0, eM m1 m2 th (r1 + r2) kn), (m1, eMR true mc1 a1), (mc1, eA cy f1), (m2, eMR false mc2 a2), (mc2, eA cy f2)]) [5, 6, 7, 8, 9, 10, 11, 12, 13, 14, 0, 1, 2, 3, 4] rfl
  have hD := hD.sub (ws' := [(h0, eE h1 h2 kn), (h1, eR hw1 hc1 hb1 (o_L_wideSwap a1 f1 nv p1 p2).2.1 r1), (hw1, eW true), (hc1, eA cy (o_L_wideSwap a1 f1 nv p1 p2).2.2.1), (hb1, eA cy g1), (h2, eR hw2 hc2 hb2 a2 r2), (hw2, eW false), (hc2, eA cy f2), (hb2, eA cy g2), (ho, eO (o_L_wideSwap a1 f1 nv p1 p2).2.2.2 sv), (m0, eM m1 m2 th (r1 + r2) kn), (m1, eMR true mc1 a1), (mc1, eA cy f1), (m2, eMR false mc2 a2), (mc2, eA cy f2)]) [5, 6, 7, 8, 9, 10, 11, 12, 13, 14, 0, 1, 2, 3, 4] (by decide +kernel) rfl
  refine lv_istore (lv' := [(5, .int ((o_L_wideSwap a1 f1 nv p1 p2).1)), (0, .ref b), (1, .ref h0), (2, .ref m0), (3, .ref ho), (4, .int (nI i))]) hx hb dL_law_441 hl (by decide +kernel) rfl (fun ls hl => ?_)
  refine lv_aload_n hx hb dL_law_443 rfl (lv_at hl 3 rfl) ?_
  refine lv_aload_n hx hb dL_law_444 rfl (lv_at hl 1 rfl) ?_
  refine lv_iload hx hb dL_law_445 (lv_at hl 5 rfl) ?_
  refine lv_iconst (v := 1) hx hb dL_law_447 (by decide +kernel) ?_
  refine lv_iadd hx hb dL_law_448 ?_
  rw [nI_1 i]
  refine xa_sld hx hb hX hbl hbA hS (k := i + 1) (by omega) hL hp1 dL_law_449 ?_
  refine lv_aload_n hx hb dL_law_450 rfl (lv_at hl 1 rfl) ?_
  refine lv_iload hx hb dL_law_451 (lv_at hl 5 rfl) ?_
  refine lv_iconst (v := 2) hx hb dL_law_453 (by decide +kernel) ?_
  refine lv_iadd hx hb dL_law_454 ?_
  rw [nI_p2 i]
  refine xa_sld hx hb hX hbl hbA hS (k := i + 2) (by omega) hL hp2 dL_law_455 ?_
  have hPc := hP.sub (ws' := [(m0, eM m1 m2 th (r1 + r2) kn), (m1, eMR true mc1 a1), (mc1, eA cy f1), (m2, eMR false mc2 a2), (mc2, eA cy f2)]) [10, 11, 12, 13, 14] rfl
  have hDc := hD.sub (ws' := [(m0, eM m1 m2 th (r1 + r2) kn), (m1, eMR true mc1 a1), (mc1, eA cy f1), (m2, eMR false mc2 a2), (mc2, eA cy f2)]) [10, 11, 12, 13, 14] (by decide +kernel) rfl
  have hKc := hK.sub (tys' := [(cy, .long)]) [0] rfl
  have hFc := va_free (wc := [(m0, eM m1 m2 th (r1 + r2) kn), (m1, eMR true mc1 a1), (mc1, eA cy f1), (m2, eMR false mc2 a2), (mc2, eA cy f2)]) hD hS hA [10, 11, 12, 13, 14] rfl
  refine va_calli (va_runV (As := [.int p1, .int p2]) (rest := []) ⟨hx, hb, hml, hown, hts⟩ (k_X5_wideSwap l dC dI cy m0 m1 mc1 m2 mc2 a1 f1 a2 f2 th (r1 + r2) kn H.size N p1 p2) (cwV 2 hts gL_law_X5_wideSwap rfl rfl rfl (by decide +kernel) ⟨Nat.le_of_ble_eq_true rfl, Nat.le_of_ble_eq_true rfl⟩) (xM.preV hKc hPc hDc hAN (Nat.le_trans hN hS.1) (hG.kept hS hAN) (ci := 7) (q0 := 0) rfl rfl) rfl rfl hl.1 rfl (lv_room (Nat.le_of_ble_eq_true rfl)) dL_law_456 ⟨(show _ ≤ 989448 by omega), (show _ ≤ 6127760 by omega)⟩) hS (fun q _ h => hFc q h) hFc (fun r_2 u t H locs ht hvm hw hB hz hk hS => ?_)
  replace hw : r_2 = (o_X5_wideSwap a1 f1 p1 p2).1 := hw
  subst r_2
  obtain ⟨hP1, hD1⟩ := hB
  rw [ht] at hP1
  obtain ⟨hP, hD⟩ := va_join (wr := [(h0, eE h1 h2 kn), (h1, eR hw1 hc1 hb1 (o_L_wideSwap a1 f1 nv p1 p2).2.1 r1), (hw1, eW true), (hc1, eA cy (o_L_wideSwap a1 f1 nv p1 p2).2.2.1), (hb1, eA cy g1), (h2, eR hw2 hc2 hb2 a2 r2), (hw2, eW false), (hc2, eA cy f2), (hb2, eA cy g2), (ho, eO (o_L_wideSwap a1 f1 nv p1 p2).2.2.2 sv)]) (w1 := [(m0, eM m1 m2 (o_X5_wideSwap a1 f1 p1 p2).2.2.2 (r1 + r2) kn), (m1, eMR true mc1 (o_X5_wideSwap a1 f1 p1 p2).2.1), (mc1, eA cy (o_X5_wideSwap a1 f1 p1 p2).2.2.1), (m2, eMR false mc2 a2), (mc2, eA cy f2)]) hP hD [10, 11, 12, 13, 14] [0, 1, 2, 3, 4, 5, 6, 7, 8, 9] rfl rfl (by decide +kernel) (by decide +kernel) hk hFc hP1 hD1
  have hP := hP.sub (ws' := [(h0, eE h1 h2 kn), (h1, eR hw1 hc1 hb1 (o_L_wideSwap a1 f1 nv p1 p2).2.1 r1), (hw1, eW true), (hc1, eA cy (o_L_wideSwap a1 f1 nv p1 p2).2.2.1), (hb1, eA cy g1), (h2, eR hw2 hc2 hb2 a2 r2), (hw2, eW false), (hc2, eA cy f2), (hb2, eA cy g2), (ho, eO (o_L_wideSwap a1 f1 nv p1 p2).2.2.2 sv), (m0, eM m1 m2 (o_X5_wideSwap a1 f1 p1 p2).2.2.2 (r1 + r2) kn), (m1, eMR true mc1 (o_X5_wideSwap a1 f1 p1 p2).2.1), (mc1, eA cy (o_X5_wideSwap a1 f1 p1 p2).2.2.1), (m2, eMR false mc2 a2), (mc2, eA cy f2)]) [0, 1, 2, 3, 4, 5, 6, 7, 8, 9, 10, 11, 12, 13, 14] rfl
  have hD := hD.sub (ws' := [(h0, eE h1 h2 kn), (h1, eR hw1 hc1 hb1 (o_L_wideSwap a1 f1 nv p1 p2).2.1 r1), (hw1, eW true), (hc1, eA cy (o_L_wideSwap a1 f1 nv p1 p2).2.2.1), (hb1, eA cy g1), (h2, eR hw2 hc2 hb2 a2 r2), (hw2, eW false), (hc2, eA cy f2), (hb2, eA cy g2), (ho, eO (o_L_wideSwap a1 f1 nv p1 p2).2.2.2 sv), (m0, eM m1 m2 (o_X5_wideSwap a1 f1 p1 p2).2.2.2 (r1 + r2) kn), (m1, eMR true mc1 (o_X5_wideSwap a1 f1 p1 p2).2.1), (mc1, eA cy (o_X5_wideSwap a1 f1 p1 p2).2.2.1), (m2, eMR false mc2 a2), (mc2, eA cy f2)]) [0, 1, 2, 3, 4, 5, 6, 7, 8, 9, 10, 11, 12, 13, 14] (by decide +kernel) rfl
  refine lv_istore (lv' := [(6, .int ((o_X5_wideSwap a1 f1 p1 p2).1)), (5, .int ((o_L_wideSwap a1 f1 nv p1 p2).1)), (0, .ref b), (1, .ref h0), (2, .ref m0), (3, .ref ho), (4, .int (nI i))]) hx hb dL_law_459 hl (by decide +kernel) rfl (fun ls hl => ?_)
  refine lv_goto (tgt := 2240) hx hb dL_law_461 (by decide +kernel) ?_
  refine W.widen (k := cells + 760) (n := slots + 4500) (by omega) (by omega) ?_
  have qe_b1 : (o_X5_wideSwap a1 f1 p1 p2).2.1 = (o_L_wideSwap a1 f1 nv p1 p2).2.1 := (by have hm := ml_wideSwap a1 nv p1 p2 hka1; rw [hm.1] <;> rfl)
  have qe_e1 : (o_X5_wideSwap a1 f1 p1 p2).2.2.1 = (o_L_wideSwap a1 f1 nv p1 p2).2.2.1 := (by have hm := ml_wideSwap a1 nv p1 p2 hka1; rw [hm.1] <;> rfl)
  have qk_1 : okA true ((o_L_wideSwap a1 f1 nv p1 p2).2.2.1) := (by have hm := ml_wideSwap a1 nv p1 p2 hka1; rw [hm.1]; exact hm.2)
  exact K ((o_L_wideSwap a1 f1 nv p1 p2).2.1) r1 ((o_L_wideSwap a1 f1 nv p1 p2).2.2.1) g1 a2 r2 f2 g2 kn ((o_L_wideSwap a1 f1 nv p1 p2).2.2.2) sv ((o_X5_wideSwap a1 f1 p1 p2).2.2.2) ((o_X5_wideSwap a1 f1 p1 p2).2.1) ((o_X5_wideSwap a1 f1 p1 p2).2.2.1) a2 f2 (r1 + r2) kn _ _ _ qe_b1 qe_e1 rfl rfl rfl rfl qk_1 hka2 hP hD hS (lv_sub hl [2, 3, 4, 5, 6] rfl)
set_option maxHeartbeats 4000000 in
set_option maxRecDepth 100000 in
theorem st_5 (l : Launch) (p : Program) (e : Env) (s : State) (m : MethodId) (below : List Frame) (meth : Method) (c : Code) (b L N : Nat) (xs : Nat → Int32) (A : Nat → Prop) (dC : Nat → ClassId) (dI : Nat → Nat → Nat) (cy cB : ClassId) (h0 h1 hw1 hc1 hb1 h2 hw2 hc2 hb2 ho m0 m1 mc1 m2 mc2 : Nat) (C0 : lw_C l p e s m below meth c b L N xs A dC dI cy cB) (i : Nat) (hi : i + 4 ≤ L) (p1 p2 p3 : Int32) (hp1 : xs (i + 1) = p1) (hp2 : xs (i + 2) = p2) (hp3 : xs (i + 3) = p3) (cells slots : Nat) (hcs : cells + 760 ≤ 989448) (hss : slots + 4500 ≤ 6127760) (K : lw_K l p e s m below meth c b L N xs A dC dI cy cB h0 h1 hw1 hc1 hb1 h2 hw2 hc2 hb2 ho m0 m1 mc1 m2 mc2 i (cells + 760) (slots + 4500) 2240) (a1 : Int32) (r1 : Int32) (f1 : Nat → Int64) (g1 : Nat → Int64) (a2 : Int32) (r2 : Int32) (f2 : Nat → Int64) (g2 : Nat → Int64) (kn : Int32) (nv : Int64) (sv : Value) (th : Int32) (H : Heap) (locs : List Loc) (ls : Array Slot) (hka1 : okA true f1) (hka2 : okA false f2) (hP : va_P (dC, dI) xCl [(h0, eE h1 h2 kn), (h1, eR hw1 hc1 hb1 a1 r1), (hw1, eW true), (hc1, eA cy f1), (hb1, eA cy g1), (h2, eR hw2 hc2 hb2 a2 r2), (hw2, eW false), (hc2, eA cy f2), (hb2, eA cy g2), (ho, eO nv sv), (m0, eM m1 m2 th (r1 + r2) kn), (m1, eMR true mc1 a1), (mc1, eA cy f1), (m2, eMR false mc2 a2), (mc2, eA cy f2)] H) (hD : va_D A [(h0, eE h1 h2 kn), (h1, eR hw1 hc1 hb1 a1 r1), (hw1, eW true), (hc1, eA cy f1), (hb1, eA cy g1), (h2, eR hw2 hc2 hb2 a2 r2), (hw2, eW false), (hc2, eA cy f2), (hb2, eA cy g2), (ho, eO nv sv), (m0, eM m1 m2 th (r1 + r2) kn), (m1, eMR true mc1 a1), (mc1, eA cy f1), (m2, eMR false mc2 a2), (mc2, eA cy f2)]) (hS : va_S A s.heap H locs) (hl : lv_has ls 7 [(0, .ref b), (1, .ref h0), (2, .ref m0), (3, .ref ho), (4, .int (nI i))]) : W p l e room_1 s m #[Value.ref b] below meth c H locs cells slots (lw_Z below #[Value.ref b] s) (F0 m 464 ls []) := by
  obtain ⟨hfl, hx, hb, hr, hml, hown, hts, hX, hbl, hbA, hlocks, hK, hG, hnc, hA, hAN, hN, hL, hT, hNs⟩ := id C0
  have hok2 := me_okF hka2
  have hsp1 : ∀ k, k < 8 → o_X1_isSpoiled true (f1 k) = false := fun k hk => (hka1 k hk).2
  have hsp2 : ∀ k, k < 8 → o_X1_isSpoiled false (f2 k) = false := fun k hk => (hka2 k hk).2
  refine lv_aload_n hx hb dL_law_464 rfl (lv_at hl 1 rfl) ?_
  refine lv_aload_n hx hb dL_law_465 rfl (lv_at hl 0 rfl) ?_
  refine lv_iload hx hb dL_law_466 (lv_at hl 4 rfl) ?_
  refine lv_iconst (v := 1) hx hb dL_law_468 (by decide +kernel) ?_
  refine lv_iadd hx hb dL_law_469 ?_
  rw [nI_1 i]
  refine xa_sld hx hb hX hbl hbA hS (k := i + 1) (by omega) hL hp1 dL_law_470 ?_
  refine lv_aload_n hx hb dL_law_471 rfl (lv_at hl 0 rfl) ?_
  refine lv_iload hx hb dL_law_472 (lv_at hl 4 rfl) ?_
  refine lv_iconst (v := 2) hx hb dL_law_474 (by decide +kernel) ?_
  refine lv_iadd hx hb dL_law_475 ?_
  rw [nI_p2 i]
  refine xa_sld hx hb hX hbl hbA hS (k := i + 2) (by omega) hL hp2 dL_law_476 ?_
  refine lv_aload_n hx hb dL_law_477 rfl (lv_at hl 0 rfl) ?_
  refine lv_iload hx hb dL_law_478 (lv_at hl 4 rfl) ?_
  refine lv_iconst (v := 3) hx hb dL_law_480 (by decide +kernel) ?_
  refine lv_iadd hx hb dL_law_481 ?_
  rw [nI_p3 i]
  refine xa_sld hx hb hX hbl hbA hS (k := i + 3) (by omega) hL hp3 dL_law_482 ?_
  refine lv_aload_n hx hb dL_law_483 rfl (lv_at hl 3 rfl) ?_
  have hPc := hP.sub (ws' := [(h0, eE h1 h2 kn), (h1, eR hw1 hc1 hb1 a1 r1), (hw1, eW true), (hc1, eA cy f1), (hb1, eA cy g1), (h2, eR hw2 hc2 hb2 a2 r2), (hw2, eW false), (hc2, eA cy f2), (hb2, eA cy g2), (ho, eO nv sv)]) [0, 1, 2, 3, 4, 5, 6, 7, 8, 9] rfl
  have hDc := hD.sub (ws' := [(h0, eE h1 h2 kn), (h1, eR hw1 hc1 hb1 a1 r1), (hw1, eW true), (hc1, eA cy f1), (hb1, eA cy g1), (h2, eR hw2 hc2 hb2 a2 r2), (hw2, eW false), (hc2, eA cy f2), (hb2, eA cy g2), (ho, eO nv sv)]) [0, 1, 2, 3, 4, 5, 6, 7, 8, 9] (by decide +kernel) rfl
  have hKc := hK.sub (tys' := [(cy, .long)]) [0] rfl
  have hFc := va_free (wc := [(h0, eE h1 h2 kn), (h1, eR hw1 hc1 hb1 a1 r1), (hw1, eW true), (hc1, eA cy f1), (hb1, eA cy g1), (h2, eR hw2 hc2 hb2 a2 r2), (hw2, eW false), (hc2, eA cy f2), (hb2, eA cy g2), (ho, eO nv sv)]) hD hS hA [0, 1, 2, 3, 4, 5, 6, 7, 8, 9] rfl
  refine va_calli (vx_runSW (As := [.ref h0, .int p1, .int p2, .int p3, .ref ho]) (rest := []) ⟨hx, hb, hml, hown, hts⟩ (k_L_wideMax l hfl dC dI cy h0 h1 hw1 hc1 hb1 h2 hw2 hc2 hb2 a1 r1 f1 g1 a2 r2 f2 g2 kn ho nv sv H.size N p1 p2 p3) (vx_cwSW 5 hts gL_law_L_wideMax rfl rfl rfl (by decide +kernel) ⟨Nat.le_of_ble_eq_true rfl, Nat.le_of_ble_eq_true rfl⟩) (xL.preS hKc hPc hDc hAN (Nat.le_trans hN hS.1) (hG.kept hS hAN) hnc) rfl rfl hl.1 rfl (lv_room (Nat.le_of_ble_eq_true rfl)) dL_law_484 ⟨(show _ ≤ 989448 by omega), (show _ ≤ 6127760 by omega)⟩) hS (fun q _ h => hFc q h) hFc (fun r_1 u t H locs ht hvm hw hB hz hk hS => ?_)
  replace hw : r_1 = (o_L_wideMax a1 f1 nv p1 p2 p3).1 := hw
  subst r_1
  obtain ⟨hP1, hD1⟩ := hB
  rw [ht] at hP1
  obtain ⟨hP, hD⟩ := va_join (wr := [(m0, eM m1 m2 th (r1 + r2) kn), (m1, eMR true mc1 a1), (mc1, eA cy f1), (m2, eMR false mc2 a2), (mc2, eA cy f2)]) (w1 := [(h0, eE h1 h2 kn), (h1, eR hw1 hc1 hb1 (o_L_wideMax a1 f1 nv p1 p2 p3).2.1 r1), (hw1, eW true), (hc1, eA cy (o_L_wideMax a1 f1 nv p1 p2 p3).2.2.1), (hb1, eA cy g1), (h2, eR hw2 hc2 hb2 a2 r2), (hw2, eW false), (hc2, eA cy f2), (hb2, eA cy g2), (ho, eO (o_L_wideMax a1 f1 nv p1 p2 p3).2.2.2 sv)]) hP hD [0, 1, 2, 3, 4, 5, 6, 7, 8, 9] [10, 11, 12, 13, 14] rfl rfl (by decide +kernel) (by decide +kernel) hk hFc hP1 hD1
  have hP := hP.sub (ws' := [(h0, eE h1 h2 kn), (h1, eR hw1 hc1 hb1 (o_L_wideMax a1 f1 nv p1 p2 p3).2.1 r1), (hw1, eW true), (hc1, eA cy (o_L_wideMax a1 f1 nv p1 p2 p3).2.2.1), (hb1, eA cy g1), (h2, eR hw2 hc2 hb2 a2 r2), (hw2, eW false), (hc2, eA cy f2), (hb2, eA cy g2), (ho, eO (o_L_wideMax a1 f1 nv p1 p2 p3).2.2.2 sv), (m0, eM m1 m2 th (r1 + r2) kn), (m1, eMR true mc1 a1), (mc1, eA cy f1), (m2, eMR false mc2 a2), (mc2, eA cy f2)]) [5, 6, 7, 8, 9, 10, 11, 12, 13, 14, 0, 1, 2, 3, 4] rfl
  have hD := hD.sub (ws' := [(h0, eE h1 h2 kn), (h1, eR hw1 hc1 hb1 (o_L_wideMax a1 f1 nv p1 p2 p3).2.1 r1), (hw1, eW true), (hc1, eA cy (o_L_wideMax a1 f1 nv p1 p2 p3).2.2.1), (hb1, eA cy g1), (h2, eR hw2 hc2 hb2 a2 r2), (hw2, eW false), (hc2, eA cy f2), (hb2, eA cy g2), (ho, eO (o_L_wideMax a1 f1 nv p1 p2 p3).2.2.2 sv), (m0, eM m1 m2 th (r1 + r2) kn), (m1, eMR true mc1 a1), (mc1, eA cy f1), (m2, eMR false mc2 a2), (mc2, eA cy f2)]) [5, 6, 7, 8, 9, 10, 11, 12, 13, 14, 0, 1, 2, 3, 4] (by decide +kernel) rfl
  refine lv_istore (lv' := [(5, .int ((o_L_wideMax a1 f1 nv p1 p2 p3).1)), (0, .ref b), (1, .ref h0), (2, .ref m0), (3, .ref ho), (4, .int (nI i))]) hx hb dL_law_487 hl (by decide +kernel) rfl (fun ls hl => ?_)
  refine lv_aload_n hx hb dL_law_489 rfl (lv_at hl 3 rfl) ?_
  refine lv_aload_n hx hb dL_law_490 rfl (lv_at hl 1 rfl) ?_
  refine lv_iload hx hb dL_law_491 (lv_at hl 5 rfl) ?_
  refine lv_iconst (v := 1) hx hb dL_law_493 (by decide +kernel) ?_
  refine lv_iadd hx hb dL_law_494 ?_
  rw [nI_1 i]
  refine xa_sld hx hb hX hbl hbA hS (k := i + 1) (by omega) hL hp1 dL_law_495 ?_
  refine lv_aload_n hx hb dL_law_496 rfl (lv_at hl 1 rfl) ?_
  refine lv_iload hx hb dL_law_497 (lv_at hl 5 rfl) ?_
  refine lv_iconst (v := 2) hx hb dL_law_499 (by decide +kernel) ?_
  refine lv_iadd hx hb dL_law_500 ?_
  rw [nI_p2 i]
  refine xa_sld hx hb hX hbl hbA hS (k := i + 2) (by omega) hL hp2 dL_law_501 ?_
  refine lv_aload_n hx hb dL_law_502 rfl (lv_at hl 1 rfl) ?_
  refine lv_iload hx hb dL_law_503 (lv_at hl 5 rfl) ?_
  refine lv_iconst (v := 3) hx hb dL_law_505 (by decide +kernel) ?_
  refine lv_iadd hx hb dL_law_506 ?_
  rw [nI_p3 i]
  refine xa_sld hx hb hX hbl hbA hS (k := i + 3) (by omega) hL hp3 dL_law_507 ?_
  have hPc := hP.sub (ws' := [(m0, eM m1 m2 th (r1 + r2) kn), (m1, eMR true mc1 a1), (mc1, eA cy f1), (m2, eMR false mc2 a2), (mc2, eA cy f2)]) [10, 11, 12, 13, 14] rfl
  have hDc := hD.sub (ws' := [(m0, eM m1 m2 th (r1 + r2) kn), (m1, eMR true mc1 a1), (mc1, eA cy f1), (m2, eMR false mc2 a2), (mc2, eA cy f2)]) [10, 11, 12, 13, 14] (by decide +kernel) rfl
  have hKc := hK.sub (tys' := [(cy, .long)]) [0] rfl
  have hFc := va_free (wc := [(m0, eM m1 m2 th (r1 + r2) kn), (m1, eMR true mc1 a1), (mc1, eA cy f1), (m2, eMR false mc2 a2), (mc2, eA cy f2)]) hD hS hA [10, 11, 12, 13, 14] rfl
  refine va_calli (va_runV (As := [.int p1, .int p2, .int p3]) (rest := []) ⟨hx, hb, hml, hown, hts⟩ (k_X5_wideMax l dC dI cy m0 m1 mc1 m2 mc2 a1 f1 a2 f2 th (r1 + r2) kn H.size N p1 p2 p3) (cwV 3 hts gL_law_X5_wideMax rfl rfl rfl (by decide +kernel) ⟨Nat.le_of_ble_eq_true rfl, Nat.le_of_ble_eq_true rfl⟩) (xM.preV hKc hPc hDc hAN (Nat.le_trans hN hS.1) (hG.kept hS hAN) (ci := 7) (q0 := 0) rfl rfl) rfl rfl hl.1 rfl (lv_room (Nat.le_of_ble_eq_true rfl)) dL_law_508 ⟨(show _ ≤ 989448 by omega), (show _ ≤ 6127760 by omega)⟩) hS (fun q _ h => hFc q h) hFc (fun r_2 u t H locs ht hvm hw hB hz hk hS => ?_)
  replace hw : r_2 = (o_X5_wideMax a1 f1 p1 p2 p3).1 := hw
  subst r_2
  obtain ⟨hP1, hD1⟩ := hB
  rw [ht] at hP1
  obtain ⟨hP, hD⟩ := va_join (wr := [(h0, eE h1 h2 kn), (h1, eR hw1 hc1 hb1 (o_L_wideMax a1 f1 nv p1 p2 p3).2.1 r1), (hw1, eW true), (hc1, eA cy (o_L_wideMax a1 f1 nv p1 p2 p3).2.2.1), (hb1, eA cy g1), (h2, eR hw2 hc2 hb2 a2 r2), (hw2, eW false), (hc2, eA cy f2), (hb2, eA cy g2), (ho, eO (o_L_wideMax a1 f1 nv p1 p2 p3).2.2.2 sv)]) (w1 := [(m0, eM m1 m2 (o_X5_wideMax a1 f1 p1 p2 p3).2.2.2 (r1 + r2) kn), (m1, eMR true mc1 (o_X5_wideMax a1 f1 p1 p2 p3).2.1), (mc1, eA cy (o_X5_wideMax a1 f1 p1 p2 p3).2.2.1), (m2, eMR false mc2 a2), (mc2, eA cy f2)]) hP hD [10, 11, 12, 13, 14] [0, 1, 2, 3, 4, 5, 6, 7, 8, 9] rfl rfl (by decide +kernel) (by decide +kernel) hk hFc hP1 hD1
  have hP := hP.sub (ws' := [(h0, eE h1 h2 kn), (h1, eR hw1 hc1 hb1 (o_L_wideMax a1 f1 nv p1 p2 p3).2.1 r1), (hw1, eW true), (hc1, eA cy (o_L_wideMax a1 f1 nv p1 p2 p3).2.2.1), (hb1, eA cy g1), (h2, eR hw2 hc2 hb2 a2 r2), (hw2, eW false), (hc2, eA cy f2), (hb2, eA cy g2), (ho, eO (o_L_wideMax a1 f1 nv p1 p2 p3).2.2.2 sv), (m0, eM m1 m2 (o_X5_wideMax a1 f1 p1 p2 p3).2.2.2 (r1 + r2) kn), (m1, eMR true mc1 (o_X5_wideMax a1 f1 p1 p2 p3).2.1), (mc1, eA cy (o_X5_wideMax a1 f1 p1 p2 p3).2.2.1), (m2, eMR false mc2 a2), (mc2, eA cy f2)]) [0, 1, 2, 3, 4, 5, 6, 7, 8, 9, 10, 11, 12, 13, 14] rfl
  have hD := hD.sub (ws' := [(h0, eE h1 h2 kn), (h1, eR hw1 hc1 hb1 (o_L_wideMax a1 f1 nv p1 p2 p3).2.1 r1), (hw1, eW true), (hc1, eA cy (o_L_wideMax a1 f1 nv p1 p2 p3).2.2.1), (hb1, eA cy g1), (h2, eR hw2 hc2 hb2 a2 r2), (hw2, eW false), (hc2, eA cy f2), (hb2, eA cy g2), (ho, eO (o_L_wideMax a1 f1 nv p1 p2 p3).2.2.2 sv), (m0, eM m1 m2 (o_X5_wideMax a1 f1 p1 p2 p3).2.2.2 (r1 + r2) kn), (m1, eMR true mc1 (o_X5_wideMax a1 f1 p1 p2 p3).2.1), (mc1, eA cy (o_X5_wideMax a1 f1 p1 p2 p3).2.2.1), (m2, eMR false mc2 a2), (mc2, eA cy f2)]) [0, 1, 2, 3, 4, 5, 6, 7, 8, 9, 10, 11, 12, 13, 14] (by decide +kernel) rfl
  refine lv_istore (lv' := [(6, .int ((o_X5_wideMax a1 f1 p1 p2 p3).1)), (5, .int ((o_L_wideMax a1 f1 nv p1 p2 p3).1)), (0, .ref b), (1, .ref h0), (2, .ref m0), (3, .ref ho), (4, .int (nI i))]) hx hb dL_law_511 hl (by decide +kernel) rfl (fun ls hl => ?_)
  refine lv_goto (tgt := 2240) hx hb dL_law_513 (by decide +kernel) ?_
  refine W.widen (k := cells + 760) (n := slots + 4500) (by omega) (by omega) ?_
  have qe_b1 : (o_X5_wideMax a1 f1 p1 p2 p3).2.1 = (o_L_wideMax a1 f1 nv p1 p2 p3).2.1 := (by have hm := ml_wideMax a1 nv p1 p2 p3 hka1; rw [hm.1] <;> rfl)
  have qe_e1 : (o_X5_wideMax a1 f1 p1 p2 p3).2.2.1 = (o_L_wideMax a1 f1 nv p1 p2 p3).2.2.1 := (by have hm := ml_wideMax a1 nv p1 p2 p3 hka1; rw [hm.1] <;> rfl)
  have qk_1 : okA true ((o_L_wideMax a1 f1 nv p1 p2 p3).2.2.1) := (by have hm := ml_wideMax a1 nv p1 p2 p3 hka1; rw [hm.1]; exact hm.2)
  exact K ((o_L_wideMax a1 f1 nv p1 p2 p3).2.1) r1 ((o_L_wideMax a1 f1 nv p1 p2 p3).2.2.1) g1 a2 r2 f2 g2 kn ((o_L_wideMax a1 f1 nv p1 p2 p3).2.2.2) sv ((o_X5_wideMax a1 f1 p1 p2 p3).2.2.2) ((o_X5_wideMax a1 f1 p1 p2 p3).2.1) ((o_X5_wideMax a1 f1 p1 p2 p3).2.2.1) a2 f2 (r1 + r2) kn _ _ _ qe_b1 qe_e1 rfl rfl rfl rfl qk_1 hka2 hP hD hS (lv_sub hl [2, 3, 4, 5, 6] rfl)
set_option maxHeartbeats 4000000 in
set_option maxRecDepth 100000 in
theorem st_6 (l : Launch) (p : Program) (e : Env) (s : State) (m : MethodId) (below : List Frame) (meth : Method) (c : Code) (b L N : Nat) (xs : Nat → Int32) (A : Nat → Prop) (dC : Nat → ClassId) (dI : Nat → Nat → Nat) (cy cB : ClassId) (h0 h1 hw1 hc1 hb1 h2 hw2 hc2 hb2 ho m0 m1 mc1 m2 mc2 : Nat) (C0 : lw_C l p e s m below meth c b L N xs A dC dI cy cB) (i : Nat) (hi : i + 4 ≤ L) (p1 p2 p3 : Int32) (hp1 : xs (i + 1) = p1) (hp2 : xs (i + 2) = p2) (hp3 : xs (i + 3) = p3) (cells slots : Nat) (hcs : cells + 760 ≤ 989448) (hss : slots + 4500 ≤ 6127760) (K : lw_K l p e s m below meth c b L N xs A dC dI cy cB h0 h1 hw1 hc1 hb1 h2 hw2 hc2 hb2 ho m0 m1 mc1 m2 mc2 i (cells + 760) (slots + 4500) 2240) (a1 : Int32) (r1 : Int32) (f1 : Nat → Int64) (g1 : Nat → Int64) (a2 : Int32) (r2 : Int32) (f2 : Nat → Int64) (g2 : Nat → Int64) (kn : Int32) (nv : Int64) (sv : Value) (th : Int32) (H : Heap) (locs : List Loc) (ls : Array Slot) (hka1 : okA true f1) (hka2 : okA false f2) (hP : va_P (dC, dI) xCl [(h0, eE h1 h2 kn), (h1, eR hw1 hc1 hb1 a1 r1), (hw1, eW true), (hc1, eA cy f1), (hb1, eA cy g1), (h2, eR hw2 hc2 hb2 a2 r2), (hw2, eW false), (hc2, eA cy f2), (hb2, eA cy g2), (ho, eO nv sv), (m0, eM m1 m2 th (r1 + r2) kn), (m1, eMR true mc1 a1), (mc1, eA cy f1), (m2, eMR false mc2 a2), (mc2, eA cy f2)] H) (hD : va_D A [(h0, eE h1 h2 kn), (h1, eR hw1 hc1 hb1 a1 r1), (hw1, eW true), (hc1, eA cy f1), (hb1, eA cy g1), (h2, eR hw2 hc2 hb2 a2 r2), (hw2, eW false), (hc2, eA cy f2), (hb2, eA cy g2), (ho, eO nv sv), (m0, eM m1 m2 th (r1 + r2) kn), (m1, eMR true mc1 a1), (mc1, eA cy f1), (m2, eMR false mc2 a2), (mc2, eA cy f2)]) (hS : va_S A s.heap H locs) (hl : lv_has ls 7 [(0, .ref b), (1, .ref h0), (2, .ref m0), (3, .ref ho), (4, .int (nI i))]) : W p l e room_1 s m #[Value.ref b] below meth c H locs cells slots (lw_Z below #[Value.ref b] s) (F0 m 516 ls []) := by
  obtain ⟨hfl, hx, hb, hr, hml, hown, hts, hX, hbl, hbA, hlocks, hK, hG, hnc, hA, hAN, hN, hL, hT, hNs⟩ := id C0
  have hok2 := me_okF hka2
  have hsp1 : ∀ k, k < 8 → o_X1_isSpoiled true (f1 k) = false := fun k hk => (hka1 k hk).2
  have hsp2 : ∀ k, k < 8 → o_X1_isSpoiled false (f2 k) = false := fun k hk => (hka2 k hk).2
  refine lv_aload_n hx hb dL_law_516 rfl (lv_at hl 1 rfl) ?_
  refine lv_aload_n hx hb dL_law_517 rfl (lv_at hl 0 rfl) ?_
  refine lv_iload hx hb dL_law_518 (lv_at hl 4 rfl) ?_
  refine lv_iconst (v := 1) hx hb dL_law_520 (by decide +kernel) ?_
  refine lv_iadd hx hb dL_law_521 ?_
  rw [nI_1 i]
  refine xa_sld hx hb hX hbl hbA hS (k := i + 1) (by omega) hL hp1 dL_law_522 ?_
  refine lv_aload_n hx hb dL_law_523 rfl (lv_at hl 0 rfl) ?_
  refine lv_iload hx hb dL_law_524 (lv_at hl 4 rfl) ?_
  refine lv_iconst (v := 2) hx hb dL_law_526 (by decide +kernel) ?_
  refine lv_iadd hx hb dL_law_527 ?_
  rw [nI_p2 i]
  refine xa_sld hx hb hX hbl hbA hS (k := i + 2) (by omega) hL hp2 dL_law_528 ?_
  refine lv_aload_n hx hb dL_law_529 rfl (lv_at hl 0 rfl) ?_
  refine lv_iload hx hb dL_law_530 (lv_at hl 4 rfl) ?_
  refine lv_iconst (v := 3) hx hb dL_law_532 (by decide +kernel) ?_
  refine lv_iadd hx hb dL_law_533 ?_
  rw [nI_p3 i]
  refine xa_sld hx hb hX hbl hbA hS (k := i + 3) (by omega) hL hp3 dL_law_534 ?_
  refine lv_aload_n hx hb dL_law_535 rfl (lv_at hl 3 rfl) ?_
  have hPc := hP.sub (ws' := [(h0, eE h1 h2 kn), (h1, eR hw1 hc1 hb1 a1 r1), (hw1, eW true), (hc1, eA cy f1), (hb1, eA cy g1), (h2, eR hw2 hc2 hb2 a2 r2), (hw2, eW false), (hc2, eA cy f2), (hb2, eA cy g2), (ho, eO nv sv)]) [0, 1, 2, 3, 4, 5, 6, 7, 8, 9] rfl
  have hDc := hD.sub (ws' := [(h0, eE h1 h2 kn), (h1, eR hw1 hc1 hb1 a1 r1), (hw1, eW true), (hc1, eA cy f1), (hb1, eA cy g1), (h2, eR hw2 hc2 hb2 a2 r2), (hw2, eW false), (hc2, eA cy f2), (hb2, eA cy g2), (ho, eO nv sv)]) [0, 1, 2, 3, 4, 5, 6, 7, 8, 9] (by decide +kernel) rfl
  have hKc := hK.sub (tys' := [(cy, .long)]) [0] rfl
  have hFc := va_free (wc := [(h0, eE h1 h2 kn), (h1, eR hw1 hc1 hb1 a1 r1), (hw1, eW true), (hc1, eA cy f1), (hb1, eA cy g1), (h2, eR hw2 hc2 hb2 a2 r2), (hw2, eW false), (hc2, eA cy f2), (hb2, eA cy g2), (ho, eO nv sv)]) hD hS hA [0, 1, 2, 3, 4, 5, 6, 7, 8, 9] rfl
  refine va_calli (vx_runSW (As := [.ref h0, .int p1, .int p2, .int p3, .ref ho]) (rest := []) ⟨hx, hb, hml, hown, hts⟩ (k_L_wideMin l hfl dC dI cy h0 h1 hw1 hc1 hb1 h2 hw2 hc2 hb2 a1 r1 f1 g1 a2 r2 f2 g2 kn ho nv sv H.size N p1 p2 p3) (vx_cwSW 5 hts gL_law_L_wideMin rfl rfl rfl (by decide +kernel) ⟨Nat.le_of_ble_eq_true rfl, Nat.le_of_ble_eq_true rfl⟩) (xL.preS hKc hPc hDc hAN (Nat.le_trans hN hS.1) (hG.kept hS hAN) hnc) rfl rfl hl.1 rfl (lv_room (Nat.le_of_ble_eq_true rfl)) dL_law_536 ⟨(show _ ≤ 989448 by omega), (show _ ≤ 6127760 by omega)⟩) hS (fun q _ h => hFc q h) hFc (fun r_1 u t H locs ht hvm hw hB hz hk hS => ?_)
  replace hw : r_1 = (o_L_wideMin a1 f1 nv p1 p2 p3).1 := hw
  subst r_1
  obtain ⟨hP1, hD1⟩ := hB
  rw [ht] at hP1
  obtain ⟨hP, hD⟩ := va_join (wr := [(m0, eM m1 m2 th (r1 + r2) kn), (m1, eMR true mc1 a1), (mc1, eA cy f1), (m2, eMR false mc2 a2), (mc2, eA cy f2)]) (w1 := [(h0, eE h1 h2 kn), (h1, eR hw1 hc1 hb1 (o_L_wideMin a1 f1 nv p1 p2 p3).2.1 r1), (hw1, eW true), (hc1, eA cy (o_L_wideMin a1 f1 nv p1 p2 p3).2.2.1), (hb1, eA cy g1), (h2, eR hw2 hc2 hb2 a2 r2), (hw2, eW false), (hc2, eA cy f2), (hb2, eA cy g2), (ho, eO (o_L_wideMin a1 f1 nv p1 p2 p3).2.2.2 sv)]) hP hD [0, 1, 2, 3, 4, 5, 6, 7, 8, 9] [10, 11, 12, 13, 14] rfl rfl (by decide +kernel) (by decide +kernel) hk hFc hP1 hD1
  have hP := hP.sub (ws' := [(h0, eE h1 h2 kn), (h1, eR hw1 hc1 hb1 (o_L_wideMin a1 f1 nv p1 p2 p3).2.1 r1), (hw1, eW true), (hc1, eA cy (o_L_wideMin a1 f1 nv p1 p2 p3).2.2.1), (hb1, eA cy g1), (h2, eR hw2 hc2 hb2 a2 r2), (hw2, eW false), (hc2, eA cy f2), (hb2, eA cy g2), (ho, eO (o_L_wideMin a1 f1 nv p1 p2 p3).2.2.2 sv), (m0, eM m1 m2 th (r1 + r2) kn), (m1, eMR true mc1 a1), (mc1, eA cy f1), (m2, eMR false mc2 a2), (mc2, eA cy f2)]) [5, 6, 7, 8, 9, 10, 11, 12, 13, 14, 0, 1, 2, 3, 4] rfl
  have hD := hD.sub (ws' := [(h0, eE h1 h2 kn), (h1, eR hw1 hc1 hb1 (o_L_wideMin a1 f1 nv p1 p2 p3).2.1 r1), (hw1, eW true), (hc1, eA cy (o_L_wideMin a1 f1 nv p1 p2 p3).2.2.1), (hb1, eA cy g1), (h2, eR hw2 hc2 hb2 a2 r2), (hw2, eW false), (hc2, eA cy f2), (hb2, eA cy g2), (ho, eO (o_L_wideMin a1 f1 nv p1 p2 p3).2.2.2 sv), (m0, eM m1 m2 th (r1 + r2) kn), (m1, eMR true mc1 a1), (mc1, eA cy f1), (m2, eMR false mc2 a2), (mc2, eA cy f2)]) [5, 6, 7, 8, 9, 10, 11, 12, 13, 14, 0, 1, 2, 3, 4] (by decide +kernel) rfl
  refine lv_istore (lv' := [(5, .int ((o_L_wideMin a1 f1 nv p1 p2 p3).1)), (0, .ref b), (1, .ref h0), (2, .ref m0), (3, .ref ho), (4, .int (nI i))]) hx hb dL_law_539 hl (by decide +kernel) rfl (fun ls hl => ?_)
  refine lv_aload_n hx hb dL_law_541 rfl (lv_at hl 3 rfl) ?_
  refine lv_aload_n hx hb dL_law_542 rfl (lv_at hl 1 rfl) ?_
  refine lv_iload hx hb dL_law_543 (lv_at hl 5 rfl) ?_
  refine lv_iconst (v := 1) hx hb dL_law_545 (by decide +kernel) ?_
  refine lv_iadd hx hb dL_law_546 ?_
  rw [nI_1 i]
  refine xa_sld hx hb hX hbl hbA hS (k := i + 1) (by omega) hL hp1 dL_law_547 ?_
  refine lv_aload_n hx hb dL_law_548 rfl (lv_at hl 1 rfl) ?_
  refine lv_iload hx hb dL_law_549 (lv_at hl 5 rfl) ?_
  refine lv_iconst (v := 2) hx hb dL_law_551 (by decide +kernel) ?_
  refine lv_iadd hx hb dL_law_552 ?_
  rw [nI_p2 i]
  refine xa_sld hx hb hX hbl hbA hS (k := i + 2) (by omega) hL hp2 dL_law_553 ?_
  refine lv_aload_n hx hb dL_law_554 rfl (lv_at hl 1 rfl) ?_
  refine lv_iload hx hb dL_law_555 (lv_at hl 5 rfl) ?_
  refine lv_iconst (v := 3) hx hb dL_law_557 (by decide +kernel) ?_
  refine lv_iadd hx hb dL_law_558 ?_
  rw [nI_p3 i]
  refine xa_sld hx hb hX hbl hbA hS (k := i + 3) (by omega) hL hp3 dL_law_559 ?_
  have hPc := hP.sub (ws' := [(m0, eM m1 m2 th (r1 + r2) kn), (m1, eMR true mc1 a1), (mc1, eA cy f1), (m2, eMR false mc2 a2), (mc2, eA cy f2)]) [10, 11, 12, 13, 14] rfl
  have hDc := hD.sub (ws' := [(m0, eM m1 m2 th (r1 + r2) kn), (m1, eMR true mc1 a1), (mc1, eA cy f1), (m2, eMR false mc2 a2), (mc2, eA cy f2)]) [10, 11, 12, 13, 14] (by decide +kernel) rfl
  have hKc := hK.sub (tys' := [(cy, .long)]) [0] rfl
  have hFc := va_free (wc := [(m0, eM m1 m2 th (r1 + r2) kn), (m1, eMR true mc1 a1), (mc1, eA cy f1), (m2, eMR false mc2 a2), (mc2, eA cy f2)]) hD hS hA [10, 11, 12, 13, 14] rfl
  refine va_calli (va_runV (As := [.int p1, .int p2, .int p3]) (rest := []) ⟨hx, hb, hml, hown, hts⟩ (k_X5_wideMin l dC dI cy m0 m1 mc1 m2 mc2 a1 f1 a2 f2 th (r1 + r2) kn H.size N p1 p2 p3) (cwV 3 hts gL_law_X5_wideMin rfl rfl rfl (by decide +kernel) ⟨Nat.le_of_ble_eq_true rfl, Nat.le_of_ble_eq_true rfl⟩) (xM.preV hKc hPc hDc hAN (Nat.le_trans hN hS.1) (hG.kept hS hAN) (ci := 7) (q0 := 0) rfl rfl) rfl rfl hl.1 rfl (lv_room (Nat.le_of_ble_eq_true rfl)) dL_law_560 ⟨(show _ ≤ 989448 by omega), (show _ ≤ 6127760 by omega)⟩) hS (fun q _ h => hFc q h) hFc (fun r_2 u t H locs ht hvm hw hB hz hk hS => ?_)
  replace hw : r_2 = (o_X5_wideMin a1 f1 p1 p2 p3).1 := hw
  subst r_2
  obtain ⟨hP1, hD1⟩ := hB
  rw [ht] at hP1
  obtain ⟨hP, hD⟩ := va_join (wr := [(h0, eE h1 h2 kn), (h1, eR hw1 hc1 hb1 (o_L_wideMin a1 f1 nv p1 p2 p3).2.1 r1), (hw1, eW true), (hc1, eA cy (o_L_wideMin a1 f1 nv p1 p2 p3).2.2.1), (hb1, eA cy g1), (h2, eR hw2 hc2 hb2 a2 r2), (hw2, eW false), (hc2, eA cy f2), (hb2, eA cy g2), (ho, eO (o_L_wideMin a1 f1 nv p1 p2 p3).2.2.2 sv)]) (w1 := [(m0, eM m1 m2 (o_X5_wideMin a1 f1 p1 p2 p3).2.2.2 (r1 + r2) kn), (m1, eMR true mc1 (o_X5_wideMin a1 f1 p1 p2 p3).2.1), (mc1, eA cy (o_X5_wideMin a1 f1 p1 p2 p3).2.2.1), (m2, eMR false mc2 a2), (mc2, eA cy f2)]) hP hD [10, 11, 12, 13, 14] [0, 1, 2, 3, 4, 5, 6, 7, 8, 9] rfl rfl (by decide +kernel) (by decide +kernel) hk hFc hP1 hD1
  have hP := hP.sub (ws' := [(h0, eE h1 h2 kn), (h1, eR hw1 hc1 hb1 (o_L_wideMin a1 f1 nv p1 p2 p3).2.1 r1), (hw1, eW true), (hc1, eA cy (o_L_wideMin a1 f1 nv p1 p2 p3).2.2.1), (hb1, eA cy g1), (h2, eR hw2 hc2 hb2 a2 r2), (hw2, eW false), (hc2, eA cy f2), (hb2, eA cy g2), (ho, eO (o_L_wideMin a1 f1 nv p1 p2 p3).2.2.2 sv), (m0, eM m1 m2 (o_X5_wideMin a1 f1 p1 p2 p3).2.2.2 (r1 + r2) kn), (m1, eMR true mc1 (o_X5_wideMin a1 f1 p1 p2 p3).2.1), (mc1, eA cy (o_X5_wideMin a1 f1 p1 p2 p3).2.2.1), (m2, eMR false mc2 a2), (mc2, eA cy f2)]) [0, 1, 2, 3, 4, 5, 6, 7, 8, 9, 10, 11, 12, 13, 14] rfl
  have hD := hD.sub (ws' := [(h0, eE h1 h2 kn), (h1, eR hw1 hc1 hb1 (o_L_wideMin a1 f1 nv p1 p2 p3).2.1 r1), (hw1, eW true), (hc1, eA cy (o_L_wideMin a1 f1 nv p1 p2 p3).2.2.1), (hb1, eA cy g1), (h2, eR hw2 hc2 hb2 a2 r2), (hw2, eW false), (hc2, eA cy f2), (hb2, eA cy g2), (ho, eO (o_L_wideMin a1 f1 nv p1 p2 p3).2.2.2 sv), (m0, eM m1 m2 (o_X5_wideMin a1 f1 p1 p2 p3).2.2.2 (r1 + r2) kn), (m1, eMR true mc1 (o_X5_wideMin a1 f1 p1 p2 p3).2.1), (mc1, eA cy (o_X5_wideMin a1 f1 p1 p2 p3).2.2.1), (m2, eMR false mc2 a2), (mc2, eA cy f2)]) [0, 1, 2, 3, 4, 5, 6, 7, 8, 9, 10, 11, 12, 13, 14] (by decide +kernel) rfl
  refine lv_istore (lv' := [(6, .int ((o_X5_wideMin a1 f1 p1 p2 p3).1)), (5, .int ((o_L_wideMin a1 f1 nv p1 p2 p3).1)), (0, .ref b), (1, .ref h0), (2, .ref m0), (3, .ref ho), (4, .int (nI i))]) hx hb dL_law_563 hl (by decide +kernel) rfl (fun ls hl => ?_)
  refine lv_goto (tgt := 2240) hx hb dL_law_565 (by decide +kernel) ?_
  refine W.widen (k := cells + 760) (n := slots + 4500) (by omega) (by omega) ?_
  have qe_b1 : (o_X5_wideMin a1 f1 p1 p2 p3).2.1 = (o_L_wideMin a1 f1 nv p1 p2 p3).2.1 := (by have hm := ml_wideMin a1 nv p1 p2 p3 hka1; rw [hm.1] <;> rfl)
  have qe_e1 : (o_X5_wideMin a1 f1 p1 p2 p3).2.2.1 = (o_L_wideMin a1 f1 nv p1 p2 p3).2.2.1 := (by have hm := ml_wideMin a1 nv p1 p2 p3 hka1; rw [hm.1] <;> rfl)
  have qk_1 : okA true ((o_L_wideMin a1 f1 nv p1 p2 p3).2.2.1) := (by have hm := ml_wideMin a1 nv p1 p2 p3 hka1; rw [hm.1]; exact hm.2)
  exact K ((o_L_wideMin a1 f1 nv p1 p2 p3).2.1) r1 ((o_L_wideMin a1 f1 nv p1 p2 p3).2.2.1) g1 a2 r2 f2 g2 kn ((o_L_wideMin a1 f1 nv p1 p2 p3).2.2.2) sv ((o_X5_wideMin a1 f1 p1 p2 p3).2.2.2) ((o_X5_wideMin a1 f1 p1 p2 p3).2.1) ((o_X5_wideMin a1 f1 p1 p2 p3).2.2.1) a2 f2 (r1 + r2) kn _ _ _ qe_b1 qe_e1 rfl rfl rfl rfl qk_1 hka2 hP hD hS (lv_sub hl [2, 3, 4, 5, 6] rfl)
set_option maxHeartbeats 4000000 in
set_option maxRecDepth 100000 in
theorem st_7 (l : Launch) (p : Program) (e : Env) (s : State) (m : MethodId) (below : List Frame) (meth : Method) (c : Code) (b L N : Nat) (xs : Nat → Int32) (A : Nat → Prop) (dC : Nat → ClassId) (dI : Nat → Nat → Nat) (cy cB : ClassId) (h0 h1 hw1 hc1 hb1 h2 hw2 hc2 hb2 ho m0 m1 mc1 m2 mc2 : Nat) (C0 : lw_C l p e s m below meth c b L N xs A dC dI cy cB) (i : Nat) (hi : i + 4 ≤ L) (p1 p2 p3 : Int32) (hp1 : xs (i + 1) = p1) (hp2 : xs (i + 2) = p2) (hp3 : xs (i + 3) = p3) (cells slots : Nat) (hcs : cells + 760 ≤ 989448) (hss : slots + 4500 ≤ 6127760) (K : lw_K l p e s m below meth c b L N xs A dC dI cy cB h0 h1 hw1 hc1 hb1 h2 hw2 hc2 hb2 ho m0 m1 mc1 m2 mc2 i (cells + 760) (slots + 4500) 2240) (a1 : Int32) (r1 : Int32) (f1 : Nat → Int64) (g1 : Nat → Int64) (a2 : Int32) (r2 : Int32) (f2 : Nat → Int64) (g2 : Nat → Int64) (kn : Int32) (nv : Int64) (sv : Value) (th : Int32) (H : Heap) (locs : List Loc) (ls : Array Slot) (hka1 : okA true f1) (hka2 : okA false f2) (hP : va_P (dC, dI) xCl [(h0, eE h1 h2 kn), (h1, eR hw1 hc1 hb1 a1 r1), (hw1, eW true), (hc1, eA cy f1), (hb1, eA cy g1), (h2, eR hw2 hc2 hb2 a2 r2), (hw2, eW false), (hc2, eA cy f2), (hb2, eA cy g2), (ho, eO nv sv), (m0, eM m1 m2 th (r1 + r2) kn), (m1, eMR true mc1 a1), (mc1, eA cy f1), (m2, eMR false mc2 a2), (mc2, eA cy f2)] H) (hD : va_D A [(h0, eE h1 h2 kn), (h1, eR hw1 hc1 hb1 a1 r1), (hw1, eW true), (hc1, eA cy f1), (hb1, eA cy g1), (h2, eR hw2 hc2 hb2 a2 r2), (hw2, eW false), (hc2, eA cy f2), (hb2, eA cy g2), (ho, eO nv sv), (m0, eM m1 m2 th (r1 + r2) kn), (m1, eMR true mc1 a1), (mc1, eA cy f1), (m2, eMR false mc2 a2), (mc2, eA cy f2)]) (hS : va_S A s.heap H locs) (hl : lv_has ls 7 [(0, .ref b), (1, .ref h0), (2, .ref m0), (3, .ref ho), (4, .int (nI i))]) : W p l e room_1 s m #[Value.ref b] below meth c H locs cells slots (lw_Z below #[Value.ref b] s) (F0 m 568 ls []) := by
  obtain ⟨hfl, hx, hb, hr, hml, hown, hts, hX, hbl, hbA, hlocks, hK, hG, hnc, hA, hAN, hN, hL, hT, hNs⟩ := id C0
  have hok2 := me_okF hka2
  have hsp1 : ∀ k, k < 8 → o_X1_isSpoiled true (f1 k) = false := fun k hk => (hka1 k hk).2
  have hsp2 : ∀ k, k < 8 → o_X1_isSpoiled false (f2 k) = false := fun k hk => (hka2 k hk).2
  refine lv_aload_n hx hb dL_law_568 rfl (lv_at hl 1 rfl) ?_
  refine lv_aload_n hx hb dL_law_569 rfl (lv_at hl 0 rfl) ?_
  refine lv_iload hx hb dL_law_570 (lv_at hl 4 rfl) ?_
  refine lv_iconst (v := 1) hx hb dL_law_572 (by decide +kernel) ?_
  refine lv_iadd hx hb dL_law_573 ?_
  rw [nI_1 i]
  refine xa_sld hx hb hX hbl hbA hS (k := i + 1) (by omega) hL hp1 dL_law_574 ?_
  refine lv_aload_n hx hb dL_law_575 rfl (lv_at hl 0 rfl) ?_
  refine lv_iload hx hb dL_law_576 (lv_at hl 4 rfl) ?_
  refine lv_iconst (v := 2) hx hb dL_law_578 (by decide +kernel) ?_
  refine lv_iadd hx hb dL_law_579 ?_
  rw [nI_p2 i]
  refine xa_sld hx hb hX hbl hbA hS (k := i + 2) (by omega) hL hp2 dL_law_580 ?_
  refine lv_aload_n hx hb dL_law_581 rfl (lv_at hl 0 rfl) ?_
  refine lv_iload hx hb dL_law_582 (lv_at hl 4 rfl) ?_
  refine lv_iconst (v := 3) hx hb dL_law_584 (by decide +kernel) ?_
  refine lv_iadd hx hb dL_law_585 ?_
  rw [nI_p3 i]
  refine xa_sld hx hb hX hbl hbA hS (k := i + 3) (by omega) hL hp3 dL_law_586 ?_
  refine lv_aload_n hx hb dL_law_587 rfl (lv_at hl 3 rfl) ?_
  have hPc := hP.sub (ws' := [(h0, eE h1 h2 kn), (h1, eR hw1 hc1 hb1 a1 r1), (hw1, eW true), (hc1, eA cy f1), (hb1, eA cy g1), (h2, eR hw2 hc2 hb2 a2 r2), (hw2, eW false), (hc2, eA cy f2), (hb2, eA cy g2), (ho, eO nv sv)]) [0, 1, 2, 3, 4, 5, 6, 7, 8, 9] rfl
  have hDc := hD.sub (ws' := [(h0, eE h1 h2 kn), (h1, eR hw1 hc1 hb1 a1 r1), (hw1, eW true), (hc1, eA cy f1), (hb1, eA cy g1), (h2, eR hw2 hc2 hb2 a2 r2), (hw2, eW false), (hc2, eA cy f2), (hb2, eA cy g2), (ho, eO nv sv)]) [0, 1, 2, 3, 4, 5, 6, 7, 8, 9] (by decide +kernel) rfl
  have hKc := hK.sub (tys' := [(cy, .long)]) [0] rfl
  have hFc := va_free (wc := [(h0, eE h1 h2 kn), (h1, eR hw1 hc1 hb1 a1 r1), (hw1, eW true), (hc1, eA cy f1), (hb1, eA cy g1), (h2, eR hw2 hc2 hb2 a2 r2), (hw2, eW false), (hc2, eA cy f2), (hb2, eA cy g2), (ho, eO nv sv)]) hD hS hA [0, 1, 2, 3, 4, 5, 6, 7, 8, 9] rfl
  refine va_calli (vx_runSW (As := [.ref h0, .int p1, .int p2, .int p3, .ref ho]) (rest := []) ⟨hx, hb, hml, hown, hts⟩ (k_L_wideSum l hfl dC dI cy h0 h1 hw1 hc1 hb1 h2 hw2 hc2 hb2 a1 r1 f1 g1 a2 r2 f2 g2 kn ho nv sv H.size N p1 p2 p3) (vx_cwSW 5 hts gL_law_L_wideSum rfl rfl rfl (by decide +kernel) ⟨Nat.le_of_ble_eq_true rfl, Nat.le_of_ble_eq_true rfl⟩) (xL.preS hKc hPc hDc hAN (Nat.le_trans hN hS.1) (hG.kept hS hAN) hnc) rfl rfl hl.1 rfl (lv_room (Nat.le_of_ble_eq_true rfl)) dL_law_588 ⟨(show _ ≤ 989448 by omega), (show _ ≤ 6127760 by omega)⟩) hS (fun q _ h => hFc q h) hFc (fun r_1 u t H locs ht hvm hw hB hz hk hS => ?_)
  replace hw : r_1 = (o_L_wideSum a1 r1 f1 nv p1 p2 p3).1 := hw
  subst r_1
  obtain ⟨hP1, hD1⟩ := hB
  rw [ht] at hP1
  obtain ⟨hP, hD⟩ := va_join (wr := [(m0, eM m1 m2 th (r1 + r2) kn), (m1, eMR true mc1 a1), (mc1, eA cy f1), (m2, eMR false mc2 a2), (mc2, eA cy f2)]) (w1 := [(h0, eE h1 h2 kn), (h1, eR hw1 hc1 hb1 (o_L_wideSum a1 r1 f1 nv p1 p2 p3).2.1 (o_L_wideSum a1 r1 f1 nv p1 p2 p3).2.2.1), (hw1, eW true), (hc1, eA cy (o_L_wideSum a1 r1 f1 nv p1 p2 p3).2.2.2.1), (hb1, eA cy g1), (h2, eR hw2 hc2 hb2 a2 r2), (hw2, eW false), (hc2, eA cy f2), (hb2, eA cy g2), (ho, eO (o_L_wideSum a1 r1 f1 nv p1 p2 p3).2.2.2.2 sv)]) hP hD [0, 1, 2, 3, 4, 5, 6, 7, 8, 9] [10, 11, 12, 13, 14] rfl rfl (by decide +kernel) (by decide +kernel) hk hFc hP1 hD1
  have hP := hP.sub (ws' := [(h0, eE h1 h2 kn), (h1, eR hw1 hc1 hb1 (o_L_wideSum a1 r1 f1 nv p1 p2 p3).2.1 (o_L_wideSum a1 r1 f1 nv p1 p2 p3).2.2.1), (hw1, eW true), (hc1, eA cy (o_L_wideSum a1 r1 f1 nv p1 p2 p3).2.2.2.1), (hb1, eA cy g1), (h2, eR hw2 hc2 hb2 a2 r2), (hw2, eW false), (hc2, eA cy f2), (hb2, eA cy g2), (ho, eO (o_L_wideSum a1 r1 f1 nv p1 p2 p3).2.2.2.2 sv), (m0, eM m1 m2 th (r1 + r2) kn), (m1, eMR true mc1 a1), (mc1, eA cy f1), (m2, eMR false mc2 a2), (mc2, eA cy f2)]) [5, 6, 7, 8, 9, 10, 11, 12, 13, 14, 0, 1, 2, 3, 4] rfl
  have hD := hD.sub (ws' := [(h0, eE h1 h2 kn), (h1, eR hw1 hc1 hb1 (o_L_wideSum a1 r1 f1 nv p1 p2 p3).2.1 (o_L_wideSum a1 r1 f1 nv p1 p2 p3).2.2.1), (hw1, eW true), (hc1, eA cy (o_L_wideSum a1 r1 f1 nv p1 p2 p3).2.2.2.1), (hb1, eA cy g1), (h2, eR hw2 hc2 hb2 a2 r2), (hw2, eW false), (hc2, eA cy f2), (hb2, eA cy g2), (ho, eO (o_L_wideSum a1 r1 f1 nv p1 p2 p3).2.2.2.2 sv), (m0, eM m1 m2 th (r1 + r2) kn), (m1, eMR true mc1 a1), (mc1, eA cy f1), (m2, eMR false mc2 a2), (mc2, eA cy f2)]) [5, 6, 7, 8, 9, 10, 11, 12, 13, 14, 0, 1, 2, 3, 4] (by decide +kernel) rfl
  refine lv_istore (lv' := [(5, .int ((o_L_wideSum a1 r1 f1 nv p1 p2 p3).1)), (0, .ref b), (1, .ref h0), (2, .ref m0), (3, .ref ho), (4, .int (nI i))]) hx hb dL_law_591 hl (by decide +kernel) rfl (fun ls hl => ?_)
  refine lv_aload_n hx hb dL_law_593 rfl (lv_at hl 3 rfl) ?_
  refine lv_aload_n hx hb dL_law_594 rfl (lv_at hl 1 rfl) ?_
  refine lv_iload hx hb dL_law_595 (lv_at hl 5 rfl) ?_
  refine lv_iconst (v := 1) hx hb dL_law_597 (by decide +kernel) ?_
  refine lv_iadd hx hb dL_law_598 ?_
  rw [nI_1 i]
  refine xa_sld hx hb hX hbl hbA hS (k := i + 1) (by omega) hL hp1 dL_law_599 ?_
  refine lv_aload_n hx hb dL_law_600 rfl (lv_at hl 1 rfl) ?_
  refine lv_iload hx hb dL_law_601 (lv_at hl 5 rfl) ?_
  refine lv_iconst (v := 2) hx hb dL_law_603 (by decide +kernel) ?_
  refine lv_iadd hx hb dL_law_604 ?_
  rw [nI_p2 i]
  refine xa_sld hx hb hX hbl hbA hS (k := i + 2) (by omega) hL hp2 dL_law_605 ?_
  refine lv_aload_n hx hb dL_law_606 rfl (lv_at hl 1 rfl) ?_
  refine lv_iload hx hb dL_law_607 (lv_at hl 5 rfl) ?_
  refine lv_iconst (v := 3) hx hb dL_law_609 (by decide +kernel) ?_
  refine lv_iadd hx hb dL_law_610 ?_
  rw [nI_p3 i]
  refine xa_sld hx hb hX hbl hbA hS (k := i + 3) (by omega) hL hp3 dL_law_611 ?_
  have hPc := hP.sub (ws' := [(m0, eM m1 m2 th (r1 + r2) kn), (m1, eMR true mc1 a1), (mc1, eA cy f1), (m2, eMR false mc2 a2), (mc2, eA cy f2)]) [10, 11, 12, 13, 14] rfl
  have hDc := hD.sub (ws' := [(m0, eM m1 m2 th (r1 + r2) kn), (m1, eMR true mc1 a1), (mc1, eA cy f1), (m2, eMR false mc2 a2), (mc2, eA cy f2)]) [10, 11, 12, 13, 14] (by decide +kernel) rfl
  have hKc := hK.sub (tys' := [(cy, .long)]) [0] rfl
  have hFc := va_free (wc := [(m0, eM m1 m2 th (r1 + r2) kn), (m1, eMR true mc1 a1), (mc1, eA cy f1), (m2, eMR false mc2 a2), (mc2, eA cy f2)]) hD hS hA [10, 11, 12, 13, 14] rfl
  refine va_calli (va_runV (As := [.int p1, .int p2, .int p3]) (rest := []) ⟨hx, hb, hml, hown, hts⟩ (k_X5_wideSum l dC dI cy m0 m1 mc1 m2 mc2 a1 f1 a2 f2 th (r1 + r2) kn H.size N p1 p2 p3) (cwV 3 hts gL_law_X5_wideSum rfl rfl rfl (by decide +kernel) ⟨Nat.le_of_ble_eq_true rfl, Nat.le_of_ble_eq_true rfl⟩) (xM.preV hKc hPc hDc hAN (Nat.le_trans hN hS.1) (hG.kept hS hAN) (ci := 7) (q0 := 0) rfl rfl) rfl rfl hl.1 rfl (lv_room (Nat.le_of_ble_eq_true rfl)) dL_law_612 ⟨(show _ ≤ 989448 by omega), (show _ ≤ 6127760 by omega)⟩) hS (fun q _ h => hFc q h) hFc (fun r_2 u t H locs ht hvm hw hB hz hk hS => ?_)
  replace hw : r_2 = (o_X5_wideSum a1 f1 (r1 + r2) p1 p2 p3).1 := hw
  subst r_2
  obtain ⟨hP1, hD1⟩ := hB
  rw [ht] at hP1
  obtain ⟨hP, hD⟩ := va_join (wr := [(h0, eE h1 h2 kn), (h1, eR hw1 hc1 hb1 (o_L_wideSum a1 r1 f1 nv p1 p2 p3).2.1 (o_L_wideSum a1 r1 f1 nv p1 p2 p3).2.2.1), (hw1, eW true), (hc1, eA cy (o_L_wideSum a1 r1 f1 nv p1 p2 p3).2.2.2.1), (hb1, eA cy g1), (h2, eR hw2 hc2 hb2 a2 r2), (hw2, eW false), (hc2, eA cy f2), (hb2, eA cy g2), (ho, eO (o_L_wideSum a1 r1 f1 nv p1 p2 p3).2.2.2.2 sv)]) (w1 := [(m0, eM m1 m2 (o_X5_wideSum a1 f1 (r1 + r2) p1 p2 p3).2.2.2.1 (o_X5_wideSum a1 f1 (r1 + r2) p1 p2 p3).2.2.2.2 kn), (m1, eMR true mc1 (o_X5_wideSum a1 f1 (r1 + r2) p1 p2 p3).2.1), (mc1, eA cy (o_X5_wideSum a1 f1 (r1 + r2) p1 p2 p3).2.2.1), (m2, eMR false mc2 a2), (mc2, eA cy f2)]) hP hD [10, 11, 12, 13, 14] [0, 1, 2, 3, 4, 5, 6, 7, 8, 9] rfl rfl (by decide +kernel) (by decide +kernel) hk hFc hP1 hD1
  have hP := hP.sub (ws' := [(h0, eE h1 h2 kn), (h1, eR hw1 hc1 hb1 (o_L_wideSum a1 r1 f1 nv p1 p2 p3).2.1 (o_L_wideSum a1 r1 f1 nv p1 p2 p3).2.2.1), (hw1, eW true), (hc1, eA cy (o_L_wideSum a1 r1 f1 nv p1 p2 p3).2.2.2.1), (hb1, eA cy g1), (h2, eR hw2 hc2 hb2 a2 r2), (hw2, eW false), (hc2, eA cy f2), (hb2, eA cy g2), (ho, eO (o_L_wideSum a1 r1 f1 nv p1 p2 p3).2.2.2.2 sv), (m0, eM m1 m2 (o_X5_wideSum a1 f1 (r1 + r2) p1 p2 p3).2.2.2.1 (o_X5_wideSum a1 f1 (r1 + r2) p1 p2 p3).2.2.2.2 kn), (m1, eMR true mc1 (o_X5_wideSum a1 f1 (r1 + r2) p1 p2 p3).2.1), (mc1, eA cy (o_X5_wideSum a1 f1 (r1 + r2) p1 p2 p3).2.2.1), (m2, eMR false mc2 a2), (mc2, eA cy f2)]) [0, 1, 2, 3, 4, 5, 6, 7, 8, 9, 10, 11, 12, 13, 14] rfl
  have hD := hD.sub (ws' := [(h0, eE h1 h2 kn), (h1, eR hw1 hc1 hb1 (o_L_wideSum a1 r1 f1 nv p1 p2 p3).2.1 (o_L_wideSum a1 r1 f1 nv p1 p2 p3).2.2.1), (hw1, eW true), (hc1, eA cy (o_L_wideSum a1 r1 f1 nv p1 p2 p3).2.2.2.1), (hb1, eA cy g1), (h2, eR hw2 hc2 hb2 a2 r2), (hw2, eW false), (hc2, eA cy f2), (hb2, eA cy g2), (ho, eO (o_L_wideSum a1 r1 f1 nv p1 p2 p3).2.2.2.2 sv), (m0, eM m1 m2 (o_X5_wideSum a1 f1 (r1 + r2) p1 p2 p3).2.2.2.1 (o_X5_wideSum a1 f1 (r1 + r2) p1 p2 p3).2.2.2.2 kn), (m1, eMR true mc1 (o_X5_wideSum a1 f1 (r1 + r2) p1 p2 p3).2.1), (mc1, eA cy (o_X5_wideSum a1 f1 (r1 + r2) p1 p2 p3).2.2.1), (m2, eMR false mc2 a2), (mc2, eA cy f2)]) [0, 1, 2, 3, 4, 5, 6, 7, 8, 9, 10, 11, 12, 13, 14] (by decide +kernel) rfl
  refine lv_istore (lv' := [(6, .int ((o_X5_wideSum a1 f1 (r1 + r2) p1 p2 p3).1)), (5, .int ((o_L_wideSum a1 r1 f1 nv p1 p2 p3).1)), (0, .ref b), (1, .ref h0), (2, .ref m0), (3, .ref ho), (4, .int (nI i))]) hx hb dL_law_615 hl (by decide +kernel) rfl (fun ls hl => ?_)
  refine lv_goto (tgt := 2240) hx hb dL_law_617 (by decide +kernel) ?_
  refine W.widen (k := cells + 760) (n := slots + 4500) (by omega) (by omega) ?_
  have qe_b1 : (o_X5_wideSum a1 f1 (r1 + r2) p1 p2 p3).2.1 = (o_L_wideSum a1 r1 f1 nv p1 p2 p3).2.1 := (by have hm := ml_wideSum a1 r1 r2 nv p1 p2 p3 hka1; exact hm.2.1.symm)
  have qe_e1 : (o_X5_wideSum a1 f1 (r1 + r2) p1 p2 p3).2.2.1 = (o_L_wideSum a1 r1 f1 nv p1 p2 p3).2.2.2.1 := (by have hm := ml_wideSum a1 r1 r2 nv p1 p2 p3 hka1; exact hm.2.2.2.1.symm)
  have qe_rf : (o_X5_wideSum a1 f1 (r1 + r2) p1 p2 p3).2.2.2.2 = (o_L_wideSum a1 r1 f1 nv p1 p2 p3).2.2.1 + r2 := (by have hm := ml_wideSum a1 r1 r2 nv p1 p2 p3 hka1; exact hm.2.2.1.symm)
  have qk_1 : okA true ((o_L_wideSum a1 r1 f1 nv p1 p2 p3).2.2.2.1) := (by have hm := ml_wideSum a1 r1 r2 nv p1 p2 p3 hka1; rw [hm.2.2.2.1]; exact hm.2.2.2.2.2)
  exact K ((o_L_wideSum a1 r1 f1 nv p1 p2 p3).2.1) ((o_L_wideSum a1 r1 f1 nv p1 p2 p3).2.2.1) ((o_L_wideSum a1 r1 f1 nv p1 p2 p3).2.2.2.1) g1 a2 r2 f2 g2 kn ((o_L_wideSum a1 r1 f1 nv p1 p2 p3).2.2.2.2) sv ((o_X5_wideSum a1 f1 (r1 + r2) p1 p2 p3).2.2.2.1) ((o_X5_wideSum a1 f1 (r1 + r2) p1 p2 p3).2.1) ((o_X5_wideSum a1 f1 (r1 + r2) p1 p2 p3).2.2.1) a2 f2 ((o_X5_wideSum a1 f1 (r1 + r2) p1 p2 p3).2.2.2.2) kn _ _ _ qe_b1 qe_e1 rfl rfl qe_rf rfl qk_1 hka2 hP hD hS (lv_sub hl [2, 3, 4, 5, 6] rfl)
set_option maxHeartbeats 4000000 in
set_option maxRecDepth 100000 in
theorem st_8 (l : Launch) (p : Program) (e : Env) (s : State) (m : MethodId) (below : List Frame) (meth : Method) (c : Code) (b L N : Nat) (xs : Nat → Int32) (A : Nat → Prop) (dC : Nat → ClassId) (dI : Nat → Nat → Nat) (cy cB : ClassId) (h0 h1 hw1 hc1 hb1 h2 hw2 hc2 hb2 ho m0 m1 mc1 m2 mc2 : Nat) (C0 : lw_C l p e s m below meth c b L N xs A dC dI cy cB) (i : Nat) (hi : i + 4 ≤ L) (p1 p2 p3 : Int32) (hp1 : xs (i + 1) = p1) (hp2 : xs (i + 2) = p2) (hp3 : xs (i + 3) = p3) (cells slots : Nat) (hcs : cells + 760 ≤ 989448) (hss : slots + 4500 ≤ 6127760) (K : lw_K l p e s m below meth c b L N xs A dC dI cy cB h0 h1 hw1 hc1 hb1 h2 hw2 hc2 hb2 ho m0 m1 mc1 m2 mc2 i (cells + 760) (slots + 4500) 2240) (a1 : Int32) (r1 : Int32) (f1 : Nat → Int64) (g1 : Nat → Int64) (a2 : Int32) (r2 : Int32) (f2 : Nat → Int64) (g2 : Nat → Int64) (kn : Int32) (nv : Int64) (sv : Value) (th : Int32) (H : Heap) (locs : List Loc) (ls : Array Slot) (hka1 : okA true f1) (hka2 : okA false f2) (hP : va_P (dC, dI) xCl [(h0, eE h1 h2 kn), (h1, eR hw1 hc1 hb1 a1 r1), (hw1, eW true), (hc1, eA cy f1), (hb1, eA cy g1), (h2, eR hw2 hc2 hb2 a2 r2), (hw2, eW false), (hc2, eA cy f2), (hb2, eA cy g2), (ho, eO nv sv), (m0, eM m1 m2 th (r1 + r2) kn), (m1, eMR true mc1 a1), (mc1, eA cy f1), (m2, eMR false mc2 a2), (mc2, eA cy f2)] H) (hD : va_D A [(h0, eE h1 h2 kn), (h1, eR hw1 hc1 hb1 a1 r1), (hw1, eW true), (hc1, eA cy f1), (hb1, eA cy g1), (h2, eR hw2 hc2 hb2 a2 r2), (hw2, eW false), (hc2, eA cy f2), (hb2, eA cy g2), (ho, eO nv sv), (m0, eM m1 m2 th (r1 + r2) kn), (m1, eMR true mc1 a1), (mc1, eA cy f1), (m2, eMR false mc2 a2), (mc2, eA cy f2)]) (hS : va_S A s.heap H locs) (hl : lv_has ls 7 [(0, .ref b), (1, .ref h0), (2, .ref m0), (3, .ref ho), (4, .int (nI i))]) : W p l e room_1 s m #[Value.ref b] below meth c H locs cells slots (lw_Z below #[Value.ref b] s) (F0 m 620 ls []) := by
  obtain ⟨hfl, hx, hb, hr, hml, hown, hts, hX, hbl, hbA, hlocks, hK, hG, hnc, hA, hAN, hN, hL, hT, hNs⟩ := id C0
  have hok2 := me_okF hka2
  have hsp1 : ∀ k, k < 8 → o_X1_isSpoiled true (f1 k) = false := fun k hk => (hka1 k hk).2
  have hsp2 : ∀ k, k < 8 → o_X1_isSpoiled false (f2 k) = false := fun k hk => (hka2 k hk).2
  refine lv_aload_n hx hb dL_law_620 rfl (lv_at hl 1 rfl) ?_
  refine lv_aload_n hx hb dL_law_621 rfl (lv_at hl 0 rfl) ?_
  refine lv_iload hx hb dL_law_622 (lv_at hl 4 rfl) ?_
  refine lv_iconst (v := 1) hx hb dL_law_624 (by decide +kernel) ?_
  refine lv_iadd hx hb dL_law_625 ?_
  rw [nI_1 i]
  refine xa_sld hx hb hX hbl hbA hS (k := i + 1) (by omega) hL hp1 dL_law_626 ?_
  refine lv_aload_n hx hb dL_law_627 rfl (lv_at hl 3 rfl) ?_
  have hPc := hP.sub (ws' := [(h0, eE h1 h2 kn), (h1, eR hw1 hc1 hb1 a1 r1), (hw1, eW true), (hc1, eA cy f1), (hb1, eA cy g1), (h2, eR hw2 hc2 hb2 a2 r2), (hw2, eW false), (hc2, eA cy f2), (hb2, eA cy g2), (ho, eO nv sv)]) [0, 1, 2, 3, 4, 5, 6, 7, 8, 9] rfl
  have hDc := hD.sub (ws' := [(h0, eE h1 h2 kn), (h1, eR hw1 hc1 hb1 a1 r1), (hw1, eW true), (hc1, eA cy f1), (hb1, eA cy g1), (h2, eR hw2 hc2 hb2 a2 r2), (hw2, eW false), (hc2, eA cy f2), (hb2, eA cy g2), (ho, eO nv sv)]) [0, 1, 2, 3, 4, 5, 6, 7, 8, 9] (by decide +kernel) rfl
  have hKc := hK.sub (tys' := [(cy, .long)]) [0] rfl
  have hFc := va_free (wc := [(h0, eE h1 h2 kn), (h1, eR hw1 hc1 hb1 a1 r1), (hw1, eW true), (hc1, eA cy f1), (hb1, eA cy g1), (h2, eR hw2 hc2 hb2 a2 r2), (hw2, eW false), (hc2, eA cy f2), (hb2, eA cy g2), (ho, eO nv sv)]) hD hS hA [0, 1, 2, 3, 4, 5, 6, 7, 8, 9] rfl
  refine va_calli (vx_runSW (As := [.ref h0, .int p1, .ref ho]) (rest := []) ⟨hx, hb, hml, hown, hts⟩ (k_L_wideSort l hfl dC dI cy h0 h1 hw1 hc1 hb1 h2 hw2 hc2 hb2 a1 r1 f1 g1 a2 r2 f2 g2 kn ho nv sv H.size N p1) (vx_cwSW 3 hts gL_law_L_wideSort rfl rfl rfl (by decide +kernel) ⟨Nat.le_of_ble_eq_true rfl, Nat.le_of_ble_eq_true rfl⟩) (xL.preS hKc hPc hDc hAN (Nat.le_trans hN hS.1) (hG.kept hS hAN) hnc) rfl rfl hl.1 rfl (lv_room (Nat.le_of_ble_eq_true rfl)) dL_law_628 ⟨(show _ ≤ 989448 by omega), (show _ ≤ 6127760 by omega)⟩) hS (fun q _ h => hFc q h) hFc (fun r_1 u t H locs ht hvm hw hB hz hk hS => ?_)
  replace hw : r_1 = (o_L_wideSort a1 f1 g1 nv p1).1 := hw
  subst r_1
  obtain ⟨hP1, hD1⟩ := hB
  rw [ht] at hP1
  obtain ⟨hP, hD⟩ := va_join (wr := [(m0, eM m1 m2 th (r1 + r2) kn), (m1, eMR true mc1 a1), (mc1, eA cy f1), (m2, eMR false mc2 a2), (mc2, eA cy f2)]) (w1 := [(h0, eE h1 h2 kn), (h1, eR hw1 hc1 hb1 (o_L_wideSort a1 f1 g1 nv p1).2.1 r1), (hw1, eW true), (hc1, eA cy (o_L_wideSort a1 f1 g1 nv p1).2.2.1), (hb1, eA cy (o_L_wideSort a1 f1 g1 nv p1).2.2.2.1), (h2, eR hw2 hc2 hb2 a2 r2), (hw2, eW false), (hc2, eA cy f2), (hb2, eA cy g2), (ho, eO (o_L_wideSort a1 f1 g1 nv p1).2.2.2.2 sv)]) hP hD [0, 1, 2, 3, 4, 5, 6, 7, 8, 9] [10, 11, 12, 13, 14] rfl rfl (by decide +kernel) (by decide +kernel) hk hFc hP1 hD1
  have hP := hP.sub (ws' := [(h0, eE h1 h2 kn), (h1, eR hw1 hc1 hb1 (o_L_wideSort a1 f1 g1 nv p1).2.1 r1), (hw1, eW true), (hc1, eA cy (o_L_wideSort a1 f1 g1 nv p1).2.2.1), (hb1, eA cy (o_L_wideSort a1 f1 g1 nv p1).2.2.2.1), (h2, eR hw2 hc2 hb2 a2 r2), (hw2, eW false), (hc2, eA cy f2), (hb2, eA cy g2), (ho, eO (o_L_wideSort a1 f1 g1 nv p1).2.2.2.2 sv), (m0, eM m1 m2 th (r1 + r2) kn), (m1, eMR true mc1 a1), (mc1, eA cy f1), (m2, eMR false mc2 a2), (mc2, eA cy f2)]) [5, 6, 7, 8, 9, 10, 11, 12, 13, 14, 0, 1, 2, 3, 4] rfl
  have hD := hD.sub (ws' := [(h0, eE h1 h2 kn), (h1, eR hw1 hc1 hb1 (o_L_wideSort a1 f1 g1 nv p1).2.1 r1), (hw1, eW true), (hc1, eA cy (o_L_wideSort a1 f1 g1 nv p1).2.2.1), (hb1, eA cy (o_L_wideSort a1 f1 g1 nv p1).2.2.2.1), (h2, eR hw2 hc2 hb2 a2 r2), (hw2, eW false), (hc2, eA cy f2), (hb2, eA cy g2), (ho, eO (o_L_wideSort a1 f1 g1 nv p1).2.2.2.2 sv), (m0, eM m1 m2 th (r1 + r2) kn), (m1, eMR true mc1 a1), (mc1, eA cy f1), (m2, eMR false mc2 a2), (mc2, eA cy f2)]) [5, 6, 7, 8, 9, 10, 11, 12, 13, 14, 0, 1, 2, 3, 4] (by decide +kernel) rfl
  refine lv_istore (lv' := [(5, .int ((o_L_wideSort a1 f1 g1 nv p1).1)), (0, .ref b), (1, .ref h0), (2, .ref m0), (3, .ref ho), (4, .int (nI i))]) hx hb dL_law_631 hl (by decide +kernel) rfl (fun ls hl => ?_)
  refine lv_aload_n hx hb dL_law_633 rfl (lv_at hl 3 rfl) ?_
  refine lv_aload_n hx hb dL_law_634 rfl (lv_at hl 1 rfl) ?_
  refine lv_iload hx hb dL_law_635 (lv_at hl 5 rfl) ?_
  refine lv_iconst (v := 1) hx hb dL_law_637 (by decide +kernel) ?_
  refine lv_iadd hx hb dL_law_638 ?_
  rw [nI_1 i]
  refine xa_sld hx hb hX hbl hbA hS (k := i + 1) (by omega) hL hp1 dL_law_639 ?_
  have hPc := hP.sub (ws' := [(m0, eM m1 m2 th (r1 + r2) kn), (m1, eMR true mc1 a1), (mc1, eA cy f1), (m2, eMR false mc2 a2), (mc2, eA cy f2)]) [10, 11, 12, 13, 14] rfl
  have hDc := hD.sub (ws' := [(m0, eM m1 m2 th (r1 + r2) kn), (m1, eMR true mc1 a1), (mc1, eA cy f1), (m2, eMR false mc2 a2), (mc2, eA cy f2)]) [10, 11, 12, 13, 14] (by decide +kernel) rfl
  have hKc := hK.sub (tys' := [(cy, .long)]) [0] rfl
  have hFc := va_free (wc := [(m0, eM m1 m2 th (r1 + r2) kn), (m1, eMR true mc1 a1), (mc1, eA cy f1), (m2, eMR false mc2 a2), (mc2, eA cy f2)]) hD hS hA [10, 11, 12, 13, 14] rfl
  refine va_calli (va_runV (As := [.int p1]) (rest := []) ⟨hx, hb, hml, hown, hts⟩ (k_X5_wideSort l dC dI cy m0 m1 mc1 m2 mc2 a1 f1 a2 f2 th (r1 + r2) kn H.size N p1) (cwV 1 hts gL_law_X5_wideSort rfl rfl rfl (by decide +kernel) ⟨Nat.le_of_ble_eq_true rfl, Nat.le_of_ble_eq_true rfl⟩) (xM.preV hKc hPc hDc hAN (Nat.le_trans hN hS.1) (hG.kept hS hAN) (ci := 7) (q0 := 0) rfl rfl) rfl rfl hl.1 rfl (lv_room (Nat.le_of_ble_eq_true rfl)) dL_law_640 ⟨(show _ ≤ 989448 by omega), (show _ ≤ 6127760 by omega)⟩) hS (fun q _ h => hFc q h) hFc (fun r_2 u t H locs ht hvm hw hB hz hk hS => ?_)
  replace hw : r_2 = (o_X5_wideSort a1 f1 p1).1 := hw
  subst r_2
  obtain ⟨hP1, hD1⟩ := hB
  rw [ht] at hP1
  obtain ⟨hP, hD⟩ := va_join (wr := [(h0, eE h1 h2 kn), (h1, eR hw1 hc1 hb1 (o_L_wideSort a1 f1 g1 nv p1).2.1 r1), (hw1, eW true), (hc1, eA cy (o_L_wideSort a1 f1 g1 nv p1).2.2.1), (hb1, eA cy (o_L_wideSort a1 f1 g1 nv p1).2.2.2.1), (h2, eR hw2 hc2 hb2 a2 r2), (hw2, eW false), (hc2, eA cy f2), (hb2, eA cy g2), (ho, eO (o_L_wideSort a1 f1 g1 nv p1).2.2.2.2 sv)]) (w1 := [(m0, eM m1 m2 (o_X5_wideSort a1 f1 p1).2.2.2 (r1 + r2) kn), (m1, eMR true mc1 (o_X5_wideSort a1 f1 p1).2.1), (mc1, eA cy (o_X5_wideSort a1 f1 p1).2.2.1), (m2, eMR false mc2 a2), (mc2, eA cy f2)]) hP hD [10, 11, 12, 13, 14] [0, 1, 2, 3, 4, 5, 6, 7, 8, 9] rfl rfl (by decide +kernel) (by decide +kernel) hk hFc hP1 hD1
  have hP := hP.sub (ws' := [(h0, eE h1 h2 kn), (h1, eR hw1 hc1 hb1 (o_L_wideSort a1 f1 g1 nv p1).2.1 r1), (hw1, eW true), (hc1, eA cy (o_L_wideSort a1 f1 g1 nv p1).2.2.1), (hb1, eA cy (o_L_wideSort a1 f1 g1 nv p1).2.2.2.1), (h2, eR hw2 hc2 hb2 a2 r2), (hw2, eW false), (hc2, eA cy f2), (hb2, eA cy g2), (ho, eO (o_L_wideSort a1 f1 g1 nv p1).2.2.2.2 sv), (m0, eM m1 m2 (o_X5_wideSort a1 f1 p1).2.2.2 (r1 + r2) kn), (m1, eMR true mc1 (o_X5_wideSort a1 f1 p1).2.1), (mc1, eA cy (o_X5_wideSort a1 f1 p1).2.2.1), (m2, eMR false mc2 a2), (mc2, eA cy f2)]) [0, 1, 2, 3, 4, 5, 6, 7, 8, 9, 10, 11, 12, 13, 14] rfl
  have hD := hD.sub (ws' := [(h0, eE h1 h2 kn), (h1, eR hw1 hc1 hb1 (o_L_wideSort a1 f1 g1 nv p1).2.1 r1), (hw1, eW true), (hc1, eA cy (o_L_wideSort a1 f1 g1 nv p1).2.2.1), (hb1, eA cy (o_L_wideSort a1 f1 g1 nv p1).2.2.2.1), (h2, eR hw2 hc2 hb2 a2 r2), (hw2, eW false), (hc2, eA cy f2), (hb2, eA cy g2), (ho, eO (o_L_wideSort a1 f1 g1 nv p1).2.2.2.2 sv), (m0, eM m1 m2 (o_X5_wideSort a1 f1 p1).2.2.2 (r1 + r2) kn), (m1, eMR true mc1 (o_X5_wideSort a1 f1 p1).2.1), (mc1, eA cy (o_X5_wideSort a1 f1 p1).2.2.1), (m2, eMR false mc2 a2), (mc2, eA cy f2)]) [0, 1, 2, 3, 4, 5, 6, 7, 8, 9, 10, 11, 12, 13, 14] (by decide +kernel) rfl
  refine lv_istore (lv' := [(6, .int ((o_X5_wideSort a1 f1 p1).1)), (5, .int ((o_L_wideSort a1 f1 g1 nv p1).1)), (0, .ref b), (1, .ref h0), (2, .ref m0), (3, .ref ho), (4, .int (nI i))]) hx hb dL_law_643 hl (by decide +kernel) rfl (fun ls hl => ?_)
  refine lv_goto (tgt := 2240) hx hb dL_law_645 (by decide +kernel) ?_
  refine W.widen (k := cells + 760) (n := slots + 4500) (by omega) (by omega) ?_
  have qe_b1 : (o_X5_wideSort a1 f1 p1).2.1 = (o_L_wideSort a1 f1 g1 nv p1).2.1 := (by have hm := ml_wideSort a1 g1 nv p1 hka1; exact hm.2.1.symm)
  have qe_e1 : (o_X5_wideSort a1 f1 p1).2.2.1 = (o_L_wideSort a1 f1 g1 nv p1).2.2.1 := (by have hm := ml_wideSort a1 g1 nv p1 hka1; exact hm.2.2.1.symm)
  have qk_1 : okA true ((o_L_wideSort a1 f1 g1 nv p1).2.2.1) := (by have hm := ml_wideSort a1 g1 nv p1 hka1; rw [hm.2.2.1]; exact hm.2.2.2.2)
  exact K ((o_L_wideSort a1 f1 g1 nv p1).2.1) r1 ((o_L_wideSort a1 f1 g1 nv p1).2.2.1) ((o_L_wideSort a1 f1 g1 nv p1).2.2.2.1) a2 r2 f2 g2 kn ((o_L_wideSort a1 f1 g1 nv p1).2.2.2.2) sv ((o_X5_wideSort a1 f1 p1).2.2.2) ((o_X5_wideSort a1 f1 p1).2.1) ((o_X5_wideSort a1 f1 p1).2.2.1) a2 f2 (r1 + r2) kn _ _ _ qe_b1 qe_e1 rfl rfl rfl rfl qk_1 hka2 hP hD hS (lv_sub hl [2, 3, 4, 5, 6] rfl)
set_option maxHeartbeats 4000000 in
set_option maxRecDepth 100000 in
theorem st_9 (l : Launch) (p : Program) (e : Env) (s : State) (m : MethodId) (below : List Frame) (meth : Method) (c : Code) (b L N : Nat) (xs : Nat → Int32) (A : Nat → Prop) (dC : Nat → ClassId) (dI : Nat → Nat → Nat) (cy cB : ClassId) (h0 h1 hw1 hc1 hb1 h2 hw2 hc2 hb2 ho m0 m1 mc1 m2 mc2 : Nat) (C0 : lw_C l p e s m below meth c b L N xs A dC dI cy cB) (i : Nat) (hi : i + 4 ≤ L) (p1 p2 p3 : Int32) (hp1 : xs (i + 1) = p1) (hp2 : xs (i + 2) = p2) (hp3 : xs (i + 3) = p3) (cells slots : Nat) (hcs : cells + 760 ≤ 989448) (hss : slots + 4500 ≤ 6127760) (K : lw_K l p e s m below meth c b L N xs A dC dI cy cB h0 h1 hw1 hc1 hb1 h2 hw2 hc2 hb2 ho m0 m1 mc1 m2 mc2 i (cells + 760) (slots + 4500) 2240) (a1 : Int32) (r1 : Int32) (f1 : Nat → Int64) (g1 : Nat → Int64) (a2 : Int32) (r2 : Int32) (f2 : Nat → Int64) (g2 : Nat → Int64) (kn : Int32) (nv : Int64) (sv : Value) (th : Int32) (H : Heap) (locs : List Loc) (ls : Array Slot) (hka1 : okA true f1) (hka2 : okA false f2) (hP : va_P (dC, dI) xCl [(h0, eE h1 h2 kn), (h1, eR hw1 hc1 hb1 a1 r1), (hw1, eW true), (hc1, eA cy f1), (hb1, eA cy g1), (h2, eR hw2 hc2 hb2 a2 r2), (hw2, eW false), (hc2, eA cy f2), (hb2, eA cy g2), (ho, eO nv sv), (m0, eM m1 m2 th (r1 + r2) kn), (m1, eMR true mc1 a1), (mc1, eA cy f1), (m2, eMR false mc2 a2), (mc2, eA cy f2)] H) (hD : va_D A [(h0, eE h1 h2 kn), (h1, eR hw1 hc1 hb1 a1 r1), (hw1, eW true), (hc1, eA cy f1), (hb1, eA cy g1), (h2, eR hw2 hc2 hb2 a2 r2), (hw2, eW false), (hc2, eA cy f2), (hb2, eA cy g2), (ho, eO nv sv), (m0, eM m1 m2 th (r1 + r2) kn), (m1, eMR true mc1 a1), (mc1, eA cy f1), (m2, eMR false mc2 a2), (mc2, eA cy f2)]) (hS : va_S A s.heap H locs) (hl : lv_has ls 7 [(0, .ref b), (1, .ref h0), (2, .ref m0), (3, .ref ho), (4, .int (nI i))]) : W p l e room_1 s m #[Value.ref b] below meth c H locs cells slots (lw_Z below #[Value.ref b] s) (F0 m 648 ls []) := by
  obtain ⟨hfl, hx, hb, hr, hml, hown, hts, hX, hbl, hbA, hlocks, hK, hG, hnc, hA, hAN, hN, hL, hT, hNs⟩ := id C0
  have hok2 := me_okF hka2
  have hsp1 : ∀ k, k < 8 → o_X1_isSpoiled true (f1 k) = false := fun k hk => (hka1 k hk).2
  have hsp2 : ∀ k, k < 8 → o_X1_isSpoiled false (f2 k) = false := fun k hk => (hka2 k hk).2
  refine lv_aload_n hx hb dL_law_648 rfl (lv_at hl 1 rfl) ?_
  refine lv_aload_n hx hb dL_law_649 rfl (lv_at hl 0 rfl) ?_
  refine lv_iload hx hb dL_law_650 (lv_at hl 4 rfl) ?_
  refine lv_iconst (v := 1) hx hb dL_law_652 (by decide +kernel) ?_
  refine lv_iadd hx hb dL_law_653 ?_
  rw [nI_1 i]
  refine xa_sld hx hb hX hbl hbA hS (k := i + 1) (by omega) hL hp1 dL_law_654 ?_
  refine lv_if_eq (tgt := 662) hx hb dL_law_655 (by decide +kernel) (fun c_1 => ?_) (fun c_1 => ?_)
  · skip
    refine lv_iconst (v := 0) hx hb dL_law_662 (by decide +kernel) ?_
    refine lv_aload_n hx hb dL_law_663 rfl (lv_at hl 0 rfl) ?_
    refine lv_iload hx hb dL_law_664 (lv_at hl 4 rfl) ?_
    refine lv_iconst (v := 2) hx hb dL_law_666 (by decide +kernel) ?_
    refine lv_iadd hx hb dL_law_667 ?_
    rw [nI_p2 i]
    refine xa_sld hx hb hX hbl hbA hS (k := i + 2) (by omega) hL hp2 dL_law_668 ?_
    refine lv_aload_n hx hb dL_law_669 rfl (lv_at hl 3 rfl) ?_
    have hPc := hP.sub (ws' := [(h0, eE h1 h2 kn), (h1, eR hw1 hc1 hb1 a1 r1), (hw1, eW true), (hc1, eA cy f1), (hb1, eA cy g1), (h2, eR hw2 hc2 hb2 a2 r2), (hw2, eW false), (hc2, eA cy f2), (hb2, eA cy g2), (ho, eO nv sv)]) [0, 1, 2, 3, 4, 5, 6, 7, 8, 9] rfl
    have hDc := hD.sub (ws' := [(h0, eE h1 h2 kn), (h1, eR hw1 hc1 hb1 a1 r1), (hw1, eW true), (hc1, eA cy f1), (hb1, eA cy g1), (h2, eR hw2 hc2 hb2 a2 r2), (hw2, eW false), (hc2, eA cy f2), (hb2, eA cy g2), (ho, eO nv sv)]) [0, 1, 2, 3, 4, 5, 6, 7, 8, 9] (by decide +kernel) rfl
    have hKc := hK.sub (tys' := [(cy, .long)]) [0] rfl
    have hFc := va_free (wc := [(h0, eE h1 h2 kn), (h1, eR hw1 hc1 hb1 a1 r1), (hw1, eW true), (hc1, eA cy f1), (hb1, eA cy g1), (h2, eR hw2 hc2 hb2 a2 r2), (hw2, eW false), (hc2, eA cy f2), (hb2, eA cy g2), (ho, eO nv sv)]) hD hS hA [0, 1, 2, 3, 4, 5, 6, 7, 8, 9] rfl
    refine va_calli (vx_runSW (As := [.ref h0, .int 0, .int p2, .ref ho]) (rest := []) ⟨hx, hb, hml, hown, hts⟩ (k_L_wideEnd l hfl dC dI cy h0 h1 hw1 hc1 hb1 h2 hw2 hc2 hb2 a1 r1 f1 g1 a2 r2 f2 g2 kn ho nv sv H.size N false p2) (vx_cwSW 4 hts gL_law_L_wideEnd rfl rfl rfl (by decide +kernel) ⟨Nat.le_of_ble_eq_true rfl, Nat.le_of_ble_eq_true rfl⟩) (xL.preS hKc hPc hDc hAN (Nat.le_trans hN hS.1) (hG.kept hS hAN) hnc) rfl rfl hl.1 rfl (lv_room (Nat.le_of_ble_eq_true rfl)) dL_law_670 ⟨(show _ ≤ 989448 by omega), (show _ ≤ 6127760 by omega)⟩) hS (fun q _ h => hFc q h) hFc (fun r_2 u t H locs ht hvm hw hB hz hk hS => ?_)
    replace hw : r_2 = (o_L_wideEnd a1 f1 nv false p2).1 := hw
    subst r_2
    obtain ⟨hP1, hD1⟩ := hB
    rw [ht] at hP1
    obtain ⟨hP, hD⟩ := va_join (wr := [(m0, eM m1 m2 th (r1 + r2) kn), (m1, eMR true mc1 a1), (mc1, eA cy f1), (m2, eMR false mc2 a2), (mc2, eA cy f2)]) (w1 := [(h0, eE h1 h2 kn), (h1, eR hw1 hc1 hb1 (o_L_wideEnd a1 f1 nv false p2).2.1 r1), (hw1, eW true), (hc1, eA cy (o_L_wideEnd a1 f1 nv false p2).2.2.1), (hb1, eA cy g1), (h2, eR hw2 hc2 hb2 a2 r2), (hw2, eW false), (hc2, eA cy f2), (hb2, eA cy g2), (ho, eO (o_L_wideEnd a1 f1 nv false p2).2.2.2 sv)]) hP hD [0, 1, 2, 3, 4, 5, 6, 7, 8, 9] [10, 11, 12, 13, 14] rfl rfl (by decide +kernel) (by decide +kernel) hk hFc hP1 hD1
    have hP := hP.sub (ws' := [(h0, eE h1 h2 kn), (h1, eR hw1 hc1 hb1 (o_L_wideEnd a1 f1 nv false p2).2.1 r1), (hw1, eW true), (hc1, eA cy (o_L_wideEnd a1 f1 nv false p2).2.2.1), (hb1, eA cy g1), (h2, eR hw2 hc2 hb2 a2 r2), (hw2, eW false), (hc2, eA cy f2), (hb2, eA cy g2), (ho, eO (o_L_wideEnd a1 f1 nv false p2).2.2.2 sv), (m0, eM m1 m2 th (r1 + r2) kn), (m1, eMR true mc1 a1), (mc1, eA cy f1), (m2, eMR false mc2 a2), (mc2, eA cy f2)]) [5, 6, 7, 8, 9, 10, 11, 12, 13, 14, 0, 1, 2, 3, 4] rfl
    have hD := hD.sub (ws' := [(h0, eE h1 h2 kn), (h1, eR hw1 hc1 hb1 (o_L_wideEnd a1 f1 nv false p2).2.1 r1), (hw1, eW true), (hc1, eA cy (o_L_wideEnd a1 f1 nv false p2).2.2.1), (hb1, eA cy g1), (h2, eR hw2 hc2 hb2 a2 r2), (hw2, eW false), (hc2, eA cy f2), (hb2, eA cy g2), (ho, eO (o_L_wideEnd a1 f1 nv false p2).2.2.2 sv), (m0, eM m1 m2 th (r1 + r2) kn), (m1, eMR true mc1 a1), (mc1, eA cy f1), (m2, eMR false mc2 a2), (mc2, eA cy f2)]) [5, 6, 7, 8, 9, 10, 11, 12, 13, 14, 0, 1, 2, 3, 4] (by decide +kernel) rfl
    refine lv_istore (lv' := [(5, .int ((o_L_wideEnd a1 f1 nv false p2).1)), (0, .ref b), (1, .ref h0), (2, .ref m0), (3, .ref ho), (4, .int (nI i))]) hx hb dL_law_673 hl (by decide +kernel) rfl (fun ls hl => ?_)
    refine lv_aload_n hx hb dL_law_675 rfl (lv_at hl 3 rfl) ?_
    refine lv_aload_n hx hb dL_law_676 rfl (lv_at hl 1 rfl) ?_
    refine lv_iload hx hb dL_law_677 (lv_at hl 5 rfl) ?_
    refine lv_iconst (v := 1) hx hb dL_law_679 (by decide +kernel) ?_
    refine lv_iadd hx hb dL_law_680 ?_
    rw [nI_1 i]
    refine xa_sld hx hb hX hbl hbA hS (k := i + 1) (by omega) hL hp1 dL_law_681 ?_
    refine lv_if_eq (tgt := 689) hx hb dL_law_682 (by decide +kernel) (fun c9 => ?_) (fun c9 => absurd c_1 c9)
    refine lv_iconst (v := 0) hx hb dL_law_689 (by decide +kernel) ?_
    refine lv_aload_n hx hb dL_law_690 rfl (lv_at hl 1 rfl) ?_
    refine lv_iload hx hb dL_law_691 (lv_at hl 5 rfl) ?_
    refine lv_iconst (v := 2) hx hb dL_law_693 (by decide +kernel) ?_
    refine lv_iadd hx hb dL_law_694 ?_
    rw [nI_p2 i]
    refine xa_sld hx hb hX hbl hbA hS (k := i + 2) (by omega) hL hp2 dL_law_695 ?_
    have hPc := hP.sub (ws' := [(m0, eM m1 m2 th (r1 + r2) kn), (m1, eMR true mc1 a1), (mc1, eA cy f1), (m2, eMR false mc2 a2), (mc2, eA cy f2)]) [10, 11, 12, 13, 14] rfl
    have hDc := hD.sub (ws' := [(m0, eM m1 m2 th (r1 + r2) kn), (m1, eMR true mc1 a1), (mc1, eA cy f1), (m2, eMR false mc2 a2), (mc2, eA cy f2)]) [10, 11, 12, 13, 14] (by decide +kernel) rfl
    have hKc := hK.sub (tys' := [(cy, .long)]) [0] rfl
    have hFc := va_free (wc := [(m0, eM m1 m2 th (r1 + r2) kn), (m1, eMR true mc1 a1), (mc1, eA cy f1), (m2, eMR false mc2 a2), (mc2, eA cy f2)]) hD hS hA [10, 11, 12, 13, 14] rfl
    refine va_calli (va_runV (As := [.int 0, .int p2]) (rest := []) ⟨hx, hb, hml, hown, hts⟩ (k_X5_wideEnd l dC dI cy m0 m1 mc1 m2 mc2 a1 f1 a2 f2 th (r1 + r2) kn H.size N false p2) (cwV 2 hts gL_law_X5_wideEnd rfl rfl rfl (by decide +kernel) ⟨Nat.le_of_ble_eq_true rfl, Nat.le_of_ble_eq_true rfl⟩) (xM.preV hKc hPc hDc hAN (Nat.le_trans hN hS.1) (hG.kept hS hAN) (ci := 7) (q0 := 0) rfl rfl) rfl rfl hl.1 rfl (lv_room (Nat.le_of_ble_eq_true rfl)) dL_law_696 ⟨(show _ ≤ 989448 by omega), (show _ ≤ 6127760 by omega)⟩) hS (fun q _ h => hFc q h) hFc (fun r_3 u t H locs ht hvm hw hB hz hk hS => ?_)
    replace hw : r_3 = (o_X5_wideEnd a1 f1 false p2).1 := hw
    subst r_3
    obtain ⟨hP1, hD1⟩ := hB
    rw [ht] at hP1
    obtain ⟨hP, hD⟩ := va_join (wr := [(h0, eE h1 h2 kn), (h1, eR hw1 hc1 hb1 (o_L_wideEnd a1 f1 nv false p2).2.1 r1), (hw1, eW true), (hc1, eA cy (o_L_wideEnd a1 f1 nv false p2).2.2.1), (hb1, eA cy g1), (h2, eR hw2 hc2 hb2 a2 r2), (hw2, eW false), (hc2, eA cy f2), (hb2, eA cy g2), (ho, eO (o_L_wideEnd a1 f1 nv false p2).2.2.2 sv)]) (w1 := [(m0, eM m1 m2 (o_X5_wideEnd a1 f1 false p2).2.2.2 (r1 + r2) kn), (m1, eMR true mc1 (o_X5_wideEnd a1 f1 false p2).2.1), (mc1, eA cy (o_X5_wideEnd a1 f1 false p2).2.2.1), (m2, eMR false mc2 a2), (mc2, eA cy f2)]) hP hD [10, 11, 12, 13, 14] [0, 1, 2, 3, 4, 5, 6, 7, 8, 9] rfl rfl (by decide +kernel) (by decide +kernel) hk hFc hP1 hD1
    have hP := hP.sub (ws' := [(h0, eE h1 h2 kn), (h1, eR hw1 hc1 hb1 (o_L_wideEnd a1 f1 nv false p2).2.1 r1), (hw1, eW true), (hc1, eA cy (o_L_wideEnd a1 f1 nv false p2).2.2.1), (hb1, eA cy g1), (h2, eR hw2 hc2 hb2 a2 r2), (hw2, eW false), (hc2, eA cy f2), (hb2, eA cy g2), (ho, eO (o_L_wideEnd a1 f1 nv false p2).2.2.2 sv), (m0, eM m1 m2 (o_X5_wideEnd a1 f1 false p2).2.2.2 (r1 + r2) kn), (m1, eMR true mc1 (o_X5_wideEnd a1 f1 false p2).2.1), (mc1, eA cy (o_X5_wideEnd a1 f1 false p2).2.2.1), (m2, eMR false mc2 a2), (mc2, eA cy f2)]) [0, 1, 2, 3, 4, 5, 6, 7, 8, 9, 10, 11, 12, 13, 14] rfl
    have hD := hD.sub (ws' := [(h0, eE h1 h2 kn), (h1, eR hw1 hc1 hb1 (o_L_wideEnd a1 f1 nv false p2).2.1 r1), (hw1, eW true), (hc1, eA cy (o_L_wideEnd a1 f1 nv false p2).2.2.1), (hb1, eA cy g1), (h2, eR hw2 hc2 hb2 a2 r2), (hw2, eW false), (hc2, eA cy f2), (hb2, eA cy g2), (ho, eO (o_L_wideEnd a1 f1 nv false p2).2.2.2 sv), (m0, eM m1 m2 (o_X5_wideEnd a1 f1 false p2).2.2.2 (r1 + r2) kn), (m1, eMR true mc1 (o_X5_wideEnd a1 f1 false p2).2.1), (mc1, eA cy (o_X5_wideEnd a1 f1 false p2).2.2.1), (m2, eMR false mc2 a2), (mc2, eA cy f2)]) [0, 1, 2, 3, 4, 5, 6, 7, 8, 9, 10, 11, 12, 13, 14] (by decide +kernel) rfl
    refine lv_istore (lv' := [(6, .int ((o_X5_wideEnd a1 f1 false p2).1)), (5, .int ((o_L_wideEnd a1 f1 nv false p2).1)), (0, .ref b), (1, .ref h0), (2, .ref m0), (3, .ref ho), (4, .int (nI i))]) hx hb dL_law_699 hl (by decide +kernel) rfl (fun ls hl => ?_)
    refine lv_goto (tgt := 2240) hx hb dL_law_701 (by decide +kernel) ?_
    refine W.widen (k := cells + 760) (n := slots + 4500) (by omega) (by omega) ?_
    have qe_b1 : (o_X5_wideEnd a1 f1 false p2).2.1 = (o_L_wideEnd a1 f1 nv false p2).2.1 := (by have hm := ml_wideEnd a1 nv false p2 hka1; rw [hm.1] <;> rfl)
    have qe_e1 : (o_X5_wideEnd a1 f1 false p2).2.2.1 = (o_L_wideEnd a1 f1 nv false p2).2.2.1 := (by have hm := ml_wideEnd a1 nv false p2 hka1; rw [hm.1] <;> rfl)
    have qk_1 : okA true ((o_L_wideEnd a1 f1 nv false p2).2.2.1) := (by have hm := ml_wideEnd a1 nv false p2 hka1; rw [hm.1]; exact hm.2)
    exact K ((o_L_wideEnd a1 f1 nv false p2).2.1) r1 ((o_L_wideEnd a1 f1 nv false p2).2.2.1) g1 a2 r2 f2 g2 kn ((o_L_wideEnd a1 f1 nv false p2).2.2.2) sv ((o_X5_wideEnd a1 f1 false p2).2.2.2) ((o_X5_wideEnd a1 f1 false p2).2.1) ((o_X5_wideEnd a1 f1 false p2).2.2.1) a2 f2 (r1 + r2) kn _ _ _ qe_b1 qe_e1 rfl rfl rfl rfl qk_1 hka2 hP hD hS (lv_sub hl [2, 3, 4, 5, 6] rfl)
  · skip
    refine lv_iconst (v := 1) hx hb dL_law_658 (by decide +kernel) ?_
    refine lv_goto (tgt := 663) hx hb dL_law_659 (by decide +kernel) ?_
    refine lv_aload_n hx hb dL_law_663 rfl (lv_at hl 0 rfl) ?_
    refine lv_iload hx hb dL_law_664 (lv_at hl 4 rfl) ?_
    refine lv_iconst (v := 2) hx hb dL_law_666 (by decide +kernel) ?_
    refine lv_iadd hx hb dL_law_667 ?_
    rw [nI_p2 i]
    refine xa_sld hx hb hX hbl hbA hS (k := i + 2) (by omega) hL hp2 dL_law_668 ?_
    refine lv_aload_n hx hb dL_law_669 rfl (lv_at hl 3 rfl) ?_
    have hPc := hP.sub (ws' := [(h0, eE h1 h2 kn), (h1, eR hw1 hc1 hb1 a1 r1), (hw1, eW true), (hc1, eA cy f1), (hb1, eA cy g1), (h2, eR hw2 hc2 hb2 a2 r2), (hw2, eW false), (hc2, eA cy f2), (hb2, eA cy g2), (ho, eO nv sv)]) [0, 1, 2, 3, 4, 5, 6, 7, 8, 9] rfl
    have hDc := hD.sub (ws' := [(h0, eE h1 h2 kn), (h1, eR hw1 hc1 hb1 a1 r1), (hw1, eW true), (hc1, eA cy f1), (hb1, eA cy g1), (h2, eR hw2 hc2 hb2 a2 r2), (hw2, eW false), (hc2, eA cy f2), (hb2, eA cy g2), (ho, eO nv sv)]) [0, 1, 2, 3, 4, 5, 6, 7, 8, 9] (by decide +kernel) rfl
    have hKc := hK.sub (tys' := [(cy, .long)]) [0] rfl
    have hFc := va_free (wc := [(h0, eE h1 h2 kn), (h1, eR hw1 hc1 hb1 a1 r1), (hw1, eW true), (hc1, eA cy f1), (hb1, eA cy g1), (h2, eR hw2 hc2 hb2 a2 r2), (hw2, eW false), (hc2, eA cy f2), (hb2, eA cy g2), (ho, eO nv sv)]) hD hS hA [0, 1, 2, 3, 4, 5, 6, 7, 8, 9] rfl
    refine va_calli (vx_runSW (As := [.ref h0, .int 1, .int p2, .ref ho]) (rest := []) ⟨hx, hb, hml, hown, hts⟩ (k_L_wideEnd l hfl dC dI cy h0 h1 hw1 hc1 hb1 h2 hw2 hc2 hb2 a1 r1 f1 g1 a2 r2 f2 g2 kn ho nv sv H.size N true p2) (vx_cwSW 4 hts gL_law_L_wideEnd rfl rfl rfl (by decide +kernel) ⟨Nat.le_of_ble_eq_true rfl, Nat.le_of_ble_eq_true rfl⟩) (xL.preS hKc hPc hDc hAN (Nat.le_trans hN hS.1) (hG.kept hS hAN) hnc) rfl rfl hl.1 rfl (lv_room (Nat.le_of_ble_eq_true rfl)) dL_law_670 ⟨(show _ ≤ 989448 by omega), (show _ ≤ 6127760 by omega)⟩) hS (fun q _ h => hFc q h) hFc (fun r_4 u t H locs ht hvm hw hB hz hk hS => ?_)
    replace hw : r_4 = (o_L_wideEnd a1 f1 nv true p2).1 := hw
    subst r_4
    obtain ⟨hP1, hD1⟩ := hB
    rw [ht] at hP1
    obtain ⟨hP, hD⟩ := va_join (wr := [(m0, eM m1 m2 th (r1 + r2) kn), (m1, eMR true mc1 a1), (mc1, eA cy f1), (m2, eMR false mc2 a2), (mc2, eA cy f2)]) (w1 := [(h0, eE h1 h2 kn), (h1, eR hw1 hc1 hb1 (o_L_wideEnd a1 f1 nv true p2).2.1 r1), (hw1, eW true), (hc1, eA cy (o_L_wideEnd a1 f1 nv true p2).2.2.1), (hb1, eA cy g1), (h2, eR hw2 hc2 hb2 a2 r2), (hw2, eW false), (hc2, eA cy f2), (hb2, eA cy g2), (ho, eO (o_L_wideEnd a1 f1 nv true p2).2.2.2 sv)]) hP hD [0, 1, 2, 3, 4, 5, 6, 7, 8, 9] [10, 11, 12, 13, 14] rfl rfl (by decide +kernel) (by decide +kernel) hk hFc hP1 hD1
    have hP := hP.sub (ws' := [(h0, eE h1 h2 kn), (h1, eR hw1 hc1 hb1 (o_L_wideEnd a1 f1 nv true p2).2.1 r1), (hw1, eW true), (hc1, eA cy (o_L_wideEnd a1 f1 nv true p2).2.2.1), (hb1, eA cy g1), (h2, eR hw2 hc2 hb2 a2 r2), (hw2, eW false), (hc2, eA cy f2), (hb2, eA cy g2), (ho, eO (o_L_wideEnd a1 f1 nv true p2).2.2.2 sv), (m0, eM m1 m2 th (r1 + r2) kn), (m1, eMR true mc1 a1), (mc1, eA cy f1), (m2, eMR false mc2 a2), (mc2, eA cy f2)]) [5, 6, 7, 8, 9, 10, 11, 12, 13, 14, 0, 1, 2, 3, 4] rfl
    have hD := hD.sub (ws' := [(h0, eE h1 h2 kn), (h1, eR hw1 hc1 hb1 (o_L_wideEnd a1 f1 nv true p2).2.1 r1), (hw1, eW true), (hc1, eA cy (o_L_wideEnd a1 f1 nv true p2).2.2.1), (hb1, eA cy g1), (h2, eR hw2 hc2 hb2 a2 r2), (hw2, eW false), (hc2, eA cy f2), (hb2, eA cy g2), (ho, eO (o_L_wideEnd a1 f1 nv true p2).2.2.2 sv), (m0, eM m1 m2 th (r1 + r2) kn), (m1, eMR true mc1 a1), (mc1, eA cy f1), (m2, eMR false mc2 a2), (mc2, eA cy f2)]) [5, 6, 7, 8, 9, 10, 11, 12, 13, 14, 0, 1, 2, 3, 4] (by decide +kernel) rfl
    refine lv_istore (lv' := [(5, .int ((o_L_wideEnd a1 f1 nv true p2).1)), (0, .ref b), (1, .ref h0), (2, .ref m0), (3, .ref ho), (4, .int (nI i))]) hx hb dL_law_673 hl (by decide +kernel) rfl (fun ls hl => ?_)
    refine lv_aload_n hx hb dL_law_675 rfl (lv_at hl 3 rfl) ?_
    refine lv_aload_n hx hb dL_law_676 rfl (lv_at hl 1 rfl) ?_
    refine lv_iload hx hb dL_law_677 (lv_at hl 5 rfl) ?_
    refine lv_iconst (v := 1) hx hb dL_law_679 (by decide +kernel) ?_
    refine lv_iadd hx hb dL_law_680 ?_
    rw [nI_1 i]
    refine xa_sld hx hb hX hbl hbA hS (k := i + 1) (by omega) hL hp1 dL_law_681 ?_
    refine lv_if_eq (tgt := 689) hx hb dL_law_682 (by decide +kernel) (fun c9 => absurd c9 c_1) (fun c9 => ?_)
    refine lv_iconst (v := 1) hx hb dL_law_685 (by decide +kernel) ?_
    refine lv_goto (tgt := 690) hx hb dL_law_686 (by decide +kernel) ?_
    refine lv_aload_n hx hb dL_law_690 rfl (lv_at hl 1 rfl) ?_
    refine lv_iload hx hb dL_law_691 (lv_at hl 5 rfl) ?_
    refine lv_iconst (v := 2) hx hb dL_law_693 (by decide +kernel) ?_
    refine lv_iadd hx hb dL_law_694 ?_
    rw [nI_p2 i]
    refine xa_sld hx hb hX hbl hbA hS (k := i + 2) (by omega) hL hp2 dL_law_695 ?_
    have hPc := hP.sub (ws' := [(m0, eM m1 m2 th (r1 + r2) kn), (m1, eMR true mc1 a1), (mc1, eA cy f1), (m2, eMR false mc2 a2), (mc2, eA cy f2)]) [10, 11, 12, 13, 14] rfl
    have hDc := hD.sub (ws' := [(m0, eM m1 m2 th (r1 + r2) kn), (m1, eMR true mc1 a1), (mc1, eA cy f1), (m2, eMR false mc2 a2), (mc2, eA cy f2)]) [10, 11, 12, 13, 14] (by decide +kernel) rfl
    have hKc := hK.sub (tys' := [(cy, .long)]) [0] rfl
    have hFc := va_free (wc := [(m0, eM m1 m2 th (r1 + r2) kn), (m1, eMR true mc1 a1), (mc1, eA cy f1), (m2, eMR false mc2 a2), (mc2, eA cy f2)]) hD hS hA [10, 11, 12, 13, 14] rfl
    refine va_calli (va_runV (As := [.int 1, .int p2]) (rest := []) ⟨hx, hb, hml, hown, hts⟩ (k_X5_wideEnd l dC dI cy m0 m1 mc1 m2 mc2 a1 f1 a2 f2 th (r1 + r2) kn H.size N true p2) (cwV 2 hts gL_law_X5_wideEnd rfl rfl rfl (by decide +kernel) ⟨Nat.le_of_ble_eq_true rfl, Nat.le_of_ble_eq_true rfl⟩) (xM.preV hKc hPc hDc hAN (Nat.le_trans hN hS.1) (hG.kept hS hAN) (ci := 7) (q0 := 0) rfl rfl) rfl rfl hl.1 rfl (lv_room (Nat.le_of_ble_eq_true rfl)) dL_law_696 ⟨(show _ ≤ 989448 by omega), (show _ ≤ 6127760 by omega)⟩) hS (fun q _ h => hFc q h) hFc (fun r_5 u t H locs ht hvm hw hB hz hk hS => ?_)
    replace hw : r_5 = (o_X5_wideEnd a1 f1 true p2).1 := hw
    subst r_5
    obtain ⟨hP1, hD1⟩ := hB
    rw [ht] at hP1
    obtain ⟨hP, hD⟩ := va_join (wr := [(h0, eE h1 h2 kn), (h1, eR hw1 hc1 hb1 (o_L_wideEnd a1 f1 nv true p2).2.1 r1), (hw1, eW true), (hc1, eA cy (o_L_wideEnd a1 f1 nv true p2).2.2.1), (hb1, eA cy g1), (h2, eR hw2 hc2 hb2 a2 r2), (hw2, eW false), (hc2, eA cy f2), (hb2, eA cy g2), (ho, eO (o_L_wideEnd a1 f1 nv true p2).2.2.2 sv)]) (w1 := [(m0, eM m1 m2 (o_X5_wideEnd a1 f1 true p2).2.2.2 (r1 + r2) kn), (m1, eMR true mc1 (o_X5_wideEnd a1 f1 true p2).2.1), (mc1, eA cy (o_X5_wideEnd a1 f1 true p2).2.2.1), (m2, eMR false mc2 a2), (mc2, eA cy f2)]) hP hD [10, 11, 12, 13, 14] [0, 1, 2, 3, 4, 5, 6, 7, 8, 9] rfl rfl (by decide +kernel) (by decide +kernel) hk hFc hP1 hD1
    have hP := hP.sub (ws' := [(h0, eE h1 h2 kn), (h1, eR hw1 hc1 hb1 (o_L_wideEnd a1 f1 nv true p2).2.1 r1), (hw1, eW true), (hc1, eA cy (o_L_wideEnd a1 f1 nv true p2).2.2.1), (hb1, eA cy g1), (h2, eR hw2 hc2 hb2 a2 r2), (hw2, eW false), (hc2, eA cy f2), (hb2, eA cy g2), (ho, eO (o_L_wideEnd a1 f1 nv true p2).2.2.2 sv), (m0, eM m1 m2 (o_X5_wideEnd a1 f1 true p2).2.2.2 (r1 + r2) kn), (m1, eMR true mc1 (o_X5_wideEnd a1 f1 true p2).2.1), (mc1, eA cy (o_X5_wideEnd a1 f1 true p2).2.2.1), (m2, eMR false mc2 a2), (mc2, eA cy f2)]) [0, 1, 2, 3, 4, 5, 6, 7, 8, 9, 10, 11, 12, 13, 14] rfl
    have hD := hD.sub (ws' := [(h0, eE h1 h2 kn), (h1, eR hw1 hc1 hb1 (o_L_wideEnd a1 f1 nv true p2).2.1 r1), (hw1, eW true), (hc1, eA cy (o_L_wideEnd a1 f1 nv true p2).2.2.1), (hb1, eA cy g1), (h2, eR hw2 hc2 hb2 a2 r2), (hw2, eW false), (hc2, eA cy f2), (hb2, eA cy g2), (ho, eO (o_L_wideEnd a1 f1 nv true p2).2.2.2 sv), (m0, eM m1 m2 (o_X5_wideEnd a1 f1 true p2).2.2.2 (r1 + r2) kn), (m1, eMR true mc1 (o_X5_wideEnd a1 f1 true p2).2.1), (mc1, eA cy (o_X5_wideEnd a1 f1 true p2).2.2.1), (m2, eMR false mc2 a2), (mc2, eA cy f2)]) [0, 1, 2, 3, 4, 5, 6, 7, 8, 9, 10, 11, 12, 13, 14] (by decide +kernel) rfl
    refine lv_istore (lv' := [(6, .int ((o_X5_wideEnd a1 f1 true p2).1)), (5, .int ((o_L_wideEnd a1 f1 nv true p2).1)), (0, .ref b), (1, .ref h0), (2, .ref m0), (3, .ref ho), (4, .int (nI i))]) hx hb dL_law_699 hl (by decide +kernel) rfl (fun ls hl => ?_)
    refine lv_goto (tgt := 2240) hx hb dL_law_701 (by decide +kernel) ?_
    refine W.widen (k := cells + 760) (n := slots + 4500) (by omega) (by omega) ?_
    have qe_b1 : (o_X5_wideEnd a1 f1 true p2).2.1 = (o_L_wideEnd a1 f1 nv true p2).2.1 := (by have hm := ml_wideEnd a1 nv true p2 hka1; rw [hm.1] <;> rfl)
    have qe_e1 : (o_X5_wideEnd a1 f1 true p2).2.2.1 = (o_L_wideEnd a1 f1 nv true p2).2.2.1 := (by have hm := ml_wideEnd a1 nv true p2 hka1; rw [hm.1] <;> rfl)
    have qk_1 : okA true ((o_L_wideEnd a1 f1 nv true p2).2.2.1) := (by have hm := ml_wideEnd a1 nv true p2 hka1; rw [hm.1]; exact hm.2)
    exact K ((o_L_wideEnd a1 f1 nv true p2).2.1) r1 ((o_L_wideEnd a1 f1 nv true p2).2.2.1) g1 a2 r2 f2 g2 kn ((o_L_wideEnd a1 f1 nv true p2).2.2.2) sv ((o_X5_wideEnd a1 f1 true p2).2.2.2) ((o_X5_wideEnd a1 f1 true p2).2.1) ((o_X5_wideEnd a1 f1 true p2).2.2.1) a2 f2 (r1 + r2) kn _ _ _ qe_b1 qe_e1 rfl rfl rfl rfl qk_1 hka2 hP hD hS (lv_sub hl [2, 3, 4, 5, 6] rfl)
set_option maxHeartbeats 4000000 in
set_option maxRecDepth 100000 in
theorem st_10 (l : Launch) (p : Program) (e : Env) (s : State) (m : MethodId) (below : List Frame) (meth : Method) (c : Code) (b L N : Nat) (xs : Nat → Int32) (A : Nat → Prop) (dC : Nat → ClassId) (dI : Nat → Nat → Nat) (cy cB : ClassId) (h0 h1 hw1 hc1 hb1 h2 hw2 hc2 hb2 ho m0 m1 mc1 m2 mc2 : Nat) (C0 : lw_C l p e s m below meth c b L N xs A dC dI cy cB) (i : Nat) (hi : i + 4 ≤ L) (p1 p2 p3 : Int32) (hp1 : xs (i + 1) = p1) (hp2 : xs (i + 2) = p2) (hp3 : xs (i + 3) = p3) (cells slots : Nat) (hcs : cells + 760 ≤ 989448) (hss : slots + 4500 ≤ 6127760) (K : lw_K l p e s m below meth c b L N xs A dC dI cy cB h0 h1 hw1 hc1 hb1 h2 hw2 hc2 hb2 ho m0 m1 mc1 m2 mc2 i (cells + 760) (slots + 4500) 2240) (a1 : Int32) (r1 : Int32) (f1 : Nat → Int64) (g1 : Nat → Int64) (a2 : Int32) (r2 : Int32) (f2 : Nat → Int64) (g2 : Nat → Int64) (kn : Int32) (nv : Int64) (sv : Value) (th : Int32) (H : Heap) (locs : List Loc) (ls : Array Slot) (hka1 : okA true f1) (hka2 : okA false f2) (hP : va_P (dC, dI) xCl [(h0, eE h1 h2 kn), (h1, eR hw1 hc1 hb1 a1 r1), (hw1, eW true), (hc1, eA cy f1), (hb1, eA cy g1), (h2, eR hw2 hc2 hb2 a2 r2), (hw2, eW false), (hc2, eA cy f2), (hb2, eA cy g2), (ho, eO nv sv), (m0, eM m1 m2 th (r1 + r2) kn), (m1, eMR true mc1 a1), (mc1, eA cy f1), (m2, eMR false mc2 a2), (mc2, eA cy f2)] H) (hD : va_D A [(h0, eE h1 h2 kn), (h1, eR hw1 hc1 hb1 a1 r1), (hw1, eW true), (hc1, eA cy f1), (hb1, eA cy g1), (h2, eR hw2 hc2 hb2 a2 r2), (hw2, eW false), (hc2, eA cy f2), (hb2, eA cy g2), (ho, eO nv sv), (m0, eM m1 m2 th (r1 + r2) kn), (m1, eMR true mc1 a1), (mc1, eA cy f1), (m2, eMR false mc2 a2), (mc2, eA cy f2)]) (hS : va_S A s.heap H locs) (hl : lv_has ls 7 [(0, .ref b), (1, .ref h0), (2, .ref m0), (3, .ref ho), (4, .int (nI i))]) : W p l e room_1 s m #[Value.ref b] below meth c H locs cells slots (lw_Z below #[Value.ref b] s) (F0 m 704 ls []) := by
  obtain ⟨hfl, hx, hb, hr, hml, hown, hts, hX, hbl, hbA, hlocks, hK, hG, hnc, hA, hAN, hN, hL, hT, hNs⟩ := id C0
  have hok2 := me_okF hka2
  have hsp1 : ∀ k, k < 8 → o_X1_isSpoiled true (f1 k) = false := fun k hk => (hka1 k hk).2
  have hsp2 : ∀ k, k < 8 → o_X1_isSpoiled false (f2 k) = false := fun k hk => (hka2 k hk).2
  refine lv_aload_n hx hb dL_law_704 rfl (lv_at hl 1 rfl) ?_
  refine lv_aload_n hx hb dL_law_705 rfl (lv_at hl 0 rfl) ?_
  refine lv_iload hx hb dL_law_706 (lv_at hl 4 rfl) ?_
  refine lv_iconst (v := 1) hx hb dL_law_708 (by decide +kernel) ?_
  refine lv_iadd hx hb dL_law_709 ?_
  rw [nI_1 i]
  refine xa_sld hx hb hX hbl hbA hS (k := i + 1) (by omega) hL hp1 dL_law_710 ?_
  refine lv_aload_n hx hb dL_law_711 rfl (lv_at hl 3 rfl) ?_
  have hPc := hP.sub (ws' := [(h0, eE h1 h2 kn), (h1, eR hw1 hc1 hb1 a1 r1), (hw1, eW true), (hc1, eA cy f1), (hb1, eA cy g1), (h2, eR hw2 hc2 hb2 a2 r2), (hw2, eW false), (hc2, eA cy f2), (hb2, eA cy g2), (ho, eO nv sv)]) [0, 1, 2, 3, 4, 5, 6, 7, 8, 9] rfl
  have hDc := hD.sub (ws' := [(h0, eE h1 h2 kn), (h1, eR hw1 hc1 hb1 a1 r1), (hw1, eW true), (hc1, eA cy f1), (hb1, eA cy g1), (h2, eR hw2 hc2 hb2 a2 r2), (hw2, eW false), (hc2, eA cy f2), (hb2, eA cy g2), (ho, eO nv sv)]) [0, 1, 2, 3, 4, 5, 6, 7, 8, 9] (by decide +kernel) rfl
  have hKc := hK.sub (tys' := [(cy, .long)]) [0] rfl
  have hFc := va_free (wc := [(h0, eE h1 h2 kn), (h1, eR hw1 hc1 hb1 a1 r1), (hw1, eW true), (hc1, eA cy f1), (hb1, eA cy g1), (h2, eR hw2 hc2 hb2 a2 r2), (hw2, eW false), (hc2, eA cy f2), (hb2, eA cy g2), (ho, eO nv sv)]) hD hS hA [0, 1, 2, 3, 4, 5, 6, 7, 8, 9] rfl
  refine va_calli (vx_runSW (As := [.ref h0, .int p1, .ref ho]) (rest := []) ⟨hx, hb, hml, hown, hts⟩ (k_L_upper l hfl dC dI cy h0 h1 hw1 hc1 hb1 h2 hw2 hc2 hb2 a1 r1 f1 g1 a2 r2 f2 g2 kn ho nv sv H.size N p1) (vx_cwSW 3 hts gL_law_L_upper rfl rfl rfl (by decide +kernel) ⟨Nat.le_of_ble_eq_true rfl, Nat.le_of_ble_eq_true rfl⟩) (xL.preS hKc hPc hDc hAN (Nat.le_trans hN hS.1) (hG.kept hS hAN) hnc) rfl rfl hl.1 rfl (lv_room (Nat.le_of_ble_eq_true rfl)) dL_law_712 ⟨(show _ ≤ 989448 by omega), (show _ ≤ 6127760 by omega)⟩) hS (fun q _ h => hFc q h) hFc (fun r_1 u t H locs ht hvm hw hB hz hk hS => ?_)
  replace hw : r_1 = (o_L_upper f1 nv p1).1 := hw
  subst r_1
  obtain ⟨hP1, hD1⟩ := hB
  rw [ht] at hP1
  obtain ⟨hP, hD⟩ := va_join (wr := [(m0, eM m1 m2 th (r1 + r2) kn), (m1, eMR true mc1 a1), (mc1, eA cy f1), (m2, eMR false mc2 a2), (mc2, eA cy f2)]) (w1 := [(h0, eE h1 h2 kn), (h1, eR hw1 hc1 hb1 a1 r1), (hw1, eW true), (hc1, eA cy f1), (hb1, eA cy g1), (h2, eR hw2 hc2 hb2 a2 r2), (hw2, eW false), (hc2, eA cy f2), (hb2, eA cy g2), (ho, eO (o_L_upper f1 nv p1).2 sv)]) hP hD [0, 1, 2, 3, 4, 5, 6, 7, 8, 9] [10, 11, 12, 13, 14] rfl rfl (by decide +kernel) (by decide +kernel) hk hFc hP1 hD1
  have hP := hP.sub (ws' := [(h0, eE h1 h2 kn), (h1, eR hw1 hc1 hb1 a1 r1), (hw1, eW true), (hc1, eA cy f1), (hb1, eA cy g1), (h2, eR hw2 hc2 hb2 a2 r2), (hw2, eW false), (hc2, eA cy f2), (hb2, eA cy g2), (ho, eO (o_L_upper f1 nv p1).2 sv), (m0, eM m1 m2 th (r1 + r2) kn), (m1, eMR true mc1 a1), (mc1, eA cy f1), (m2, eMR false mc2 a2), (mc2, eA cy f2)]) [5, 6, 7, 8, 9, 10, 11, 12, 13, 14, 0, 1, 2, 3, 4] rfl
  have hD := hD.sub (ws' := [(h0, eE h1 h2 kn), (h1, eR hw1 hc1 hb1 a1 r1), (hw1, eW true), (hc1, eA cy f1), (hb1, eA cy g1), (h2, eR hw2 hc2 hb2 a2 r2), (hw2, eW false), (hc2, eA cy f2), (hb2, eA cy g2), (ho, eO (o_L_upper f1 nv p1).2 sv), (m0, eM m1 m2 th (r1 + r2) kn), (m1, eMR true mc1 a1), (mc1, eA cy f1), (m2, eMR false mc2 a2), (mc2, eA cy f2)]) [5, 6, 7, 8, 9, 10, 11, 12, 13, 14, 0, 1, 2, 3, 4] (by decide +kernel) rfl
  refine lv_istore (lv' := [(5, .int ((o_L_upper f1 nv p1).1)), (0, .ref b), (1, .ref h0), (2, .ref m0), (3, .ref ho), (4, .int (nI i))]) hx hb dL_law_715 hl (by decide +kernel) rfl (fun ls hl => ?_)
  refine lv_aload_n hx hb dL_law_717 rfl (lv_at hl 3 rfl) ?_
  refine lv_aload_n hx hb dL_law_718 rfl (lv_at hl 1 rfl) ?_
  refine lv_iload hx hb dL_law_719 (lv_at hl 5 rfl) ?_
  refine lv_iconst (v := 1) hx hb dL_law_721 (by decide +kernel) ?_
  refine lv_iadd hx hb dL_law_722 ?_
  rw [nI_1 i]
  refine xa_sld hx hb hX hbl hbA hS (k := i + 1) (by omega) hL hp1 dL_law_723 ?_
  have hPc := hP.sub (ws' := [(m0, eM m1 m2 th (r1 + r2) kn), (m1, eMR true mc1 a1), (mc1, eA cy f1), (m2, eMR false mc2 a2), (mc2, eA cy f2)]) [10, 11, 12, 13, 14] rfl
  have hDc := hD.sub (ws' := [(m0, eM m1 m2 th (r1 + r2) kn), (m1, eMR true mc1 a1), (mc1, eA cy f1), (m2, eMR false mc2 a2), (mc2, eA cy f2)]) [10, 11, 12, 13, 14] (by decide +kernel) rfl
  have hKc := hK.sub (tys' := [(cy, .long)]) [0] rfl
  have hFc := va_free (wc := [(m0, eM m1 m2 th (r1 + r2) kn), (m1, eMR true mc1 a1), (mc1, eA cy f1), (m2, eMR false mc2 a2), (mc2, eA cy f2)]) hD hS hA [10, 11, 12, 13, 14] rfl
  refine va_calli (va_runV (As := [.int p1]) (rest := []) ⟨hx, hb, hml, hown, hts⟩ (k_X5_upper l dC dI cy m0 m1 mc1 m2 mc2 a1 f1 a2 f2 th (r1 + r2) kn H.size N p1) (cwV 1 hts gL_law_X5_upper rfl rfl rfl (by decide +kernel) ⟨Nat.le_of_ble_eq_true rfl, Nat.le_of_ble_eq_true rfl⟩) (xM.preV hKc hPc hDc hAN (Nat.le_trans hN hS.1) (hG.kept hS hAN) (ci := 7) (q0 := 0) rfl rfl) rfl rfl hl.1 rfl (lv_room (Nat.le_of_ble_eq_true rfl)) dL_law_724 ⟨(show _ ≤ 989448 by omega), (show _ ≤ 6127760 by omega)⟩) hS (fun q _ h => hFc q h) hFc (fun r_2 u t H locs ht hvm hw hB hz hk hS => ?_)
  replace hw : r_2 = (o_X5_upper f1 p1).1 := hw
  subst r_2
  obtain ⟨hP1, hD1⟩ := hB
  rw [ht] at hP1
  obtain ⟨hP, hD⟩ := va_join (wr := [(h0, eE h1 h2 kn), (h1, eR hw1 hc1 hb1 a1 r1), (hw1, eW true), (hc1, eA cy f1), (hb1, eA cy g1), (h2, eR hw2 hc2 hb2 a2 r2), (hw2, eW false), (hc2, eA cy f2), (hb2, eA cy g2), (ho, eO (o_L_upper f1 nv p1).2 sv)]) (w1 := [(m0, eM m1 m2 (o_X5_upper f1 p1).2 (r1 + r2) kn), (m1, eMR true mc1 a1), (mc1, eA cy f1), (m2, eMR false mc2 a2), (mc2, eA cy f2)]) hP hD [10, 11, 12, 13, 14] [0, 1, 2, 3, 4, 5, 6, 7, 8, 9] rfl rfl (by decide +kernel) (by decide +kernel) hk hFc hP1 hD1
  have hP := hP.sub (ws' := [(h0, eE h1 h2 kn), (h1, eR hw1 hc1 hb1 a1 r1), (hw1, eW true), (hc1, eA cy f1), (hb1, eA cy g1), (h2, eR hw2 hc2 hb2 a2 r2), (hw2, eW false), (hc2, eA cy f2), (hb2, eA cy g2), (ho, eO (o_L_upper f1 nv p1).2 sv), (m0, eM m1 m2 (o_X5_upper f1 p1).2 (r1 + r2) kn), (m1, eMR true mc1 a1), (mc1, eA cy f1), (m2, eMR false mc2 a2), (mc2, eA cy f2)]) [0, 1, 2, 3, 4, 5, 6, 7, 8, 9, 10, 11, 12, 13, 14] rfl
  have hD := hD.sub (ws' := [(h0, eE h1 h2 kn), (h1, eR hw1 hc1 hb1 a1 r1), (hw1, eW true), (hc1, eA cy f1), (hb1, eA cy g1), (h2, eR hw2 hc2 hb2 a2 r2), (hw2, eW false), (hc2, eA cy f2), (hb2, eA cy g2), (ho, eO (o_L_upper f1 nv p1).2 sv), (m0, eM m1 m2 (o_X5_upper f1 p1).2 (r1 + r2) kn), (m1, eMR true mc1 a1), (mc1, eA cy f1), (m2, eMR false mc2 a2), (mc2, eA cy f2)]) [0, 1, 2, 3, 4, 5, 6, 7, 8, 9, 10, 11, 12, 13, 14] (by decide +kernel) rfl
  refine lv_istore (lv' := [(6, .int ((o_X5_upper f1 p1).1)), (5, .int ((o_L_upper f1 nv p1).1)), (0, .ref b), (1, .ref h0), (2, .ref m0), (3, .ref ho), (4, .int (nI i))]) hx hb dL_law_727 hl (by decide +kernel) rfl (fun ls hl => ?_)
  refine lv_goto (tgt := 2240) hx hb dL_law_729 (by decide +kernel) ?_
  refine W.widen (k := cells + 760) (n := slots + 4500) (by omega) (by omega) ?_
  exact K a1 r1 f1 g1 a2 r2 f2 g2 kn ((o_L_upper f1 nv p1).2) sv ((o_X5_upper f1 p1).2) a1 f1 a2 f2 (r1 + r2) kn _ _ _ rfl rfl rfl rfl rfl rfl hka1 hka2 hP hD hS (lv_sub hl [2, 3, 4, 5, 6] rfl)
set_option maxHeartbeats 4000000 in
set_option maxRecDepth 100000 in
theorem st_11 (l : Launch) (p : Program) (e : Env) (s : State) (m : MethodId) (below : List Frame) (meth : Method) (c : Code) (b L N : Nat) (xs : Nat → Int32) (A : Nat → Prop) (dC : Nat → ClassId) (dI : Nat → Nat → Nat) (cy cB : ClassId) (h0 h1 hw1 hc1 hb1 h2 hw2 hc2 hb2 ho m0 m1 mc1 m2 mc2 : Nat) (C0 : lw_C l p e s m below meth c b L N xs A dC dI cy cB) (i : Nat) (hi : i + 4 ≤ L) (p1 p2 p3 : Int32) (hp1 : xs (i + 1) = p1) (hp2 : xs (i + 2) = p2) (hp3 : xs (i + 3) = p3) (cells slots : Nat) (hcs : cells + 760 ≤ 989448) (hss : slots + 4500 ≤ 6127760) (K : lw_K l p e s m below meth c b L N xs A dC dI cy cB h0 h1 hw1 hc1 hb1 h2 hw2 hc2 hb2 ho m0 m1 mc1 m2 mc2 i (cells + 760) (slots + 4500) 2240) (a1 : Int32) (r1 : Int32) (f1 : Nat → Int64) (g1 : Nat → Int64) (a2 : Int32) (r2 : Int32) (f2 : Nat → Int64) (g2 : Nat → Int64) (kn : Int32) (nv : Int64) (sv : Value) (th : Int32) (H : Heap) (locs : List Loc) (ls : Array Slot) (hka1 : okA true f1) (hka2 : okA false f2) (hP : va_P (dC, dI) xCl [(h0, eE h1 h2 kn), (h1, eR hw1 hc1 hb1 a1 r1), (hw1, eW true), (hc1, eA cy f1), (hb1, eA cy g1), (h2, eR hw2 hc2 hb2 a2 r2), (hw2, eW false), (hc2, eA cy f2), (hb2, eA cy g2), (ho, eO nv sv), (m0, eM m1 m2 th (r1 + r2) kn), (m1, eMR true mc1 a1), (mc1, eA cy f1), (m2, eMR false mc2 a2), (mc2, eA cy f2)] H) (hD : va_D A [(h0, eE h1 h2 kn), (h1, eR hw1 hc1 hb1 a1 r1), (hw1, eW true), (hc1, eA cy f1), (hb1, eA cy g1), (h2, eR hw2 hc2 hb2 a2 r2), (hw2, eW false), (hc2, eA cy f2), (hb2, eA cy g2), (ho, eO nv sv), (m0, eM m1 m2 th (r1 + r2) kn), (m1, eMR true mc1 a1), (mc1, eA cy f1), (m2, eMR false mc2 a2), (mc2, eA cy f2)]) (hS : va_S A s.heap H locs) (hl : lv_has ls 7 [(0, .ref b), (1, .ref h0), (2, .ref m0), (3, .ref ho), (4, .int (nI i))]) : W p l e room_1 s m #[Value.ref b] below meth c H locs cells slots (lw_Z below #[Value.ref b] s) (F0 m 732 ls []) := by
  obtain ⟨hfl, hx, hb, hr, hml, hown, hts, hX, hbl, hbA, hlocks, hK, hG, hnc, hA, hAN, hN, hL, hT, hNs⟩ := id C0
  have hok2 := me_okF hka2
  have hsp1 : ∀ k, k < 8 → o_X1_isSpoiled true (f1 k) = false := fun k hk => (hka1 k hk).2
  have hsp2 : ∀ k, k < 8 → o_X1_isSpoiled false (f2 k) = false := fun k hk => (hka2 k hk).2
  refine lv_aload_n hx hb dL_law_732 rfl (lv_at hl 1 rfl) ?_
  refine lv_aload_n hx hb dL_law_733 rfl (lv_at hl 0 rfl) ?_
  refine lv_iload hx hb dL_law_734 (lv_at hl 4 rfl) ?_
  refine lv_iconst (v := 1) hx hb dL_law_736 (by decide +kernel) ?_
  refine lv_iadd hx hb dL_law_737 ?_
  rw [nI_1 i]
  refine xa_sld hx hb hX hbl hbA hS (k := i + 1) (by omega) hL hp1 dL_law_738 ?_
  refine lv_aload_n hx hb dL_law_739 rfl (lv_at hl 3 rfl) ?_
  have hPc := hP.sub (ws' := [(h0, eE h1 h2 kn), (h1, eR hw1 hc1 hb1 a1 r1), (hw1, eW true), (hc1, eA cy f1), (hb1, eA cy g1), (h2, eR hw2 hc2 hb2 a2 r2), (hw2, eW false), (hc2, eA cy f2), (hb2, eA cy g2), (ho, eO nv sv)]) [0, 1, 2, 3, 4, 5, 6, 7, 8, 9] rfl
  have hDc := hD.sub (ws' := [(h0, eE h1 h2 kn), (h1, eR hw1 hc1 hb1 a1 r1), (hw1, eW true), (hc1, eA cy f1), (hb1, eA cy g1), (h2, eR hw2 hc2 hb2 a2 r2), (hw2, eW false), (hc2, eA cy f2), (hb2, eA cy g2), (ho, eO nv sv)]) [0, 1, 2, 3, 4, 5, 6, 7, 8, 9] (by decide +kernel) rfl
  have hKc := hK.sub (tys' := [(cy, .long)]) [0] rfl
  have hFc := va_free (wc := [(h0, eE h1 h2 kn), (h1, eR hw1 hc1 hb1 a1 r1), (hw1, eW true), (hc1, eA cy f1), (hb1, eA cy g1), (h2, eR hw2 hc2 hb2 a2 r2), (hw2, eW false), (hc2, eA cy f2), (hb2, eA cy g2), (ho, eO nv sv)]) hD hS hA [0, 1, 2, 3, 4, 5, 6, 7, 8, 9] rfl
  refine va_calli (vx_runSW (As := [.ref h0, .int p1, .ref ho]) (rest := []) ⟨hx, hb, hml, hown, hts⟩ (k_L_lower l hfl dC dI cy h0 h1 hw1 hc1 hb1 h2 hw2 hc2 hb2 a1 r1 f1 g1 a2 r2 f2 g2 kn ho nv sv H.size N p1) (vx_cwSW 3 hts gL_law_L_lower rfl rfl rfl (by decide +kernel) ⟨Nat.le_of_ble_eq_true rfl, Nat.le_of_ble_eq_true rfl⟩) (xL.preS hKc hPc hDc hAN (Nat.le_trans hN hS.1) (hG.kept hS hAN) hnc) rfl rfl hl.1 rfl (lv_room (Nat.le_of_ble_eq_true rfl)) dL_law_740 ⟨(show _ ≤ 989448 by omega), (show _ ≤ 6127760 by omega)⟩) hS (fun q _ h => hFc q h) hFc (fun r_1 u t H locs ht hvm hw hB hz hk hS => ?_)
  replace hw : r_1 = (o_L_lower f1 nv p1).1 := hw
  subst r_1
  obtain ⟨hP1, hD1⟩ := hB
  rw [ht] at hP1
  obtain ⟨hP, hD⟩ := va_join (wr := [(m0, eM m1 m2 th (r1 + r2) kn), (m1, eMR true mc1 a1), (mc1, eA cy f1), (m2, eMR false mc2 a2), (mc2, eA cy f2)]) (w1 := [(h0, eE h1 h2 kn), (h1, eR hw1 hc1 hb1 a1 r1), (hw1, eW true), (hc1, eA cy f1), (hb1, eA cy g1), (h2, eR hw2 hc2 hb2 a2 r2), (hw2, eW false), (hc2, eA cy f2), (hb2, eA cy g2), (ho, eO (o_L_lower f1 nv p1).2 sv)]) hP hD [0, 1, 2, 3, 4, 5, 6, 7, 8, 9] [10, 11, 12, 13, 14] rfl rfl (by decide +kernel) (by decide +kernel) hk hFc hP1 hD1
  have hP := hP.sub (ws' := [(h0, eE h1 h2 kn), (h1, eR hw1 hc1 hb1 a1 r1), (hw1, eW true), (hc1, eA cy f1), (hb1, eA cy g1), (h2, eR hw2 hc2 hb2 a2 r2), (hw2, eW false), (hc2, eA cy f2), (hb2, eA cy g2), (ho, eO (o_L_lower f1 nv p1).2 sv), (m0, eM m1 m2 th (r1 + r2) kn), (m1, eMR true mc1 a1), (mc1, eA cy f1), (m2, eMR false mc2 a2), (mc2, eA cy f2)]) [5, 6, 7, 8, 9, 10, 11, 12, 13, 14, 0, 1, 2, 3, 4] rfl
  have hD := hD.sub (ws' := [(h0, eE h1 h2 kn), (h1, eR hw1 hc1 hb1 a1 r1), (hw1, eW true), (hc1, eA cy f1), (hb1, eA cy g1), (h2, eR hw2 hc2 hb2 a2 r2), (hw2, eW false), (hc2, eA cy f2), (hb2, eA cy g2), (ho, eO (o_L_lower f1 nv p1).2 sv), (m0, eM m1 m2 th (r1 + r2) kn), (m1, eMR true mc1 a1), (mc1, eA cy f1), (m2, eMR false mc2 a2), (mc2, eA cy f2)]) [5, 6, 7, 8, 9, 10, 11, 12, 13, 14, 0, 1, 2, 3, 4] (by decide +kernel) rfl
  refine lv_istore (lv' := [(5, .int ((o_L_lower f1 nv p1).1)), (0, .ref b), (1, .ref h0), (2, .ref m0), (3, .ref ho), (4, .int (nI i))]) hx hb dL_law_743 hl (by decide +kernel) rfl (fun ls hl => ?_)
  refine lv_aload_n hx hb dL_law_745 rfl (lv_at hl 3 rfl) ?_
  refine lv_aload_n hx hb dL_law_746 rfl (lv_at hl 1 rfl) ?_
  refine lv_iload hx hb dL_law_747 (lv_at hl 5 rfl) ?_
  refine lv_iconst (v := 1) hx hb dL_law_749 (by decide +kernel) ?_
  refine lv_iadd hx hb dL_law_750 ?_
  rw [nI_1 i]
  refine xa_sld hx hb hX hbl hbA hS (k := i + 1) (by omega) hL hp1 dL_law_751 ?_
  have hPc := hP.sub (ws' := [(m0, eM m1 m2 th (r1 + r2) kn), (m1, eMR true mc1 a1), (mc1, eA cy f1), (m2, eMR false mc2 a2), (mc2, eA cy f2)]) [10, 11, 12, 13, 14] rfl
  have hDc := hD.sub (ws' := [(m0, eM m1 m2 th (r1 + r2) kn), (m1, eMR true mc1 a1), (mc1, eA cy f1), (m2, eMR false mc2 a2), (mc2, eA cy f2)]) [10, 11, 12, 13, 14] (by decide +kernel) rfl
  have hKc := hK.sub (tys' := [(cy, .long)]) [0] rfl
  have hFc := va_free (wc := [(m0, eM m1 m2 th (r1 + r2) kn), (m1, eMR true mc1 a1), (mc1, eA cy f1), (m2, eMR false mc2 a2), (mc2, eA cy f2)]) hD hS hA [10, 11, 12, 13, 14] rfl
  refine va_calli (va_runV (As := [.int p1]) (rest := []) ⟨hx, hb, hml, hown, hts⟩ (k_X5_lower l dC dI cy m0 m1 mc1 m2 mc2 a1 f1 a2 f2 th (r1 + r2) kn H.size N p1) (cwV 1 hts gL_law_X5_lower rfl rfl rfl (by decide +kernel) ⟨Nat.le_of_ble_eq_true rfl, Nat.le_of_ble_eq_true rfl⟩) (xM.preV hKc hPc hDc hAN (Nat.le_trans hN hS.1) (hG.kept hS hAN) (ci := 7) (q0 := 0) rfl rfl) rfl rfl hl.1 rfl (lv_room (Nat.le_of_ble_eq_true rfl)) dL_law_752 ⟨(show _ ≤ 989448 by omega), (show _ ≤ 6127760 by omega)⟩) hS (fun q _ h => hFc q h) hFc (fun r_2 u t H locs ht hvm hw hB hz hk hS => ?_)
  replace hw : r_2 = (o_X5_lower f1 p1).1 := hw
  subst r_2
  obtain ⟨hP1, hD1⟩ := hB
  rw [ht] at hP1
  obtain ⟨hP, hD⟩ := va_join (wr := [(h0, eE h1 h2 kn), (h1, eR hw1 hc1 hb1 a1 r1), (hw1, eW true), (hc1, eA cy f1), (hb1, eA cy g1), (h2, eR hw2 hc2 hb2 a2 r2), (hw2, eW false), (hc2, eA cy f2), (hb2, eA cy g2), (ho, eO (o_L_lower f1 nv p1).2 sv)]) (w1 := [(m0, eM m1 m2 (o_X5_lower f1 p1).2 (r1 + r2) kn), (m1, eMR true mc1 a1), (mc1, eA cy f1), (m2, eMR false mc2 a2), (mc2, eA cy f2)]) hP hD [10, 11, 12, 13, 14] [0, 1, 2, 3, 4, 5, 6, 7, 8, 9] rfl rfl (by decide +kernel) (by decide +kernel) hk hFc hP1 hD1
  have hP := hP.sub (ws' := [(h0, eE h1 h2 kn), (h1, eR hw1 hc1 hb1 a1 r1), (hw1, eW true), (hc1, eA cy f1), (hb1, eA cy g1), (h2, eR hw2 hc2 hb2 a2 r2), (hw2, eW false), (hc2, eA cy f2), (hb2, eA cy g2), (ho, eO (o_L_lower f1 nv p1).2 sv), (m0, eM m1 m2 (o_X5_lower f1 p1).2 (r1 + r2) kn), (m1, eMR true mc1 a1), (mc1, eA cy f1), (m2, eMR false mc2 a2), (mc2, eA cy f2)]) [0, 1, 2, 3, 4, 5, 6, 7, 8, 9, 10, 11, 12, 13, 14] rfl
  have hD := hD.sub (ws' := [(h0, eE h1 h2 kn), (h1, eR hw1 hc1 hb1 a1 r1), (hw1, eW true), (hc1, eA cy f1), (hb1, eA cy g1), (h2, eR hw2 hc2 hb2 a2 r2), (hw2, eW false), (hc2, eA cy f2), (hb2, eA cy g2), (ho, eO (o_L_lower f1 nv p1).2 sv), (m0, eM m1 m2 (o_X5_lower f1 p1).2 (r1 + r2) kn), (m1, eMR true mc1 a1), (mc1, eA cy f1), (m2, eMR false mc2 a2), (mc2, eA cy f2)]) [0, 1, 2, 3, 4, 5, 6, 7, 8, 9, 10, 11, 12, 13, 14] (by decide +kernel) rfl
  refine lv_istore (lv' := [(6, .int ((o_X5_lower f1 p1).1)), (5, .int ((o_L_lower f1 nv p1).1)), (0, .ref b), (1, .ref h0), (2, .ref m0), (3, .ref ho), (4, .int (nI i))]) hx hb dL_law_755 hl (by decide +kernel) rfl (fun ls hl => ?_)
  refine lv_goto (tgt := 2240) hx hb dL_law_757 (by decide +kernel) ?_
  refine W.widen (k := cells + 760) (n := slots + 4500) (by omega) (by omega) ?_
  exact K a1 r1 f1 g1 a2 r2 f2 g2 kn ((o_L_lower f1 nv p1).2) sv ((o_X5_lower f1 p1).2) a1 f1 a2 f2 (r1 + r2) kn _ _ _ rfl rfl rfl rfl rfl rfl hka1 hka2 hP hD hS (lv_sub hl [2, 3, 4, 5, 6] rfl)
set_option maxHeartbeats 4000000 in
set_option maxRecDepth 100000 in
theorem st_12 (l : Launch) (p : Program) (e : Env) (s : State) (m : MethodId) (below : List Frame) (meth : Method) (c : Code) (b L N : Nat) (xs : Nat → Int32) (A : Nat → Prop) (dC : Nat → ClassId) (dI : Nat → Nat → Nat) (cy cB : ClassId) (h0 h1 hw1 hc1 hb1 h2 hw2 hc2 hb2 ho m0 m1 mc1 m2 mc2 : Nat) (C0 : lw_C l p e s m below meth c b L N xs A dC dI cy cB) (i : Nat) (hi : i + 4 ≤ L) (p1 p2 p3 : Int32) (hp1 : xs (i + 1) = p1) (hp2 : xs (i + 2) = p2) (hp3 : xs (i + 3) = p3) (cells slots : Nat) (hcs : cells + 760 ≤ 989448) (hss : slots + 4500 ≤ 6127760) (K : lw_K l p e s m below meth c b L N xs A dC dI cy cB h0 h1 hw1 hc1 hb1 h2 hw2 hc2 hb2 ho m0 m1 mc1 m2 mc2 i (cells + 760) (slots + 4500) 2240) (a1 : Int32) (r1 : Int32) (f1 : Nat → Int64) (g1 : Nat → Int64) (a2 : Int32) (r2 : Int32) (f2 : Nat → Int64) (g2 : Nat → Int64) (kn : Int32) (nv : Int64) (sv : Value) (th : Int32) (H : Heap) (locs : List Loc) (ls : Array Slot) (hka1 : okA true f1) (hka2 : okA false f2) (hP : va_P (dC, dI) xCl [(h0, eE h1 h2 kn), (h1, eR hw1 hc1 hb1 a1 r1), (hw1, eW true), (hc1, eA cy f1), (hb1, eA cy g1), (h2, eR hw2 hc2 hb2 a2 r2), (hw2, eW false), (hc2, eA cy f2), (hb2, eA cy g2), (ho, eO nv sv), (m0, eM m1 m2 th (r1 + r2) kn), (m1, eMR true mc1 a1), (mc1, eA cy f1), (m2, eMR false mc2 a2), (mc2, eA cy f2)] H) (hD : va_D A [(h0, eE h1 h2 kn), (h1, eR hw1 hc1 hb1 a1 r1), (hw1, eW true), (hc1, eA cy f1), (hb1, eA cy g1), (h2, eR hw2 hc2 hb2 a2 r2), (hw2, eW false), (hc2, eA cy f2), (hb2, eA cy g2), (ho, eO nv sv), (m0, eM m1 m2 th (r1 + r2) kn), (m1, eMR true mc1 a1), (mc1, eA cy f1), (m2, eMR false mc2 a2), (mc2, eA cy f2)]) (hS : va_S A s.heap H locs) (hl : lv_has ls 7 [(0, .ref b), (1, .ref h0), (2, .ref m0), (3, .ref ho), (4, .int (nI i))]) : W p l e room_1 s m #[Value.ref b] below meth c H locs cells slots (lw_Z below #[Value.ref b] s) (F0 m 760 ls []) := by
  obtain ⟨hfl, hx, hb, hr, hml, hown, hts, hX, hbl, hbA, hlocks, hK, hG, hnc, hA, hAN, hN, hL, hT, hNs⟩ := id C0
  have hok2 := me_okF hka2
  have hsp1 : ∀ k, k < 8 → o_X1_isSpoiled true (f1 k) = false := fun k hk => (hka1 k hk).2
  have hsp2 : ∀ k, k < 8 → o_X1_isSpoiled false (f2 k) = false := fun k hk => (hka2 k hk).2
  refine lv_aload_n hx hb dL_law_760 rfl (lv_at hl 1 rfl) ?_
  refine lv_aload_n hx hb dL_law_761 rfl (lv_at hl 0 rfl) ?_
  refine lv_iload hx hb dL_law_762 (lv_at hl 4 rfl) ?_
  refine lv_iconst (v := 1) hx hb dL_law_764 (by decide +kernel) ?_
  refine lv_iadd hx hb dL_law_765 ?_
  rw [nI_1 i]
  refine xa_sld hx hb hX hbl hbA hS (k := i + 1) (by omega) hL hp1 dL_law_766 ?_
  refine lv_aload_n hx hb dL_law_767 rfl (lv_at hl 3 rfl) ?_
  have hPc := hP.sub (ws' := [(h0, eE h1 h2 kn), (h1, eR hw1 hc1 hb1 a1 r1), (hw1, eW true), (hc1, eA cy f1), (hb1, eA cy g1), (h2, eR hw2 hc2 hb2 a2 r2), (hw2, eW false), (hc2, eA cy f2), (hb2, eA cy g2), (ho, eO nv sv)]) [0, 1, 2, 3, 4, 5, 6, 7, 8, 9] rfl
  have hDc := hD.sub (ws' := [(h0, eE h1 h2 kn), (h1, eR hw1 hc1 hb1 a1 r1), (hw1, eW true), (hc1, eA cy f1), (hb1, eA cy g1), (h2, eR hw2 hc2 hb2 a2 r2), (hw2, eW false), (hc2, eA cy f2), (hb2, eA cy g2), (ho, eO nv sv)]) [0, 1, 2, 3, 4, 5, 6, 7, 8, 9] (by decide +kernel) rfl
  have hKc := hK.sub (tys' := [(cy, .long), (cB, .byte)]) [0, 1] rfl
  have hFc := va_free (wc := [(h0, eE h1 h2 kn), (h1, eR hw1 hc1 hb1 a1 r1), (hw1, eW true), (hc1, eA cy f1), (hb1, eA cy g1), (h2, eR hw2 hc2 hb2 a2 r2), (hw2, eW false), (hc2, eA cy f2), (hb2, eA cy g2), (ho, eO nv sv)]) hD hS hA [0, 1, 2, 3, 4, 5, 6, 7, 8, 9] rfl
  refine va_calli (vx_runSW (As := [.ref h0, .int p1, .ref ho]) (rest := []) ⟨hx, hb, hml, hown, hts⟩ (k_L_wideText l hfl dC dI cy cB h0 h1 hw1 hc1 hb1 h2 hw2 hc2 hb2 a1 r1 f1 g1 a2 r2 f2 g2 kn ho nv sv H.size N p1 hok2) (vx_cwSW 3 hts gL_law_L_wideText rfl rfl rfl (by decide +kernel) ⟨Nat.le_of_ble_eq_true rfl, Nat.le_of_ble_eq_true rfl⟩) (xU.preS hKc hPc hDc hAN (Nat.le_trans hN hS.1) (hG.kept hS hAN) (hT.kept hS hAN) hnc) rfl rfl hl.1 rfl (lv_room (Nat.le_of_ble_eq_true rfl)) dL_law_768 ⟨(show _ ≤ 989448 by omega), (show _ ≤ 6127760 by omega)⟩) hS (fun q _ h => hFc q h) hFc (fun r_1 sv_2 t H locs ht hvm hw hB hz hk hS => ?_)
  obtain ⟨hP1, hD1⟩ := hB
  rw [ht] at hP1
  obtain ⟨hP, hD⟩ := va_join (wr := [(m0, eM m1 m2 th (r1 + r2) kn), (m1, eMR true mc1 a1), (mc1, eA cy f1), (m2, eMR false mc2 a2), (mc2, eA cy f2)]) (w1 := [(h0, eE h1 h2 kn), (h1, eR hw1 hc1 hb1 a1 r1), (hw1, eW true), (hc1, eA cy f1), (hb1, eA cy g1), (h2, eR hw2 hc2 hb2 a2 r2), (hw2, eW false), (hc2, eA cy f2), (hb2, eA cy g2), (ho, eO nv sv_2)]) hP hD [0, 1, 2, 3, 4, 5, 6, 7, 8, 9] [10, 11, 12, 13, 14] rfl rfl (by decide +kernel) (by decide +kernel) hk hFc hP1 hD1
  have hP := hP.sub (ws' := [(h0, eE h1 h2 kn), (h1, eR hw1 hc1 hb1 a1 r1), (hw1, eW true), (hc1, eA cy f1), (hb1, eA cy g1), (h2, eR hw2 hc2 hb2 a2 r2), (hw2, eW false), (hc2, eA cy f2), (hb2, eA cy g2), (ho, eO nv sv_2), (m0, eM m1 m2 th (r1 + r2) kn), (m1, eMR true mc1 a1), (mc1, eA cy f1), (m2, eMR false mc2 a2), (mc2, eA cy f2)]) [5, 6, 7, 8, 9, 10, 11, 12, 13, 14, 0, 1, 2, 3, 4] rfl
  have hD := hD.sub (ws' := [(h0, eE h1 h2 kn), (h1, eR hw1 hc1 hb1 a1 r1), (hw1, eW true), (hc1, eA cy f1), (hb1, eA cy g1), (h2, eR hw2 hc2 hb2 a2 r2), (hw2, eW false), (hc2, eA cy f2), (hb2, eA cy g2), (ho, eO nv sv_2), (m0, eM m1 m2 th (r1 + r2) kn), (m1, eMR true mc1 a1), (mc1, eA cy f1), (m2, eMR false mc2 a2), (mc2, eA cy f2)]) [5, 6, 7, 8, 9, 10, 11, 12, 13, 14, 0, 1, 2, 3, 4] (by decide +kernel) rfl
  refine lv_istore (lv' := [(5, .int r_1), (0, .ref b), (1, .ref h0), (2, .ref m0), (3, .ref ho), (4, .int (nI i))]) hx hb dL_law_771 hl (by decide +kernel) rfl (fun ls hl => ?_)
  refine lv_aload_n hx hb dL_law_773 rfl (lv_at hl 3 rfl) ?_
  refine lv_aload_n hx hb dL_law_774 rfl (lv_at hl 1 rfl) ?_
  refine lv_iload hx hb dL_law_775 (lv_at hl 5 rfl) ?_
  refine lv_iconst (v := 1) hx hb dL_law_777 (by decide +kernel) ?_
  refine lv_iadd hx hb dL_law_778 ?_
  rw [nI_1 i]
  refine xa_sld hx hb hX hbl hbA hS (k := i + 1) (by omega) hL hp1 dL_law_779 ?_
  have hPc := hP.sub (ws' := [(m0, eM m1 m2 th (r1 + r2) kn), (m1, eMR true mc1 a1), (mc1, eA cy f1), (m2, eMR false mc2 a2), (mc2, eA cy f2)]) [10, 11, 12, 13, 14] rfl
  have hDc := hD.sub (ws' := [(m0, eM m1 m2 th (r1 + r2) kn), (m1, eMR true mc1 a1), (mc1, eA cy f1), (m2, eMR false mc2 a2), (mc2, eA cy f2)]) [10, 11, 12, 13, 14] (by decide +kernel) rfl
  have hKc := hK.sub (tys' := [(cy, .long), (cB, .byte)]) [0, 1] rfl
  have hFc := va_free (wc := [(m0, eM m1 m2 th (r1 + r2) kn), (m1, eMR true mc1 a1), (mc1, eA cy f1), (m2, eMR false mc2 a2), (mc2, eA cy f2)]) hD hS hA [10, 11, 12, 13, 14] rfl
  refine va_callr (va_runV (As := [.int p1]) (rest := []) ⟨hx, hb, hml, hown, hts⟩ (k_X5_wideText l dC dI cy cB m0 m1 mc1 m2 mc2 a1 f1 a2 f2 th (r1 + r2) kn p1 H.size N hok2) (cwV 1 hts gL_law_X5_wideText rfl rfl rfl (by decide +kernel) ⟨Nat.le_of_ble_eq_true rfl, Nat.le_of_ble_eq_true rfl⟩) (xT.preV (ci := 7) (q0 := 0) hKc hPc hDc hAN (Nat.le_trans hN hS.1) (hG.kept hS hAN) (hT.kept hS hAN) rfl rfl) rfl rfl hl.1 rfl (lv_room (Nat.le_of_ble_eq_true rfl)) dL_law_780 ⟨(show _ ≤ 989448 by omega), (show _ ≤ 6127760 by omega)⟩) hS (fun q _ h => hFc q h) hFc (fun th_4 r_3 t H locs ht hvm hw hB hz hk hS => ?_)
  obtain ⟨hP1, hD1⟩ := hB
  rw [ht] at hP1
  obtain ⟨hP, hD⟩ := va_join (wr := [(h0, eE h1 h2 kn), (h1, eR hw1 hc1 hb1 a1 r1), (hw1, eW true), (hc1, eA cy f1), (hb1, eA cy g1), (h2, eR hw2 hc2 hb2 a2 r2), (hw2, eW false), (hc2, eA cy f2), (hb2, eA cy g2), (ho, eO nv sv_2)]) (w1 := [(m0, eM m1 m2 th_4 (r1 + r2) kn), (m1, eMR true mc1 a1), (mc1, eA cy f1), (m2, eMR false mc2 a2), (mc2, eA cy f2)]) hP hD [10, 11, 12, 13, 14] [0, 1, 2, 3, 4, 5, 6, 7, 8, 9] rfl rfl (by decide +kernel) (by decide +kernel) hk hFc hP1 hD1
  have hP := hP.sub (ws' := [(h0, eE h1 h2 kn), (h1, eR hw1 hc1 hb1 a1 r1), (hw1, eW true), (hc1, eA cy f1), (hb1, eA cy g1), (h2, eR hw2 hc2 hb2 a2 r2), (hw2, eW false), (hc2, eA cy f2), (hb2, eA cy g2), (ho, eO nv sv_2), (m0, eM m1 m2 th_4 (r1 + r2) kn), (m1, eMR true mc1 a1), (mc1, eA cy f1), (m2, eMR false mc2 a2), (mc2, eA cy f2)]) [0, 1, 2, 3, 4, 5, 6, 7, 8, 9, 10, 11, 12, 13, 14] rfl
  have hD := hD.sub (ws' := [(h0, eE h1 h2 kn), (h1, eR hw1 hc1 hb1 a1 r1), (hw1, eW true), (hc1, eA cy f1), (hb1, eA cy g1), (h2, eR hw2 hc2 hb2 a2 r2), (hw2, eW false), (hc2, eA cy f2), (hb2, eA cy g2), (ho, eO nv sv_2), (m0, eM m1 m2 th_4 (r1 + r2) kn), (m1, eMR true mc1 a1), (mc1, eA cy f1), (m2, eMR false mc2 a2), (mc2, eA cy f2)]) [0, 1, 2, 3, 4, 5, 6, 7, 8, 9, 10, 11, 12, 13, 14] (by decide +kernel) rfl
  refine lv_astore (lv' := [(6, .ref r_3), (5, .int r_1), (0, .ref b), (1, .ref h0), (2, .ref m0), (3, .ref ho), (4, .int (nI i))]) hx hb dL_law_783 hl (by decide +kernel) rfl (fun ls hl => ?_)
  refine lv_goto (tgt := 2240) hx hb dL_law_785 (by decide +kernel) ?_
  refine W.widen (k := cells + 760) (n := slots + 4500) (by omega) (by omega) ?_
  exact K a1 r1 f1 g1 a2 r2 f2 g2 kn nv sv_2 th_4 a1 f1 a2 f2 (r1 + r2) kn _ _ _ rfl rfl rfl rfl rfl rfl hka1 hka2 hP hD hS (lv_sub hl [2, 3, 4, 5, 6] rfl)
set_option maxHeartbeats 4000000 in
set_option maxRecDepth 100000 in
theorem st_13 (l : Launch) (p : Program) (e : Env) (s : State) (m : MethodId) (below : List Frame) (meth : Method) (c : Code) (b L N : Nat) (xs : Nat → Int32) (A : Nat → Prop) (dC : Nat → ClassId) (dI : Nat → Nat → Nat) (cy cB : ClassId) (h0 h1 hw1 hc1 hb1 h2 hw2 hc2 hb2 ho m0 m1 mc1 m2 mc2 : Nat) (C0 : lw_C l p e s m below meth c b L N xs A dC dI cy cB) (i : Nat) (hi : i + 4 ≤ L) (p1 p2 p3 : Int32) (hp1 : xs (i + 1) = p1) (hp2 : xs (i + 2) = p2) (hp3 : xs (i + 3) = p3) (cells slots : Nat) (hcs : cells + 760 ≤ 989448) (hss : slots + 4500 ≤ 6127760) (K : lw_K l p e s m below meth c b L N xs A dC dI cy cB h0 h1 hw1 hc1 hb1 h2 hw2 hc2 hb2 ho m0 m1 mc1 m2 mc2 i (cells + 760) (slots + 4500) 2240) (a1 : Int32) (r1 : Int32) (f1 : Nat → Int64) (g1 : Nat → Int64) (a2 : Int32) (r2 : Int32) (f2 : Nat → Int64) (g2 : Nat → Int64) (kn : Int32) (nv : Int64) (sv : Value) (th : Int32) (H : Heap) (locs : List Loc) (ls : Array Slot) (hka1 : okA true f1) (hka2 : okA false f2) (hP : va_P (dC, dI) xCl [(h0, eE h1 h2 kn), (h1, eR hw1 hc1 hb1 a1 r1), (hw1, eW true), (hc1, eA cy f1), (hb1, eA cy g1), (h2, eR hw2 hc2 hb2 a2 r2), (hw2, eW false), (hc2, eA cy f2), (hb2, eA cy g2), (ho, eO nv sv), (m0, eM m1 m2 th (r1 + r2) kn), (m1, eMR true mc1 a1), (mc1, eA cy f1), (m2, eMR false mc2 a2), (mc2, eA cy f2)] H) (hD : va_D A [(h0, eE h1 h2 kn), (h1, eR hw1 hc1 hb1 a1 r1), (hw1, eW true), (hc1, eA cy f1), (hb1, eA cy g1), (h2, eR hw2 hc2 hb2 a2 r2), (hw2, eW false), (hc2, eA cy f2), (hb2, eA cy g2), (ho, eO nv sv), (m0, eM m1 m2 th (r1 + r2) kn), (m1, eMR true mc1 a1), (mc1, eA cy f1), (m2, eMR false mc2 a2), (mc2, eA cy f2)]) (hS : va_S A s.heap H locs) (hl : lv_has ls 7 [(0, .ref b), (1, .ref h0), (2, .ref m0), (3, .ref ho), (4, .int (nI i))]) : W p l e room_1 s m #[Value.ref b] below meth c H locs cells slots (lw_Z below #[Value.ref b] s) (F0 m 788 ls []) := by
  obtain ⟨hfl, hx, hb, hr, hml, hown, hts, hX, hbl, hbA, hlocks, hK, hG, hnc, hA, hAN, hN, hL, hT, hNs⟩ := id C0
  have hok2 := me_okF hka2
  have hsp1 : ∀ k, k < 8 → o_X1_isSpoiled true (f1 k) = false := fun k hk => (hka1 k hk).2
  have hsp2 : ∀ k, k < 8 → o_X1_isSpoiled false (f2 k) = false := fun k hk => (hka2 k hk).2
  refine lv_aload_n hx hb dL_law_788 rfl (lv_at hl 1 rfl) ?_
  refine lv_aload_n hx hb dL_law_789 rfl (lv_at hl 0 rfl) ?_
  refine lv_iload hx hb dL_law_790 (lv_at hl 4 rfl) ?_
  refine lv_iconst (v := 1) hx hb dL_law_792 (by decide +kernel) ?_
  refine lv_iadd hx hb dL_law_793 ?_
  rw [nI_1 i]
  refine xa_sld hx hb hX hbl hbA hS (k := i + 1) (by omega) hL hp1 dL_law_794 ?_
  refine lv_aload_n hx hb dL_law_795 rfl (lv_at hl 0 rfl) ?_
  refine lv_iload hx hb dL_law_796 (lv_at hl 4 rfl) ?_
  refine lv_iconst (v := 2) hx hb dL_law_798 (by decide +kernel) ?_
  refine lv_iadd hx hb dL_law_799 ?_
  rw [nI_p2 i]
  refine xa_sld hx hb hX hbl hbA hS (k := i + 2) (by omega) hL hp2 dL_law_800 ?_
  refine lv_aload_n hx hb dL_law_801 rfl (lv_at hl 0 rfl) ?_
  refine lv_iload hx hb dL_law_802 (lv_at hl 4 rfl) ?_
  refine lv_iconst (v := 3) hx hb dL_law_804 (by decide +kernel) ?_
  refine lv_iadd hx hb dL_law_805 ?_
  rw [nI_p3 i]
  refine xa_sld hx hb hX hbl hbA hS (k := i + 3) (by omega) hL hp3 dL_law_806 ?_
  refine lv_aload_n hx hb dL_law_807 rfl (lv_at hl 3 rfl) ?_
  have hPc := hP.sub (ws' := [(h0, eE h1 h2 kn), (h1, eR hw1 hc1 hb1 a1 r1), (hw1, eW true), (hc1, eA cy f1), (hb1, eA cy g1), (h2, eR hw2 hc2 hb2 a2 r2), (hw2, eW false), (hc2, eA cy f2), (hb2, eA cy g2), (ho, eO nv sv)]) [0, 1, 2, 3, 4, 5, 6, 7, 8, 9] rfl
  have hDc := hD.sub (ws' := [(h0, eE h1 h2 kn), (h1, eR hw1 hc1 hb1 a1 r1), (hw1, eW true), (hc1, eA cy f1), (hb1, eA cy g1), (h2, eR hw2 hc2 hb2 a2 r2), (hw2, eW false), (hc2, eA cy f2), (hb2, eA cy g2), (ho, eO nv sv)]) [0, 1, 2, 3, 4, 5, 6, 7, 8, 9] (by decide +kernel) rfl
  have hKc := hK.sub (tys' := [(cy, .long)]) [0] rfl
  have hFc := va_free (wc := [(h0, eE h1 h2 kn), (h1, eR hw1 hc1 hb1 a1 r1), (hw1, eW true), (hc1, eA cy f1), (hb1, eA cy g1), (h2, eR hw2 hc2 hb2 a2 r2), (hw2, eW false), (hc2, eA cy f2), (hb2, eA cy g2), (ho, eO nv sv)]) hD hS hA [0, 1, 2, 3, 4, 5, 6, 7, 8, 9] rfl
  refine va_calli (vx_runSW (As := [.ref h0, .int p1, .int p2, .int p3, .ref ho]) (rest := []) ⟨hx, hb, hml, hown, hts⟩ (k_L_wideOrder l hfl dC dI cy h0 h1 hw1 hc1 hb1 h2 hw2 hc2 hb2 a1 r1 f1 g1 a2 r2 f2 g2 kn ho nv sv H.size N p1 p2 p3) (vx_cwSW 5 hts gL_law_L_wideOrder rfl rfl rfl (by decide +kernel) ⟨Nat.le_of_ble_eq_true rfl, Nat.le_of_ble_eq_true rfl⟩) (xL.preS hKc hPc hDc hAN (Nat.le_trans hN hS.1) (hG.kept hS hAN) hnc) rfl rfl hl.1 rfl (lv_room (Nat.le_of_ble_eq_true rfl)) dL_law_808 ⟨(show _ ≤ 989448 by omega), (show _ ≤ 6127760 by omega)⟩) hS (fun q _ h => hFc q h) hFc (fun r_1 u t H locs ht hvm hw hB hz hk hS => ?_)
  replace hw : r_1 = (o_L_wideOrder f1 nv p1 p2 p3).1 := hw
  subst r_1
  obtain ⟨hP1, hD1⟩ := hB
  rw [ht] at hP1
  obtain ⟨hP, hD⟩ := va_join (wr := [(m0, eM m1 m2 th (r1 + r2) kn), (m1, eMR true mc1 a1), (mc1, eA cy f1), (m2, eMR false mc2 a2), (mc2, eA cy f2)]) (w1 := [(h0, eE h1 h2 kn), (h1, eR hw1 hc1 hb1 a1 r1), (hw1, eW true), (hc1, eA cy f1), (hb1, eA cy g1), (h2, eR hw2 hc2 hb2 a2 r2), (hw2, eW false), (hc2, eA cy f2), (hb2, eA cy g2), (ho, eO (o_L_wideOrder f1 nv p1 p2 p3).2 sv)]) hP hD [0, 1, 2, 3, 4, 5, 6, 7, 8, 9] [10, 11, 12, 13, 14] rfl rfl (by decide +kernel) (by decide +kernel) hk hFc hP1 hD1
  have hP := hP.sub (ws' := [(h0, eE h1 h2 kn), (h1, eR hw1 hc1 hb1 a1 r1), (hw1, eW true), (hc1, eA cy f1), (hb1, eA cy g1), (h2, eR hw2 hc2 hb2 a2 r2), (hw2, eW false), (hc2, eA cy f2), (hb2, eA cy g2), (ho, eO (o_L_wideOrder f1 nv p1 p2 p3).2 sv), (m0, eM m1 m2 th (r1 + r2) kn), (m1, eMR true mc1 a1), (mc1, eA cy f1), (m2, eMR false mc2 a2), (mc2, eA cy f2)]) [5, 6, 7, 8, 9, 10, 11, 12, 13, 14, 0, 1, 2, 3, 4] rfl
  have hD := hD.sub (ws' := [(h0, eE h1 h2 kn), (h1, eR hw1 hc1 hb1 a1 r1), (hw1, eW true), (hc1, eA cy f1), (hb1, eA cy g1), (h2, eR hw2 hc2 hb2 a2 r2), (hw2, eW false), (hc2, eA cy f2), (hb2, eA cy g2), (ho, eO (o_L_wideOrder f1 nv p1 p2 p3).2 sv), (m0, eM m1 m2 th (r1 + r2) kn), (m1, eMR true mc1 a1), (mc1, eA cy f1), (m2, eMR false mc2 a2), (mc2, eA cy f2)]) [5, 6, 7, 8, 9, 10, 11, 12, 13, 14, 0, 1, 2, 3, 4] (by decide +kernel) rfl
  refine lv_istore (lv' := [(5, .int ((o_L_wideOrder f1 nv p1 p2 p3).1)), (0, .ref b), (1, .ref h0), (2, .ref m0), (3, .ref ho), (4, .int (nI i))]) hx hb dL_law_811 hl (by decide +kernel) rfl (fun ls hl => ?_)
  refine lv_aload_n hx hb dL_law_813 rfl (lv_at hl 3 rfl) ?_
  refine lv_aload_n hx hb dL_law_814 rfl (lv_at hl 1 rfl) ?_
  refine lv_iload hx hb dL_law_815 (lv_at hl 5 rfl) ?_
  refine lv_iconst (v := 1) hx hb dL_law_817 (by decide +kernel) ?_
  refine lv_iadd hx hb dL_law_818 ?_
  rw [nI_1 i]
  refine xa_sld hx hb hX hbl hbA hS (k := i + 1) (by omega) hL hp1 dL_law_819 ?_
  refine lv_aload_n hx hb dL_law_820 rfl (lv_at hl 1 rfl) ?_
  refine lv_iload hx hb dL_law_821 (lv_at hl 5 rfl) ?_
  refine lv_iconst (v := 2) hx hb dL_law_823 (by decide +kernel) ?_
  refine lv_iadd hx hb dL_law_824 ?_
  rw [nI_p2 i]
  refine xa_sld hx hb hX hbl hbA hS (k := i + 2) (by omega) hL hp2 dL_law_825 ?_
  refine lv_aload_n hx hb dL_law_826 rfl (lv_at hl 1 rfl) ?_
  refine lv_iload hx hb dL_law_827 (lv_at hl 5 rfl) ?_
  refine lv_iconst (v := 3) hx hb dL_law_829 (by decide +kernel) ?_
  refine lv_iadd hx hb dL_law_830 ?_
  rw [nI_p3 i]
  refine xa_sld hx hb hX hbl hbA hS (k := i + 3) (by omega) hL hp3 dL_law_831 ?_
  have hPc := hP.sub (ws' := [(m0, eM m1 m2 th (r1 + r2) kn), (m1, eMR true mc1 a1), (mc1, eA cy f1), (m2, eMR false mc2 a2), (mc2, eA cy f2)]) [10, 11, 12, 13, 14] rfl
  have hDc := hD.sub (ws' := [(m0, eM m1 m2 th (r1 + r2) kn), (m1, eMR true mc1 a1), (mc1, eA cy f1), (m2, eMR false mc2 a2), (mc2, eA cy f2)]) [10, 11, 12, 13, 14] (by decide +kernel) rfl
  have hKc := hK.sub (tys' := [(cy, .long)]) [0] rfl
  have hFc := va_free (wc := [(m0, eM m1 m2 th (r1 + r2) kn), (m1, eMR true mc1 a1), (mc1, eA cy f1), (m2, eMR false mc2 a2), (mc2, eA cy f2)]) hD hS hA [10, 11, 12, 13, 14] rfl
  refine va_calli (va_runV (As := [.int p1, .int p2, .int p3]) (rest := []) ⟨hx, hb, hml, hown, hts⟩ (k_X5_wideOrder l dC dI cy m0 m1 mc1 m2 mc2 a1 f1 a2 f2 th (r1 + r2) kn H.size N p1 p2 p3) (cwV 3 hts gL_law_X5_wideOrder rfl rfl rfl (by decide +kernel) ⟨Nat.le_of_ble_eq_true rfl, Nat.le_of_ble_eq_true rfl⟩) (xM.preV hKc hPc hDc hAN (Nat.le_trans hN hS.1) (hG.kept hS hAN) (ci := 7) (q0 := 0) rfl rfl) rfl rfl hl.1 rfl (lv_room (Nat.le_of_ble_eq_true rfl)) dL_law_832 ⟨(show _ ≤ 989448 by omega), (show _ ≤ 6127760 by omega)⟩) hS (fun q _ h => hFc q h) hFc (fun r_2 u t H locs ht hvm hw hB hz hk hS => ?_)
  replace hw : r_2 = (o_X5_wideOrder f1 p1 p2 p3).1 := hw
  subst r_2
  obtain ⟨hP1, hD1⟩ := hB
  rw [ht] at hP1
  obtain ⟨hP, hD⟩ := va_join (wr := [(h0, eE h1 h2 kn), (h1, eR hw1 hc1 hb1 a1 r1), (hw1, eW true), (hc1, eA cy f1), (hb1, eA cy g1), (h2, eR hw2 hc2 hb2 a2 r2), (hw2, eW false), (hc2, eA cy f2), (hb2, eA cy g2), (ho, eO (o_L_wideOrder f1 nv p1 p2 p3).2 sv)]) (w1 := [(m0, eM m1 m2 (o_X5_wideOrder f1 p1 p2 p3).2 (r1 + r2) kn), (m1, eMR true mc1 a1), (mc1, eA cy f1), (m2, eMR false mc2 a2), (mc2, eA cy f2)]) hP hD [10, 11, 12, 13, 14] [0, 1, 2, 3, 4, 5, 6, 7, 8, 9] rfl rfl (by decide +kernel) (by decide +kernel) hk hFc hP1 hD1
  have hP := hP.sub (ws' := [(h0, eE h1 h2 kn), (h1, eR hw1 hc1 hb1 a1 r1), (hw1, eW true), (hc1, eA cy f1), (hb1, eA cy g1), (h2, eR hw2 hc2 hb2 a2 r2), (hw2, eW false), (hc2, eA cy f2), (hb2, eA cy g2), (ho, eO (o_L_wideOrder f1 nv p1 p2 p3).2 sv), (m0, eM m1 m2 (o_X5_wideOrder f1 p1 p2 p3).2 (r1 + r2) kn), (m1, eMR true mc1 a1), (mc1, eA cy f1), (m2, eMR false mc2 a2), (mc2, eA cy f2)]) [0, 1, 2, 3, 4, 5, 6, 7, 8, 9, 10, 11, 12, 13, 14] rfl
  have hD := hD.sub (ws' := [(h0, eE h1 h2 kn), (h1, eR hw1 hc1 hb1 a1 r1), (hw1, eW true), (hc1, eA cy f1), (hb1, eA cy g1), (h2, eR hw2 hc2 hb2 a2 r2), (hw2, eW false), (hc2, eA cy f2), (hb2, eA cy g2), (ho, eO (o_L_wideOrder f1 nv p1 p2 p3).2 sv), (m0, eM m1 m2 (o_X5_wideOrder f1 p1 p2 p3).2 (r1 + r2) kn), (m1, eMR true mc1 a1), (mc1, eA cy f1), (m2, eMR false mc2 a2), (mc2, eA cy f2)]) [0, 1, 2, 3, 4, 5, 6, 7, 8, 9, 10, 11, 12, 13, 14] (by decide +kernel) rfl
  refine lv_istore (lv' := [(6, .int ((o_X5_wideOrder f1 p1 p2 p3).1)), (5, .int ((o_L_wideOrder f1 nv p1 p2 p3).1)), (0, .ref b), (1, .ref h0), (2, .ref m0), (3, .ref ho), (4, .int (nI i))]) hx hb dL_law_835 hl (by decide +kernel) rfl (fun ls hl => ?_)
  refine lv_goto (tgt := 2240) hx hb dL_law_837 (by decide +kernel) ?_
  refine W.widen (k := cells + 760) (n := slots + 4500) (by omega) (by omega) ?_
  exact K a1 r1 f1 g1 a2 r2 f2 g2 kn ((o_L_wideOrder f1 nv p1 p2 p3).2) sv ((o_X5_wideOrder f1 p1 p2 p3).2) a1 f1 a2 f2 (r1 + r2) kn _ _ _ rfl rfl rfl rfl rfl rfl hka1 hka2 hP hD hS (lv_sub hl [2, 3, 4, 5, 6] rfl)
set_option maxHeartbeats 4000000 in
set_option maxRecDepth 100000 in
theorem st_14 (l : Launch) (p : Program) (e : Env) (s : State) (m : MethodId) (below : List Frame) (meth : Method) (c : Code) (b L N : Nat) (xs : Nat → Int32) (A : Nat → Prop) (dC : Nat → ClassId) (dI : Nat → Nat → Nat) (cy cB : ClassId) (h0 h1 hw1 hc1 hb1 h2 hw2 hc2 hb2 ho m0 m1 mc1 m2 mc2 : Nat) (C0 : lw_C l p e s m below meth c b L N xs A dC dI cy cB) (i : Nat) (hi : i + 4 ≤ L) (p1 p2 p3 : Int32) (hp1 : xs (i + 1) = p1) (hp2 : xs (i + 2) = p2) (hp3 : xs (i + 3) = p3) (cells slots : Nat) (hcs : cells + 760 ≤ 989448) (hss : slots + 4500 ≤ 6127760) (K : lw_K l p e s m below meth c b L N xs A dC dI cy cB h0 h1 hw1 hc1 hb1 h2 hw2 hc2 hb2 ho m0 m1 mc1 m2 mc2 i (cells + 760) (slots + 4500) 2240) (a1 : Int32) (r1 : Int32) (f1 : Nat → Int64) (g1 : Nat → Int64) (a2 : Int32) (r2 : Int32) (f2 : Nat → Int64) (g2 : Nat → Int64) (kn : Int32) (nv : Int64) (sv : Value) (th : Int32) (H : Heap) (locs : List Loc) (ls : Array Slot) (hka1 : okA true f1) (hka2 : okA false f2) (hP : va_P (dC, dI) xCl [(h0, eE h1 h2 kn), (h1, eR hw1 hc1 hb1 a1 r1), (hw1, eW true), (hc1, eA cy f1), (hb1, eA cy g1), (h2, eR hw2 hc2 hb2 a2 r2), (hw2, eW false), (hc2, eA cy f2), (hb2, eA cy g2), (ho, eO nv sv), (m0, eM m1 m2 th (r1 + r2) kn), (m1, eMR true mc1 a1), (mc1, eA cy f1), (m2, eMR false mc2 a2), (mc2, eA cy f2)] H) (hD : va_D A [(h0, eE h1 h2 kn), (h1, eR hw1 hc1 hb1 a1 r1), (hw1, eW true), (hc1, eA cy f1), (hb1, eA cy g1), (h2, eR hw2 hc2 hb2 a2 r2), (hw2, eW false), (hc2, eA cy f2), (hb2, eA cy g2), (ho, eO nv sv), (m0, eM m1 m2 th (r1 + r2) kn), (m1, eMR true mc1 a1), (mc1, eA cy f1), (m2, eMR false mc2 a2), (mc2, eA cy f2)]) (hS : va_S A s.heap H locs) (hl : lv_has ls 7 [(0, .ref b), (1, .ref h0), (2, .ref m0), (3, .ref ho), (4, .int (nI i))]) : W p l e room_1 s m #[Value.ref b] below meth c H locs cells slots (lw_Z below #[Value.ref b] s) (F0 m 840 ls []) := by
  obtain ⟨hfl, hx, hb, hr, hml, hown, hts, hX, hbl, hbA, hlocks, hK, hG, hnc, hA, hAN, hN, hL, hT, hNs⟩ := id C0
  have hok2 := me_okF hka2
  have hsp1 : ∀ k, k < 8 → o_X1_isSpoiled true (f1 k) = false := fun k hk => (hka1 k hk).2
  have hsp2 : ∀ k, k < 8 → o_X1_isSpoiled false (f2 k) = false := fun k hk => (hka2 k hk).2
  refine lv_aload_n hx hb dL_law_840 rfl (lv_at hl 1 rfl) ?_
  refine lv_aload_n hx hb dL_law_841 rfl (lv_at hl 0 rfl) ?_
  refine lv_iload hx hb dL_law_842 (lv_at hl 4 rfl) ?_
  refine lv_iconst (v := 1) hx hb dL_law_844 (by decide +kernel) ?_
  refine lv_iadd hx hb dL_law_845 ?_
  rw [nI_1 i]
  refine xa_sld hx hb hX hbl hbA hS (k := i + 1) (by omega) hL hp1 dL_law_846 ?_
  refine lv_aload_n hx hb dL_law_847 rfl (lv_at hl 0 rfl) ?_
  refine lv_iload hx hb dL_law_848 (lv_at hl 4 rfl) ?_
  refine lv_iconst (v := 2) hx hb dL_law_850 (by decide +kernel) ?_
  refine lv_iadd hx hb dL_law_851 ?_
  rw [nI_p2 i]
  refine xa_sld hx hb hX hbl hbA hS (k := i + 2) (by omega) hL hp2 dL_law_852 ?_
  refine lv_aload_n hx hb dL_law_853 rfl (lv_at hl 0 rfl) ?_
  refine lv_iload hx hb dL_law_854 (lv_at hl 4 rfl) ?_
  refine lv_iconst (v := 3) hx hb dL_law_856 (by decide +kernel) ?_
  refine lv_iadd hx hb dL_law_857 ?_
  rw [nI_p3 i]
  refine xa_sld hx hb hX hbl hbA hS (k := i + 3) (by omega) hL hp3 dL_law_858 ?_
  refine lv_aload_n hx hb dL_law_859 rfl (lv_at hl 3 rfl) ?_
  have hPc := hP.sub (ws' := [(h0, eE h1 h2 kn), (h1, eR hw1 hc1 hb1 a1 r1), (hw1, eW true), (hc1, eA cy f1), (hb1, eA cy g1), (h2, eR hw2 hc2 hb2 a2 r2), (hw2, eW false), (hc2, eA cy f2), (hb2, eA cy g2), (ho, eO nv sv)]) [0, 1, 2, 3, 4, 5, 6, 7, 8, 9] rfl
  have hDc := hD.sub (ws' := [(h0, eE h1 h2 kn), (h1, eR hw1 hc1 hb1 a1 r1), (hw1, eW true), (hc1, eA cy f1), (hb1, eA cy g1), (h2, eR hw2 hc2 hb2 a2 r2), (hw2, eW false), (hc2, eA cy f2), (hb2, eA cy g2), (ho, eO nv sv)]) [0, 1, 2, 3, 4, 5, 6, 7, 8, 9] (by decide +kernel) rfl
  have hKc := hK.sub (tys' := [(cy, .long)]) [0] rfl
  have hFc := va_free (wc := [(h0, eE h1 h2 kn), (h1, eR hw1 hc1 hb1 a1 r1), (hw1, eW true), (hc1, eA cy f1), (hb1, eA cy g1), (h2, eR hw2 hc2 hb2 a2 r2), (hw2, eW false), (hc2, eA cy f2), (hb2, eA cy g2), (ho, eO nv sv)]) hD hS hA [0, 1, 2, 3, 4, 5, 6, 7, 8, 9] rfl
  refine va_calli (vx_runSW (As := [.ref h0, .int p1, .int p2, .int p3, .ref ho]) (rest := []) ⟨hx, hb, hml, hown, hts⟩ (k_L_wideSame l hfl dC dI cy h0 h1 hw1 hc1 hb1 h2 hw2 hc2 hb2 a1 r1 f1 g1 a2 r2 f2 g2 kn ho nv sv H.size N p1 p2 p3) (vx_cwSW 5 hts gL_law_L_wideSame rfl rfl rfl (by decide +kernel) ⟨Nat.le_of_ble_eq_true rfl, Nat.le_of_ble_eq_true rfl⟩) (xL.preS hKc hPc hDc hAN (Nat.le_trans hN hS.1) (hG.kept hS hAN) hnc) rfl rfl hl.1 rfl (lv_room (Nat.le_of_ble_eq_true rfl)) dL_law_860 ⟨(show _ ≤ 989448 by omega), (show _ ≤ 6127760 by omega)⟩) hS (fun q _ h => hFc q h) hFc (fun r_1 u t H locs ht hvm hw hB hz hk hS => ?_)
  replace hw : r_1 = (o_L_wideSame f1 nv p1 p2 p3).1 := hw
  subst r_1
  obtain ⟨hP1, hD1⟩ := hB
  rw [ht] at hP1
  obtain ⟨hP, hD⟩ := va_join (wr := [(m0, eM m1 m2 th (r1 + r2) kn), (m1, eMR true mc1 a1), (mc1, eA cy f1), (m2, eMR false mc2 a2), (mc2, eA cy f2)]) (w1 := [(h0, eE h1 h2 kn), (h1, eR hw1 hc1 hb1 a1 r1), (hw1, eW true), (hc1, eA cy f1), (hb1, eA cy g1), (h2, eR hw2 hc2 hb2 a2 r2), (hw2, eW false), (hc2, eA cy f2), (hb2, eA cy g2), (ho, eO (o_L_wideSame f1 nv p1 p2 p3).2 sv)]) hP hD [0, 1, 2, 3, 4, 5, 6, 7, 8, 9] [10, 11, 12, 13, 14] rfl rfl (by decide +kernel) (by decide +kernel) hk hFc hP1 hD1
  have hP := hP.sub (ws' := [(h0, eE h1 h2 kn), (h1, eR hw1 hc1 hb1 a1 r1), (hw1, eW true), (hc1, eA cy f1), (hb1, eA cy g1), (h2, eR hw2 hc2 hb2 a2 r2), (hw2, eW false), (hc2, eA cy f2), (hb2, eA cy g2), (ho, eO (o_L_wideSame f1 nv p1 p2 p3).2 sv), (m0, eM m1 m2 th (r1 + r2) kn), (m1, eMR true mc1 a1), (mc1, eA cy f1), (m2, eMR false mc2 a2), (mc2, eA cy f2)]) [5, 6, 7, 8, 9, 10, 11, 12, 13, 14, 0, 1, 2, 3, 4] rfl
  have hD := hD.sub (ws' := [(h0, eE h1 h2 kn), (h1, eR hw1 hc1 hb1 a1 r1), (hw1, eW true), (hc1, eA cy f1), (hb1, eA cy g1), (h2, eR hw2 hc2 hb2 a2 r2), (hw2, eW false), (hc2, eA cy f2), (hb2, eA cy g2), (ho, eO (o_L_wideSame f1 nv p1 p2 p3).2 sv), (m0, eM m1 m2 th (r1 + r2) kn), (m1, eMR true mc1 a1), (mc1, eA cy f1), (m2, eMR false mc2 a2), (mc2, eA cy f2)]) [5, 6, 7, 8, 9, 10, 11, 12, 13, 14, 0, 1, 2, 3, 4] (by decide +kernel) rfl
  refine lv_istore (lv' := [(5, .int ((o_L_wideSame f1 nv p1 p2 p3).1)), (0, .ref b), (1, .ref h0), (2, .ref m0), (3, .ref ho), (4, .int (nI i))]) hx hb dL_law_863 hl (by decide +kernel) rfl (fun ls hl => ?_)
  refine lv_aload_n hx hb dL_law_865 rfl (lv_at hl 3 rfl) ?_
  refine lv_aload_n hx hb dL_law_866 rfl (lv_at hl 1 rfl) ?_
  refine lv_iload hx hb dL_law_867 (lv_at hl 5 rfl) ?_
  refine lv_iconst (v := 1) hx hb dL_law_869 (by decide +kernel) ?_
  refine lv_iadd hx hb dL_law_870 ?_
  rw [nI_1 i]
  refine xa_sld hx hb hX hbl hbA hS (k := i + 1) (by omega) hL hp1 dL_law_871 ?_
  refine lv_aload_n hx hb dL_law_872 rfl (lv_at hl 1 rfl) ?_
  refine lv_iload hx hb dL_law_873 (lv_at hl 5 rfl) ?_
  refine lv_iconst (v := 2) hx hb dL_law_875 (by decide +kernel) ?_
  refine lv_iadd hx hb dL_law_876 ?_
  rw [nI_p2 i]
  refine xa_sld hx hb hX hbl hbA hS (k := i + 2) (by omega) hL hp2 dL_law_877 ?_
  refine lv_aload_n hx hb dL_law_878 rfl (lv_at hl 1 rfl) ?_
  refine lv_iload hx hb dL_law_879 (lv_at hl 5 rfl) ?_
  refine lv_iconst (v := 3) hx hb dL_law_881 (by decide +kernel) ?_
  refine lv_iadd hx hb dL_law_882 ?_
  rw [nI_p3 i]
  refine xa_sld hx hb hX hbl hbA hS (k := i + 3) (by omega) hL hp3 dL_law_883 ?_
  have hPc := hP.sub (ws' := [(m0, eM m1 m2 th (r1 + r2) kn), (m1, eMR true mc1 a1), (mc1, eA cy f1), (m2, eMR false mc2 a2), (mc2, eA cy f2)]) [10, 11, 12, 13, 14] rfl
  have hDc := hD.sub (ws' := [(m0, eM m1 m2 th (r1 + r2) kn), (m1, eMR true mc1 a1), (mc1, eA cy f1), (m2, eMR false mc2 a2), (mc2, eA cy f2)]) [10, 11, 12, 13, 14] (by decide +kernel) rfl
  have hKc := hK.sub (tys' := [(cy, .long)]) [0] rfl
  have hFc := va_free (wc := [(m0, eM m1 m2 th (r1 + r2) kn), (m1, eMR true mc1 a1), (mc1, eA cy f1), (m2, eMR false mc2 a2), (mc2, eA cy f2)]) hD hS hA [10, 11, 12, 13, 14] rfl
  refine va_calli (va_runV (As := [.int p1, .int p2, .int p3]) (rest := []) ⟨hx, hb, hml, hown, hts⟩ (k_X5_wideSame l dC dI cy m0 m1 mc1 m2 mc2 a1 f1 a2 f2 th (r1 + r2) kn H.size N p1 p2 p3) (cwV 3 hts gL_law_X5_wideSame rfl rfl rfl (by decide +kernel) ⟨Nat.le_of_ble_eq_true rfl, Nat.le_of_ble_eq_true rfl⟩) (xM.preV hKc hPc hDc hAN (Nat.le_trans hN hS.1) (hG.kept hS hAN) (ci := 7) (q0 := 0) rfl rfl) rfl rfl hl.1 rfl (lv_room (Nat.le_of_ble_eq_true rfl)) dL_law_884 ⟨(show _ ≤ 989448 by omega), (show _ ≤ 6127760 by omega)⟩) hS (fun q _ h => hFc q h) hFc (fun r_2 u t H locs ht hvm hw hB hz hk hS => ?_)
  replace hw : r_2 = b2i ((o_X5_wideSame f1 p1 p2 p3).1) := hw
  subst r_2
  obtain ⟨hP1, hD1⟩ := hB
  rw [ht] at hP1
  obtain ⟨hP, hD⟩ := va_join (wr := [(h0, eE h1 h2 kn), (h1, eR hw1 hc1 hb1 a1 r1), (hw1, eW true), (hc1, eA cy f1), (hb1, eA cy g1), (h2, eR hw2 hc2 hb2 a2 r2), (hw2, eW false), (hc2, eA cy f2), (hb2, eA cy g2), (ho, eO (o_L_wideSame f1 nv p1 p2 p3).2 sv)]) (w1 := [(m0, eM m1 m2 (o_X5_wideSame f1 p1 p2 p3).2 (r1 + r2) kn), (m1, eMR true mc1 a1), (mc1, eA cy f1), (m2, eMR false mc2 a2), (mc2, eA cy f2)]) hP hD [10, 11, 12, 13, 14] [0, 1, 2, 3, 4, 5, 6, 7, 8, 9] rfl rfl (by decide +kernel) (by decide +kernel) hk hFc hP1 hD1
  have hP := hP.sub (ws' := [(h0, eE h1 h2 kn), (h1, eR hw1 hc1 hb1 a1 r1), (hw1, eW true), (hc1, eA cy f1), (hb1, eA cy g1), (h2, eR hw2 hc2 hb2 a2 r2), (hw2, eW false), (hc2, eA cy f2), (hb2, eA cy g2), (ho, eO (o_L_wideSame f1 nv p1 p2 p3).2 sv), (m0, eM m1 m2 (o_X5_wideSame f1 p1 p2 p3).2 (r1 + r2) kn), (m1, eMR true mc1 a1), (mc1, eA cy f1), (m2, eMR false mc2 a2), (mc2, eA cy f2)]) [0, 1, 2, 3, 4, 5, 6, 7, 8, 9, 10, 11, 12, 13, 14] rfl
  have hD := hD.sub (ws' := [(h0, eE h1 h2 kn), (h1, eR hw1 hc1 hb1 a1 r1), (hw1, eW true), (hc1, eA cy f1), (hb1, eA cy g1), (h2, eR hw2 hc2 hb2 a2 r2), (hw2, eW false), (hc2, eA cy f2), (hb2, eA cy g2), (ho, eO (o_L_wideSame f1 nv p1 p2 p3).2 sv), (m0, eM m1 m2 (o_X5_wideSame f1 p1 p2 p3).2 (r1 + r2) kn), (m1, eMR true mc1 a1), (mc1, eA cy f1), (m2, eMR false mc2 a2), (mc2, eA cy f2)]) [0, 1, 2, 3, 4, 5, 6, 7, 8, 9, 10, 11, 12, 13, 14] (by decide +kernel) rfl
  refine lv_istore (lv' := [(6, .int (b2i ((o_X5_wideSame f1 p1 p2 p3).1))), (5, .int ((o_L_wideSame f1 nv p1 p2 p3).1)), (0, .ref b), (1, .ref h0), (2, .ref m0), (3, .ref ho), (4, .int (nI i))]) hx hb dL_law_887 hl (by decide +kernel) rfl (fun ls hl => ?_)
  refine lv_goto (tgt := 2240) hx hb dL_law_889 (by decide +kernel) ?_
  refine W.widen (k := cells + 760) (n := slots + 4500) (by omega) (by omega) ?_
  exact K a1 r1 f1 g1 a2 r2 f2 g2 kn ((o_L_wideSame f1 nv p1 p2 p3).2) sv ((o_X5_wideSame f1 p1 p2 p3).2) a1 f1 a2 f2 (r1 + r2) kn _ _ _ rfl rfl rfl rfl rfl rfl hka1 hka2 hP hD hS (lv_sub hl [2, 3, 4, 5, 6] rfl)
set_option maxHeartbeats 4000000 in
set_option maxRecDepth 100000 in
theorem st_15 (l : Launch) (p : Program) (e : Env) (s : State) (m : MethodId) (below : List Frame) (meth : Method) (c : Code) (b L N : Nat) (xs : Nat → Int32) (A : Nat → Prop) (dC : Nat → ClassId) (dI : Nat → Nat → Nat) (cy cB : ClassId) (h0 h1 hw1 hc1 hb1 h2 hw2 hc2 hb2 ho m0 m1 mc1 m2 mc2 : Nat) (C0 : lw_C l p e s m below meth c b L N xs A dC dI cy cB) (i : Nat) (hi : i + 4 ≤ L) (p1 p2 p3 : Int32) (hp1 : xs (i + 1) = p1) (hp2 : xs (i + 2) = p2) (hp3 : xs (i + 3) = p3) (cells slots : Nat) (hcs : cells + 760 ≤ 989448) (hss : slots + 4500 ≤ 6127760) (K : lw_K l p e s m below meth c b L N xs A dC dI cy cB h0 h1 hw1 hc1 hb1 h2 hw2 hc2 hb2 ho m0 m1 mc1 m2 mc2 i (cells + 760) (slots + 4500) 2240) (a1 : Int32) (r1 : Int32) (f1 : Nat → Int64) (g1 : Nat → Int64) (a2 : Int32) (r2 : Int32) (f2 : Nat → Int64) (g2 : Nat → Int64) (kn : Int32) (nv : Int64) (sv : Value) (th : Int32) (H : Heap) (locs : List Loc) (ls : Array Slot) (hka1 : okA true f1) (hka2 : okA false f2) (hP : va_P (dC, dI) xCl [(h0, eE h1 h2 kn), (h1, eR hw1 hc1 hb1 a1 r1), (hw1, eW true), (hc1, eA cy f1), (hb1, eA cy g1), (h2, eR hw2 hc2 hb2 a2 r2), (hw2, eW false), (hc2, eA cy f2), (hb2, eA cy g2), (ho, eO nv sv), (m0, eM m1 m2 th (r1 + r2) kn), (m1, eMR true mc1 a1), (mc1, eA cy f1), (m2, eMR false mc2 a2), (mc2, eA cy f2)] H) (hD : va_D A [(h0, eE h1 h2 kn), (h1, eR hw1 hc1 hb1 a1 r1), (hw1, eW true), (hc1, eA cy f1), (hb1, eA cy g1), (h2, eR hw2 hc2 hb2 a2 r2), (hw2, eW false), (hc2, eA cy f2), (hb2, eA cy g2), (ho, eO nv sv), (m0, eM m1 m2 th (r1 + r2) kn), (m1, eMR true mc1 a1), (mc1, eA cy f1), (m2, eMR false mc2 a2), (mc2, eA cy f2)]) (hS : va_S A s.heap H locs) (hl : lv_has ls 7 [(0, .ref b), (1, .ref h0), (2, .ref m0), (3, .ref ho), (4, .int (nI i))]) : W p l e room_1 s m #[Value.ref b] below meth c H locs cells slots (lw_Z below #[Value.ref b] s) (F0 m 892 ls []) := by
  obtain ⟨hfl, hx, hb, hr, hml, hown, hts, hX, hbl, hbA, hlocks, hK, hG, hnc, hA, hAN, hN, hL, hT, hNs⟩ := id C0
  have hok2 := me_okF hka2
  have hsp1 : ∀ k, k < 8 → o_X1_isSpoiled true (f1 k) = false := fun k hk => (hka1 k hk).2
  have hsp2 : ∀ k, k < 8 → o_X1_isSpoiled false (f2 k) = false := fun k hk => (hka2 k hk).2
  refine lv_aload_n hx hb dL_law_892 rfl (lv_at hl 1 rfl) ?_
  refine lv_aload_n hx hb dL_law_893 rfl (lv_at hl 0 rfl) ?_
  refine lv_iload hx hb dL_law_894 (lv_at hl 4 rfl) ?_
  refine lv_iconst (v := 1) hx hb dL_law_896 (by decide +kernel) ?_
  refine lv_iadd hx hb dL_law_897 ?_
  rw [nI_1 i]
  refine xa_sld hx hb hX hbl hbA hS (k := i + 1) (by omega) hL hp1 dL_law_898 ?_
  refine lv_aload_n hx hb dL_law_899 rfl (lv_at hl 0 rfl) ?_
  refine lv_iload hx hb dL_law_900 (lv_at hl 4 rfl) ?_
  refine lv_iconst (v := 2) hx hb dL_law_902 (by decide +kernel) ?_
  refine lv_iadd hx hb dL_law_903 ?_
  rw [nI_p2 i]
  refine xa_sld hx hb hX hbl hbA hS (k := i + 2) (by omega) hL hp2 dL_law_904 ?_
  refine lv_aload_n hx hb dL_law_905 rfl (lv_at hl 3 rfl) ?_
  have hPc := hP.sub (ws' := [(h0, eE h1 h2 kn), (h1, eR hw1 hc1 hb1 a1 r1), (hw1, eW true), (hc1, eA cy f1), (hb1, eA cy g1), (h2, eR hw2 hc2 hb2 a2 r2), (hw2, eW false), (hc2, eA cy f2), (hb2, eA cy g2), (ho, eO nv sv)]) [0, 1, 2, 3, 4, 5, 6, 7, 8, 9] rfl
  have hDc := hD.sub (ws' := [(h0, eE h1 h2 kn), (h1, eR hw1 hc1 hb1 a1 r1), (hw1, eW true), (hc1, eA cy f1), (hb1, eA cy g1), (h2, eR hw2 hc2 hb2 a2 r2), (hw2, eW false), (hc2, eA cy f2), (hb2, eA cy g2), (ho, eO nv sv)]) [0, 1, 2, 3, 4, 5, 6, 7, 8, 9] (by decide +kernel) rfl
  have hKc := hK.sub (tys' := [(cy, .long)]) [0] rfl
  have hFc := va_free (wc := [(h0, eE h1 h2 kn), (h1, eR hw1 hc1 hb1 a1 r1), (hw1, eW true), (hc1, eA cy f1), (hb1, eA cy g1), (h2, eR hw2 hc2 hb2 a2 r2), (hw2, eW false), (hc2, eA cy f2), (hb2, eA cy g2), (ho, eO nv sv)]) hD hS hA [0, 1, 2, 3, 4, 5, 6, 7, 8, 9] rfl
  refine va_calli (vx_runSW (As := [.ref h0, .int p1, .int p2, .ref ho]) (rest := []) ⟨hx, hb, hml, hown, hts⟩ (k_L_wideOther l hfl dC dI cy h0 h1 hw1 hc1 hb1 h2 hw2 hc2 hb2 a1 r1 f1 g1 a2 r2 f2 g2 kn ho nv sv H.size N p1 p2) (vx_cwSW 4 hts gL_law_L_wideOther rfl rfl rfl (by decide +kernel) ⟨Nat.le_of_ble_eq_true rfl, Nat.le_of_ble_eq_true rfl⟩) (xL.preS hKc hPc hDc hAN (Nat.le_trans hN hS.1) (hG.kept hS hAN) hnc) rfl rfl hl.1 rfl (lv_room (Nat.le_of_ble_eq_true rfl)) dL_law_906 ⟨(show _ ≤ 989448 by omega), (show _ ≤ 6127760 by omega)⟩) hS (fun q _ h => hFc q h) hFc (fun r_1 u t H locs ht hvm hw hB hz hk hS => ?_)
  replace hw : r_1 = (o_L_wideOther nv p1 p2).1 := hw
  subst r_1
  obtain ⟨hP1, hD1⟩ := hB
  rw [ht] at hP1
  obtain ⟨hP, hD⟩ := va_join (wr := [(m0, eM m1 m2 th (r1 + r2) kn), (m1, eMR true mc1 a1), (mc1, eA cy f1), (m2, eMR false mc2 a2), (mc2, eA cy f2)]) (w1 := [(h0, eE h1 h2 kn), (h1, eR hw1 hc1 hb1 a1 r1), (hw1, eW true), (hc1, eA cy f1), (hb1, eA cy g1), (h2, eR hw2 hc2 hb2 a2 r2), (hw2, eW false), (hc2, eA cy f2), (hb2, eA cy g2), (ho, eO (o_L_wideOther nv p1 p2).2 sv)]) hP hD [0, 1, 2, 3, 4, 5, 6, 7, 8, 9] [10, 11, 12, 13, 14] rfl rfl (by decide +kernel) (by decide +kernel) hk hFc hP1 hD1
  have hP := hP.sub (ws' := [(h0, eE h1 h2 kn), (h1, eR hw1 hc1 hb1 a1 r1), (hw1, eW true), (hc1, eA cy f1), (hb1, eA cy g1), (h2, eR hw2 hc2 hb2 a2 r2), (hw2, eW false), (hc2, eA cy f2), (hb2, eA cy g2), (ho, eO (o_L_wideOther nv p1 p2).2 sv), (m0, eM m1 m2 th (r1 + r2) kn), (m1, eMR true mc1 a1), (mc1, eA cy f1), (m2, eMR false mc2 a2), (mc2, eA cy f2)]) [5, 6, 7, 8, 9, 10, 11, 12, 13, 14, 0, 1, 2, 3, 4] rfl
  have hD := hD.sub (ws' := [(h0, eE h1 h2 kn), (h1, eR hw1 hc1 hb1 a1 r1), (hw1, eW true), (hc1, eA cy f1), (hb1, eA cy g1), (h2, eR hw2 hc2 hb2 a2 r2), (hw2, eW false), (hc2, eA cy f2), (hb2, eA cy g2), (ho, eO (o_L_wideOther nv p1 p2).2 sv), (m0, eM m1 m2 th (r1 + r2) kn), (m1, eMR true mc1 a1), (mc1, eA cy f1), (m2, eMR false mc2 a2), (mc2, eA cy f2)]) [5, 6, 7, 8, 9, 10, 11, 12, 13, 14, 0, 1, 2, 3, 4] (by decide +kernel) rfl
  refine lv_istore (lv' := [(5, .int ((o_L_wideOther nv p1 p2).1)), (0, .ref b), (1, .ref h0), (2, .ref m0), (3, .ref ho), (4, .int (nI i))]) hx hb dL_law_909 hl (by decide +kernel) rfl (fun ls hl => ?_)
  refine lv_aload_n hx hb dL_law_911 rfl (lv_at hl 3 rfl) ?_
  refine lv_aload_n hx hb dL_law_912 rfl (lv_at hl 1 rfl) ?_
  refine lv_iload hx hb dL_law_913 (lv_at hl 5 rfl) ?_
  refine lv_iconst (v := 1) hx hb dL_law_915 (by decide +kernel) ?_
  refine lv_iadd hx hb dL_law_916 ?_
  rw [nI_1 i]
  refine xa_sld hx hb hX hbl hbA hS (k := i + 1) (by omega) hL hp1 dL_law_917 ?_
  refine lv_aload_n hx hb dL_law_918 rfl (lv_at hl 1 rfl) ?_
  refine lv_iload hx hb dL_law_919 (lv_at hl 5 rfl) ?_
  refine lv_iconst (v := 2) hx hb dL_law_921 (by decide +kernel) ?_
  refine lv_iadd hx hb dL_law_922 ?_
  rw [nI_p2 i]
  refine xa_sld hx hb hX hbl hbA hS (k := i + 2) (by omega) hL hp2 dL_law_923 ?_
  have hPc := hP.sub (ws' := [(m0, eM m1 m2 th (r1 + r2) kn), (m1, eMR true mc1 a1), (mc1, eA cy f1), (m2, eMR false mc2 a2), (mc2, eA cy f2)]) [10, 11, 12, 13, 14] rfl
  have hDc := hD.sub (ws' := [(m0, eM m1 m2 th (r1 + r2) kn), (m1, eMR true mc1 a1), (mc1, eA cy f1), (m2, eMR false mc2 a2), (mc2, eA cy f2)]) [10, 11, 12, 13, 14] (by decide +kernel) rfl
  have hKc := hK.sub (tys' := [(cy, .long)]) [0] rfl
  have hFc := va_free (wc := [(m0, eM m1 m2 th (r1 + r2) kn), (m1, eMR true mc1 a1), (mc1, eA cy f1), (m2, eMR false mc2 a2), (mc2, eA cy f2)]) hD hS hA [10, 11, 12, 13, 14] rfl
  refine va_calli (va_runV (As := [.int p1, .int p2]) (rest := []) ⟨hx, hb, hml, hown, hts⟩ (k_X5_wideOther l dC dI cy m0 m1 mc1 m2 mc2 a1 f1 a2 f2 th (r1 + r2) kn H.size N p1 p2) (cwV 2 hts gL_law_X5_wideOther rfl rfl rfl (by decide +kernel) ⟨Nat.le_of_ble_eq_true rfl, Nat.le_of_ble_eq_true rfl⟩) (xM.preV hKc hPc hDc hAN (Nat.le_trans hN hS.1) (hG.kept hS hAN) (ci := 7) (q0 := 0) rfl rfl) rfl rfl hl.1 rfl (lv_room (Nat.le_of_ble_eq_true rfl)) dL_law_924 ⟨(show _ ≤ 989448 by omega), (show _ ≤ 6127760 by omega)⟩) hS (fun q _ h => hFc q h) hFc (fun r_2 u t H locs ht hvm hw hB hz hk hS => ?_)
  replace hw : r_2 = b2i ((o_X5_wideOther p1 p2).1) := hw
  subst r_2
  obtain ⟨hP1, hD1⟩ := hB
  rw [ht] at hP1
  obtain ⟨hP, hD⟩ := va_join (wr := [(h0, eE h1 h2 kn), (h1, eR hw1 hc1 hb1 a1 r1), (hw1, eW true), (hc1, eA cy f1), (hb1, eA cy g1), (h2, eR hw2 hc2 hb2 a2 r2), (hw2, eW false), (hc2, eA cy f2), (hb2, eA cy g2), (ho, eO (o_L_wideOther nv p1 p2).2 sv)]) (w1 := [(m0, eM m1 m2 (o_X5_wideOther p1 p2).2 (r1 + r2) kn), (m1, eMR true mc1 a1), (mc1, eA cy f1), (m2, eMR false mc2 a2), (mc2, eA cy f2)]) hP hD [10, 11, 12, 13, 14] [0, 1, 2, 3, 4, 5, 6, 7, 8, 9] rfl rfl (by decide +kernel) (by decide +kernel) hk hFc hP1 hD1
  have hP := hP.sub (ws' := [(h0, eE h1 h2 kn), (h1, eR hw1 hc1 hb1 a1 r1), (hw1, eW true), (hc1, eA cy f1), (hb1, eA cy g1), (h2, eR hw2 hc2 hb2 a2 r2), (hw2, eW false), (hc2, eA cy f2), (hb2, eA cy g2), (ho, eO (o_L_wideOther nv p1 p2).2 sv), (m0, eM m1 m2 (o_X5_wideOther p1 p2).2 (r1 + r2) kn), (m1, eMR true mc1 a1), (mc1, eA cy f1), (m2, eMR false mc2 a2), (mc2, eA cy f2)]) [0, 1, 2, 3, 4, 5, 6, 7, 8, 9, 10, 11, 12, 13, 14] rfl
  have hD := hD.sub (ws' := [(h0, eE h1 h2 kn), (h1, eR hw1 hc1 hb1 a1 r1), (hw1, eW true), (hc1, eA cy f1), (hb1, eA cy g1), (h2, eR hw2 hc2 hb2 a2 r2), (hw2, eW false), (hc2, eA cy f2), (hb2, eA cy g2), (ho, eO (o_L_wideOther nv p1 p2).2 sv), (m0, eM m1 m2 (o_X5_wideOther p1 p2).2 (r1 + r2) kn), (m1, eMR true mc1 a1), (mc1, eA cy f1), (m2, eMR false mc2 a2), (mc2, eA cy f2)]) [0, 1, 2, 3, 4, 5, 6, 7, 8, 9, 10, 11, 12, 13, 14] (by decide +kernel) rfl
  refine lv_istore (lv' := [(6, .int (b2i ((o_X5_wideOther p1 p2).1))), (5, .int ((o_L_wideOther nv p1 p2).1)), (0, .ref b), (1, .ref h0), (2, .ref m0), (3, .ref ho), (4, .int (nI i))]) hx hb dL_law_927 hl (by decide +kernel) rfl (fun ls hl => ?_)
  refine lv_goto (tgt := 2240) hx hb dL_law_929 (by decide +kernel) ?_
  refine W.widen (k := cells + 760) (n := slots + 4500) (by omega) (by omega) ?_
  exact K a1 r1 f1 g1 a2 r2 f2 g2 kn ((o_L_wideOther nv p1 p2).2) sv ((o_X5_wideOther p1 p2).2) a1 f1 a2 f2 (r1 + r2) kn _ _ _ rfl rfl rfl rfl rfl rfl hka1 hka2 hP hD hS (lv_sub hl [2, 3, 4, 5, 6] rfl)
set_option maxHeartbeats 4000000 in
set_option maxRecDepth 100000 in
theorem st_16 (l : Launch) (p : Program) (e : Env) (s : State) (m : MethodId) (below : List Frame) (meth : Method) (c : Code) (b L N : Nat) (xs : Nat → Int32) (A : Nat → Prop) (dC : Nat → ClassId) (dI : Nat → Nat → Nat) (cy cB : ClassId) (h0 h1 hw1 hc1 hb1 h2 hw2 hc2 hb2 ho m0 m1 mc1 m2 mc2 : Nat) (C0 : lw_C l p e s m below meth c b L N xs A dC dI cy cB) (i : Nat) (hi : i + 4 ≤ L) (p1 p2 p3 : Int32) (hp1 : xs (i + 1) = p1) (hp2 : xs (i + 2) = p2) (hp3 : xs (i + 3) = p3) (cells slots : Nat) (hcs : cells + 760 ≤ 989448) (hss : slots + 4500 ≤ 6127760) (K : lw_K l p e s m below meth c b L N xs A dC dI cy cB h0 h1 hw1 hc1 hb1 h2 hw2 hc2 hb2 ho m0 m1 mc1 m2 mc2 i (cells + 760) (slots + 4500) 2240) (a1 : Int32) (r1 : Int32) (f1 : Nat → Int64) (g1 : Nat → Int64) (a2 : Int32) (r2 : Int32) (f2 : Nat → Int64) (g2 : Nat → Int64) (kn : Int32) (nv : Int64) (sv : Value) (th : Int32) (H : Heap) (locs : List Loc) (ls : Array Slot) (hka1 : okA true f1) (hka2 : okA false f2) (hP : va_P (dC, dI) xCl [(h0, eE h1 h2 kn), (h1, eR hw1 hc1 hb1 a1 r1), (hw1, eW true), (hc1, eA cy f1), (hb1, eA cy g1), (h2, eR hw2 hc2 hb2 a2 r2), (hw2, eW false), (hc2, eA cy f2), (hb2, eA cy g2), (ho, eO nv sv), (m0, eM m1 m2 th (r1 + r2) kn), (m1, eMR true mc1 a1), (mc1, eA cy f1), (m2, eMR false mc2 a2), (mc2, eA cy f2)] H) (hD : va_D A [(h0, eE h1 h2 kn), (h1, eR hw1 hc1 hb1 a1 r1), (hw1, eW true), (hc1, eA cy f1), (hb1, eA cy g1), (h2, eR hw2 hc2 hb2 a2 r2), (hw2, eW false), (hc2, eA cy f2), (hb2, eA cy g2), (ho, eO nv sv), (m0, eM m1 m2 th (r1 + r2) kn), (m1, eMR true mc1 a1), (mc1, eA cy f1), (m2, eMR false mc2 a2), (mc2, eA cy f2)]) (hS : va_S A s.heap H locs) (hl : lv_has ls 7 [(0, .ref b), (1, .ref h0), (2, .ref m0), (3, .ref ho), (4, .int (nI i))]) : W p l e room_1 s m #[Value.ref b] below meth c H locs cells slots (lw_Z below #[Value.ref b] s) (F0 m 932 ls []) := by
  obtain ⟨hfl, hx, hb, hr, hml, hown, hts, hX, hbl, hbA, hlocks, hK, hG, hnc, hA, hAN, hN, hL, hT, hNs⟩ := id C0
  have hok2 := me_okF hka2
  have hsp1 : ∀ k, k < 8 → o_X1_isSpoiled true (f1 k) = false := fun k hk => (hka1 k hk).2
  have hsp2 : ∀ k, k < 8 → o_X1_isSpoiled false (f2 k) = false := fun k hk => (hka2 k hk).2
  refine lv_aload_n hx hb dL_law_932 rfl (lv_at hl 1 rfl) ?_
  refine lv_aload_n hx hb dL_law_933 rfl (lv_at hl 0 rfl) ?_
  refine lv_iload hx hb dL_law_934 (lv_at hl 4 rfl) ?_
  refine lv_iconst (v := 1) hx hb dL_law_936 (by decide +kernel) ?_
  refine lv_iadd hx hb dL_law_937 ?_
  rw [nI_1 i]
  refine xa_sld hx hb hX hbl hbA hS (k := i + 1) (by omega) hL hp1 dL_law_938 ?_
  refine lv_aload_n hx hb dL_law_939 rfl (lv_at hl 0 rfl) ?_
  refine lv_iload hx hb dL_law_940 (lv_at hl 4 rfl) ?_
  refine lv_iconst (v := 2) hx hb dL_law_942 (by decide +kernel) ?_
  refine lv_iadd hx hb dL_law_943 ?_
  rw [nI_p2 i]
  refine xa_sld hx hb hX hbl hbA hS (k := i + 2) (by omega) hL hp2 dL_law_944 ?_
  refine lv_aload_n hx hb dL_law_945 rfl (lv_at hl 3 rfl) ?_
  have hPc := hP.sub (ws' := [(h0, eE h1 h2 kn), (h1, eR hw1 hc1 hb1 a1 r1), (hw1, eW true), (hc1, eA cy f1), (hb1, eA cy g1), (h2, eR hw2 hc2 hb2 a2 r2), (hw2, eW false), (hc2, eA cy f2), (hb2, eA cy g2), (ho, eO nv sv)]) [0, 1, 2, 3, 4, 5, 6, 7, 8, 9] rfl
  have hDc := hD.sub (ws' := [(h0, eE h1 h2 kn), (h1, eR hw1 hc1 hb1 a1 r1), (hw1, eW true), (hc1, eA cy f1), (hb1, eA cy g1), (h2, eR hw2 hc2 hb2 a2 r2), (hw2, eW false), (hc2, eA cy f2), (hb2, eA cy g2), (ho, eO nv sv)]) [0, 1, 2, 3, 4, 5, 6, 7, 8, 9] (by decide +kernel) rfl
  have hKc := hK.sub (tys' := [(cy, .long)]) [0] rfl
  have hFc := va_free (wc := [(h0, eE h1 h2 kn), (h1, eR hw1 hc1 hb1 a1 r1), (hw1, eW true), (hc1, eA cy f1), (hb1, eA cy g1), (h2, eR hw2 hc2 hb2 a2 r2), (hw2, eW false), (hc2, eA cy f2), (hb2, eA cy g2), (ho, eO nv sv)]) hD hS hA [0, 1, 2, 3, 4, 5, 6, 7, 8, 9] rfl
  refine va_calli (vx_runSW (As := [.ref h0, .int p1, .int p2, .ref ho]) (rest := []) ⟨hx, hb, hml, hown, hts⟩ (k_L_wideLike l hfl dC dI cy h0 h1 hw1 hc1 hb1 h2 hw2 hc2 hb2 a1 r1 f1 g1 a2 r2 f2 g2 kn ho nv sv H.size N p1 p2) (vx_cwSW 4 hts gL_law_L_wideLike rfl rfl rfl (by decide +kernel) ⟨Nat.le_of_ble_eq_true rfl, Nat.le_of_ble_eq_true rfl⟩) (xL.preS hKc hPc hDc hAN (Nat.le_trans hN hS.1) (hG.kept hS hAN) hnc) rfl rfl hl.1 rfl (lv_room (Nat.le_of_ble_eq_true rfl)) dL_law_946 ⟨(show _ ≤ 989448 by omega), (show _ ≤ 6127760 by omega)⟩) hS (fun q _ h => hFc q h) hFc (fun r_1 u t H locs ht hvm hw hB hz hk hS => ?_)
  replace hw : r_1 = (o_L_wideLike f1 nv p1 p2).1 := hw
  subst r_1
  obtain ⟨hP1, hD1⟩ := hB
  rw [ht] at hP1
  obtain ⟨hP, hD⟩ := va_join (wr := [(m0, eM m1 m2 th (r1 + r2) kn), (m1, eMR true mc1 a1), (mc1, eA cy f1), (m2, eMR false mc2 a2), (mc2, eA cy f2)]) (w1 := [(h0, eE h1 h2 kn), (h1, eR hw1 hc1 hb1 a1 r1), (hw1, eW true), (hc1, eA cy f1), (hb1, eA cy g1), (h2, eR hw2 hc2 hb2 a2 r2), (hw2, eW false), (hc2, eA cy f2), (hb2, eA cy g2), (ho, eO (o_L_wideLike f1 nv p1 p2).2 sv)]) hP hD [0, 1, 2, 3, 4, 5, 6, 7, 8, 9] [10, 11, 12, 13, 14] rfl rfl (by decide +kernel) (by decide +kernel) hk hFc hP1 hD1
  have hP := hP.sub (ws' := [(h0, eE h1 h2 kn), (h1, eR hw1 hc1 hb1 a1 r1), (hw1, eW true), (hc1, eA cy f1), (hb1, eA cy g1), (h2, eR hw2 hc2 hb2 a2 r2), (hw2, eW false), (hc2, eA cy f2), (hb2, eA cy g2), (ho, eO (o_L_wideLike f1 nv p1 p2).2 sv), (m0, eM m1 m2 th (r1 + r2) kn), (m1, eMR true mc1 a1), (mc1, eA cy f1), (m2, eMR false mc2 a2), (mc2, eA cy f2)]) [5, 6, 7, 8, 9, 10, 11, 12, 13, 14, 0, 1, 2, 3, 4] rfl
  have hD := hD.sub (ws' := [(h0, eE h1 h2 kn), (h1, eR hw1 hc1 hb1 a1 r1), (hw1, eW true), (hc1, eA cy f1), (hb1, eA cy g1), (h2, eR hw2 hc2 hb2 a2 r2), (hw2, eW false), (hc2, eA cy f2), (hb2, eA cy g2), (ho, eO (o_L_wideLike f1 nv p1 p2).2 sv), (m0, eM m1 m2 th (r1 + r2) kn), (m1, eMR true mc1 a1), (mc1, eA cy f1), (m2, eMR false mc2 a2), (mc2, eA cy f2)]) [5, 6, 7, 8, 9, 10, 11, 12, 13, 14, 0, 1, 2, 3, 4] (by decide +kernel) rfl
  refine lv_istore (lv' := [(5, .int ((o_L_wideLike f1 nv p1 p2).1)), (0, .ref b), (1, .ref h0), (2, .ref m0), (3, .ref ho), (4, .int (nI i))]) hx hb dL_law_949 hl (by decide +kernel) rfl (fun ls hl => ?_)
  refine lv_aload_n hx hb dL_law_951 rfl (lv_at hl 3 rfl) ?_
  refine lv_aload_n hx hb dL_law_952 rfl (lv_at hl 1 rfl) ?_
  refine lv_iload hx hb dL_law_953 (lv_at hl 5 rfl) ?_
  refine lv_iconst (v := 1) hx hb dL_law_955 (by decide +kernel) ?_
  refine lv_iadd hx hb dL_law_956 ?_
  rw [nI_1 i]
  refine xa_sld hx hb hX hbl hbA hS (k := i + 1) (by omega) hL hp1 dL_law_957 ?_
  refine lv_aload_n hx hb dL_law_958 rfl (lv_at hl 1 rfl) ?_
  refine lv_iload hx hb dL_law_959 (lv_at hl 5 rfl) ?_
  refine lv_iconst (v := 2) hx hb dL_law_961 (by decide +kernel) ?_
  refine lv_iadd hx hb dL_law_962 ?_
  rw [nI_p2 i]
  refine xa_sld hx hb hX hbl hbA hS (k := i + 2) (by omega) hL hp2 dL_law_963 ?_
  have hPc := hP.sub (ws' := [(m0, eM m1 m2 th (r1 + r2) kn), (m1, eMR true mc1 a1), (mc1, eA cy f1), (m2, eMR false mc2 a2), (mc2, eA cy f2)]) [10, 11, 12, 13, 14] rfl
  have hDc := hD.sub (ws' := [(m0, eM m1 m2 th (r1 + r2) kn), (m1, eMR true mc1 a1), (mc1, eA cy f1), (m2, eMR false mc2 a2), (mc2, eA cy f2)]) [10, 11, 12, 13, 14] (by decide +kernel) rfl
  have hKc := hK.sub (tys' := [(cy, .long)]) [0] rfl
  have hFc := va_free (wc := [(m0, eM m1 m2 th (r1 + r2) kn), (m1, eMR true mc1 a1), (mc1, eA cy f1), (m2, eMR false mc2 a2), (mc2, eA cy f2)]) hD hS hA [10, 11, 12, 13, 14] rfl
  refine va_calli (va_runV (As := [.int p1, .int p2]) (rest := []) ⟨hx, hb, hml, hown, hts⟩ (k_X5_wideLike l dC dI cy m0 m1 mc1 m2 mc2 a1 f1 a2 f2 th (r1 + r2) kn H.size N p1 p2) (cwV 2 hts gL_law_X5_wideLike rfl rfl rfl (by decide +kernel) ⟨Nat.le_of_ble_eq_true rfl, Nat.le_of_ble_eq_true rfl⟩) (xM.preV hKc hPc hDc hAN (Nat.le_trans hN hS.1) (hG.kept hS hAN) (ci := 7) (q0 := 0) rfl rfl) rfl rfl hl.1 rfl (lv_room (Nat.le_of_ble_eq_true rfl)) dL_law_964 ⟨(show _ ≤ 989448 by omega), (show _ ≤ 6127760 by omega)⟩) hS (fun q _ h => hFc q h) hFc (fun r_2 u t H locs ht hvm hw hB hz hk hS => ?_)
  replace hw : r_2 = b2i ((o_X5_wideLike f1 p1 p2).1) := hw
  subst r_2
  obtain ⟨hP1, hD1⟩ := hB
  rw [ht] at hP1
  obtain ⟨hP, hD⟩ := va_join (wr := [(h0, eE h1 h2 kn), (h1, eR hw1 hc1 hb1 a1 r1), (hw1, eW true), (hc1, eA cy f1), (hb1, eA cy g1), (h2, eR hw2 hc2 hb2 a2 r2), (hw2, eW false), (hc2, eA cy f2), (hb2, eA cy g2), (ho, eO (o_L_wideLike f1 nv p1 p2).2 sv)]) (w1 := [(m0, eM m1 m2 (o_X5_wideLike f1 p1 p2).2 (r1 + r2) kn), (m1, eMR true mc1 a1), (mc1, eA cy f1), (m2, eMR false mc2 a2), (mc2, eA cy f2)]) hP hD [10, 11, 12, 13, 14] [0, 1, 2, 3, 4, 5, 6, 7, 8, 9] rfl rfl (by decide +kernel) (by decide +kernel) hk hFc hP1 hD1
  have hP := hP.sub (ws' := [(h0, eE h1 h2 kn), (h1, eR hw1 hc1 hb1 a1 r1), (hw1, eW true), (hc1, eA cy f1), (hb1, eA cy g1), (h2, eR hw2 hc2 hb2 a2 r2), (hw2, eW false), (hc2, eA cy f2), (hb2, eA cy g2), (ho, eO (o_L_wideLike f1 nv p1 p2).2 sv), (m0, eM m1 m2 (o_X5_wideLike f1 p1 p2).2 (r1 + r2) kn), (m1, eMR true mc1 a1), (mc1, eA cy f1), (m2, eMR false mc2 a2), (mc2, eA cy f2)]) [0, 1, 2, 3, 4, 5, 6, 7, 8, 9, 10, 11, 12, 13, 14] rfl
  have hD := hD.sub (ws' := [(h0, eE h1 h2 kn), (h1, eR hw1 hc1 hb1 a1 r1), (hw1, eW true), (hc1, eA cy f1), (hb1, eA cy g1), (h2, eR hw2 hc2 hb2 a2 r2), (hw2, eW false), (hc2, eA cy f2), (hb2, eA cy g2), (ho, eO (o_L_wideLike f1 nv p1 p2).2 sv), (m0, eM m1 m2 (o_X5_wideLike f1 p1 p2).2 (r1 + r2) kn), (m1, eMR true mc1 a1), (mc1, eA cy f1), (m2, eMR false mc2 a2), (mc2, eA cy f2)]) [0, 1, 2, 3, 4, 5, 6, 7, 8, 9, 10, 11, 12, 13, 14] (by decide +kernel) rfl
  refine lv_istore (lv' := [(6, .int (b2i ((o_X5_wideLike f1 p1 p2).1))), (5, .int ((o_L_wideLike f1 nv p1 p2).1)), (0, .ref b), (1, .ref h0), (2, .ref m0), (3, .ref ho), (4, .int (nI i))]) hx hb dL_law_967 hl (by decide +kernel) rfl (fun ls hl => ?_)
  refine lv_goto (tgt := 2240) hx hb dL_law_969 (by decide +kernel) ?_
  refine W.widen (k := cells + 760) (n := slots + 4500) (by omega) (by omega) ?_
  exact K a1 r1 f1 g1 a2 r2 f2 g2 kn ((o_L_wideLike f1 nv p1 p2).2) sv ((o_X5_wideLike f1 p1 p2).2) a1 f1 a2 f2 (r1 + r2) kn _ _ _ rfl rfl rfl rfl rfl rfl hka1 hka2 hP hD hS (lv_sub hl [2, 3, 4, 5, 6] rfl)
set_option maxHeartbeats 4000000 in
set_option maxRecDepth 100000 in
theorem st_17 (l : Launch) (p : Program) (e : Env) (s : State) (m : MethodId) (below : List Frame) (meth : Method) (c : Code) (b L N : Nat) (xs : Nat → Int32) (A : Nat → Prop) (dC : Nat → ClassId) (dI : Nat → Nat → Nat) (cy cB : ClassId) (h0 h1 hw1 hc1 hb1 h2 hw2 hc2 hb2 ho m0 m1 mc1 m2 mc2 : Nat) (C0 : lw_C l p e s m below meth c b L N xs A dC dI cy cB) (i : Nat) (hi : i + 4 ≤ L) (p1 p2 p3 : Int32) (hp1 : xs (i + 1) = p1) (hp2 : xs (i + 2) = p2) (hp3 : xs (i + 3) = p3) (cells slots : Nat) (hcs : cells + 760 ≤ 989448) (hss : slots + 4500 ≤ 6127760) (K : lw_K l p e s m below meth c b L N xs A dC dI cy cB h0 h1 hw1 hc1 hb1 h2 hw2 hc2 hb2 ho m0 m1 mc1 m2 mc2 i (cells + 760) (slots + 4500) 2240) (a1 : Int32) (r1 : Int32) (f1 : Nat → Int64) (g1 : Nat → Int64) (a2 : Int32) (r2 : Int32) (f2 : Nat → Int64) (g2 : Nat → Int64) (kn : Int32) (nv : Int64) (sv : Value) (th : Int32) (H : Heap) (locs : List Loc) (ls : Array Slot) (hka1 : okA true f1) (hka2 : okA false f2) (hP : va_P (dC, dI) xCl [(h0, eE h1 h2 kn), (h1, eR hw1 hc1 hb1 a1 r1), (hw1, eW true), (hc1, eA cy f1), (hb1, eA cy g1), (h2, eR hw2 hc2 hb2 a2 r2), (hw2, eW false), (hc2, eA cy f2), (hb2, eA cy g2), (ho, eO nv sv), (m0, eM m1 m2 th (r1 + r2) kn), (m1, eMR true mc1 a1), (mc1, eA cy f1), (m2, eMR false mc2 a2), (mc2, eA cy f2)] H) (hD : va_D A [(h0, eE h1 h2 kn), (h1, eR hw1 hc1 hb1 a1 r1), (hw1, eW true), (hc1, eA cy f1), (hb1, eA cy g1), (h2, eR hw2 hc2 hb2 a2 r2), (hw2, eW false), (hc2, eA cy f2), (hb2, eA cy g2), (ho, eO nv sv), (m0, eM m1 m2 th (r1 + r2) kn), (m1, eMR true mc1 a1), (mc1, eA cy f1), (m2, eMR false mc2 a2), (mc2, eA cy f2)]) (hS : va_S A s.heap H locs) (hl : lv_has ls 7 [(0, .ref b), (1, .ref h0), (2, .ref m0), (3, .ref ho), (4, .int (nI i))]) : W p l e room_1 s m #[Value.ref b] below meth c H locs cells slots (lw_Z below #[Value.ref b] s) (F0 m 972 ls []) := by
  obtain ⟨hfl, hx, hb, hr, hml, hown, hts, hX, hbl, hbA, hlocks, hK, hG, hnc, hA, hAN, hN, hL, hT, hNs⟩ := id C0
  have hok2 := me_okF hka2
  have hsp1 : ∀ k, k < 8 → o_X1_isSpoiled true (f1 k) = false := fun k hk => (hka1 k hk).2
  have hsp2 : ∀ k, k < 8 → o_X1_isSpoiled false (f2 k) = false := fun k hk => (hka2 k hk).2
  refine lv_aload_n hx hb dL_law_972 rfl (lv_at hl 1 rfl) ?_
  refine lv_aload_n hx hb dL_law_973 rfl (lv_at hl 0 rfl) ?_
  refine lv_iload hx hb dL_law_974 (lv_at hl 4 rfl) ?_
  refine lv_iconst (v := 1) hx hb dL_law_976 (by decide +kernel) ?_
  refine lv_iadd hx hb dL_law_977 ?_
  rw [nI_1 i]
  refine xa_sld hx hb hX hbl hbA hS (k := i + 1) (by omega) hL hp1 dL_law_978 ?_
  refine lv_aload_n hx hb dL_law_979 rfl (lv_at hl 0 rfl) ?_
  refine lv_iload hx hb dL_law_980 (lv_at hl 4 rfl) ?_
  refine lv_iconst (v := 2) hx hb dL_law_982 (by decide +kernel) ?_
  refine lv_iadd hx hb dL_law_983 ?_
  rw [nI_p2 i]
  refine xa_sld hx hb hX hbl hbA hS (k := i + 2) (by omega) hL hp2 dL_law_984 ?_
  refine lv_aload_n hx hb dL_law_985 rfl (lv_at hl 0 rfl) ?_
  refine lv_iload hx hb dL_law_986 (lv_at hl 4 rfl) ?_
  refine lv_iconst (v := 3) hx hb dL_law_988 (by decide +kernel) ?_
  refine lv_iadd hx hb dL_law_989 ?_
  rw [nI_p3 i]
  refine xa_sld hx hb hX hbl hbA hS (k := i + 3) (by omega) hL hp3 dL_law_990 ?_
  refine lv_if_eq (tgt := 998) hx hb dL_law_991 (by decide +kernel) (fun c_1 => ?_) (fun c_1 => ?_)
  · skip
    refine lv_iconst (v := 0) hx hb dL_law_998 (by decide +kernel) ?_
    refine lv_aload_n hx hb dL_law_999 rfl (lv_at hl 3 rfl) ?_
    have hPc := hP.sub (ws' := [(h0, eE h1 h2 kn), (h1, eR hw1 hc1 hb1 a1 r1), (hw1, eW true), (hc1, eA cy f1), (hb1, eA cy g1), (h2, eR hw2 hc2 hb2 a2 r2), (hw2, eW false), (hc2, eA cy f2), (hb2, eA cy g2), (ho, eO nv sv)]) [0, 1, 2, 3, 4, 5, 6, 7, 8, 9] rfl
    have hDc := hD.sub (ws' := [(h0, eE h1 h2 kn), (h1, eR hw1 hc1 hb1 a1 r1), (hw1, eW true), (hc1, eA cy f1), (hb1, eA cy g1), (h2, eR hw2 hc2 hb2 a2 r2), (hw2, eW false), (hc2, eA cy f2), (hb2, eA cy g2), (ho, eO nv sv)]) [0, 1, 2, 3, 4, 5, 6, 7, 8, 9] (by decide +kernel) rfl
    have hKc := hK.sub (tys' := [(cy, .long)]) [0] rfl
    have hFc := va_free (wc := [(h0, eE h1 h2 kn), (h1, eR hw1 hc1 hb1 a1 r1), (hw1, eW true), (hc1, eA cy f1), (hb1, eA cy g1), (h2, eR hw2 hc2 hb2 a2 r2), (hw2, eW false), (hc2, eA cy f2), (hb2, eA cy g2), (ho, eO nv sv)]) hD hS hA [0, 1, 2, 3, 4, 5, 6, 7, 8, 9] rfl
    refine va_calli (vx_runSW (As := [.ref h0, .int p1, .int p2, .int 0, .ref ho]) (rest := []) ⟨hx, hb, hml, hown, hts⟩ (k_L_wideBelow l hfl dC dI cy h0 h1 hw1 hc1 hb1 h2 hw2 hc2 hb2 a1 r1 f1 g1 a2 r2 f2 g2 kn ho nv sv H.size N p1 p2 false) (vx_cwSW 5 hts gL_law_L_wideBelow rfl rfl rfl (by decide +kernel) ⟨Nat.le_of_ble_eq_true rfl, Nat.le_of_ble_eq_true rfl⟩) (xL.preS hKc hPc hDc hAN (Nat.le_trans hN hS.1) (hG.kept hS hAN) hnc) rfl rfl hl.1 rfl (lv_room (Nat.le_of_ble_eq_true rfl)) dL_law_1000 ⟨(show _ ≤ 989448 by omega), (show _ ≤ 6127760 by omega)⟩) hS (fun q _ h => hFc q h) hFc (fun r_2 u t H locs ht hvm hw hB hz hk hS => ?_)
    replace hw : r_2 = (o_L_wideBelow f1 nv p1 p2 false).1 := hw
    subst r_2
    obtain ⟨hP1, hD1⟩ := hB
    rw [ht] at hP1
    obtain ⟨hP, hD⟩ := va_join (wr := [(m0, eM m1 m2 th (r1 + r2) kn), (m1, eMR true mc1 a1), (mc1, eA cy f1), (m2, eMR false mc2 a2), (mc2, eA cy f2)]) (w1 := [(h0, eE h1 h2 kn), (h1, eR hw1 hc1 hb1 a1 r1), (hw1, eW true), (hc1, eA cy f1), (hb1, eA cy g1), (h2, eR hw2 hc2 hb2 a2 r2), (hw2, eW false), (hc2, eA cy f2), (hb2, eA cy g2), (ho, eO (o_L_wideBelow f1 nv p1 p2 false).2 sv)]) hP hD [0, 1, 2, 3, 4, 5, 6, 7, 8, 9] [10, 11, 12, 13, 14] rfl rfl (by decide +kernel) (by decide +kernel) hk hFc hP1 hD1
    have hP := hP.sub (ws' := [(h0, eE h1 h2 kn), (h1, eR hw1 hc1 hb1 a1 r1), (hw1, eW true), (hc1, eA cy f1), (hb1, eA cy g1), (h2, eR hw2 hc2 hb2 a2 r2), (hw2, eW false), (hc2, eA cy f2), (hb2, eA cy g2), (ho, eO (o_L_wideBelow f1 nv p1 p2 false).2 sv), (m0, eM m1 m2 th (r1 + r2) kn), (m1, eMR true mc1 a1), (mc1, eA cy f1), (m2, eMR false mc2 a2), (mc2, eA cy f2)]) [5, 6, 7, 8, 9, 10, 11, 12, 13, 14, 0, 1, 2, 3, 4] rfl
    have hD := hD.sub (ws' := [(h0, eE h1 h2 kn), (h1, eR hw1 hc1 hb1 a1 r1), (hw1, eW true), (hc1, eA cy f1), (hb1, eA cy g1), (h2, eR hw2 hc2 hb2 a2 r2), (hw2, eW false), (hc2, eA cy f2), (hb2, eA cy g2), (ho, eO (o_L_wideBelow f1 nv p1 p2 false).2 sv), (m0, eM m1 m2 th (r1 + r2) kn), (m1, eMR true mc1 a1), (mc1, eA cy f1), (m2, eMR false mc2 a2), (mc2, eA cy f2)]) [5, 6, 7, 8, 9, 10, 11, 12, 13, 14, 0, 1, 2, 3, 4] (by decide +kernel) rfl
    refine lv_istore (lv' := [(5, .int ((o_L_wideBelow f1 nv p1 p2 false).1)), (0, .ref b), (1, .ref h0), (2, .ref m0), (3, .ref ho), (4, .int (nI i))]) hx hb dL_law_1003 hl (by decide +kernel) rfl (fun ls hl => ?_)
    refine lv_aload_n hx hb dL_law_1005 rfl (lv_at hl 3 rfl) ?_
    refine lv_aload_n hx hb dL_law_1006 rfl (lv_at hl 1 rfl) ?_
    refine lv_iload hx hb dL_law_1007 (lv_at hl 5 rfl) ?_
    refine lv_iconst (v := 1) hx hb dL_law_1009 (by decide +kernel) ?_
    refine lv_iadd hx hb dL_law_1010 ?_
    rw [nI_1 i]
    refine xa_sld hx hb hX hbl hbA hS (k := i + 1) (by omega) hL hp1 dL_law_1011 ?_
    refine lv_aload_n hx hb dL_law_1012 rfl (lv_at hl 1 rfl) ?_
    refine lv_iload hx hb dL_law_1013 (lv_at hl 5 rfl) ?_
    refine lv_iconst (v := 2) hx hb dL_law_1015 (by decide +kernel) ?_
    refine lv_iadd hx hb dL_law_1016 ?_
    rw [nI_p2 i]
    refine xa_sld hx hb hX hbl hbA hS (k := i + 2) (by omega) hL hp2 dL_law_1017 ?_
    refine lv_aload_n hx hb dL_law_1018 rfl (lv_at hl 1 rfl) ?_
    refine lv_iload hx hb dL_law_1019 (lv_at hl 5 rfl) ?_
    refine lv_iconst (v := 3) hx hb dL_law_1021 (by decide +kernel) ?_
    refine lv_iadd hx hb dL_law_1022 ?_
    rw [nI_p3 i]
    refine xa_sld hx hb hX hbl hbA hS (k := i + 3) (by omega) hL hp3 dL_law_1023 ?_
    refine lv_if_eq (tgt := 1031) hx hb dL_law_1024 (by decide +kernel) (fun c9 => ?_) (fun c9 => absurd c_1 c9)
    refine lv_iconst (v := 0) hx hb dL_law_1031 (by decide +kernel) ?_
    have hPc := hP.sub (ws' := [(m0, eM m1 m2 th (r1 + r2) kn), (m1, eMR true mc1 a1), (mc1, eA cy f1), (m2, eMR false mc2 a2), (mc2, eA cy f2)]) [10, 11, 12, 13, 14] rfl
    have hDc := hD.sub (ws' := [(m0, eM m1 m2 th (r1 + r2) kn), (m1, eMR true mc1 a1), (mc1, eA cy f1), (m2, eMR false mc2 a2), (mc2, eA cy f2)]) [10, 11, 12, 13, 14] (by decide +kernel) rfl
    have hKc := hK.sub (tys' := [(cy, .long)]) [0] rfl
    have hFc := va_free (wc := [(m0, eM m1 m2 th (r1 + r2) kn), (m1, eMR true mc1 a1), (mc1, eA cy f1), (m2, eMR false mc2 a2), (mc2, eA cy f2)]) hD hS hA [10, 11, 12, 13, 14] rfl
    refine va_calli (va_runV (As := [.int p1, .int p2, .int 0]) (rest := []) ⟨hx, hb, hml, hown, hts⟩ (k_X5_wideBelow l dC dI cy m0 m1 mc1 m2 mc2 a1 f1 a2 f2 th (r1 + r2) kn H.size N p1 p2 false) (cwV 3 hts gL_law_X5_wideBelow rfl rfl rfl (by decide +kernel) ⟨Nat.le_of_ble_eq_true rfl, Nat.le_of_ble_eq_true rfl⟩) (xM.preV hKc hPc hDc hAN (Nat.le_trans hN hS.1) (hG.kept hS hAN) (ci := 7) (q0 := 0) rfl rfl) rfl rfl hl.1 rfl (lv_room (Nat.le_of_ble_eq_true rfl)) dL_law_1032 ⟨(show _ ≤ 989448 by omega), (show _ ≤ 6127760 by omega)⟩) hS (fun q _ h => hFc q h) hFc (fun r_3 u t H locs ht hvm hw hB hz hk hS => ?_)
    replace hw : r_3 = b2i ((o_X5_wideBelow f1 p1 p2 false).1) := hw
    subst r_3
    obtain ⟨hP1, hD1⟩ := hB
    rw [ht] at hP1
    obtain ⟨hP, hD⟩ := va_join (wr := [(h0, eE h1 h2 kn), (h1, eR hw1 hc1 hb1 a1 r1), (hw1, eW true), (hc1, eA cy f1), (hb1, eA cy g1), (h2, eR hw2 hc2 hb2 a2 r2), (hw2, eW false), (hc2, eA cy f2), (hb2, eA cy g2), (ho, eO (o_L_wideBelow f1 nv p1 p2 false).2 sv)]) (w1 := [(m0, eM m1 m2 (o_X5_wideBelow f1 p1 p2 false).2 (r1 + r2) kn), (m1, eMR true mc1 a1), (mc1, eA cy f1), (m2, eMR false mc2 a2), (mc2, eA cy f2)]) hP hD [10, 11, 12, 13, 14] [0, 1, 2, 3, 4, 5, 6, 7, 8, 9] rfl rfl (by decide +kernel) (by decide +kernel) hk hFc hP1 hD1
    have hP := hP.sub (ws' := [(h0, eE h1 h2 kn), (h1, eR hw1 hc1 hb1 a1 r1), (hw1, eW true), (hc1, eA cy f1), (hb1, eA cy g1), (h2, eR hw2 hc2 hb2 a2 r2), (hw2, eW false), (hc2, eA cy f2), (hb2, eA cy g2), (ho, eO (o_L_wideBelow f1 nv p1 p2 false).2 sv), (m0, eM m1 m2 (o_X5_wideBelow f1 p1 p2 false).2 (r1 + r2) kn), (m1, eMR true mc1 a1), (mc1, eA cy f1), (m2, eMR false mc2 a2), (mc2, eA cy f2)]) [0, 1, 2, 3, 4, 5, 6, 7, 8, 9, 10, 11, 12, 13, 14] rfl
    have hD := hD.sub (ws' := [(h0, eE h1 h2 kn), (h1, eR hw1 hc1 hb1 a1 r1), (hw1, eW true), (hc1, eA cy f1), (hb1, eA cy g1), (h2, eR hw2 hc2 hb2 a2 r2), (hw2, eW false), (hc2, eA cy f2), (hb2, eA cy g2), (ho, eO (o_L_wideBelow f1 nv p1 p2 false).2 sv), (m0, eM m1 m2 (o_X5_wideBelow f1 p1 p2 false).2 (r1 + r2) kn), (m1, eMR true mc1 a1), (mc1, eA cy f1), (m2, eMR false mc2 a2), (mc2, eA cy f2)]) [0, 1, 2, 3, 4, 5, 6, 7, 8, 9, 10, 11, 12, 13, 14] (by decide +kernel) rfl
    refine lv_istore (lv' := [(6, .int (b2i ((o_X5_wideBelow f1 p1 p2 false).1))), (5, .int ((o_L_wideBelow f1 nv p1 p2 false).1)), (0, .ref b), (1, .ref h0), (2, .ref m0), (3, .ref ho), (4, .int (nI i))]) hx hb dL_law_1035 hl (by decide +kernel) rfl (fun ls hl => ?_)
    refine lv_goto (tgt := 2240) hx hb dL_law_1037 (by decide +kernel) ?_
    refine W.widen (k := cells + 760) (n := slots + 4500) (by omega) (by omega) ?_
    exact K a1 r1 f1 g1 a2 r2 f2 g2 kn ((o_L_wideBelow f1 nv p1 p2 false).2) sv ((o_X5_wideBelow f1 p1 p2 false).2) a1 f1 a2 f2 (r1 + r2) kn _ _ _ rfl rfl rfl rfl rfl rfl hka1 hka2 hP hD hS (lv_sub hl [2, 3, 4, 5, 6] rfl)
  · skip
    refine lv_iconst (v := 1) hx hb dL_law_994 (by decide +kernel) ?_
    refine lv_goto (tgt := 999) hx hb dL_law_995 (by decide +kernel) ?_
    refine lv_aload_n hx hb dL_law_999 rfl (lv_at hl 3 rfl) ?_
    have hPc := hP.sub (ws' := [(h0, eE h1 h2 kn), (h1, eR hw1 hc1 hb1 a1 r1), (hw1, eW true), (hc1, eA cy f1), (hb1, eA cy g1), (h2, eR hw2 hc2 hb2 a2 r2), (hw2, eW false), (hc2, eA cy f2), (hb2, eA cy g2), (ho, eO nv sv)]) [0, 1, 2, 3, 4, 5, 6, 7, 8, 9] rfl
    have hDc := hD.sub (ws' := [(h0, eE h1 h2 kn), (h1, eR hw1 hc1 hb1 a1 r1), (hw1, eW true), (hc1, eA cy f1), (hb1, eA cy g1), (h2, eR hw2 hc2 hb2 a2 r2), (hw2, eW false), (hc2, eA cy f2), (hb2, eA cy g2), (ho, eO nv sv)]) [0, 1, 2, 3, 4, 5, 6, 7, 8, 9] (by decide +kernel) rfl
    have hKc := hK.sub (tys' := [(cy, .long)]) [0] rfl
    have hFc := va_free (wc := [(h0, eE h1 h2 kn), (h1, eR hw1 hc1 hb1 a1 r1), (hw1, eW true), (hc1, eA cy f1), (hb1, eA cy g1), (h2, eR hw2 hc2 hb2 a2 r2), (hw2, eW false), (hc2, eA cy f2), (hb2, eA cy g2), (ho, eO nv sv)]) hD hS hA [0, 1, 2, 3, 4, 5, 6, 7, 8, 9] rfl
    refine va_calli (vx_runSW (As := [.ref h0, .int p1, .int p2, .int 1, .ref ho]) (rest := []) ⟨hx, hb, hml, hown, hts⟩ (k_L_wideBelow l hfl dC dI cy h0 h1 hw1 hc1 hb1 h2 hw2 hc2 hb2 a1 r1 f1 g1 a2 r2 f2 g2 kn ho nv sv H.size N p1 p2 true) (vx_cwSW 5 hts gL_law_L_wideBelow rfl rfl rfl (by decide +kernel) ⟨Nat.le_of_ble_eq_true rfl, Nat.le_of_ble_eq_true rfl⟩) (xL.preS hKc hPc hDc hAN (Nat.le_trans hN hS.1) (hG.kept hS hAN) hnc) rfl rfl hl.1 rfl (lv_room (Nat.le_of_ble_eq_true rfl)) dL_law_1000 ⟨(show _ ≤ 989448 by omega), (show _ ≤ 6127760 by omega)⟩) hS (fun q _ h => hFc q h) hFc (fun r_4 u t H locs ht hvm hw hB hz hk hS => ?_)
    replace hw : r_4 = (o_L_wideBelow f1 nv p1 p2 true).1 := hw
    subst r_4
    obtain ⟨hP1, hD1⟩ := hB
    rw [ht] at hP1
    obtain ⟨hP, hD⟩ := va_join (wr := [(m0, eM m1 m2 th (r1 + r2) kn), (m1, eMR true mc1 a1), (mc1, eA cy f1), (m2, eMR false mc2 a2), (mc2, eA cy f2)]) (w1 := [(h0, eE h1 h2 kn), (h1, eR hw1 hc1 hb1 a1 r1), (hw1, eW true), (hc1, eA cy f1), (hb1, eA cy g1), (h2, eR hw2 hc2 hb2 a2 r2), (hw2, eW false), (hc2, eA cy f2), (hb2, eA cy g2), (ho, eO (o_L_wideBelow f1 nv p1 p2 true).2 sv)]) hP hD [0, 1, 2, 3, 4, 5, 6, 7, 8, 9] [10, 11, 12, 13, 14] rfl rfl (by decide +kernel) (by decide +kernel) hk hFc hP1 hD1
    have hP := hP.sub (ws' := [(h0, eE h1 h2 kn), (h1, eR hw1 hc1 hb1 a1 r1), (hw1, eW true), (hc1, eA cy f1), (hb1, eA cy g1), (h2, eR hw2 hc2 hb2 a2 r2), (hw2, eW false), (hc2, eA cy f2), (hb2, eA cy g2), (ho, eO (o_L_wideBelow f1 nv p1 p2 true).2 sv), (m0, eM m1 m2 th (r1 + r2) kn), (m1, eMR true mc1 a1), (mc1, eA cy f1), (m2, eMR false mc2 a2), (mc2, eA cy f2)]) [5, 6, 7, 8, 9, 10, 11, 12, 13, 14, 0, 1, 2, 3, 4] rfl
    have hD := hD.sub (ws' := [(h0, eE h1 h2 kn), (h1, eR hw1 hc1 hb1 a1 r1), (hw1, eW true), (hc1, eA cy f1), (hb1, eA cy g1), (h2, eR hw2 hc2 hb2 a2 r2), (hw2, eW false), (hc2, eA cy f2), (hb2, eA cy g2), (ho, eO (o_L_wideBelow f1 nv p1 p2 true).2 sv), (m0, eM m1 m2 th (r1 + r2) kn), (m1, eMR true mc1 a1), (mc1, eA cy f1), (m2, eMR false mc2 a2), (mc2, eA cy f2)]) [5, 6, 7, 8, 9, 10, 11, 12, 13, 14, 0, 1, 2, 3, 4] (by decide +kernel) rfl
    refine lv_istore (lv' := [(5, .int ((o_L_wideBelow f1 nv p1 p2 true).1)), (0, .ref b), (1, .ref h0), (2, .ref m0), (3, .ref ho), (4, .int (nI i))]) hx hb dL_law_1003 hl (by decide +kernel) rfl (fun ls hl => ?_)
    refine lv_aload_n hx hb dL_law_1005 rfl (lv_at hl 3 rfl) ?_
    refine lv_aload_n hx hb dL_law_1006 rfl (lv_at hl 1 rfl) ?_
    refine lv_iload hx hb dL_law_1007 (lv_at hl 5 rfl) ?_
    refine lv_iconst (v := 1) hx hb dL_law_1009 (by decide +kernel) ?_
    refine lv_iadd hx hb dL_law_1010 ?_
    rw [nI_1 i]
    refine xa_sld hx hb hX hbl hbA hS (k := i + 1) (by omega) hL hp1 dL_law_1011 ?_
    refine lv_aload_n hx hb dL_law_1012 rfl (lv_at hl 1 rfl) ?_
    refine lv_iload hx hb dL_law_1013 (lv_at hl 5 rfl) ?_
    refine lv_iconst (v := 2) hx hb dL_law_1015 (by decide +kernel) ?_
    refine lv_iadd hx hb dL_law_1016 ?_
    rw [nI_p2 i]
    refine xa_sld hx hb hX hbl hbA hS (k := i + 2) (by omega) hL hp2 dL_law_1017 ?_
    refine lv_aload_n hx hb dL_law_1018 rfl (lv_at hl 1 rfl) ?_
    refine lv_iload hx hb dL_law_1019 (lv_at hl 5 rfl) ?_
    refine lv_iconst (v := 3) hx hb dL_law_1021 (by decide +kernel) ?_
    refine lv_iadd hx hb dL_law_1022 ?_
    rw [nI_p3 i]
    refine xa_sld hx hb hX hbl hbA hS (k := i + 3) (by omega) hL hp3 dL_law_1023 ?_
    refine lv_if_eq (tgt := 1031) hx hb dL_law_1024 (by decide +kernel) (fun c9 => absurd c9 c_1) (fun c9 => ?_)
    refine lv_iconst (v := 1) hx hb dL_law_1027 (by decide +kernel) ?_
    refine lv_goto (tgt := 1032) hx hb dL_law_1028 (by decide +kernel) ?_
    have hPc := hP.sub (ws' := [(m0, eM m1 m2 th (r1 + r2) kn), (m1, eMR true mc1 a1), (mc1, eA cy f1), (m2, eMR false mc2 a2), (mc2, eA cy f2)]) [10, 11, 12, 13, 14] rfl
    have hDc := hD.sub (ws' := [(m0, eM m1 m2 th (r1 + r2) kn), (m1, eMR true mc1 a1), (mc1, eA cy f1), (m2, eMR false mc2 a2), (mc2, eA cy f2)]) [10, 11, 12, 13, 14] (by decide +kernel) rfl
    have hKc := hK.sub (tys' := [(cy, .long)]) [0] rfl
    have hFc := va_free (wc := [(m0, eM m1 m2 th (r1 + r2) kn), (m1, eMR true mc1 a1), (mc1, eA cy f1), (m2, eMR false mc2 a2), (mc2, eA cy f2)]) hD hS hA [10, 11, 12, 13, 14] rfl
    refine va_calli (va_runV (As := [.int p1, .int p2, .int 1]) (rest := []) ⟨hx, hb, hml, hown, hts⟩ (k_X5_wideBelow l dC dI cy m0 m1 mc1 m2 mc2 a1 f1 a2 f2 th (r1 + r2) kn H.size N p1 p2 true) (cwV 3 hts gL_law_X5_wideBelow rfl rfl rfl (by decide +kernel) ⟨Nat.le_of_ble_eq_true rfl, Nat.le_of_ble_eq_true rfl⟩) (xM.preV hKc hPc hDc hAN (Nat.le_trans hN hS.1) (hG.kept hS hAN) (ci := 7) (q0 := 0) rfl rfl) rfl rfl hl.1 rfl (lv_room (Nat.le_of_ble_eq_true rfl)) dL_law_1032 ⟨(show _ ≤ 989448 by omega), (show _ ≤ 6127760 by omega)⟩) hS (fun q _ h => hFc q h) hFc (fun r_5 u t H locs ht hvm hw hB hz hk hS => ?_)
    replace hw : r_5 = b2i ((o_X5_wideBelow f1 p1 p2 true).1) := hw
    subst r_5
    obtain ⟨hP1, hD1⟩ := hB
    rw [ht] at hP1
    obtain ⟨hP, hD⟩ := va_join (wr := [(h0, eE h1 h2 kn), (h1, eR hw1 hc1 hb1 a1 r1), (hw1, eW true), (hc1, eA cy f1), (hb1, eA cy g1), (h2, eR hw2 hc2 hb2 a2 r2), (hw2, eW false), (hc2, eA cy f2), (hb2, eA cy g2), (ho, eO (o_L_wideBelow f1 nv p1 p2 true).2 sv)]) (w1 := [(m0, eM m1 m2 (o_X5_wideBelow f1 p1 p2 true).2 (r1 + r2) kn), (m1, eMR true mc1 a1), (mc1, eA cy f1), (m2, eMR false mc2 a2), (mc2, eA cy f2)]) hP hD [10, 11, 12, 13, 14] [0, 1, 2, 3, 4, 5, 6, 7, 8, 9] rfl rfl (by decide +kernel) (by decide +kernel) hk hFc hP1 hD1
    have hP := hP.sub (ws' := [(h0, eE h1 h2 kn), (h1, eR hw1 hc1 hb1 a1 r1), (hw1, eW true), (hc1, eA cy f1), (hb1, eA cy g1), (h2, eR hw2 hc2 hb2 a2 r2), (hw2, eW false), (hc2, eA cy f2), (hb2, eA cy g2), (ho, eO (o_L_wideBelow f1 nv p1 p2 true).2 sv), (m0, eM m1 m2 (o_X5_wideBelow f1 p1 p2 true).2 (r1 + r2) kn), (m1, eMR true mc1 a1), (mc1, eA cy f1), (m2, eMR false mc2 a2), (mc2, eA cy f2)]) [0, 1, 2, 3, 4, 5, 6, 7, 8, 9, 10, 11, 12, 13, 14] rfl
    have hD := hD.sub (ws' := [(h0, eE h1 h2 kn), (h1, eR hw1 hc1 hb1 a1 r1), (hw1, eW true), (hc1, eA cy f1), (hb1, eA cy g1), (h2, eR hw2 hc2 hb2 a2 r2), (hw2, eW false), (hc2, eA cy f2), (hb2, eA cy g2), (ho, eO (o_L_wideBelow f1 nv p1 p2 true).2 sv), (m0, eM m1 m2 (o_X5_wideBelow f1 p1 p2 true).2 (r1 + r2) kn), (m1, eMR true mc1 a1), (mc1, eA cy f1), (m2, eMR false mc2 a2), (mc2, eA cy f2)]) [0, 1, 2, 3, 4, 5, 6, 7, 8, 9, 10, 11, 12, 13, 14] (by decide +kernel) rfl
    refine lv_istore (lv' := [(6, .int (b2i ((o_X5_wideBelow f1 p1 p2 true).1))), (5, .int ((o_L_wideBelow f1 nv p1 p2 true).1)), (0, .ref b), (1, .ref h0), (2, .ref m0), (3, .ref ho), (4, .int (nI i))]) hx hb dL_law_1035 hl (by decide +kernel) rfl (fun ls hl => ?_)
    refine lv_goto (tgt := 2240) hx hb dL_law_1037 (by decide +kernel) ?_
    refine W.widen (k := cells + 760) (n := slots + 4500) (by omega) (by omega) ?_
    exact K a1 r1 f1 g1 a2 r2 f2 g2 kn ((o_L_wideBelow f1 nv p1 p2 true).2) sv ((o_X5_wideBelow f1 p1 p2 true).2) a1 f1 a2 f2 (r1 + r2) kn _ _ _ rfl rfl rfl rfl rfl rfl hka1 hka2 hP hD hS (lv_sub hl [2, 3, 4, 5, 6] rfl)
set_option maxHeartbeats 4000000 in
set_option maxRecDepth 100000 in
theorem st_18 (l : Launch) (p : Program) (e : Env) (s : State) (m : MethodId) (below : List Frame) (meth : Method) (c : Code) (b L N : Nat) (xs : Nat → Int32) (A : Nat → Prop) (dC : Nat → ClassId) (dI : Nat → Nat → Nat) (cy cB : ClassId) (h0 h1 hw1 hc1 hb1 h2 hw2 hc2 hb2 ho m0 m1 mc1 m2 mc2 : Nat) (C0 : lw_C l p e s m below meth c b L N xs A dC dI cy cB) (i : Nat) (hi : i + 4 ≤ L) (p1 p2 p3 : Int32) (hp1 : xs (i + 1) = p1) (hp2 : xs (i + 2) = p2) (hp3 : xs (i + 3) = p3) (cells slots : Nat) (hcs : cells + 760 ≤ 989448) (hss : slots + 4500 ≤ 6127760) (K : lw_K l p e s m below meth c b L N xs A dC dI cy cB h0 h1 hw1 hc1 hb1 h2 hw2 hc2 hb2 ho m0 m1 mc1 m2 mc2 i (cells + 760) (slots + 4500) 2240) (a1 : Int32) (r1 : Int32) (f1 : Nat → Int64) (g1 : Nat → Int64) (a2 : Int32) (r2 : Int32) (f2 : Nat → Int64) (g2 : Nat → Int64) (kn : Int32) (nv : Int64) (sv : Value) (th : Int32) (H : Heap) (locs : List Loc) (ls : Array Slot) (hka1 : okA true f1) (hka2 : okA false f2) (hP : va_P (dC, dI) xCl [(h0, eE h1 h2 kn), (h1, eR hw1 hc1 hb1 a1 r1), (hw1, eW true), (hc1, eA cy f1), (hb1, eA cy g1), (h2, eR hw2 hc2 hb2 a2 r2), (hw2, eW false), (hc2, eA cy f2), (hb2, eA cy g2), (ho, eO nv sv), (m0, eM m1 m2 th (r1 + r2) kn), (m1, eMR true mc1 a1), (mc1, eA cy f1), (m2, eMR false mc2 a2), (mc2, eA cy f2)] H) (hD : va_D A [(h0, eE h1 h2 kn), (h1, eR hw1 hc1 hb1 a1 r1), (hw1, eW true), (hc1, eA cy f1), (hb1, eA cy g1), (h2, eR hw2 hc2 hb2 a2 r2), (hw2, eW false), (hc2, eA cy f2), (hb2, eA cy g2), (ho, eO nv sv), (m0, eM m1 m2 th (r1 + r2) kn), (m1, eMR true mc1 a1), (mc1, eA cy f1), (m2, eMR false mc2 a2), (mc2, eA cy f2)]) (hS : va_S A s.heap H locs) (hl : lv_has ls 7 [(0, .ref b), (1, .ref h0), (2, .ref m0), (3, .ref ho), (4, .int (nI i))]) : W p l e room_1 s m #[Value.ref b] below meth c H locs cells slots (lw_Z below #[Value.ref b] s) (F0 m 1040 ls []) := by
  obtain ⟨hfl, hx, hb, hr, hml, hown, hts, hX, hbl, hbA, hlocks, hK, hG, hnc, hA, hAN, hN, hL, hT, hNs⟩ := id C0
  have hok2 := me_okF hka2
  have hsp1 : ∀ k, k < 8 → o_X1_isSpoiled true (f1 k) = false := fun k hk => (hka1 k hk).2
  have hsp2 : ∀ k, k < 8 → o_X1_isSpoiled false (f2 k) = false := fun k hk => (hka2 k hk).2
  refine lv_aload_n hx hb dL_law_1040 rfl (lv_at hl 1 rfl) ?_
  refine lv_aload_n hx hb dL_law_1041 rfl (lv_at hl 0 rfl) ?_
  refine lv_iload hx hb dL_law_1042 (lv_at hl 4 rfl) ?_
  refine lv_iconst (v := 1) hx hb dL_law_1044 (by decide +kernel) ?_
  refine lv_iadd hx hb dL_law_1045 ?_
  rw [nI_1 i]
  refine xa_sld hx hb hX hbl hbA hS (k := i + 1) (by omega) hL hp1 dL_law_1046 ?_
  refine lv_aload_n hx hb dL_law_1047 rfl (lv_at hl 0 rfl) ?_
  refine lv_iload hx hb dL_law_1048 (lv_at hl 4 rfl) ?_
  refine lv_iconst (v := 2) hx hb dL_law_1050 (by decide +kernel) ?_
  refine lv_iadd hx hb dL_law_1051 ?_
  rw [nI_p2 i]
  refine xa_sld hx hb hX hbl hbA hS (k := i + 2) (by omega) hL hp2 dL_law_1052 ?_
  refine lv_aload_n hx hb dL_law_1053 rfl (lv_at hl 3 rfl) ?_
  have hPc := hP.sub (ws' := [(h0, eE h1 h2 kn), (h1, eR hw1 hc1 hb1 a1 r1), (hw1, eW true), (hc1, eA cy f1), (hb1, eA cy g1), (h2, eR hw2 hc2 hb2 a2 r2), (hw2, eW false), (hc2, eA cy f2), (hb2, eA cy g2), (ho, eO nv sv)]) [0, 1, 2, 3, 4, 5, 6, 7, 8, 9] rfl
  have hDc := hD.sub (ws' := [(h0, eE h1 h2 kn), (h1, eR hw1 hc1 hb1 a1 r1), (hw1, eW true), (hc1, eA cy f1), (hb1, eA cy g1), (h2, eR hw2 hc2 hb2 a2 r2), (hw2, eW false), (hc2, eA cy f2), (hb2, eA cy g2), (ho, eO nv sv)]) [0, 1, 2, 3, 4, 5, 6, 7, 8, 9] (by decide +kernel) rfl
  have hKc := hK.sub (tys' := [(cy, .long)]) [0] rfl
  have hFc := va_free (wc := [(h0, eE h1 h2 kn), (h1, eR hw1 hc1 hb1 a1 r1), (hw1, eW true), (hc1, eA cy f1), (hb1, eA cy g1), (h2, eR hw2 hc2 hb2 a2 r2), (hw2, eW false), (hc2, eA cy f2), (hb2, eA cy g2), (ho, eO nv sv)]) hD hS hA [0, 1, 2, 3, 4, 5, 6, 7, 8, 9] rfl
  refine va_calli (vx_runSW (As := [.ref h0, .int p1, .int p2, .ref ho]) (rest := []) ⟨hx, hb, hml, hown, hts⟩ (k_L_wideHash l hfl dC dI cy h0 h1 hw1 hc1 hb1 h2 hw2 hc2 hb2 a1 r1 f1 g1 a2 r2 f2 g2 kn ho nv sv H.size N p1 p2) (vx_cwSW 4 hts gL_law_L_wideHash rfl rfl rfl (by decide +kernel) ⟨Nat.le_of_ble_eq_true rfl, Nat.le_of_ble_eq_true rfl⟩) (xL.preS hKc hPc hDc hAN (Nat.le_trans hN hS.1) (hG.kept hS hAN) hnc) rfl rfl hl.1 rfl (lv_room (Nat.le_of_ble_eq_true rfl)) dL_law_1054 ⟨(show _ ≤ 989448 by omega), (show _ ≤ 6127760 by omega)⟩) hS (fun q _ h => hFc q h) hFc (fun r_1 u t H locs ht hvm hw hB hz hk hS => ?_)
  replace hw : r_1 = (o_L_wideHash f1 nv p1 p2).1 := hw
  subst r_1
  obtain ⟨hP1, hD1⟩ := hB
  rw [ht] at hP1
  obtain ⟨hP, hD⟩ := va_join (wr := [(m0, eM m1 m2 th (r1 + r2) kn), (m1, eMR true mc1 a1), (mc1, eA cy f1), (m2, eMR false mc2 a2), (mc2, eA cy f2)]) (w1 := [(h0, eE h1 h2 kn), (h1, eR hw1 hc1 hb1 a1 r1), (hw1, eW true), (hc1, eA cy f1), (hb1, eA cy g1), (h2, eR hw2 hc2 hb2 a2 r2), (hw2, eW false), (hc2, eA cy f2), (hb2, eA cy g2), (ho, eO (o_L_wideHash f1 nv p1 p2).2 sv)]) hP hD [0, 1, 2, 3, 4, 5, 6, 7, 8, 9] [10, 11, 12, 13, 14] rfl rfl (by decide +kernel) (by decide +kernel) hk hFc hP1 hD1
  have hP := hP.sub (ws' := [(h0, eE h1 h2 kn), (h1, eR hw1 hc1 hb1 a1 r1), (hw1, eW true), (hc1, eA cy f1), (hb1, eA cy g1), (h2, eR hw2 hc2 hb2 a2 r2), (hw2, eW false), (hc2, eA cy f2), (hb2, eA cy g2), (ho, eO (o_L_wideHash f1 nv p1 p2).2 sv), (m0, eM m1 m2 th (r1 + r2) kn), (m1, eMR true mc1 a1), (mc1, eA cy f1), (m2, eMR false mc2 a2), (mc2, eA cy f2)]) [5, 6, 7, 8, 9, 10, 11, 12, 13, 14, 0, 1, 2, 3, 4] rfl
  have hD := hD.sub (ws' := [(h0, eE h1 h2 kn), (h1, eR hw1 hc1 hb1 a1 r1), (hw1, eW true), (hc1, eA cy f1), (hb1, eA cy g1), (h2, eR hw2 hc2 hb2 a2 r2), (hw2, eW false), (hc2, eA cy f2), (hb2, eA cy g2), (ho, eO (o_L_wideHash f1 nv p1 p2).2 sv), (m0, eM m1 m2 th (r1 + r2) kn), (m1, eMR true mc1 a1), (mc1, eA cy f1), (m2, eMR false mc2 a2), (mc2, eA cy f2)]) [5, 6, 7, 8, 9, 10, 11, 12, 13, 14, 0, 1, 2, 3, 4] (by decide +kernel) rfl
  refine lv_istore (lv' := [(5, .int ((o_L_wideHash f1 nv p1 p2).1)), (0, .ref b), (1, .ref h0), (2, .ref m0), (3, .ref ho), (4, .int (nI i))]) hx hb dL_law_1057 hl (by decide +kernel) rfl (fun ls hl => ?_)
  refine lv_aload_n hx hb dL_law_1059 rfl (lv_at hl 3 rfl) ?_
  refine lv_aload_n hx hb dL_law_1060 rfl (lv_at hl 1 rfl) ?_
  refine lv_iload hx hb dL_law_1061 (lv_at hl 5 rfl) ?_
  refine lv_iconst (v := 1) hx hb dL_law_1063 (by decide +kernel) ?_
  refine lv_iadd hx hb dL_law_1064 ?_
  rw [nI_1 i]
  refine xa_sld hx hb hX hbl hbA hS (k := i + 1) (by omega) hL hp1 dL_law_1065 ?_
  refine lv_aload_n hx hb dL_law_1066 rfl (lv_at hl 1 rfl) ?_
  refine lv_iload hx hb dL_law_1067 (lv_at hl 5 rfl) ?_
  refine lv_iconst (v := 2) hx hb dL_law_1069 (by decide +kernel) ?_
  refine lv_iadd hx hb dL_law_1070 ?_
  rw [nI_p2 i]
  refine xa_sld hx hb hX hbl hbA hS (k := i + 2) (by omega) hL hp2 dL_law_1071 ?_
  have hPc := hP.sub (ws' := [(m0, eM m1 m2 th (r1 + r2) kn), (m1, eMR true mc1 a1), (mc1, eA cy f1), (m2, eMR false mc2 a2), (mc2, eA cy f2)]) [10, 11, 12, 13, 14] rfl
  have hDc := hD.sub (ws' := [(m0, eM m1 m2 th (r1 + r2) kn), (m1, eMR true mc1 a1), (mc1, eA cy f1), (m2, eMR false mc2 a2), (mc2, eA cy f2)]) [10, 11, 12, 13, 14] (by decide +kernel) rfl
  have hKc := hK.sub (tys' := [(cy, .long)]) [0] rfl
  have hFc := va_free (wc := [(m0, eM m1 m2 th (r1 + r2) kn), (m1, eMR true mc1 a1), (mc1, eA cy f1), (m2, eMR false mc2 a2), (mc2, eA cy f2)]) hD hS hA [10, 11, 12, 13, 14] rfl
  refine va_calli (va_runV (As := [.int p1, .int p2]) (rest := []) ⟨hx, hb, hml, hown, hts⟩ (k_X5_wideHash l dC dI cy m0 m1 mc1 m2 mc2 a1 f1 a2 f2 th (r1 + r2) kn H.size N p1 p2) (cwV 2 hts gL_law_X5_wideHash rfl rfl rfl (by decide +kernel) ⟨Nat.le_of_ble_eq_true rfl, Nat.le_of_ble_eq_true rfl⟩) (xM.preV hKc hPc hDc hAN (Nat.le_trans hN hS.1) (hG.kept hS hAN) (ci := 7) (q0 := 0) rfl rfl) rfl rfl hl.1 rfl (lv_room (Nat.le_of_ble_eq_true rfl)) dL_law_1072 ⟨(show _ ≤ 989448 by omega), (show _ ≤ 6127760 by omega)⟩) hS (fun q _ h => hFc q h) hFc (fun r_2 u t H locs ht hvm hw hB hz hk hS => ?_)
  replace hw : r_2 = (o_X5_wideHash f1 p1 p2).1 := hw
  subst r_2
  obtain ⟨hP1, hD1⟩ := hB
  rw [ht] at hP1
  obtain ⟨hP, hD⟩ := va_join (wr := [(h0, eE h1 h2 kn), (h1, eR hw1 hc1 hb1 a1 r1), (hw1, eW true), (hc1, eA cy f1), (hb1, eA cy g1), (h2, eR hw2 hc2 hb2 a2 r2), (hw2, eW false), (hc2, eA cy f2), (hb2, eA cy g2), (ho, eO (o_L_wideHash f1 nv p1 p2).2 sv)]) (w1 := [(m0, eM m1 m2 (o_X5_wideHash f1 p1 p2).2 (r1 + r2) kn), (m1, eMR true mc1 a1), (mc1, eA cy f1), (m2, eMR false mc2 a2), (mc2, eA cy f2)]) hP hD [10, 11, 12, 13, 14] [0, 1, 2, 3, 4, 5, 6, 7, 8, 9] rfl rfl (by decide +kernel) (by decide +kernel) hk hFc hP1 hD1
  have hP := hP.sub (ws' := [(h0, eE h1 h2 kn), (h1, eR hw1 hc1 hb1 a1 r1), (hw1, eW true), (hc1, eA cy f1), (hb1, eA cy g1), (h2, eR hw2 hc2 hb2 a2 r2), (hw2, eW false), (hc2, eA cy f2), (hb2, eA cy g2), (ho, eO (o_L_wideHash f1 nv p1 p2).2 sv), (m0, eM m1 m2 (o_X5_wideHash f1 p1 p2).2 (r1 + r2) kn), (m1, eMR true mc1 a1), (mc1, eA cy f1), (m2, eMR false mc2 a2), (mc2, eA cy f2)]) [0, 1, 2, 3, 4, 5, 6, 7, 8, 9, 10, 11, 12, 13, 14] rfl
  have hD := hD.sub (ws' := [(h0, eE h1 h2 kn), (h1, eR hw1 hc1 hb1 a1 r1), (hw1, eW true), (hc1, eA cy f1), (hb1, eA cy g1), (h2, eR hw2 hc2 hb2 a2 r2), (hw2, eW false), (hc2, eA cy f2), (hb2, eA cy g2), (ho, eO (o_L_wideHash f1 nv p1 p2).2 sv), (m0, eM m1 m2 (o_X5_wideHash f1 p1 p2).2 (r1 + r2) kn), (m1, eMR true mc1 a1), (mc1, eA cy f1), (m2, eMR false mc2 a2), (mc2, eA cy f2)]) [0, 1, 2, 3, 4, 5, 6, 7, 8, 9, 10, 11, 12, 13, 14] (by decide +kernel) rfl
  refine lv_istore (lv' := [(6, .int ((o_X5_wideHash f1 p1 p2).1)), (5, .int ((o_L_wideHash f1 nv p1 p2).1)), (0, .ref b), (1, .ref h0), (2, .ref m0), (3, .ref ho), (4, .int (nI i))]) hx hb dL_law_1075 hl (by decide +kernel) rfl (fun ls hl => ?_)
  refine lv_goto (tgt := 2240) hx hb dL_law_1077 (by decide +kernel) ?_
  refine W.widen (k := cells + 760) (n := slots + 4500) (by omega) (by omega) ?_
  exact K a1 r1 f1 g1 a2 r2 f2 g2 kn ((o_L_wideHash f1 nv p1 p2).2) sv ((o_X5_wideHash f1 p1 p2).2) a1 f1 a2 f2 (r1 + r2) kn _ _ _ rfl rfl rfl rfl rfl rfl hka1 hka2 hP hD hS (lv_sub hl [2, 3, 4, 5, 6] rfl)
set_option maxHeartbeats 4000000 in
set_option maxRecDepth 100000 in
theorem st_19 (l : Launch) (p : Program) (e : Env) (s : State) (m : MethodId) (below : List Frame) (meth : Method) (c : Code) (b L N : Nat) (xs : Nat → Int32) (A : Nat → Prop) (dC : Nat → ClassId) (dI : Nat → Nat → Nat) (cy cB : ClassId) (h0 h1 hw1 hc1 hb1 h2 hw2 hc2 hb2 ho m0 m1 mc1 m2 mc2 : Nat) (C0 : lw_C l p e s m below meth c b L N xs A dC dI cy cB) (i : Nat) (hi : i + 4 ≤ L) (p1 p2 p3 : Int32) (hp1 : xs (i + 1) = p1) (hp2 : xs (i + 2) = p2) (hp3 : xs (i + 3) = p3) (cells slots : Nat) (hcs : cells + 760 ≤ 989448) (hss : slots + 4500 ≤ 6127760) (K : lw_K l p e s m below meth c b L N xs A dC dI cy cB h0 h1 hw1 hc1 hb1 h2 hw2 hc2 hb2 ho m0 m1 mc1 m2 mc2 i (cells + 760) (slots + 4500) 2240) (a1 : Int32) (r1 : Int32) (f1 : Nat → Int64) (g1 : Nat → Int64) (a2 : Int32) (r2 : Int32) (f2 : Nat → Int64) (g2 : Nat → Int64) (kn : Int32) (nv : Int64) (sv : Value) (th : Int32) (H : Heap) (locs : List Loc) (ls : Array Slot) (hka1 : okA true f1) (hka2 : okA false f2) (hP : va_P (dC, dI) xCl [(h0, eE h1 h2 kn), (h1, eR hw1 hc1 hb1 a1 r1), (hw1, eW true), (hc1, eA cy f1), (hb1, eA cy g1), (h2, eR hw2 hc2 hb2 a2 r2), (hw2, eW false), (hc2, eA cy f2), (hb2, eA cy g2), (ho, eO nv sv), (m0, eM m1 m2 th (r1 + r2) kn), (m1, eMR true mc1 a1), (mc1, eA cy f1), (m2, eMR false mc2 a2), (mc2, eA cy f2)] H) (hD : va_D A [(h0, eE h1 h2 kn), (h1, eR hw1 hc1 hb1 a1 r1), (hw1, eW true), (hc1, eA cy f1), (hb1, eA cy g1), (h2, eR hw2 hc2 hb2 a2 r2), (hw2, eW false), (hc2, eA cy f2), (hb2, eA cy g2), (ho, eO nv sv), (m0, eM m1 m2 th (r1 + r2) kn), (m1, eMR true mc1 a1), (mc1, eA cy f1), (m2, eMR false mc2 a2), (mc2, eA cy f2)]) (hS : va_S A s.heap H locs) (hl : lv_has ls 7 [(0, .ref b), (1, .ref h0), (2, .ref m0), (3, .ref ho), (4, .int (nI i))]) : W p l e room_1 s m #[Value.ref b] below meth c H locs cells slots (lw_Z below #[Value.ref b] s) (F0 m 1080 ls []) := by
  obtain ⟨hfl, hx, hb, hr, hml, hown, hts, hX, hbl, hbA, hlocks, hK, hG, hnc, hA, hAN, hN, hL, hT, hNs⟩ := id C0
  have hok2 := me_okF hka2
  have hsp1 : ∀ k, k < 8 → o_X1_isSpoiled true (f1 k) = false := fun k hk => (hka1 k hk).2
  have hsp2 : ∀ k, k < 8 → o_X1_isSpoiled false (f2 k) = false := fun k hk => (hka2 k hk).2
  refine lv_aload_n hx hb dL_law_1080 rfl (lv_at hl 1 rfl) ?_
  refine lv_aload_n hx hb dL_law_1081 rfl (lv_at hl 0 rfl) ?_
  refine lv_iload hx hb dL_law_1082 (lv_at hl 4 rfl) ?_
  refine lv_iconst (v := 1) hx hb dL_law_1084 (by decide +kernel) ?_
  refine lv_iadd hx hb dL_law_1085 ?_
  rw [nI_1 i]
  refine xa_sld hx hb hX hbl hbA hS (k := i + 1) (by omega) hL hp1 dL_law_1086 ?_
  refine lv_aload_n hx hb dL_law_1087 rfl (lv_at hl 0 rfl) ?_
  refine lv_iload hx hb dL_law_1088 (lv_at hl 4 rfl) ?_
  refine lv_iconst (v := 2) hx hb dL_law_1090 (by decide +kernel) ?_
  refine lv_iadd hx hb dL_law_1091 ?_
  rw [nI_p2 i]
  refine xa_sld hx hb hX hbl hbA hS (k := i + 2) (by omega) hL hp2 dL_law_1092 ?_
  refine lv_aload_n hx hb dL_law_1093 rfl (lv_at hl 3 rfl) ?_
  have hPc := hP.sub (ws' := [(h0, eE h1 h2 kn), (h1, eR hw1 hc1 hb1 a1 r1), (hw1, eW true), (hc1, eA cy f1), (hb1, eA cy g1), (h2, eR hw2 hc2 hb2 a2 r2), (hw2, eW false), (hc2, eA cy f2), (hb2, eA cy g2), (ho, eO nv sv)]) [0, 1, 2, 3, 4, 5, 6, 7, 8, 9] rfl
  have hDc := hD.sub (ws' := [(h0, eE h1 h2 kn), (h1, eR hw1 hc1 hb1 a1 r1), (hw1, eW true), (hc1, eA cy f1), (hb1, eA cy g1), (h2, eR hw2 hc2 hb2 a2 r2), (hw2, eW false), (hc2, eA cy f2), (hb2, eA cy g2), (ho, eO nv sv)]) [0, 1, 2, 3, 4, 5, 6, 7, 8, 9] (by decide +kernel) rfl
  have hKc := hK.sub (tys' := [(cy, .long)]) [0] rfl
  have hFc := va_free (wc := [(h0, eE h1 h2 kn), (h1, eR hw1 hc1 hb1 a1 r1), (hw1, eW true), (hc1, eA cy f1), (hb1, eA cy g1), (h2, eR hw2 hc2 hb2 a2 r2), (hw2, eW false), (hc2, eA cy f2), (hb2, eA cy g2), (ho, eO nv sv)]) hD hS hA [0, 1, 2, 3, 4, 5, 6, 7, 8, 9] rfl
  refine va_calli (vx_runSW (As := [.ref h0, .int p1, .int p2, .ref ho]) (rest := []) ⟨hx, hb, hml, hown, hts⟩ (k_L_wideEndless l hfl dC dI cy h0 h1 hw1 hc1 hb1 h2 hw2 hc2 hb2 a1 r1 f1 g1 a2 r2 f2 g2 kn ho nv sv H.size N p1 p2) (vx_cwSW 4 hts gL_law_L_wideEndless rfl rfl rfl (by decide +kernel) ⟨Nat.le_of_ble_eq_true rfl, Nat.le_of_ble_eq_true rfl⟩) (xL.preS hKc hPc hDc hAN (Nat.le_trans hN hS.1) (hG.kept hS hAN) hnc) rfl rfl hl.1 rfl (lv_room (Nat.le_of_ble_eq_true rfl)) dL_law_1094 ⟨(show _ ≤ 989448 by omega), (show _ ≤ 6127760 by omega)⟩) hS (fun q _ h => hFc q h) hFc (fun r_1 u t H locs ht hvm hw hB hz hk hS => ?_)
  replace hw : r_1 = (o_L_wideEndless f1 nv p1 p2).1 := hw
  subst r_1
  obtain ⟨hP1, hD1⟩ := hB
  rw [ht] at hP1
  obtain ⟨hP, hD⟩ := va_join (wr := [(m0, eM m1 m2 th (r1 + r2) kn), (m1, eMR true mc1 a1), (mc1, eA cy f1), (m2, eMR false mc2 a2), (mc2, eA cy f2)]) (w1 := [(h0, eE h1 h2 kn), (h1, eR hw1 hc1 hb1 a1 r1), (hw1, eW true), (hc1, eA cy f1), (hb1, eA cy g1), (h2, eR hw2 hc2 hb2 a2 r2), (hw2, eW false), (hc2, eA cy f2), (hb2, eA cy g2), (ho, eO (o_L_wideEndless f1 nv p1 p2).2 sv)]) hP hD [0, 1, 2, 3, 4, 5, 6, 7, 8, 9] [10, 11, 12, 13, 14] rfl rfl (by decide +kernel) (by decide +kernel) hk hFc hP1 hD1
  have hP := hP.sub (ws' := [(h0, eE h1 h2 kn), (h1, eR hw1 hc1 hb1 a1 r1), (hw1, eW true), (hc1, eA cy f1), (hb1, eA cy g1), (h2, eR hw2 hc2 hb2 a2 r2), (hw2, eW false), (hc2, eA cy f2), (hb2, eA cy g2), (ho, eO (o_L_wideEndless f1 nv p1 p2).2 sv), (m0, eM m1 m2 th (r1 + r2) kn), (m1, eMR true mc1 a1), (mc1, eA cy f1), (m2, eMR false mc2 a2), (mc2, eA cy f2)]) [5, 6, 7, 8, 9, 10, 11, 12, 13, 14, 0, 1, 2, 3, 4] rfl
  have hD := hD.sub (ws' := [(h0, eE h1 h2 kn), (h1, eR hw1 hc1 hb1 a1 r1), (hw1, eW true), (hc1, eA cy f1), (hb1, eA cy g1), (h2, eR hw2 hc2 hb2 a2 r2), (hw2, eW false), (hc2, eA cy f2), (hb2, eA cy g2), (ho, eO (o_L_wideEndless f1 nv p1 p2).2 sv), (m0, eM m1 m2 th (r1 + r2) kn), (m1, eMR true mc1 a1), (mc1, eA cy f1), (m2, eMR false mc2 a2), (mc2, eA cy f2)]) [5, 6, 7, 8, 9, 10, 11, 12, 13, 14, 0, 1, 2, 3, 4] (by decide +kernel) rfl
  refine lv_istore (lv' := [(5, .int ((o_L_wideEndless f1 nv p1 p2).1)), (0, .ref b), (1, .ref h0), (2, .ref m0), (3, .ref ho), (4, .int (nI i))]) hx hb dL_law_1097 hl (by decide +kernel) rfl (fun ls hl => ?_)
  refine lv_aload_n hx hb dL_law_1099 rfl (lv_at hl 3 rfl) ?_
  refine lv_aload_n hx hb dL_law_1100 rfl (lv_at hl 1 rfl) ?_
  refine lv_iload hx hb dL_law_1101 (lv_at hl 5 rfl) ?_
  refine lv_iconst (v := 1) hx hb dL_law_1103 (by decide +kernel) ?_
  refine lv_iadd hx hb dL_law_1104 ?_
  rw [nI_1 i]
  refine xa_sld hx hb hX hbl hbA hS (k := i + 1) (by omega) hL hp1 dL_law_1105 ?_
  refine lv_aload_n hx hb dL_law_1106 rfl (lv_at hl 1 rfl) ?_
  refine lv_iload hx hb dL_law_1107 (lv_at hl 5 rfl) ?_
  refine lv_iconst (v := 2) hx hb dL_law_1109 (by decide +kernel) ?_
  refine lv_iadd hx hb dL_law_1110 ?_
  rw [nI_p2 i]
  refine xa_sld hx hb hX hbl hbA hS (k := i + 2) (by omega) hL hp2 dL_law_1111 ?_
  have hPc := hP.sub (ws' := [(m0, eM m1 m2 th (r1 + r2) kn), (m1, eMR true mc1 a1), (mc1, eA cy f1), (m2, eMR false mc2 a2), (mc2, eA cy f2)]) [10, 11, 12, 13, 14] rfl
  have hDc := hD.sub (ws' := [(m0, eM m1 m2 th (r1 + r2) kn), (m1, eMR true mc1 a1), (mc1, eA cy f1), (m2, eMR false mc2 a2), (mc2, eA cy f2)]) [10, 11, 12, 13, 14] (by decide +kernel) rfl
  have hKc := hK.sub (tys' := [(cy, .long)]) [0] rfl
  have hFc := va_free (wc := [(m0, eM m1 m2 th (r1 + r2) kn), (m1, eMR true mc1 a1), (mc1, eA cy f1), (m2, eMR false mc2 a2), (mc2, eA cy f2)]) hD hS hA [10, 11, 12, 13, 14] rfl
  refine va_calli (va_runV (As := [.int p1, .int p2]) (rest := []) ⟨hx, hb, hml, hown, hts⟩ (k_X5_wideEndless l dC dI cy m0 m1 mc1 m2 mc2 a1 f1 a2 f2 th (r1 + r2) kn H.size N p1 p2) (cwV 2 hts gL_law_X5_wideEndless rfl rfl rfl (by decide +kernel) ⟨Nat.le_of_ble_eq_true rfl, Nat.le_of_ble_eq_true rfl⟩) (xM.preV hKc hPc hDc hAN (Nat.le_trans hN hS.1) (hG.kept hS hAN) (ci := 7) (q0 := 0) rfl rfl) rfl rfl hl.1 rfl (lv_room (Nat.le_of_ble_eq_true rfl)) dL_law_1112 ⟨(show _ ≤ 989448 by omega), (show _ ≤ 6127760 by omega)⟩) hS (fun q _ h => hFc q h) hFc (fun r_2 u t H locs ht hvm hw hB hz hk hS => ?_)
  replace hw : r_2 = b2i ((o_X5_wideEndless f1 p1 p2).1) := hw
  subst r_2
  obtain ⟨hP1, hD1⟩ := hB
  rw [ht] at hP1
  obtain ⟨hP, hD⟩ := va_join (wr := [(h0, eE h1 h2 kn), (h1, eR hw1 hc1 hb1 a1 r1), (hw1, eW true), (hc1, eA cy f1), (hb1, eA cy g1), (h2, eR hw2 hc2 hb2 a2 r2), (hw2, eW false), (hc2, eA cy f2), (hb2, eA cy g2), (ho, eO (o_L_wideEndless f1 nv p1 p2).2 sv)]) (w1 := [(m0, eM m1 m2 (o_X5_wideEndless f1 p1 p2).2 (r1 + r2) kn), (m1, eMR true mc1 a1), (mc1, eA cy f1), (m2, eMR false mc2 a2), (mc2, eA cy f2)]) hP hD [10, 11, 12, 13, 14] [0, 1, 2, 3, 4, 5, 6, 7, 8, 9] rfl rfl (by decide +kernel) (by decide +kernel) hk hFc hP1 hD1
  have hP := hP.sub (ws' := [(h0, eE h1 h2 kn), (h1, eR hw1 hc1 hb1 a1 r1), (hw1, eW true), (hc1, eA cy f1), (hb1, eA cy g1), (h2, eR hw2 hc2 hb2 a2 r2), (hw2, eW false), (hc2, eA cy f2), (hb2, eA cy g2), (ho, eO (o_L_wideEndless f1 nv p1 p2).2 sv), (m0, eM m1 m2 (o_X5_wideEndless f1 p1 p2).2 (r1 + r2) kn), (m1, eMR true mc1 a1), (mc1, eA cy f1), (m2, eMR false mc2 a2), (mc2, eA cy f2)]) [0, 1, 2, 3, 4, 5, 6, 7, 8, 9, 10, 11, 12, 13, 14] rfl
  have hD := hD.sub (ws' := [(h0, eE h1 h2 kn), (h1, eR hw1 hc1 hb1 a1 r1), (hw1, eW true), (hc1, eA cy f1), (hb1, eA cy g1), (h2, eR hw2 hc2 hb2 a2 r2), (hw2, eW false), (hc2, eA cy f2), (hb2, eA cy g2), (ho, eO (o_L_wideEndless f1 nv p1 p2).2 sv), (m0, eM m1 m2 (o_X5_wideEndless f1 p1 p2).2 (r1 + r2) kn), (m1, eMR true mc1 a1), (mc1, eA cy f1), (m2, eMR false mc2 a2), (mc2, eA cy f2)]) [0, 1, 2, 3, 4, 5, 6, 7, 8, 9, 10, 11, 12, 13, 14] (by decide +kernel) rfl
  refine lv_istore (lv' := [(6, .int (b2i ((o_X5_wideEndless f1 p1 p2).1))), (5, .int ((o_L_wideEndless f1 nv p1 p2).1)), (0, .ref b), (1, .ref h0), (2, .ref m0), (3, .ref ho), (4, .int (nI i))]) hx hb dL_law_1115 hl (by decide +kernel) rfl (fun ls hl => ?_)
  refine lv_goto (tgt := 2240) hx hb dL_law_1117 (by decide +kernel) ?_
  refine W.widen (k := cells + 760) (n := slots + 4500) (by omega) (by omega) ?_
  exact K a1 r1 f1 g1 a2 r2 f2 g2 kn ((o_L_wideEndless f1 nv p1 p2).2) sv ((o_X5_wideEndless f1 p1 p2).2) a1 f1 a2 f2 (r1 + r2) kn _ _ _ rfl rfl rfl rfl rfl rfl hka1 hka2 hP hD hS (lv_sub hl [2, 3, 4, 5, 6] rfl)
set_option maxHeartbeats 4000000 in
set_option maxRecDepth 100000 in
theorem st_20 (l : Launch) (p : Program) (e : Env) (s : State) (m : MethodId) (below : List Frame) (meth : Method) (c : Code) (b L N : Nat) (xs : Nat → Int32) (A : Nat → Prop) (dC : Nat → ClassId) (dI : Nat → Nat → Nat) (cy cB : ClassId) (h0 h1 hw1 hc1 hb1 h2 hw2 hc2 hb2 ho m0 m1 mc1 m2 mc2 : Nat) (C0 : lw_C l p e s m below meth c b L N xs A dC dI cy cB) (i : Nat) (hi : i + 4 ≤ L) (p1 p2 p3 : Int32) (hp1 : xs (i + 1) = p1) (hp2 : xs (i + 2) = p2) (hp3 : xs (i + 3) = p3) (cells slots : Nat) (hcs : cells + 760 ≤ 989448) (hss : slots + 4500 ≤ 6127760) (K : lw_K l p e s m below meth c b L N xs A dC dI cy cB h0 h1 hw1 hc1 hb1 h2 hw2 hc2 hb2 ho m0 m1 mc1 m2 mc2 i (cells + 760) (slots + 4500) 2240) (a1 : Int32) (r1 : Int32) (f1 : Nat → Int64) (g1 : Nat → Int64) (a2 : Int32) (r2 : Int32) (f2 : Nat → Int64) (g2 : Nat → Int64) (kn : Int32) (nv : Int64) (sv : Value) (th : Int32) (H : Heap) (locs : List Loc) (ls : Array Slot) (hka1 : okA true f1) (hka2 : okA false f2) (hP : va_P (dC, dI) xCl [(h0, eE h1 h2 kn), (h1, eR hw1 hc1 hb1 a1 r1), (hw1, eW true), (hc1, eA cy f1), (hb1, eA cy g1), (h2, eR hw2 hc2 hb2 a2 r2), (hw2, eW false), (hc2, eA cy f2), (hb2, eA cy g2), (ho, eO nv sv), (m0, eM m1 m2 th (r1 + r2) kn), (m1, eMR true mc1 a1), (mc1, eA cy f1), (m2, eMR false mc2 a2), (mc2, eA cy f2)] H) (hD : va_D A [(h0, eE h1 h2 kn), (h1, eR hw1 hc1 hb1 a1 r1), (hw1, eW true), (hc1, eA cy f1), (hb1, eA cy g1), (h2, eR hw2 hc2 hb2 a2 r2), (hw2, eW false), (hc2, eA cy f2), (hb2, eA cy g2), (ho, eO nv sv), (m0, eM m1 m2 th (r1 + r2) kn), (m1, eMR true mc1 a1), (mc1, eA cy f1), (m2, eMR false mc2 a2), (mc2, eA cy f2)]) (hS : va_S A s.heap H locs) (hl : lv_has ls 7 [(0, .ref b), (1, .ref h0), (2, .ref m0), (3, .ref ho), (4, .int (nI i))]) : W p l e room_1 s m #[Value.ref b] below meth c H locs cells slots (lw_Z below #[Value.ref b] s) (F0 m 1120 ls []) := by
  obtain ⟨hfl, hx, hb, hr, hml, hown, hts, hX, hbl, hbA, hlocks, hK, hG, hnc, hA, hAN, hN, hL, hT, hNs⟩ := id C0
  have hok2 := me_okF hka2
  have hsp1 : ∀ k, k < 8 → o_X1_isSpoiled true (f1 k) = false := fun k hk => (hka1 k hk).2
  have hsp2 : ∀ k, k < 8 → o_X1_isSpoiled false (f2 k) = false := fun k hk => (hka2 k hk).2
  refine lv_aload_n hx hb dL_law_1120 rfl (lv_at hl 1 rfl) ?_
  refine lv_aload_n hx hb dL_law_1121 rfl (lv_at hl 0 rfl) ?_
  refine lv_iload hx hb dL_law_1122 (lv_at hl 4 rfl) ?_
  refine lv_iconst (v := 1) hx hb dL_law_1124 (by decide +kernel) ?_
  refine lv_iadd hx hb dL_law_1125 ?_
  rw [nI_1 i]
  refine xa_sld hx hb hX hbl hbA hS (k := i + 1) (by omega) hL hp1 dL_law_1126 ?_
  refine lv_aload_n hx hb dL_law_1127 rfl (lv_at hl 3 rfl) ?_
  have hPc := hP.sub (ws' := [(h0, eE h1 h2 kn), (h1, eR hw1 hc1 hb1 a1 r1), (hw1, eW true), (hc1, eA cy f1), (hb1, eA cy g1), (h2, eR hw2 hc2 hb2 a2 r2), (hw2, eW false), (hc2, eA cy f2), (hb2, eA cy g2), (ho, eO nv sv)]) [0, 1, 2, 3, 4, 5, 6, 7, 8, 9] rfl
  have hDc := hD.sub (ws' := [(h0, eE h1 h2 kn), (h1, eR hw1 hc1 hb1 a1 r1), (hw1, eW true), (hc1, eA cy f1), (hb1, eA cy g1), (h2, eR hw2 hc2 hb2 a2 r2), (hw2, eW false), (hc2, eA cy f2), (hb2, eA cy g2), (ho, eO nv sv)]) [0, 1, 2, 3, 4, 5, 6, 7, 8, 9] (by decide +kernel) rfl
  have hKc := hK.sub (tys' := [(cy, .long)]) [0] rfl
  have hFc := va_free (wc := [(h0, eE h1 h2 kn), (h1, eR hw1 hc1 hb1 a1 r1), (hw1, eW true), (hc1, eA cy f1), (hb1, eA cy g1), (h2, eR hw2 hc2 hb2 a2 r2), (hw2, eW false), (hc2, eA cy f2), (hb2, eA cy g2), (ho, eO nv sv)]) hD hS hA [0, 1, 2, 3, 4, 5, 6, 7, 8, 9] rfl
  refine va_calli (vx_runSW (As := [.ref h0, .int p1, .ref ho]) (rest := []) ⟨hx, hb, hml, hown, hts⟩ (k_L_wideCount l hfl dC dI cy h0 h1 hw1 hc1 hb1 h2 hw2 hc2 hb2 a1 r1 f1 g1 a2 r2 f2 g2 kn ho nv sv H.size N p1) (vx_cwSW 3 hts gL_law_L_wideCount rfl rfl rfl (by decide +kernel) ⟨Nat.le_of_ble_eq_true rfl, Nat.le_of_ble_eq_true rfl⟩) (xL.preS hKc hPc hDc hAN (Nat.le_trans hN hS.1) (hG.kept hS hAN) hnc) rfl rfl hl.1 rfl (lv_room (Nat.le_of_ble_eq_true rfl)) dL_law_1128 ⟨(show _ ≤ 989448 by omega), (show _ ≤ 6127760 by omega)⟩) hS (fun q _ h => hFc q h) hFc (fun r_1 u t H locs ht hvm hw hB hz hk hS => ?_)
  replace hw : r_1 = (o_L_wideCount f1 nv p1).1 := hw
  subst r_1
  obtain ⟨hP1, hD1⟩ := hB
  rw [ht] at hP1
  obtain ⟨hP, hD⟩ := va_join (wr := [(m0, eM m1 m2 th (r1 + r2) kn), (m1, eMR true mc1 a1), (mc1, eA cy f1), (m2, eMR false mc2 a2), (mc2, eA cy f2)]) (w1 := [(h0, eE h1 h2 kn), (h1, eR hw1 hc1 hb1 a1 r1), (hw1, eW true), (hc1, eA cy f1), (hb1, eA cy g1), (h2, eR hw2 hc2 hb2 a2 r2), (hw2, eW false), (hc2, eA cy f2), (hb2, eA cy g2), (ho, eO (o_L_wideCount f1 nv p1).2 sv)]) hP hD [0, 1, 2, 3, 4, 5, 6, 7, 8, 9] [10, 11, 12, 13, 14] rfl rfl (by decide +kernel) (by decide +kernel) hk hFc hP1 hD1
  have hP := hP.sub (ws' := [(h0, eE h1 h2 kn), (h1, eR hw1 hc1 hb1 a1 r1), (hw1, eW true), (hc1, eA cy f1), (hb1, eA cy g1), (h2, eR hw2 hc2 hb2 a2 r2), (hw2, eW false), (hc2, eA cy f2), (hb2, eA cy g2), (ho, eO (o_L_wideCount f1 nv p1).2 sv), (m0, eM m1 m2 th (r1 + r2) kn), (m1, eMR true mc1 a1), (mc1, eA cy f1), (m2, eMR false mc2 a2), (mc2, eA cy f2)]) [5, 6, 7, 8, 9, 10, 11, 12, 13, 14, 0, 1, 2, 3, 4] rfl
  have hD := hD.sub (ws' := [(h0, eE h1 h2 kn), (h1, eR hw1 hc1 hb1 a1 r1), (hw1, eW true), (hc1, eA cy f1), (hb1, eA cy g1), (h2, eR hw2 hc2 hb2 a2 r2), (hw2, eW false), (hc2, eA cy f2), (hb2, eA cy g2), (ho, eO (o_L_wideCount f1 nv p1).2 sv), (m0, eM m1 m2 th (r1 + r2) kn), (m1, eMR true mc1 a1), (mc1, eA cy f1), (m2, eMR false mc2 a2), (mc2, eA cy f2)]) [5, 6, 7, 8, 9, 10, 11, 12, 13, 14, 0, 1, 2, 3, 4] (by decide +kernel) rfl
  refine lv_istore (lv' := [(5, .int ((o_L_wideCount f1 nv p1).1)), (0, .ref b), (1, .ref h0), (2, .ref m0), (3, .ref ho), (4, .int (nI i))]) hx hb dL_law_1131 hl (by decide +kernel) rfl (fun ls hl => ?_)
  refine lv_aload_n hx hb dL_law_1133 rfl (lv_at hl 3 rfl) ?_
  refine lv_aload_n hx hb dL_law_1134 rfl (lv_at hl 1 rfl) ?_
  refine lv_iload hx hb dL_law_1135 (lv_at hl 5 rfl) ?_
  refine lv_iconst (v := 1) hx hb dL_law_1137 (by decide +kernel) ?_
  refine lv_iadd hx hb dL_law_1138 ?_
  rw [nI_1 i]
  refine xa_sld hx hb hX hbl hbA hS (k := i + 1) (by omega) hL hp1 dL_law_1139 ?_
  have hPc := hP.sub (ws' := [(m0, eM m1 m2 th (r1 + r2) kn), (m1, eMR true mc1 a1), (mc1, eA cy f1), (m2, eMR false mc2 a2), (mc2, eA cy f2)]) [10, 11, 12, 13, 14] rfl
  have hDc := hD.sub (ws' := [(m0, eM m1 m2 th (r1 + r2) kn), (m1, eMR true mc1 a1), (mc1, eA cy f1), (m2, eMR false mc2 a2), (mc2, eA cy f2)]) [10, 11, 12, 13, 14] (by decide +kernel) rfl
  have hKc := hK.sub (tys' := [(cy, .long)]) [0] rfl
  have hFc := va_free (wc := [(m0, eM m1 m2 th (r1 + r2) kn), (m1, eMR true mc1 a1), (mc1, eA cy f1), (m2, eMR false mc2 a2), (mc2, eA cy f2)]) hD hS hA [10, 11, 12, 13, 14] rfl
  refine va_calli (va_runV (As := [.int p1]) (rest := []) ⟨hx, hb, hml, hown, hts⟩ (k_X5_wideCount l dC dI cy m0 m1 mc1 m2 mc2 a1 f1 a2 f2 th (r1 + r2) kn H.size N p1) (cwV 1 hts gL_law_X5_wideCount rfl rfl rfl (by decide +kernel) ⟨Nat.le_of_ble_eq_true rfl, Nat.le_of_ble_eq_true rfl⟩) (xM.preV hKc hPc hDc hAN (Nat.le_trans hN hS.1) (hG.kept hS hAN) (ci := 7) (q0 := 0) rfl rfl) rfl rfl hl.1 rfl (lv_room (Nat.le_of_ble_eq_true rfl)) dL_law_1140 ⟨(show _ ≤ 989448 by omega), (show _ ≤ 6127760 by omega)⟩) hS (fun q _ h => hFc q h) hFc (fun r_2 u t H locs ht hvm hw hB hz hk hS => ?_)
  replace hw : r_2 = (o_X5_wideCount f1 p1).1 := hw
  subst r_2
  obtain ⟨hP1, hD1⟩ := hB
  rw [ht] at hP1
  obtain ⟨hP, hD⟩ := va_join (wr := [(h0, eE h1 h2 kn), (h1, eR hw1 hc1 hb1 a1 r1), (hw1, eW true), (hc1, eA cy f1), (hb1, eA cy g1), (h2, eR hw2 hc2 hb2 a2 r2), (hw2, eW false), (hc2, eA cy f2), (hb2, eA cy g2), (ho, eO (o_L_wideCount f1 nv p1).2 sv)]) (w1 := [(m0, eM m1 m2 (o_X5_wideCount f1 p1).2 (r1 + r2) kn), (m1, eMR true mc1 a1), (mc1, eA cy f1), (m2, eMR false mc2 a2), (mc2, eA cy f2)]) hP hD [10, 11, 12, 13, 14] [0, 1, 2, 3, 4, 5, 6, 7, 8, 9] rfl rfl (by decide +kernel) (by decide +kernel) hk hFc hP1 hD1
  have hP := hP.sub (ws' := [(h0, eE h1 h2 kn), (h1, eR hw1 hc1 hb1 a1 r1), (hw1, eW true), (hc1, eA cy f1), (hb1, eA cy g1), (h2, eR hw2 hc2 hb2 a2 r2), (hw2, eW false), (hc2, eA cy f2), (hb2, eA cy g2), (ho, eO (o_L_wideCount f1 nv p1).2 sv), (m0, eM m1 m2 (o_X5_wideCount f1 p1).2 (r1 + r2) kn), (m1, eMR true mc1 a1), (mc1, eA cy f1), (m2, eMR false mc2 a2), (mc2, eA cy f2)]) [0, 1, 2, 3, 4, 5, 6, 7, 8, 9, 10, 11, 12, 13, 14] rfl
  have hD := hD.sub (ws' := [(h0, eE h1 h2 kn), (h1, eR hw1 hc1 hb1 a1 r1), (hw1, eW true), (hc1, eA cy f1), (hb1, eA cy g1), (h2, eR hw2 hc2 hb2 a2 r2), (hw2, eW false), (hc2, eA cy f2), (hb2, eA cy g2), (ho, eO (o_L_wideCount f1 nv p1).2 sv), (m0, eM m1 m2 (o_X5_wideCount f1 p1).2 (r1 + r2) kn), (m1, eMR true mc1 a1), (mc1, eA cy f1), (m2, eMR false mc2 a2), (mc2, eA cy f2)]) [0, 1, 2, 3, 4, 5, 6, 7, 8, 9, 10, 11, 12, 13, 14] (by decide +kernel) rfl
  refine lv_istore (lv' := [(6, .int ((o_X5_wideCount f1 p1).1)), (5, .int ((o_L_wideCount f1 nv p1).1)), (0, .ref b), (1, .ref h0), (2, .ref m0), (3, .ref ho), (4, .int (nI i))]) hx hb dL_law_1143 hl (by decide +kernel) rfl (fun ls hl => ?_)
  refine lv_goto (tgt := 2240) hx hb dL_law_1145 (by decide +kernel) ?_
  refine W.widen (k := cells + 760) (n := slots + 4500) (by omega) (by omega) ?_
  exact K a1 r1 f1 g1 a2 r2 f2 g2 kn ((o_L_wideCount f1 nv p1).2) sv ((o_X5_wideCount f1 p1).2) a1 f1 a2 f2 (r1 + r2) kn _ _ _ rfl rfl rfl rfl rfl rfl hka1 hka2 hP hD hS (lv_sub hl [2, 3, 4, 5, 6] rfl)
