
theorem xm_cc0 {p : Int32} (h : vp_in p 8) : o_X2_checkCell p = 0 := by
  have h2 := vp_in_iff.mp h
  have z0 : (0 : Int32).toInt = 0 := by decide
  have z8 : (8 : Int32).toInt = 8 := by decide
  have c1 : ¬ p < 0 := fun z => by have := Int32.lt_iff_toInt_lt.mp z; omega
  have c2 : p < 8 := Int32.lt_iff_toInt_lt.mpr (by omega)
  rw [o_X2_checkCell, if_neg c1, if_pos c2]
theorem xm_pair {w : Bool} {x y : Int64} (hx : okN w x) (hy : okN w y) : o_X1_isPairSound w x y = true := mo_pair hx hy
theorem xm_triple (w : Bool) (x y z : Int64) : o_X1_isTripleSound w x y z = true := by
  rw [o_X1_isTripleSound]
  by_cases c1 : 0 ≤ o_X1_order w x y
  · rw [if_pos c1]
  · rw [if_neg c1]
    by_cases c2 : 0 ≤ o_X1_order w y z
    · rw [if_pos c2]
    · rw [if_neg c2]
      have k : ∀ a b : Int64, ¬ 0 ≤ o_X1_order w a b ↔ ¬ o_X1_standing w b ≤ o_X1_standing w a := by
        intro a b
        rw [o_X1_order]
        by_cases d1 : o_X1_standing w b ≤ o_X1_standing w a
        · rw [if_pos d1]
          by_cases d2 : o_X1_standing w a ≤ o_X1_standing w b
          · rw [if_pos d2]; simp [d1]
          · rw [if_neg d2]
            exact ⟨fun h => absurd (by decide +kernel) h, fun h => absurd d1 h⟩
        · rw [if_neg d1]
          exact ⟨fun _ => d1, fun _ => by decide⟩
      have h1 := (k x y).mp c1
      have h2 := (k y z).mp c2
      have c3 : ¬ 0 ≤ o_X1_order w x z := by
        rw [k]
        intro h
        have a1 : ¬ (o_X1_standing w y).toInt ≤ (o_X1_standing w x).toInt := fun z9 => h1 (Int64.le_iff_toInt_le.mpr z9)
        have a2 : ¬ (o_X1_standing w z).toInt ≤ (o_X1_standing w y).toInt := fun z9 => h2 (Int64.le_iff_toInt_le.mpr z9)
        have a3 := Int64.le_iff_toInt_le.mp h
        omega
      rw [if_neg c3]

theorem cl_X0_areChainsSound_1 : ∀ w ∈ [.fieldLink RX0 9 "Edgefloats$Row" "width" "LEdgefloats$Width;", .fieldLink RX0 15 "Edgefloats$Row" "cells" "[J", .methodLink RX0 125 yX1_isTripleSound, .instanceMethod yX1_isTripleSound, .selects RX1 yX1_isTripleSound yX1_isTripleSound, .initialized RX1, .code yX1_isTripleSound cX1_isTripleSound 8 (some .boolean), .methodLink RX1 48 yX1_order, .instanceMethod yX1_order, .selects RX1 yX1_order yX1_order, .code yX1_order cX1_order 9 (some .int), .methodLink RX1 42 yX1_standing, .instanceMethod yX1_standing, .selects RX1 yX1_standing yX1_standing, .code yX1_standing cX1_standing 5 (some .long), .fieldLink RX1 28 "Edgefloats$Width" "sizeOnes" "J", .fieldLink RX1 25 "Edgefloats$Width" "signOne" "J"], w ∈ wsX0_areChainsSound := fun _ h => (List.mem_cons_of_mem _ (List.mem_append_left _ (List.mem_append_left _ h)))
theorem cl_X0_areChainsSound_2 : ∀ w ∈ wsX00, w ∈ wsX0_areChainsSound := fun _ h => (List.mem_cons_of_mem _ (List.mem_append_left _ (List.mem_append_right _ h)))
theorem cl_X0_areChainsSound_3 : ∀ w ∈ wsX10, w ∈ wsX0_areChainsSound := fun _ h => (List.mem_cons_of_mem _ (List.mem_append_right _ h))
set_option maxRecDepth 20000 in
theorem ggX0_areChainsSound_X1_isTripleSound : GoodIn wsX0_areChainsSound wsX1_isTripleSound := goodIn_sub (List.forall_mem_cons.mpr ⟨(cl_X0_areChainsSound_1 _ (List.mem_of_getElem? (i := 6) rfl)), fun w h => (List.mem_append.mp h).elim ((List.forall_mem_cons.mpr ⟨(cl_X0_areChainsSound_1 _ (List.mem_of_getElem? (i := 7) rfl)), List.forall_mem_cons.mpr ⟨(cl_X0_areChainsSound_1 _ (List.mem_of_getElem? (i := 8) rfl)), List.forall_mem_cons.mpr ⟨(cl_X0_areChainsSound_1 _ (List.mem_of_getElem? (i := 9) rfl)), List.forall_mem_cons.mpr ⟨(cl_X0_areChainsSound_1 _ (List.mem_of_getElem? (i := 5) rfl)), List.forall_mem_cons.mpr ⟨(cl_X0_areChainsSound_1 _ (List.mem_of_getElem? (i := 10) rfl)), List.forall_mem_cons.mpr ⟨(cl_X0_areChainsSound_1 _ (List.mem_of_getElem? (i := 11) rfl)), List.forall_mem_cons.mpr ⟨(cl_X0_areChainsSound_1 _ (List.mem_of_getElem? (i := 12) rfl)), List.forall_mem_cons.mpr ⟨(cl_X0_areChainsSound_1 _ (List.mem_of_getElem? (i := 13) rfl)), List.forall_mem_cons.mpr ⟨(cl_X0_areChainsSound_1 _ (List.mem_of_getElem? (i := 14) rfl)), List.forall_mem_cons.mpr ⟨(cl_X0_areChainsSound_1 _ (List.mem_of_getElem? (i := 15) rfl)), List.forall_mem_cons.mpr ⟨(cl_X0_areChainsSound_1 _ (List.mem_of_getElem? (i := 16) rfl)), fun _ h => absurd h List.not_mem_nil⟩⟩⟩⟩⟩⟩⟩⟩⟩⟩⟩) w) ((cl_X0_areChainsSound_3) w)⟩) (by decide +kernel)
set_option maxRecDepth 20000 in
theorem gX0_areChainsSound_X1_isTripleSound : GoodIn wsX0_areChainsSound (wsV RX0 125 RX1 yX1_isTripleSound wsX1_isTripleSound) := goodIn_app (goodIn_sub (List.forall_mem_cons.mpr ⟨(cl_X0_areChainsSound_1 _ (List.mem_of_getElem? (i := 2) rfl)), List.forall_mem_cons.mpr ⟨(cl_X0_areChainsSound_1 _ (List.mem_of_getElem? (i := 3) rfl)), List.forall_mem_cons.mpr ⟨(cl_X0_areChainsSound_1 _ (List.mem_of_getElem? (i := 4) rfl)), List.forall_mem_cons.mpr ⟨(cl_X0_areChainsSound_1 _ (List.mem_of_getElem? (i := 5) rfl)), fun _ h => absurd h List.not_mem_nil⟩⟩⟩⟩) (by decide +kernel)) ggX0_areChainsSound_X1_isTripleSound
noncomputable def dz_p14_1 : List (Nat × Instr × Nat) := [(0, (.iconst 0, 1)), (1, (.istore 5, 2)), (3, (.iload 5, 2)), (5, (.bipush 8, 2)), (7, (.if_icmp .ge 30, 3)), (10, (.aload_n 0, 1)), (11, (.getfield 9, 3)), (14, (.lload_n 1, 1)), (15, (.lload_n 3, 1)), (16, (.aload_n 0, 1)), (17, (.getfield 15, 3)), (20, (.iload 5, 2)), (22, (.laload, 1)), (23, (.invokevirtual 125, 3)), (26, (.ifCond .ne 5, 3)), (29, (.iconst 0, 1)), (30, (.ireturn, 1)), (31, (.iinc 5 1, 3)), (34, (.goto (-31), 3)), (37, (.iconst 1, 1)), (38, (.ireturn, 1))]
theorem dy_p14_1 : dz_ok cX0_areChainsSound dz_p14_1 = true := by decide +kernel
theorem dX0_areChainsSound_0 : decode cX0_areChainsSound 0 = .ok (.iconst 0, 1) := dz_at (i := 0) dy_p14_1 rfl
theorem dX0_areChainsSound_1 : decode cX0_areChainsSound 1 = .ok (.istore 5, 2) := dz_at (i := 1) dy_p14_1 rfl
theorem dX0_areChainsSound_3 : decode cX0_areChainsSound 3 = .ok (.iload 5, 2) := dz_at (i := 2) dy_p14_1 rfl
theorem dX0_areChainsSound_5 : decode cX0_areChainsSound 5 = .ok (.bipush 8, 2) := dz_at (i := 3) dy_p14_1 rfl
theorem dX0_areChainsSound_7 : decode cX0_areChainsSound 7 = .ok (.if_icmp .ge 30, 3) := dz_at (i := 4) dy_p14_1 rfl
theorem dX0_areChainsSound_10 : decode cX0_areChainsSound 10 = .ok (.aload_n 0, 1) := dz_at (i := 5) dy_p14_1 rfl
theorem dX0_areChainsSound_11 : decode cX0_areChainsSound 11 = .ok (.getfield 9, 3) := dz_at (i := 6) dy_p14_1 rfl
theorem dX0_areChainsSound_14 : decode cX0_areChainsSound 14 = .ok (.lload_n 1, 1) := dz_at (i := 7) dy_p14_1 rfl
theorem dX0_areChainsSound_15 : decode cX0_areChainsSound 15 = .ok (.lload_n 3, 1) := dz_at (i := 8) dy_p14_1 rfl
theorem dX0_areChainsSound_16 : decode cX0_areChainsSound 16 = .ok (.aload_n 0, 1) := dz_at (i := 9) dy_p14_1 rfl
theorem dX0_areChainsSound_17 : decode cX0_areChainsSound 17 = .ok (.getfield 15, 3) := dz_at (i := 10) dy_p14_1 rfl
theorem dX0_areChainsSound_20 : decode cX0_areChainsSound 20 = .ok (.iload 5, 2) := dz_at (i := 11) dy_p14_1 rfl
theorem dX0_areChainsSound_22 : decode cX0_areChainsSound 22 = .ok (.laload, 1) := dz_at (i := 12) dy_p14_1 rfl
theorem dX0_areChainsSound_23 : decode cX0_areChainsSound 23 = .ok (.invokevirtual 125, 3) := dz_at (i := 13) dy_p14_1 rfl
theorem dX0_areChainsSound_26 : decode cX0_areChainsSound 26 = .ok (.ifCond .ne 5, 3) := dz_at (i := 14) dy_p14_1 rfl
theorem dX0_areChainsSound_29 : decode cX0_areChainsSound 29 = .ok (.iconst 0, 1) := dz_at (i := 15) dy_p14_1 rfl
theorem dX0_areChainsSound_30 : decode cX0_areChainsSound 30 = .ok (.ireturn, 1) := dz_at (i := 16) dy_p14_1 rfl
theorem dX0_areChainsSound_31 : decode cX0_areChainsSound 31 = .ok (.iinc 5 1, 3) := dz_at (i := 17) dy_p14_1 rfl
theorem dX0_areChainsSound_34 : decode cX0_areChainsSound 34 = .ok (.goto (-31), 3) := dz_at (i := 18) dy_p14_1 rfl
theorem dX0_areChainsSound_37 : decode cX0_areChainsSound 37 = .ok (.iconst 1, 1) := dz_at (i := 19) dy_p14_1 rfl
theorem dX0_areChainsSound_38 : decode cX0_areChainsSound 38 = .ok (.ireturn, 1) := dz_at (i := 20) dy_p14_1 rfl
noncomputable def L_xch : Nat → Nat → Unit := fun _ _ => ()
noncomputable def o_X0_areChainsSound  (p0 : Int64) (p1 : Int64) : Bool :=
  true
set_option maxHeartbeats 4000000 in
set_option maxRecDepth 100000 in
theorem k_X0_areChainsSound (l : Launch) (dC : Nat → ClassId) (dI : Nat → Nat → Nat) (cy : ClassId) (h0 : Nat) (aw : Nat) (ac : Nat) (ab : Nat) (w : Bool) (a : Int32) (rv : Int32) (f : Nat → Int64) (g : Nat → Int64) (sz : Nat) (p0 : Int64) (p1 : Int64) : Met l yX0_areChainsSound wsX0_areChainsSound ({ frames := 3, cells := 0, slots := 0, locals := 79 }) (va_Pc [.ref h0, .long p0, .long p1] (xB (dC, dI) xCl [(h0, eR aw ac ab a rv), (aw, eW w), (ac, eA cy f), (ab, eA cy g)] [(cy, .long)] sz)) (va_Qi (fun (r : Int32) (_ : Unit) => r = b2i (o_X0_areChainsSound p0 p1)) (fun _ _ => True) (aN sz)) 0 0 (aN sz) := by
  refine Met.ofW (cc := cX0_areChainsSound) (maxL := 6) (ret := (some .boolean)) (by decide +kernel) rfl ?_
  intro p e s m args below meth c s₁ B hml hv
  obtain ⟨rfl, hsz, hP, hK⟩ := hv
  have hx := B.exec
  have hb := B.bytes
  have hr := B.returns
  have hts := atoms_spec (ws := wsX0_areChainsSound) B.pre
  have hown : s.vm.findClass RX0 = some m.cls := findClass_of_methodNamed B.named
  have hlocks := B.notSynchronized
  subst hsz
  have hA : ∀ q : Nat, s.heap.size ≤ q → aN s.heap.size q := fun _ h => h
  have hS : va_S (aN s.heap.size) s.heap s.heap [] := va_S.rf
  have hP : va_P (dC, dI) xCl [(h0, eR aw ac ab a rv), (aw, eW w), (ac, eA cy f), (ab, eA cy g)] s.heap := hP
  have hl := lv_entry ([.ref h0, .long p0, .long p1]) (n := 6) (Nat.le_of_ble_eq_true rfl)
  rw [lg_entry_eq]
  generalize (lg_sl ([.ref h0, .long p0, .long p1]) ++ List.replicate (6 - (lg_sl ([.ref h0, .long p0, .long p1])).length) Slot.unset).toArray = ls at hl ⊢
  have hl : lv_has ls 6 [(0, .ref h0), (1, .long p0), (3, .long p1)] := hl
  refine lv_iconst (v := 0) hx hb dX0_areChainsSound_0 (by decide +kernel) ?_
  refine lv_istore (lv' := [(5, .int 0), (0, .ref h0), (1, .long p0), (3, .long p1)]) hx hb dX0_areChainsSound_1 hl (by decide +kernel) rfl (fun ls hl => ?_)
  have loop_xch : ∀ (nxch ixch : Nat)  (H : Heap) (locs : List Loc) (ls : Array Slot), ixch + nxch = 8 → 0 ≤ ixch → (L_xch  8 0 ) = L_xch  nxch ixch  → va_P (dC, dI) xCl [(h0, eR aw ac ab a rv), (aw, eW w), (ac, eA cy f), (ab, eA cy g)] H → va_S (aN s.heap.size) s.heap H locs → lv_has ls 6 [(5, .int (nI ixch)), (0, .ref h0), (1, .long p0), (3, .long p1)] → (∀ (H : Heap) (locs : List Loc) (ls : Array Slot), va_P (dC, dI) xCl [(h0, eR aw ac ab a rv), (aw, eW w), (ac, eA cy f), (ab, eA cy g)] H → va_S (aN s.heap.size) s.heap H locs → lv_has ls 6 [(0, .ref h0), (1, .long p0), (3, .long p1)] → W p l e (headSpec wsX0_areChainsSound ({ frames := 3, cells := 0, slots := 0, locals := 79 } : Room)).room s m ([.ref h0, .long p0, .long p1]).toArray below meth c H locs 0 0 (MQ below (va_Qi (fun (r : Int32) (_ : Unit) => r = b2i (o_X0_areChainsSound p0 p1)) (fun _ _ => True) (aN s.heap.size)) ([.ref h0, .long p0, .long p1]).toArray s 0 0 (aN s.heap.size)) (F0 m 37 ls [])) → W p l e (headSpec wsX0_areChainsSound ({ frames := 3, cells := 0, slots := 0, locals := 79 } : Room)).room s m ([.ref h0, .long p0, .long p1]).toArray below meth c H locs 0 0 (MQ below (va_Qi (fun (r : Int32) (_ : Unit) => r = b2i (o_X0_areChainsSound p0 p1)) (fun _ _ => True) (aN s.heap.size)) ([.ref h0, .long p0, .long p1]).toArray s 0 0 (aN s.heap.size)) (F0 m 3 ls []) := by
    intro nxch
    induction nxch with
    | zero =>
      intro ixch  H locs ls hin_xch his_xch hsp_xch hP hS hl K_xch
      have hi8 : ixch = 8 := by omega
      refine lv_iload hx hb dX0_areChainsSound_3 (lv_at hl 0 rfl) ?_
      refine lv_bipush (v := 8) hx hb dX0_areChainsSound_5 (by decide +kernel) ?_
      refine lv_icmp_ge (tgt := 37) hx hb dX0_areChainsSound_7 (by decide +kernel) (fun c9 => ?_) (fun c9 => absurd (by rw [hi8]; decide) c9)
      exact K_xch _ _ _ hP hS (lv_sub hl [1, 2, 3] rfl)
    | succ nxch ih_xch =>
      intro ixch  H locs ls hin_xch his_xch hsp_xch hP hS hl K_xch
      refine lv_iload hx hb dX0_areChainsSound_3 (lv_at hl 0 rfl) ?_
      refine lv_bipush (v := 8) hx hb dX0_areChainsSound_5 (by decide +kernel) ?_
      refine lv_icmp_ge (tgt := 37) hx hb dX0_areChainsSound_7 (by decide +kernel) (fun c9 => absurd c9 (show ¬ (8 : Int32) ≤ nI ixch from nI_ge (a := ixch) (b := 8) (by omega) (by decide +kernel))) (fun c9 => ?_)
      refine lv_aload_n hx hb dX0_areChainsSound_10 rfl (lv_at hl 1 rfl) ?_
      refine va_get (D := (dC, dI)) (ci := 2) (v := .ref aw) (C := RX0) (T := TX0) (N := 5) hx hb hts (by decide +kernel) hown hK hP 0 rfl rfl 0 (by decide +kernel) (hts (.fieldLink RX0 9 "Edgefloats$Row" "width" "LEdgefloats$Width;") (by decide +kernel)) (fun _ h9 => h9) rfl dX0_areChainsSound_11 ?_
      refine lv_lload_n hx hb dX0_areChainsSound_14 rfl (lv_at hl 2 rfl) ?_
      refine lv_lload_n hx hb dX0_areChainsSound_15 rfl (lv_at hl 3 rfl) ?_
      refine lv_aload_n hx hb dX0_areChainsSound_16 rfl (lv_at hl 1 rfl) ?_
      refine va_get (D := (dC, dI)) (ci := 2) (v := .ref ac) (C := RX0) (T := TX0) (N := 5) hx hb hts (by decide +kernel) hown hK hP 0 rfl rfl 1 (by decide +kernel) (hts (.fieldLink RX0 15 "Edgefloats$Row" "cells" "[J") (by decide +kernel)) (fun _ h9 => h9) rfl dX0_areChainsSound_17 ?_
      refine lv_iload hx hb dX0_areChainsSound_20 (lv_at hl 0 rfl) ?_
      refine xa_lald hx hb hK hP 2 0 (f := f) rfl rfl (k := ixch) (vp_in_nI (n := ixch) (N := 8) (by omega) (by decide +kernel)) (nI_clamp (n := ixch) (by omega)) dX0_areChainsSound_22 ?_
      have hPc := hP.sub (ws' := [(aw, eW w)]) [1] rfl
      have hKc := hK.sub (tys' := []) [] rfl
      refine va_calli (va_runV (As := [.long p0, .long p1, .long (f ixch)]) (rest := []) ⟨hx, hb, hml, hown, hts⟩ (k_X1_isTripleSound l dC dI aw w H.size p0 p1 (f ixch)) (cwV 3 hts gX0_areChainsSound_X1_isTripleSound rfl rfl rfl (by decide +kernel) ⟨Nat.le_of_ble_eq_true rfl, Nat.le_of_ble_eq_true rfl⟩) (xB.preV hKc hPc (ci := 3) (q0 := 0) rfl rfl) rfl rfl hl.1 rfl (lv_room (Nat.le_of_ble_eq_true rfl)) dX0_areChainsSound_23 ⟨Nat.le_of_ble_eq_true rfl, Nat.le_of_ble_eq_true rfl⟩) hS xA_old (fun q h => hA q (Nat.le_trans hS.1 h)) (fun r_1 u t H locs ht hvm hw hB hz hk hS => ?_)
      replace hw : r_1 = b2i (o_X1_isTripleSound w p0 p1 (f ixch)) := hw
      subst r_1
      have hP := xP_keep hP hk
      refine xz_ne (tgt := 31) hx hb dX0_areChainsSound_26 (by decide +kernel) (fun c9 => ?_) (fun c9 => absurd (xm_triple _ _ _ _) c9)
      refine lv_iinc (v := (nI (ixch + 1))) (lv' := [(5, .int (nI (ixch + 1))), (0, .ref h0), (1, .long p0), (3, .long p1)]) hx hb dX0_areChainsSound_31 hl (k := 0) rfl (nI_1 ixch) (by decide +kernel) rfl (fun ls hl => ?_)
      refine lv_goto (tgt := 3) hx hb dX0_areChainsSound_34 (by decide +kernel) ?_
      refine W.widen (k := 0) (n := 0) (Nat.le_refl _) (Nat.le_refl _) ?_
      exact ih_xch (ixch + 1)  _ _ _ (by omega) (by omega) rfl hP hS (lv_sub hl [0, 1, 2, 3] rfl) K_xch
  refine loop_xch 8 0  _ _ _ (by omega) (by omega) rfl hP hS (lv_sub hl [0, 1, 2, 3] rfl) (fun H locs ls hP hS hl => ?_)
  refine lv_iconst (v := 1) hx hb dX0_areChainsSound_37 (by decide +kernel) ?_
  have he : o_X0_areChainsSound p0 p1 = true := by (rw [o_X0_areChainsSound]) <;> rfl
  refine W.widen (k := 0) (n := 0) (by omega) (by omega) ?_
  exact W.zret (v := 1) (ty := .boolean) hx hb hr rfl (fun t ht hW => ⟨⟨_, (), rfl, (by (rw [he]) <;> rfl), trivial⟩, hS.F ht⟩) hS.2.2 dX0_areChainsSound_38
theorem cl_X0_isWellOrdered_1 : ∀ w ∈ wsX0_isWellOrdered_r1, w ∈ wsX0_isWellOrdered := fun _ h => (List.mem_cons_of_mem _ (List.mem_append_left _ (List.mem_append_left _ (List.mem_append_left _ h))))
theorem cl_X0_isWellOrdered_2 : ∀ w ∈ wsX0_isWellOrdered_r2, w ∈ wsX0_isWellOrdered := fun _ h => (List.mem_cons_of_mem _ (List.mem_append_left _ (List.mem_append_left _ (List.mem_append_right _ (List.mem_append_left _ h)))))
theorem cl_X0_isWellOrdered_3 : ∀ w ∈ wsX0_isWellOrdered_r3, w ∈ wsX0_isWellOrdered := fun _ h => (List.mem_cons_of_mem _ (List.mem_append_left _ (List.mem_append_left _ (List.mem_append_right _ (List.mem_append_right _ h)))))
theorem cl_X0_isWellOrdered_4 : ∀ w ∈ wsX00, w ∈ wsX0_isWellOrdered := fun _ h => (List.mem_cons_of_mem _ (List.mem_append_left _ (List.mem_append_right _ h)))
theorem cl_X0_isWellOrdered_5 : ∀ w ∈ wsX10, w ∈ wsX0_isWellOrdered := fun _ h => (List.mem_cons_of_mem _ (List.mem_append_right _ h))
set_option maxRecDepth 20000 in
theorem ggX0_isWellOrdered_X1_isSpoiled : GoodIn wsX0_isWellOrdered wsX1_isSpoiled := goodIn_sub (List.forall_mem_cons.mpr ⟨(cl_X0_isWellOrdered_1 _ (List.mem_of_getElem? (i := 6) rfl)), fun w h => (List.mem_append.mp h).elim ((List.forall_mem_cons.mpr ⟨(cl_X0_isWellOrdered_1 _ (List.mem_of_getElem? (i := 7) rfl)), List.forall_mem_cons.mpr ⟨(cl_X0_isWellOrdered_1 _ (List.mem_of_getElem? (i := 8) rfl)), List.forall_mem_cons.mpr ⟨(cl_X0_isWellOrdered_1 _ (List.mem_of_getElem? (i := 9) rfl)), List.forall_mem_cons.mpr ⟨(cl_X0_isWellOrdered_1 _ (List.mem_of_getElem? (i := 10) rfl)), List.forall_mem_cons.mpr ⟨(cl_X0_isWellOrdered_1 _ (List.mem_of_getElem? (i := 5) rfl)), List.forall_mem_cons.mpr ⟨(cl_X0_isWellOrdered_1 _ (List.mem_of_getElem? (i := 11) rfl)), List.forall_mem_cons.mpr ⟨(cl_X0_isWellOrdered_1 _ (List.mem_of_getElem? (i := 12) rfl)), List.forall_mem_cons.mpr ⟨(cl_X0_isWellOrdered_1 _ (List.mem_of_getElem? (i := 13) rfl)), List.forall_mem_cons.mpr ⟨(cl_X0_isWellOrdered_1 _ (List.mem_of_getElem? (i := 14) rfl)), List.forall_mem_cons.mpr ⟨(cl_X0_isWellOrdered_1 _ (List.mem_of_getElem? (i := 15) rfl)), List.forall_mem_cons.mpr ⟨(cl_X0_isWellOrdered_1 _ (List.mem_of_getElem? (i := 16) rfl)), List.forall_mem_cons.mpr ⟨(cl_X0_isWellOrdered_1 _ (List.mem_of_getElem? (i := 17) rfl)), fun _ h => absurd h List.not_mem_nil⟩⟩⟩⟩⟩⟩⟩⟩⟩⟩⟩⟩) w) ((cl_X0_isWellOrdered_5) w)⟩) (by decide +kernel)
set_option maxRecDepth 20000 in
theorem gX0_isWellOrdered_X1_isSpoiled : GoodIn wsX0_isWellOrdered (wsV RX0 26 RX1 yX1_isSpoiled wsX1_isSpoiled) := goodIn_app (goodIn_sub (List.forall_mem_cons.mpr ⟨(cl_X0_isWellOrdered_1 _ (List.mem_of_getElem? (i := 2) rfl)), List.forall_mem_cons.mpr ⟨(cl_X0_isWellOrdered_1 _ (List.mem_of_getElem? (i := 3) rfl)), List.forall_mem_cons.mpr ⟨(cl_X0_isWellOrdered_1 _ (List.mem_of_getElem? (i := 4) rfl)), List.forall_mem_cons.mpr ⟨(cl_X0_isWellOrdered_1 _ (List.mem_of_getElem? (i := 5) rfl)), fun _ h => absurd h List.not_mem_nil⟩⟩⟩⟩) (by decide +kernel)) ggX0_isWellOrdered_X1_isSpoiled
set_option maxRecDepth 20000 in
theorem ggX0_isWellOrdered_X1_isPairSound : GoodIn wsX0_isWellOrdered wsX1_isPairSound := goodIn_sub (List.forall_mem_cons.mpr ⟨(cl_X0_isWellOrdered_1 _ (List.mem_of_getElem? (i := 21) rfl)), fun w h => (List.mem_append.mp h).elim ((fun w h => (List.mem_append.mp h).elim ((List.forall_mem_cons.mpr ⟨(cl_X0_isWellOrdered_1 _ (List.mem_of_getElem? (i := 22) rfl)), List.forall_mem_cons.mpr ⟨(cl_X0_isWellOrdered_1 _ (List.mem_of_getElem? (i := 23) rfl)), List.forall_mem_cons.mpr ⟨(cl_X0_isWellOrdered_2 _ (List.mem_of_getElem? (i := 0) rfl)), List.forall_mem_cons.mpr ⟨(cl_X0_isWellOrdered_1 _ (List.mem_of_getElem? (i := 5) rfl)), List.forall_mem_cons.mpr ⟨(cl_X0_isWellOrdered_2 _ (List.mem_of_getElem? (i := 1) rfl)), List.forall_mem_cons.mpr ⟨(cl_X0_isWellOrdered_2 _ (List.mem_of_getElem? (i := 2) rfl)), List.forall_mem_cons.mpr ⟨(cl_X0_isWellOrdered_2 _ (List.mem_of_getElem? (i := 3) rfl)), List.forall_mem_cons.mpr ⟨(cl_X0_isWellOrdered_2 _ (List.mem_of_getElem? (i := 4) rfl)), List.forall_mem_cons.mpr ⟨(cl_X0_isWellOrdered_2 _ (List.mem_of_getElem? (i := 5) rfl)), List.forall_mem_cons.mpr ⟨(cl_X0_isWellOrdered_2 _ (List.mem_of_getElem? (i := 6) rfl)), List.forall_mem_cons.mpr ⟨(cl_X0_isWellOrdered_2 _ (List.mem_of_getElem? (i := 7) rfl)), List.forall_mem_cons.mpr ⟨(cl_X0_isWellOrdered_2 _ (List.mem_of_getElem? (i := 8) rfl)), List.forall_mem_cons.mpr ⟨(cl_X0_isWellOrdered_2 _ (List.mem_of_getElem? (i := 9) rfl)), List.forall_mem_cons.mpr ⟨(cl_X0_isWellOrdered_2 _ (List.mem_of_getElem? (i := 10) rfl)), List.forall_mem_cons.mpr ⟨(cl_X0_isWellOrdered_2 _ (List.mem_of_getElem? (i := 11) rfl)), List.forall_mem_cons.mpr ⟨(cl_X0_isWellOrdered_2 _ (List.mem_of_getElem? (i := 12) rfl)), List.forall_mem_cons.mpr ⟨(cl_X0_isWellOrdered_2 _ (List.mem_of_getElem? (i := 13) rfl)), List.forall_mem_cons.mpr ⟨(cl_X0_isWellOrdered_2 _ (List.mem_of_getElem? (i := 14) rfl)), List.forall_mem_cons.mpr ⟨(cl_X0_isWellOrdered_2 _ (List.mem_of_getElem? (i := 15) rfl)), List.forall_mem_cons.mpr ⟨(cl_X0_isWellOrdered_2 _ (List.mem_of_getElem? (i := 16) rfl)), List.forall_mem_cons.mpr ⟨(cl_X0_isWellOrdered_2 _ (List.mem_of_getElem? (i := 17) rfl)), List.forall_mem_cons.mpr ⟨(cl_X0_isWellOrdered_2 _ (List.mem_of_getElem? (i := 18) rfl)), List.forall_mem_cons.mpr ⟨(cl_X0_isWellOrdered_2 _ (List.mem_of_getElem? (i := 19) rfl)), List.forall_mem_cons.mpr ⟨(cl_X0_isWellOrdered_2 _ (List.mem_of_getElem? (i := 20) rfl)), fun _ h => absurd h List.not_mem_nil⟩⟩⟩⟩⟩⟩⟩⟩⟩⟩⟩⟩⟩⟩⟩⟩⟩⟩⟩⟩⟩⟩⟩⟩) w) ((List.forall_mem_cons.mpr ⟨(cl_X0_isWellOrdered_2 _ (List.mem_of_getElem? (i := 21) rfl)), List.forall_mem_cons.mpr ⟨(cl_X0_isWellOrdered_2 _ (List.mem_of_getElem? (i := 22) rfl)), List.forall_mem_cons.mpr ⟨(cl_X0_isWellOrdered_2 _ (List.mem_of_getElem? (i := 23) rfl)), List.forall_mem_cons.mpr ⟨(cl_X0_isWellOrdered_3 _ (List.mem_of_getElem? (i := 0) rfl)), List.forall_mem_cons.mpr ⟨(cl_X0_isWellOrdered_3 _ (List.mem_of_getElem? (i := 1) rfl)), List.forall_mem_cons.mpr ⟨(cl_X0_isWellOrdered_3 _ (List.mem_of_getElem? (i := 2) rfl)), List.forall_mem_cons.mpr ⟨(cl_X0_isWellOrdered_3 _ (List.mem_of_getElem? (i := 3) rfl)), List.forall_mem_cons.mpr ⟨(cl_X0_isWellOrdered_3 _ (List.mem_of_getElem? (i := 4) rfl)), List.forall_mem_cons.mpr ⟨(cl_X0_isWellOrdered_3 _ (List.mem_of_getElem? (i := 5) rfl)), List.forall_mem_cons.mpr ⟨(cl_X0_isWellOrdered_3 _ (List.mem_of_getElem? (i := 6) rfl)), List.forall_mem_cons.mpr ⟨(cl_X0_isWellOrdered_3 _ (List.mem_of_getElem? (i := 7) rfl)), fun _ h => absurd h List.not_mem_nil⟩⟩⟩⟩⟩⟩⟩⟩⟩⟩⟩) w)) w) ((cl_X0_isWellOrdered_5) w)⟩) (by decide +kernel)
set_option maxRecDepth 20000 in
theorem gX0_isWellOrdered_X1_isPairSound : GoodIn wsX0_isWellOrdered (wsV RX0 119 RX1 yX1_isPairSound wsX1_isPairSound) := goodIn_app (goodIn_sub (List.forall_mem_cons.mpr ⟨(cl_X0_isWellOrdered_1 _ (List.mem_of_getElem? (i := 18) rfl)), List.forall_mem_cons.mpr ⟨(cl_X0_isWellOrdered_1 _ (List.mem_of_getElem? (i := 19) rfl)), List.forall_mem_cons.mpr ⟨(cl_X0_isWellOrdered_1 _ (List.mem_of_getElem? (i := 20) rfl)), List.forall_mem_cons.mpr ⟨(cl_X0_isWellOrdered_1 _ (List.mem_of_getElem? (i := 5) rfl)), fun _ h => absurd h List.not_mem_nil⟩⟩⟩⟩) (by decide +kernel)) ggX0_isWellOrdered_X1_isPairSound
set_option maxRecDepth 20000 in
theorem ggX0_isWellOrdered_X0_areChainsSound : GoodIn wsX0_isWellOrdered wsX0_areChainsSound := goodIn_sub (List.forall_mem_cons.mpr ⟨(cl_X0_isWellOrdered_3 _ (List.mem_of_getElem? (i := 12) rfl)), fun w h => (List.mem_append.mp h).elim ((fun w h => (List.mem_append.mp h).elim ((List.forall_mem_cons.mpr ⟨(cl_X0_isWellOrdered_1 _ (List.mem_of_getElem? (i := 0) rfl)), List.forall_mem_cons.mpr ⟨(cl_X0_isWellOrdered_1 _ (List.mem_of_getElem? (i := 1) rfl)), List.forall_mem_cons.mpr ⟨(cl_X0_isWellOrdered_3 _ (List.mem_of_getElem? (i := 13) rfl)), List.forall_mem_cons.mpr ⟨(cl_X0_isWellOrdered_3 _ (List.mem_of_getElem? (i := 14) rfl)), List.forall_mem_cons.mpr ⟨(cl_X0_isWellOrdered_3 _ (List.mem_of_getElem? (i := 15) rfl)), List.forall_mem_cons.mpr ⟨(cl_X0_isWellOrdered_1 _ (List.mem_of_getElem? (i := 5) rfl)), List.forall_mem_cons.mpr ⟨(cl_X0_isWellOrdered_3 _ (List.mem_of_getElem? (i := 16) rfl)), List.forall_mem_cons.mpr ⟨(cl_X0_isWellOrdered_1 _ (List.mem_of_getElem? (i := 22) rfl)), List.forall_mem_cons.mpr ⟨(cl_X0_isWellOrdered_1 _ (List.mem_of_getElem? (i := 23) rfl)), List.forall_mem_cons.mpr ⟨(cl_X0_isWellOrdered_2 _ (List.mem_of_getElem? (i := 0) rfl)), List.forall_mem_cons.mpr ⟨(cl_X0_isWellOrdered_2 _ (List.mem_of_getElem? (i := 1) rfl)), List.forall_mem_cons.mpr ⟨(cl_X0_isWellOrdered_2 _ (List.mem_of_getElem? (i := 2) rfl)), List.forall_mem_cons.mpr ⟨(cl_X0_isWellOrdered_2 _ (List.mem_of_getElem? (i := 3) rfl)), List.forall_mem_cons.mpr ⟨(cl_X0_isWellOrdered_2 _ (List.mem_of_getElem? (i := 4) rfl)), List.forall_mem_cons.mpr ⟨(cl_X0_isWellOrdered_2 _ (List.mem_of_getElem? (i := 5) rfl)), List.forall_mem_cons.mpr ⟨(cl_X0_isWellOrdered_2 _ (List.mem_of_getElem? (i := 6) rfl)), List.forall_mem_cons.mpr ⟨(cl_X0_isWellOrdered_2 _ (List.mem_of_getElem? (i := 7) rfl)), fun _ h => absurd h List.not_mem_nil⟩⟩⟩⟩⟩⟩⟩⟩⟩⟩⟩⟩⟩⟩⟩⟩⟩) w) ((cl_X0_isWellOrdered_4) w)) w) ((cl_X0_isWellOrdered_5) w)⟩) (by decide +kernel)
set_option maxRecDepth 20000 in
theorem gX0_isWellOrdered_X0_areChainsSound : GoodIn wsX0_isWellOrdered (wsV RX0 122 RX0 yX0_areChainsSound wsX0_areChainsSound) := goodIn_app (goodIn_sub (List.forall_mem_cons.mpr ⟨(cl_X0_isWellOrdered_3 _ (List.mem_of_getElem? (i := 8) rfl)), List.forall_mem_cons.mpr ⟨(cl_X0_isWellOrdered_3 _ (List.mem_of_getElem? (i := 9) rfl)), List.forall_mem_cons.mpr ⟨(cl_X0_isWellOrdered_3 _ (List.mem_of_getElem? (i := 10) rfl)), List.forall_mem_cons.mpr ⟨(cl_X0_isWellOrdered_3 _ (List.mem_of_getElem? (i := 11) rfl)), fun _ h => absurd h List.not_mem_nil⟩⟩⟩⟩) (by decide +kernel)) ggX0_isWellOrdered_X0_areChainsSound
noncomputable def dz_p14_2 : List (Nat × Instr × Nat) := [(0, (.iconst 0, 1)), (1, (.istore_n 1, 1)), (2, (.iload_n 1, 1)), (3, (.bipush 8, 2)), (5, (.if_icmp .ge 84, 3)), (8, (.aload_n 0, 1)), (9, (.getfield 9, 3)), (12, (.aload_n 0, 1)), (13, (.getfield 15, 3)), (16, (.iload_n 1, 1)), (17, (.laload, 1)), (18, (.invokevirtual 26, 3)), (21, (.ifCond .eq 5, 3)), (24, (.iconst 0, 1)), (25, (.ireturn, 1)), (26, (.iconst 0, 1)), (27, (.istore_n 2, 1)), (28, (.iload_n 2, 1)), (29, (.bipush 8, 2)), (31, (.if_icmp .ge 52, 3)), (34, (.aload_n 0, 1)), (35, (.getfield 9, 3)), (38, (.aload_n 0, 1)), (39, (.getfield 15, 3)), (42, (.iload_n 1, 1)), (43, (.laload, 1)), (44, (.aload_n 0, 1)), (45, (.getfield 15, 3)), (48, (.iload_n 2, 1)), (49, (.laload, 1)), (50, (.invokevirtual 119, 3)), (53, (.ifCond .eq 22, 3)), (56, (.aload_n 0, 1)), (57, (.aload_n 0, 1)), (58, (.getfield 15, 3)), (61, (.iload_n 1, 1)), (62, (.laload, 1)), (63, (.aload_n 0, 1)), (64, (.getfield 15, 3)), (67, (.iload_n 2, 1))]
theorem dy_p14_2 : dz_ok cX0_isWellOrdered dz_p14_2 = true := by decide +kernel
theorem dX0_isWellOrdered_0 : decode cX0_isWellOrdered 0 = .ok (.iconst 0, 1) := dz_at (i := 0) dy_p14_2 rfl
theorem dX0_isWellOrdered_1 : decode cX0_isWellOrdered 1 = .ok (.istore_n 1, 1) := dz_at (i := 1) dy_p14_2 rfl
theorem dX0_isWellOrdered_2 : decode cX0_isWellOrdered 2 = .ok (.iload_n 1, 1) := dz_at (i := 2) dy_p14_2 rfl
theorem dX0_isWellOrdered_3 : decode cX0_isWellOrdered 3 = .ok (.bipush 8, 2) := dz_at (i := 3) dy_p14_2 rfl
theorem dX0_isWellOrdered_5 : decode cX0_isWellOrdered 5 = .ok (.if_icmp .ge 84, 3) := dz_at (i := 4) dy_p14_2 rfl
theorem dX0_isWellOrdered_8 : decode cX0_isWellOrdered 8 = .ok (.aload_n 0, 1) := dz_at (i := 5) dy_p14_2 rfl
theorem dX0_isWellOrdered_9 : decode cX0_isWellOrdered 9 = .ok (.getfield 9, 3) := dz_at (i := 6) dy_p14_2 rfl
theorem dX0_isWellOrdered_12 : decode cX0_isWellOrdered 12 = .ok (.aload_n 0, 1) := dz_at (i := 7) dy_p14_2 rfl
theorem dX0_isWellOrdered_13 : decode cX0_isWellOrdered 13 = .ok (.getfield 15, 3) := dz_at (i := 8) dy_p14_2 rfl
theorem dX0_isWellOrdered_16 : decode cX0_isWellOrdered 16 = .ok (.iload_n 1, 1) := dz_at (i := 9) dy_p14_2 rfl
theorem dX0_isWellOrdered_17 : decode cX0_isWellOrdered 17 = .ok (.laload, 1) := dz_at (i := 10) dy_p14_2 rfl
theorem dX0_isWellOrdered_18 : decode cX0_isWellOrdered 18 = .ok (.invokevirtual 26, 3) := dz_at (i := 11) dy_p14_2 rfl
theorem dX0_isWellOrdered_21 : decode cX0_isWellOrdered 21 = .ok (.ifCond .eq 5, 3) := dz_at (i := 12) dy_p14_2 rfl
theorem dX0_isWellOrdered_24 : decode cX0_isWellOrdered 24 = .ok (.iconst 0, 1) := dz_at (i := 13) dy_p14_2 rfl
theorem dX0_isWellOrdered_25 : decode cX0_isWellOrdered 25 = .ok (.ireturn, 1) := dz_at (i := 14) dy_p14_2 rfl
theorem dX0_isWellOrdered_26 : decode cX0_isWellOrdered 26 = .ok (.iconst 0, 1) := dz_at (i := 15) dy_p14_2 rfl
theorem dX0_isWellOrdered_27 : decode cX0_isWellOrdered 27 = .ok (.istore_n 2, 1) := dz_at (i := 16) dy_p14_2 rfl
theorem dX0_isWellOrdered_28 : decode cX0_isWellOrdered 28 = .ok (.iload_n 2, 1) := dz_at (i := 17) dy_p14_2 rfl
theorem dX0_isWellOrdered_29 : decode cX0_isWellOrdered 29 = .ok (.bipush 8, 2) := dz_at (i := 18) dy_p14_2 rfl
theorem dX0_isWellOrdered_31 : decode cX0_isWellOrdered 31 = .ok (.if_icmp .ge 52, 3) := dz_at (i := 19) dy_p14_2 rfl
theorem dX0_isWellOrdered_34 : decode cX0_isWellOrdered 34 = .ok (.aload_n 0, 1) := dz_at (i := 20) dy_p14_2 rfl
theorem dX0_isWellOrdered_35 : decode cX0_isWellOrdered 35 = .ok (.getfield 9, 3) := dz_at (i := 21) dy_p14_2 rfl
theorem dX0_isWellOrdered_38 : decode cX0_isWellOrdered 38 = .ok (.aload_n 0, 1) := dz_at (i := 22) dy_p14_2 rfl
theorem dX0_isWellOrdered_39 : decode cX0_isWellOrdered 39 = .ok (.getfield 15, 3) := dz_at (i := 23) dy_p14_2 rfl
theorem dX0_isWellOrdered_42 : decode cX0_isWellOrdered 42 = .ok (.iload_n 1, 1) := dz_at (i := 24) dy_p14_2 rfl
theorem dX0_isWellOrdered_43 : decode cX0_isWellOrdered 43 = .ok (.laload, 1) := dz_at (i := 25) dy_p14_2 rfl
theorem dX0_isWellOrdered_44 : decode cX0_isWellOrdered 44 = .ok (.aload_n 0, 1) := dz_at (i := 26) dy_p14_2 rfl
theorem dX0_isWellOrdered_45 : decode cX0_isWellOrdered 45 = .ok (.getfield 15, 3) := dz_at (i := 27) dy_p14_2 rfl
theorem dX0_isWellOrdered_48 : decode cX0_isWellOrdered 48 = .ok (.iload_n 2, 1) := dz_at (i := 28) dy_p14_2 rfl
theorem dX0_isWellOrdered_49 : decode cX0_isWellOrdered 49 = .ok (.laload, 1) := dz_at (i := 29) dy_p14_2 rfl
theorem dX0_isWellOrdered_50 : decode cX0_isWellOrdered 50 = .ok (.invokevirtual 119, 3) := dz_at (i := 30) dy_p14_2 rfl
theorem dX0_isWellOrdered_53 : decode cX0_isWellOrdered 53 = .ok (.ifCond .eq 22, 3) := dz_at (i := 31) dy_p14_2 rfl
theorem dX0_isWellOrdered_56 : decode cX0_isWellOrdered 56 = .ok (.aload_n 0, 1) := dz_at (i := 32) dy_p14_2 rfl
theorem dX0_isWellOrdered_57 : decode cX0_isWellOrdered 57 = .ok (.aload_n 0, 1) := dz_at (i := 33) dy_p14_2 rfl
theorem dX0_isWellOrdered_58 : decode cX0_isWellOrdered 58 = .ok (.getfield 15, 3) := dz_at (i := 34) dy_p14_2 rfl
theorem dX0_isWellOrdered_61 : decode cX0_isWellOrdered 61 = .ok (.iload_n 1, 1) := dz_at (i := 35) dy_p14_2 rfl
theorem dX0_isWellOrdered_62 : decode cX0_isWellOrdered 62 = .ok (.laload, 1) := dz_at (i := 36) dy_p14_2 rfl
theorem dX0_isWellOrdered_63 : decode cX0_isWellOrdered 63 = .ok (.aload_n 0, 1) := dz_at (i := 37) dy_p14_2 rfl
theorem dX0_isWellOrdered_64 : decode cX0_isWellOrdered 64 = .ok (.getfield 15, 3) := dz_at (i := 38) dy_p14_2 rfl
theorem dX0_isWellOrdered_67 : decode cX0_isWellOrdered 67 = .ok (.iload_n 2, 1) := dz_at (i := 39) dy_p14_2 rfl
noncomputable def dz_p14_3 : List (Nat × Instr × Nat) := [(68, (.laload, 1)), (69, (.invokevirtual 122, 3)), (72, (.ifCond .ne 5, 3)), (75, (.iconst 0, 1)), (76, (.ireturn, 1)), (77, (.iinc 2 1, 3)), (80, (.goto (-52), 3)), (83, (.iinc 1 1, 3)), (86, (.goto (-84), 3)), (89, (.iconst 1, 1)), (90, (.ireturn, 1))]
theorem dy_p14_3 : dz_ok cX0_isWellOrdered dz_p14_3 = true := by decide +kernel
theorem dX0_isWellOrdered_68 : decode cX0_isWellOrdered 68 = .ok (.laload, 1) := dz_at (i := 0) dy_p14_3 rfl
theorem dX0_isWellOrdered_69 : decode cX0_isWellOrdered 69 = .ok (.invokevirtual 122, 3) := dz_at (i := 1) dy_p14_3 rfl
theorem dX0_isWellOrdered_72 : decode cX0_isWellOrdered 72 = .ok (.ifCond .ne 5, 3) := dz_at (i := 2) dy_p14_3 rfl
theorem dX0_isWellOrdered_75 : decode cX0_isWellOrdered 75 = .ok (.iconst 0, 1) := dz_at (i := 3) dy_p14_3 rfl
theorem dX0_isWellOrdered_76 : decode cX0_isWellOrdered 76 = .ok (.ireturn, 1) := dz_at (i := 4) dy_p14_3 rfl
theorem dX0_isWellOrdered_77 : decode cX0_isWellOrdered 77 = .ok (.iinc 2 1, 3) := dz_at (i := 5) dy_p14_3 rfl
theorem dX0_isWellOrdered_80 : decode cX0_isWellOrdered 80 = .ok (.goto (-52), 3) := dz_at (i := 6) dy_p14_3 rfl
theorem dX0_isWellOrdered_83 : decode cX0_isWellOrdered 83 = .ok (.iinc 1 1, 3) := dz_at (i := 7) dy_p14_3 rfl
theorem dX0_isWellOrdered_86 : decode cX0_isWellOrdered 86 = .ok (.goto (-84), 3) := dz_at (i := 8) dy_p14_3 rfl
theorem dX0_isWellOrdered_89 : decode cX0_isWellOrdered 89 = .ok (.iconst 1, 1) := dz_at (i := 9) dy_p14_3 rfl
theorem dX0_isWellOrdered_90 : decode cX0_isWellOrdered 90 = .ok (.ireturn, 1) := dz_at (i := 10) dy_p14_3 rfl
noncomputable def L_xwo : Nat → Nat → Unit := fun _ _ => ()
noncomputable def L_xwi : Nat → Nat → Unit := fun _ _ => ()
noncomputable def o_X0_isWellOrdered   : Bool :=
  true
set_option maxHeartbeats 4000000 in
set_option maxRecDepth 100000 in
theorem k_X0_isWellOrdered (l : Launch) (dC : Nat → ClassId) (dI : Nat → Nat → Nat) (cy : ClassId) (h0 : Nat) (aw : Nat) (ac : Nat) (ab : Nat) (w : Bool) (a : Int32) (rv : Int32) (f : Nat → Int64) (g : Nat → Int64) (sz : Nat)  (hokf : okF w f) (hsp : ∀ k, k < 8 → o_X1_isSpoiled w (f k) = false) : Met l yX0_isWellOrdered wsX0_isWellOrdered ({ frames := 4, cells := 0, slots := 0, locals := 106 }) (va_Pc [.ref h0] (xB (dC, dI) xCl [(h0, eR aw ac ab a rv), (aw, eW w), (ac, eA cy f), (ab, eA cy g)] [(cy, .long)] sz)) (va_Qi (fun (r : Int32) (_ : Unit) => r = b2i (o_X0_isWellOrdered )) (fun _ _ => True) (aN sz)) 0 0 (aN sz) := by
  refine Met.ofW (cc := cX0_isWellOrdered) (maxL := 3) (ret := (some .boolean)) (by decide +kernel) rfl ?_
  intro p e s m args below meth c s₁ B hml hv
  obtain ⟨rfl, hsz, hP, hK⟩ := hv
  have hx := B.exec
  have hb := B.bytes
  have hr := B.returns
  have hts := atoms_spec (ws := wsX0_isWellOrdered) B.pre
  have hown : s.vm.findClass RX0 = some m.cls := findClass_of_methodNamed B.named
  have hlocks := B.notSynchronized
  subst hsz
  have hA : ∀ q : Nat, s.heap.size ≤ q → aN s.heap.size q := fun _ h => h
  have hS : va_S (aN s.heap.size) s.heap s.heap [] := va_S.rf
  have hP : va_P (dC, dI) xCl [(h0, eR aw ac ab a rv), (aw, eW w), (ac, eA cy f), (ab, eA cy g)] s.heap := hP
  have hl := lv_entry ([.ref h0]) (n := 3) (Nat.le_of_ble_eq_true rfl)
  rw [lg_entry_eq]
  generalize (lg_sl ([.ref h0]) ++ List.replicate (3 - (lg_sl ([.ref h0])).length) Slot.unset).toArray = ls at hl ⊢
  have hl : lv_has ls 3 [(0, .ref h0)] := hl
  refine lv_iconst (v := 0) hx hb dX0_isWellOrdered_0 (by decide +kernel) ?_
  refine lv_istore_n (lv' := [(1, .int 0), (0, .ref h0)]) hx hb dX0_isWellOrdered_1 rfl hl (by decide +kernel) rfl (fun ls hl => ?_)
  have loop_xwo : ∀ (nxwo ixwo : Nat)  (H : Heap) (locs : List Loc) (ls : Array Slot), ixwo + nxwo = 8 → 0 ≤ ixwo → (L_xwo  8 0 ) = L_xwo  nxwo ixwo  → va_P (dC, dI) xCl [(h0, eR aw ac ab a rv), (aw, eW w), (ac, eA cy f), (ab, eA cy g)] H → va_S (aN s.heap.size) s.heap H locs → lv_has ls 3 [(1, .int (nI ixwo)), (0, .ref h0)] → (∀ (H : Heap) (locs : List Loc) (ls : Array Slot), va_P (dC, dI) xCl [(h0, eR aw ac ab a rv), (aw, eW w), (ac, eA cy f), (ab, eA cy g)] H → va_S (aN s.heap.size) s.heap H locs → lv_has ls 3 [(0, .ref h0)] → W p l e (headSpec wsX0_isWellOrdered ({ frames := 4, cells := 0, slots := 0, locals := 106 } : Room)).room s m ([.ref h0]).toArray below meth c H locs 0 0 (MQ below (va_Qi (fun (r : Int32) (_ : Unit) => r = b2i (o_X0_isWellOrdered )) (fun _ _ => True) (aN s.heap.size)) ([.ref h0]).toArray s 0 0 (aN s.heap.size)) (F0 m 89 ls [])) → W p l e (headSpec wsX0_isWellOrdered ({ frames := 4, cells := 0, slots := 0, locals := 106 } : Room)).room s m ([.ref h0]).toArray below meth c H locs 0 0 (MQ below (va_Qi (fun (r : Int32) (_ : Unit) => r = b2i (o_X0_isWellOrdered )) (fun _ _ => True) (aN s.heap.size)) ([.ref h0]).toArray s 0 0 (aN s.heap.size)) (F0 m 2 ls []) := by
    intro nxwo
    induction nxwo with
    | zero =>
      intro ixwo  H locs ls hin_xwo his_xwo hsp_xwo hP hS hl K_xwo
      have hi8 : ixwo = 8 := by omega
      refine lv_iload_n hx hb dX0_isWellOrdered_2 rfl (lv_at hl 0 rfl) ?_
      refine lv_bipush (v := 8) hx hb dX0_isWellOrdered_3 (by decide +kernel) ?_
      refine lv_icmp_ge (tgt := 89) hx hb dX0_isWellOrdered_5 (by decide +kernel) (fun c9 => ?_) (fun c9 => absurd (by rw [hi8]; decide) c9)
      exact K_xwo _ _ _ hP hS (lv_sub hl [1] rfl)
    | succ nxwo ih_xwo =>
      intro ixwo  H locs ls hin_xwo his_xwo hsp_xwo hP hS hl K_xwo
      refine lv_iload_n hx hb dX0_isWellOrdered_2 rfl (lv_at hl 0 rfl) ?_
      refine lv_bipush (v := 8) hx hb dX0_isWellOrdered_3 (by decide +kernel) ?_
      refine lv_icmp_ge (tgt := 89) hx hb dX0_isWellOrdered_5 (by decide +kernel) (fun c9 => absurd c9 (show ¬ (8 : Int32) ≤ nI ixwo from nI_ge (a := ixwo) (b := 8) (by omega) (by decide +kernel))) (fun c9 => ?_)
      refine lv_aload_n hx hb dX0_isWellOrdered_8 rfl (lv_at hl 1 rfl) ?_
      refine va_get (D := (dC, dI)) (ci := 2) (v := .ref aw) (C := RX0) (T := TX0) (N := 5) hx hb hts (by decide +kernel) hown hK hP 0 rfl rfl 0 (by decide +kernel) (hts (.fieldLink RX0 9 "Edgefloats$Row" "width" "LEdgefloats$Width;") (by decide +kernel)) (fun _ h9 => h9) rfl dX0_isWellOrdered_9 ?_
      refine lv_aload_n hx hb dX0_isWellOrdered_12 rfl (lv_at hl 1 rfl) ?_
      refine va_get (D := (dC, dI)) (ci := 2) (v := .ref ac) (C := RX0) (T := TX0) (N := 5) hx hb hts (by decide +kernel) hown hK hP 0 rfl rfl 1 (by decide +kernel) (hts (.fieldLink RX0 15 "Edgefloats$Row" "cells" "[J") (by decide +kernel)) (fun _ h9 => h9) rfl dX0_isWellOrdered_13 ?_
      refine lv_iload_n hx hb dX0_isWellOrdered_16 rfl (lv_at hl 0 rfl) ?_
      refine xa_lald hx hb hK hP 2 0 (f := f) rfl rfl (k := ixwo) (vp_in_nI (n := ixwo) (N := 8) (by omega) (by decide +kernel)) (nI_clamp (n := ixwo) (by omega)) dX0_isWellOrdered_17 ?_
      have hPc := hP.sub (ws' := [(aw, eW w)]) [1] rfl
      have hKc := hK.sub (tys' := []) [] rfl
      refine va_calli (va_runV (As := [.long (f ixwo)]) (rest := []) ⟨hx, hb, hml, hown, hts⟩ (k_X1_isSpoiled l dC dI aw w H.size (f ixwo)) (cwV 1 hts gX0_isWellOrdered_X1_isSpoiled rfl rfl rfl (by decide +kernel) ⟨Nat.le_of_ble_eq_true rfl, Nat.le_of_ble_eq_true rfl⟩) (xB.preV hKc hPc (ci := 3) (q0 := 0) rfl rfl) rfl rfl hl.1 rfl (lv_room (Nat.le_of_ble_eq_true rfl)) dX0_isWellOrdered_18 ⟨Nat.le_of_ble_eq_true rfl, Nat.le_of_ble_eq_true rfl⟩) hS xA_old (fun q h => hA q (Nat.le_trans hS.1 h)) (fun r_1 u t H locs ht hvm hw hB hz hk hS => ?_)
      replace hw : r_1 = b2i (o_X1_isSpoiled w (f ixwo)) := hw
      subst r_1
      have hP := xP_keep hP hk
      refine xz_eq (tgt := 26) hx hb dX0_isWellOrdered_21 (by decide +kernel) (fun c9 => ?_) (fun c9 => absurd c9 (by rw [hsp ixwo (by omega)]; decide))
      refine lv_iconst (v := 0) hx hb dX0_isWellOrdered_26 (by decide +kernel) ?_
      refine lv_istore_n (lv' := [(2, .int 0), (1, .int (nI ixwo)), (0, .ref h0)]) hx hb dX0_isWellOrdered_27 rfl hl (by decide +kernel) rfl (fun ls hl => ?_)
      have loop_xwi : ∀ (nxwi ixwi : Nat)  (H : Heap) (locs : List Loc) (ls : Array Slot), ixwi + nxwi = 8 → 0 ≤ ixwi → (L_xwi  8 0 ) = L_xwi  nxwi ixwi  → va_P (dC, dI) xCl [(h0, eR aw ac ab a rv), (aw, eW w), (ac, eA cy f), (ab, eA cy g)] H → va_S (aN s.heap.size) s.heap H locs → lv_has ls 3 [(2, .int (nI ixwi)), (1, .int (nI ixwo)), (0, .ref h0)] → (∀ (H : Heap) (locs : List Loc) (ls : Array Slot), va_P (dC, dI) xCl [(h0, eR aw ac ab a rv), (aw, eW w), (ac, eA cy f), (ab, eA cy g)] H → va_S (aN s.heap.size) s.heap H locs → lv_has ls 3 [(1, .int (nI ixwo)), (0, .ref h0)] → W p l e (headSpec wsX0_isWellOrdered ({ frames := 4, cells := 0, slots := 0, locals := 106 } : Room)).room s m ([.ref h0]).toArray below meth c H locs 0 0 (MQ below (va_Qi (fun (r : Int32) (_ : Unit) => r = b2i (o_X0_isWellOrdered )) (fun _ _ => True) (aN s.heap.size)) ([.ref h0]).toArray s 0 0 (aN s.heap.size)) (F0 m 83 ls [])) → W p l e (headSpec wsX0_isWellOrdered ({ frames := 4, cells := 0, slots := 0, locals := 106 } : Room)).room s m ([.ref h0]).toArray below meth c H locs 0 0 (MQ below (va_Qi (fun (r : Int32) (_ : Unit) => r = b2i (o_X0_isWellOrdered )) (fun _ _ => True) (aN s.heap.size)) ([.ref h0]).toArray s 0 0 (aN s.heap.size)) (F0 m 28 ls []) := by
        intro nxwi
        induction nxwi with
        | zero =>
          intro ixwi  H locs ls hin_xwi his_xwi hsp_xwi hP hS hl K_xwi
          have hi8 : ixwi = 8 := by omega
          refine lv_iload_n hx hb dX0_isWellOrdered_28 rfl (lv_at hl 0 rfl) ?_
          refine lv_bipush (v := 8) hx hb dX0_isWellOrdered_29 (by decide +kernel) ?_
          refine lv_icmp_ge (tgt := 83) hx hb dX0_isWellOrdered_31 (by decide +kernel) (fun c9 => ?_) (fun c9 => absurd (by rw [hi8]; decide) c9)
          exact K_xwi _ _ _ hP hS (lv_sub hl [1, 2] rfl)
        | succ nxwi ih_xwi =>
          intro ixwi  H locs ls hin_xwi his_xwi hsp_xwi hP hS hl K_xwi
          refine lv_iload_n hx hb dX0_isWellOrdered_28 rfl (lv_at hl 0 rfl) ?_
          refine lv_bipush (v := 8) hx hb dX0_isWellOrdered_29 (by decide +kernel) ?_
          refine lv_icmp_ge (tgt := 83) hx hb dX0_isWellOrdered_31 (by decide +kernel) (fun c9 => absurd c9 (show ¬ (8 : Int32) ≤ nI ixwi from nI_ge (a := ixwi) (b := 8) (by omega) (by decide +kernel))) (fun c9 => ?_)
          refine lv_aload_n hx hb dX0_isWellOrdered_34 rfl (lv_at hl 2 rfl) ?_
          refine va_get (D := (dC, dI)) (ci := 2) (v := .ref aw) (C := RX0) (T := TX0) (N := 5) hx hb hts (by decide +kernel) hown hK hP 0 rfl rfl 0 (by decide +kernel) (hts (.fieldLink RX0 9 "Edgefloats$Row" "width" "LEdgefloats$Width;") (by decide +kernel)) (fun _ h9 => h9) rfl dX0_isWellOrdered_35 ?_
          refine lv_aload_n hx hb dX0_isWellOrdered_38 rfl (lv_at hl 2 rfl) ?_
          refine va_get (D := (dC, dI)) (ci := 2) (v := .ref ac) (C := RX0) (T := TX0) (N := 5) hx hb hts (by decide +kernel) hown hK hP 0 rfl rfl 1 (by decide +kernel) (hts (.fieldLink RX0 15 "Edgefloats$Row" "cells" "[J") (by decide +kernel)) (fun _ h9 => h9) rfl dX0_isWellOrdered_39 ?_
          refine lv_iload_n hx hb dX0_isWellOrdered_42 rfl (lv_at hl 1 rfl) ?_
          refine xa_lald hx hb hK hP 2 0 (f := f) rfl rfl (k := ixwo) (vp_in_nI (n := ixwo) (N := 8) (by omega) (by decide +kernel)) (nI_clamp (n := ixwo) (by omega)) dX0_isWellOrdered_43 ?_
          refine lv_aload_n hx hb dX0_isWellOrdered_44 rfl (lv_at hl 2 rfl) ?_
          refine va_get (D := (dC, dI)) (ci := 2) (v := .ref ac) (C := RX0) (T := TX0) (N := 5) hx hb hts (by decide +kernel) hown hK hP 0 rfl rfl 1 (by decide +kernel) (hts (.fieldLink RX0 15 "Edgefloats$Row" "cells" "[J") (by decide +kernel)) (fun _ h9 => h9) rfl dX0_isWellOrdered_45 ?_
          refine lv_iload_n hx hb dX0_isWellOrdered_48 rfl (lv_at hl 0 rfl) ?_
          refine xa_lald hx hb hK hP 2 0 (f := f) rfl rfl (k := ixwi) (vp_in_nI (n := ixwi) (N := 8) (by omega) (by decide +kernel)) (nI_clamp (n := ixwi) (by omega)) dX0_isWellOrdered_49 ?_
          have hPc := hP.sub (ws' := [(aw, eW w)]) [1] rfl
          have hKc := hK.sub (tys' := []) [] rfl
          refine va_calli (va_runV (As := [.long (f ixwo), .long (f ixwi)]) (rest := []) ⟨hx, hb, hml, hown, hts⟩ (k_X1_isPairSound l dC dI aw w H.size (f ixwo) (f ixwi)) (cwV 2 hts gX0_isWellOrdered_X1_isPairSound rfl rfl rfl (by decide +kernel) ⟨Nat.le_of_ble_eq_true rfl, Nat.le_of_ble_eq_true rfl⟩) (xB.preV hKc hPc (ci := 3) (q0 := 0) rfl rfl) rfl rfl hl.1 rfl (lv_room (Nat.le_of_ble_eq_true rfl)) dX0_isWellOrdered_50 ⟨Nat.le_of_ble_eq_true rfl, Nat.le_of_ble_eq_true rfl⟩) hS xA_old (fun q h => hA q (Nat.le_trans hS.1 h)) (fun r_2 u t H locs ht hvm hw hB hz hk hS => ?_)
          replace hw : r_2 = b2i (o_X1_isPairSound w (f ixwo) (f ixwi)) := hw
          subst r_2
          have hP := xP_keep hP hk
          refine xz_eq (tgt := 75) hx hb dX0_isWellOrdered_53 (by decide +kernel) (fun c9 => absurd (xm_pair (hokf ixwo (by omega)) (hokf ixwi (by omega))) c9) (fun c9 => ?_)
          refine lv_aload_n hx hb dX0_isWellOrdered_56 rfl (lv_at hl 2 rfl) ?_
          refine lv_aload_n hx hb dX0_isWellOrdered_57 rfl (lv_at hl 2 rfl) ?_
          refine va_get (D := (dC, dI)) (ci := 2) (v := .ref ac) (C := RX0) (T := TX0) (N := 5) hx hb hts (by decide +kernel) hown hK hP 0 rfl rfl 1 (by decide +kernel) (hts (.fieldLink RX0 15 "Edgefloats$Row" "cells" "[J") (by decide +kernel)) (fun _ h9 => h9) rfl dX0_isWellOrdered_58 ?_
          refine lv_iload_n hx hb dX0_isWellOrdered_61 rfl (lv_at hl 1 rfl) ?_
          refine xa_lald hx hb hK hP 2 0 (f := f) rfl rfl (k := ixwo) (vp_in_nI (n := ixwo) (N := 8) (by omega) (by decide +kernel)) (nI_clamp (n := ixwo) (by omega)) dX0_isWellOrdered_62 ?_
          refine lv_aload_n hx hb dX0_isWellOrdered_63 rfl (lv_at hl 2 rfl) ?_
          refine va_get (D := (dC, dI)) (ci := 2) (v := .ref ac) (C := RX0) (T := TX0) (N := 5) hx hb hts (by decide +kernel) hown hK hP 0 rfl rfl 1 (by decide +kernel) (hts (.fieldLink RX0 15 "Edgefloats$Row" "cells" "[J") (by decide +kernel)) (fun _ h9 => h9) rfl dX0_isWellOrdered_64 ?_
          refine lv_iload_n hx hb dX0_isWellOrdered_67 rfl (lv_at hl 0 rfl) ?_
          refine xa_lald hx hb hK hP 2 0 (f := f) rfl rfl (k := ixwi) (vp_in_nI (n := ixwi) (N := 8) (by omega) (by decide +kernel)) (nI_clamp (n := ixwi) (by omega)) dX0_isWellOrdered_68 ?_
          have hPc := hP.sub (ws' := [(h0, eR aw ac ab a rv), (aw, eW w), (ac, eA cy f), (ab, eA cy g)]) [0, 1, 2, 3] rfl
          have hKc := hK.sub (tys' := [(cy, .long)]) [0] rfl
          refine va_calli (va_runV (As := [.long (f ixwo), .long (f ixwi)]) (rest := []) ⟨hx, hb, hml, hown, hts⟩ (k_X0_areChainsSound l dC dI cy h0 aw ac ab w a rv f g H.size (f ixwo) (f ixwi)) (cwV 2 hts gX0_isWellOrdered_X0_areChainsSound rfl rfl rfl (by decide +kernel) ⟨Nat.le_of_ble_eq_true rfl, Nat.le_of_ble_eq_true rfl⟩) (xB.preV hKc hPc (ci := 2) (q0 := 0) rfl rfl) rfl rfl hl.1 rfl (lv_room (Nat.le_of_ble_eq_true rfl)) dX0_isWellOrdered_69 ⟨Nat.le_of_ble_eq_true rfl, Nat.le_of_ble_eq_true rfl⟩) hS xA_old (fun q h => hA q (Nat.le_trans hS.1 h)) (fun r_3 u t H locs ht hvm hw hB hz hk hS => ?_)
          replace hw : r_3 = b2i (o_X0_areChainsSound (f ixwo) (f ixwi)) := hw
          subst r_3
          have hP := xP_keep hP hk
          refine xz_ne (tgt := 77) hx hb dX0_isWellOrdered_72 (by decide +kernel) (fun c9 => ?_) (fun c9 => absurd (by rfl) c9)
          refine lv_iinc (v := (nI (ixwi + 1))) (lv' := [(2, .int (nI (ixwi + 1))), (1, .int (nI ixwo)), (0, .ref h0)]) hx hb dX0_isWellOrdered_77 hl (k := 0) rfl (nI_1 ixwi) (by decide +kernel) rfl (fun ls hl => ?_)
          refine lv_goto (tgt := 28) hx hb dX0_isWellOrdered_80 (by decide +kernel) ?_
          refine W.widen (k := 0) (n := 0) (Nat.le_refl _) (Nat.le_refl _) ?_
          exact ih_xwi (ixwi + 1)  _ _ _ (by omega) (by omega) rfl hP hS (lv_sub hl [0, 1, 2] rfl) K_xwi
      refine loop_xwi 8 0  _ _ _ (by omega) (by omega) rfl hP hS (lv_sub hl [0, 1, 2] rfl) (fun H locs ls hP hS hl => ?_)
      refine lv_iinc (v := (nI (ixwo + 1))) (lv' := [(1, .int (nI (ixwo + 1))), (0, .ref h0)]) hx hb dX0_isWellOrdered_83 hl (k := 0) rfl (nI_1 ixwo) (by decide +kernel) rfl (fun ls hl => ?_)
      refine lv_goto (tgt := 2) hx hb dX0_isWellOrdered_86 (by decide +kernel) ?_
      refine W.widen (k := 0) (n := 0) (Nat.le_refl _) (Nat.le_refl _) ?_
      exact ih_xwo (ixwo + 1)  _ _ _ (by omega) (by omega) rfl hP hS (lv_sub hl [0, 1] rfl) K_xwo
  refine loop_xwo 8 0  _ _ _ (by omega) (by omega) rfl hP hS (lv_sub hl [0, 1] rfl) (fun H locs ls hP hS hl => ?_)
  refine lv_iconst (v := 1) hx hb dX0_isWellOrdered_89 (by decide +kernel) ?_
  have he : o_X0_isWellOrdered  = true := by (rw [o_X0_isWellOrdered]) <;> rfl
  refine W.widen (k := 0) (n := 0) (by omega) (by omega) ?_
  exact W.zret (v := 1) (ty := .boolean) hx hb hr rfl (fun t ht hW => ⟨⟨_, (), rfl, (by (rw [he]) <;> rfl), trivial⟩, hS.F ht⟩) hS.2.2 dX0_isWellOrdered_90
noncomputable def dz_p14_4 : List (Nat × Instr × Nat) := [(0, (.iload_n 1, 1)), (1, (.tableswitch 59 0 2 #[27, 35, 43], 27)), (28, (.aload_n 0, 1)), (29, (.getfield 20, 3)), (32, (.getfield 142, 3)), (35, (.ireturn, 1)), (36, (.aload_n 0, 1)), (37, (.getfield 25, 3)), (40, (.getfield 142, 3)), (43, (.ireturn, 1)), (44, (.aload_n 0, 1)), (45, (.getfield 20, 3)), (48, (.getfield 145, 3)), (51, (.aload_n 0, 1)), (52, (.getfield 25, 3)), (55, (.getfield 145, 3)), (58, (.iadd, 1)), (59, (.ireturn, 1)), (60, (.aload_n 0, 1)), (61, (.getfield 117, 3)), (64, (.ireturn, 1))]
theorem dy_p14_4 : dz_ok cX2_counted dz_p14_4 = true := by decide +kernel
theorem dX2_counted_0 : decode cX2_counted 0 = .ok (.iload_n 1, 1) := dz_at (i := 0) dy_p14_4 rfl
theorem dX2_counted_1 : decode cX2_counted 1 = .ok (.tableswitch 59 0 2 #[27, 35, 43], 27) := dz_at (i := 1) dy_p14_4 rfl
theorem dX2_counted_28 : decode cX2_counted 28 = .ok (.aload_n 0, 1) := dz_at (i := 2) dy_p14_4 rfl
theorem dX2_counted_29 : decode cX2_counted 29 = .ok (.getfield 20, 3) := dz_at (i := 3) dy_p14_4 rfl
theorem dX2_counted_32 : decode cX2_counted 32 = .ok (.getfield 142, 3) := dz_at (i := 4) dy_p14_4 rfl
theorem dX2_counted_35 : decode cX2_counted 35 = .ok (.ireturn, 1) := dz_at (i := 5) dy_p14_4 rfl
theorem dX2_counted_36 : decode cX2_counted 36 = .ok (.aload_n 0, 1) := dz_at (i := 6) dy_p14_4 rfl
theorem dX2_counted_37 : decode cX2_counted 37 = .ok (.getfield 25, 3) := dz_at (i := 7) dy_p14_4 rfl
theorem dX2_counted_40 : decode cX2_counted 40 = .ok (.getfield 142, 3) := dz_at (i := 8) dy_p14_4 rfl
theorem dX2_counted_43 : decode cX2_counted 43 = .ok (.ireturn, 1) := dz_at (i := 9) dy_p14_4 rfl
theorem dX2_counted_44 : decode cX2_counted 44 = .ok (.aload_n 0, 1) := dz_at (i := 10) dy_p14_4 rfl
theorem dX2_counted_45 : decode cX2_counted 45 = .ok (.getfield 20, 3) := dz_at (i := 11) dy_p14_4 rfl
theorem dX2_counted_48 : decode cX2_counted 48 = .ok (.getfield 145, 3) := dz_at (i := 12) dy_p14_4 rfl
theorem dX2_counted_51 : decode cX2_counted 51 = .ok (.aload_n 0, 1) := dz_at (i := 13) dy_p14_4 rfl
theorem dX2_counted_52 : decode cX2_counted 52 = .ok (.getfield 25, 3) := dz_at (i := 14) dy_p14_4 rfl
theorem dX2_counted_55 : decode cX2_counted 55 = .ok (.getfield 145, 3) := dz_at (i := 15) dy_p14_4 rfl
theorem dX2_counted_58 : decode cX2_counted 58 = .ok (.iadd, 1) := dz_at (i := 16) dy_p14_4 rfl
theorem dX2_counted_59 : decode cX2_counted 59 = .ok (.ireturn, 1) := dz_at (i := 17) dy_p14_4 rfl
theorem dX2_counted_60 : decode cX2_counted 60 = .ok (.aload_n 0, 1) := dz_at (i := 18) dy_p14_4 rfl
theorem dX2_counted_61 : decode cX2_counted 61 = .ok (.getfield 117, 3) := dz_at (i := 19) dy_p14_4 rfl
theorem dX2_counted_64 : decode cX2_counted 64 = .ok (.ireturn, 1) := dz_at (i := 20) dy_p14_4 rfl
noncomputable def o_X2_counted (a1 : Int32) (r1 : Int32) (a2 : Int32) (r2 : Int32) (kn : Int32) (p0 : Int32) : Int32 :=
  if p0 = 0 then a1
  else if p0 = 1 then a2
  else if p0 = 2 then (r1 + r2)
  else kn
set_option maxHeartbeats 4000000 in
set_option maxRecDepth 100000 in
theorem k_X2_counted (l : Launch) (dC : Nat → ClassId) (dI : Nat → Nat → Nat) (cy : ClassId) (h0 : Nat) (h1 : Nat) (hw1 : Nat) (hc1 : Nat) (hb1 : Nat) (h2 : Nat) (hw2 : Nat) (hc2 : Nat) (hb2 : Nat) (a1 : Int32) (r1 : Int32) (f1 : Nat → Int64) (g1 : Nat → Int64) (a2 : Int32) (r2 : Int32) (f2 : Nat → Int64) (g2 : Nat → Int64) (kn : Int32) (sz : Nat) (N : Nat) (p0 : Int32) : Met l yX2_counted wsX2_counted ({ frames := 0, cells := 0, slots := 0, locals := 0 }) (va_Pc [.ref h0, .int p0] (xM (dC, dI) xCl [(h0, eE h1 h2 kn), (h1, eR hw1 hc1 hb1 a1 r1), (hw1, eW true), (hc1, eA cy f1), (hb1, eA cy g1), (h2, eR hw2 hc2 hb2 a2 r2), (hw2, eW false), (hc2, eA cy f2), (hb2, eA cy g2)] [(cy, .long)] sz N)) (va_Qi (fun (r : Int32) (_ : Unit) => r = (o_X2_counted a1 r1 a2 r2 kn p0)) (fun _ _ => True) (aN sz)) 0 0 (aN sz) := by
  refine Met.ofW (cc := cX2_counted) (maxL := 2) (ret := (some .int)) (by decide +kernel) rfl ?_
  intro p e s m args below meth c s₁ B hml hv
  obtain ⟨rfl, hsz, hP, hK, hD0, hN, hG⟩ := hv
  have hx := B.exec
  have hb := B.bytes
  have hr := B.returns
  have hts := atoms_spec (ws := wsX2_counted) B.pre
  have hown : s.vm.findClass RX2 = some m.cls := findClass_of_methodNamed B.named
  have hlocks := B.notSynchronized
  subst hsz
  have hA : ∀ q : Nat, s.heap.size ≤ q → aN s.heap.size q := fun _ h => h
  have hD := hD0
  have hAN : ∀ q, aN s.heap.size q → N ≤ q := fun q h => Nat.le_trans hN h
  have hS : va_S (aN s.heap.size) s.heap s.heap [] := va_S.rf
  have hP : va_P (dC, dI) xCl [(h0, eE h1 h2 kn), (h1, eR hw1 hc1 hb1 a1 r1), (hw1, eW true), (hc1, eA cy f1), (hb1, eA cy g1), (h2, eR hw2 hc2 hb2 a2 r2), (hw2, eW false), (hc2, eA cy f2), (hb2, eA cy g2)] s.heap := hP
  have hl := lv_entry ([.ref h0, .int p0]) (n := 2) (Nat.le_of_ble_eq_true rfl)
  rw [lg_entry_eq]
  generalize (lg_sl ([.ref h0, .int p0]) ++ List.replicate (2 - (lg_sl ([.ref h0, .int p0])).length) Slot.unset).toArray = ls at hl ⊢
  have hl : lv_has ls 2 [(0, .ref h0), (1, .int p0)] := hl
  refine lv_iload_n hx hb dX2_counted_0 rfl (lv_at hl 1 rfl) ?_
  by_cases c_1 : p0 = 0
  · refine lv_tableIn (tgt := 28) (off := 27) hx hb dX2_counted_1 (by rw [c_1]; decide) (by rw [c_1]; decide) (by rw [c_1]; rfl) (by decide +kernel) ?_
    refine lv_aload_n hx hb dX2_counted_28 rfl (lv_at hl 0 rfl) ?_
    refine va_get (D := (dC, dI)) (ci := 4) (v := .ref h1) (C := RX2) (T := TX2) (N := 3) hx hb hts (by decide +kernel) hown hK hP 0 rfl rfl 0 (by decide +kernel) (hts (.fieldLink RX2 20 "Edgefloats" "wide" "LEdgefloats$Row;") (by decide +kernel)) (fun _ h9 => h9) rfl dX2_counted_29 ?_
    refine va_getN (D := (dC, dI)) (ci := 2) (v := .int a1) (C := RX0) (T := TX0) (N := 5) hx hb hts (by decide +kernel) hown hK hP 1 rfl rfl 3 (by decide +kernel) (va_Nw.use rfl (hG.1 (.fieldLinkNest RX2 142 "Edgefloats$Row" "acts" "I" RX2) (List.mem_of_getElem? (i := 4) rfl))) (fun _ h9 => h9) rfl dX2_counted_32 ?_
    have he : o_X2_counted a1 r1 a2 r2 kn p0 = a1 := by (rw [o_X2_counted, if_pos c_1]) <;> rfl
    refine W.widen (k := 0) (n := 0) (by omega) (by omega) ?_
    exact W.iret (v := a1) hx hb hr (fun t ht hW => ⟨⟨_, (), rfl, (by (rw [he]) <;> rfl), trivial⟩, hS.F ht⟩) hS.2.2 dX2_counted_35
  · skip
    by_cases c_2 : p0 = 1
    · refine lv_tableIn (tgt := 36) (off := 35) hx hb dX2_counted_1 (by rw [c_2]; decide) (by rw [c_2]; decide) (by rw [c_2]; rfl) (by decide +kernel) ?_
      refine lv_aload_n hx hb dX2_counted_36 rfl (lv_at hl 0 rfl) ?_
      refine va_get (D := (dC, dI)) (ci := 4) (v := .ref h2) (C := RX2) (T := TX2) (N := 3) hx hb hts (by decide +kernel) hown hK hP 0 rfl rfl 1 (by decide +kernel) (hts (.fieldLink RX2 25 "Edgefloats" "narrow" "LEdgefloats$Row;") (by decide +kernel)) (fun _ h9 => h9) rfl dX2_counted_37 ?_
      refine va_getN (D := (dC, dI)) (ci := 2) (v := .int a2) (C := RX0) (T := TX0) (N := 5) hx hb hts (by decide +kernel) hown hK hP 5 rfl rfl 3 (by decide +kernel) (va_Nw.use rfl (hG.1 (.fieldLinkNest RX2 142 "Edgefloats$Row" "acts" "I" RX2) (List.mem_of_getElem? (i := 4) rfl))) (fun _ h9 => h9) rfl dX2_counted_40 ?_
      have he : o_X2_counted a1 r1 a2 r2 kn p0 = a2 := by (rw [o_X2_counted, if_neg c_1, if_pos c_2]) <;> rfl
      refine W.widen (k := 0) (n := 0) (by omega) (by omega) ?_
      exact W.iret (v := a2) hx hb hr (fun t ht hW => ⟨⟨_, (), rfl, (by (rw [he]) <;> rfl), trivial⟩, hS.F ht⟩) hS.2.2 dX2_counted_43
    · skip
      by_cases c_3 : p0 = 2
      · refine lv_tableIn (tgt := 44) (off := 43) hx hb dX2_counted_1 (by rw [c_3]; decide) (by rw [c_3]; decide) (by rw [c_3]; rfl) (by decide +kernel) ?_
        refine lv_aload_n hx hb dX2_counted_44 rfl (lv_at hl 0 rfl) ?_
        refine va_get (D := (dC, dI)) (ci := 4) (v := .ref h1) (C := RX2) (T := TX2) (N := 3) hx hb hts (by decide +kernel) hown hK hP 0 rfl rfl 0 (by decide +kernel) (hts (.fieldLink RX2 20 "Edgefloats" "wide" "LEdgefloats$Row;") (by decide +kernel)) (fun _ h9 => h9) rfl dX2_counted_45 ?_
        refine va_getN (D := (dC, dI)) (ci := 2) (v := .int r1) (C := RX0) (T := TX0) (N := 5) hx hb hts (by decide +kernel) hown hK hP 1 rfl rfl 4 (by decide +kernel) (va_Nw.use rfl (hG.1 (.fieldLinkNest RX2 145 "Edgefloats$Row" "refusals" "I" RX2) (List.mem_of_getElem? (i := 5) rfl))) (fun _ h9 => h9) rfl dX2_counted_48 ?_
        refine lv_aload_n hx hb dX2_counted_51 rfl (lv_at hl 0 rfl) ?_
        refine va_get (D := (dC, dI)) (ci := 4) (v := .ref h2) (C := RX2) (T := TX2) (N := 3) hx hb hts (by decide +kernel) hown hK hP 0 rfl rfl 1 (by decide +kernel) (hts (.fieldLink RX2 25 "Edgefloats" "narrow" "LEdgefloats$Row;") (by decide +kernel)) (fun _ h9 => h9) rfl dX2_counted_52 ?_
        refine va_getN (D := (dC, dI)) (ci := 2) (v := .int r2) (C := RX0) (T := TX0) (N := 5) hx hb hts (by decide +kernel) hown hK hP 5 rfl rfl 4 (by decide +kernel) (va_Nw.use rfl (hG.1 (.fieldLinkNest RX2 145 "Edgefloats$Row" "refusals" "I" RX2) (List.mem_of_getElem? (i := 5) rfl))) (fun _ h9 => h9) rfl dX2_counted_55 ?_
        refine lv_iadd hx hb dX2_counted_58 ?_
        have he : o_X2_counted a1 r1 a2 r2 kn p0 = (r1 + r2) := by (rw [o_X2_counted, if_neg c_1, if_neg c_2, if_pos c_3]) <;> rfl
        refine W.widen (k := 0) (n := 0) (by omega) (by omega) ?_
        exact W.iret (v := (r1 + r2)) hx hb hr (fun t ht hW => ⟨⟨_, (), rfl, (by (rw [he]) <;> rfl), trivial⟩, hS.F ht⟩) hS.2.2 dX2_counted_59
      · skip
        refine lv_tableOut (tgt := 60) hx hb dX2_counted_1 (by have n0 := lv_neT (a := 0) c_1 (by decide +kernel); have n1 := lv_neT (a := 1) c_2 (by decide +kernel); have n2 := lv_neT (a := 2) c_3 (by decide +kernel); omega) (by decide +kernel) ?_
        refine lv_aload_n hx hb dX2_counted_60 rfl (lv_at hl 0 rfl) ?_
        refine va_get (D := (dC, dI)) (ci := 4) (v := .int kn) (C := RX2) (T := TX2) (N := 3) hx hb hts (by decide +kernel) hown hK hP 0 rfl rfl 2 (by decide +kernel) (hts (.fieldLink RX2 117 "Edgefloats" "knocks" "I") (by decide +kernel)) (fun _ h9 => h9) rfl dX2_counted_61 ?_
        have he : o_X2_counted a1 r1 a2 r2 kn p0 = kn := by (rw [o_X2_counted, if_neg c_1, if_neg c_2, if_neg c_3]) <;> rfl
        refine W.widen (k := 0) (n := 0) (by omega) (by omega) ?_
        exact W.iret (v := kn) hx hb hr (fun t ht hW => ⟨⟨_, (), rfl, (by (rw [he]) <;> rfl), trivial⟩, hS.F ht⟩) hS.2.2 dX2_counted_64
theorem cl_X2_house_1 : ∀ w ∈ [.methodLink RX2 110 yX2_checkChoice, .static yX2_checkChoice, .initialized RX2, .code yX2_checkChoice cX2_checkChoice 2 none, .classLink RX2 155 "java/lang/IllegalArgumentException", .initialized "java/lang/IllegalArgumentException", .methodLink RX2 114 yX2_counted, .instanceMethod yX2_counted, .selects RX2 yX2_counted yX2_counted, .code yX2_counted cX2_counted 2 (some .int), .fieldLink RX2 20 "Edgefloats" "wide" "LEdgefloats$Row;", .fieldLink RX2 25 "Edgefloats" "narrow" "LEdgefloats$Row;", .fieldLink RX2 117 "Edgefloats" "knocks" "I"], w ∈ wsX2_house := fun _ h => (List.mem_cons_of_mem _ (List.mem_append_left _ (List.mem_append_left _ (List.mem_append_left _ h))))
theorem cl_X2_house_2 : ∀ w ∈ wsX20, w ∈ wsX2_house := fun _ h => (List.mem_cons_of_mem _ (List.mem_append_left _ (List.mem_append_left _ (List.mem_append_right _ h))))
theorem cl_X2_house_3 : ∀ w ∈ wsX00, w ∈ wsX2_house := fun _ h => (List.mem_cons_of_mem _ (List.mem_append_left _ (List.mem_append_right _ h)))
theorem cl_X2_house_4 : ∀ w ∈ (vx_atS RX2 159 "java/lang/IllegalArgumentException" ["java/lang/RuntimeException", "java/lang/Exception"]).filter goodWord, w ∈ wsX2_house := fun _ h => (List.mem_cons_of_mem _ (List.mem_append_right _ h))
set_option maxRecDepth 20000 in
theorem ggX2_house_X2_checkChoice : GoodIn wsX2_house wsX2_checkChoice := goodIn_sub (List.forall_mem_cons.mpr ⟨(cl_X2_house_1 _ (List.mem_of_getElem? (i := 3) rfl)), fun w h => (List.mem_append.mp h).elim ((List.forall_mem_cons.mpr ⟨(cl_X2_house_1 _ (List.mem_of_getElem? (i := 4) rfl)), List.forall_mem_cons.mpr ⟨(cl_X2_house_1 _ (List.mem_of_getElem? (i := 5) rfl)), fun _ h => absurd h List.not_mem_nil⟩⟩) w) ((cl_X2_house_4) w)⟩) (by decide +kernel)
set_option maxRecDepth 20000 in
theorem gX2_house_X2_checkChoice : GoodIn wsX2_house (va_wsS RX2 110 yX2_checkChoice wsX2_checkChoice) := goodIn_app (goodIn_sub (List.forall_mem_cons.mpr ⟨(cl_X2_house_1 _ (List.mem_of_getElem? (i := 0) rfl)), List.forall_mem_cons.mpr ⟨(cl_X2_house_1 _ (List.mem_of_getElem? (i := 1) rfl)), List.forall_mem_cons.mpr ⟨(cl_X2_house_1 _ (List.mem_of_getElem? (i := 2) rfl)), fun _ h => absurd h List.not_mem_nil⟩⟩⟩) (by decide +kernel)) ggX2_house_X2_checkChoice
set_option maxRecDepth 20000 in
theorem ggX2_house_X2_counted : GoodIn wsX2_house wsX2_counted := goodIn_sub (List.forall_mem_cons.mpr ⟨(cl_X2_house_1 _ (List.mem_of_getElem? (i := 9) rfl)), fun w h => (List.mem_append.mp h).elim ((fun w h => (List.mem_append.mp h).elim ((List.forall_mem_cons.mpr ⟨(cl_X2_house_1 _ (List.mem_of_getElem? (i := 10) rfl)), List.forall_mem_cons.mpr ⟨(cl_X2_house_1 _ (List.mem_of_getElem? (i := 11) rfl)), List.forall_mem_cons.mpr ⟨(cl_X2_house_1 _ (List.mem_of_getElem? (i := 12) rfl)), fun _ h => absurd h List.not_mem_nil⟩⟩⟩) w) ((cl_X2_house_2) w)) w) ((cl_X2_house_3) w)⟩) (by decide +kernel)
set_option maxRecDepth 20000 in
theorem gX2_house_X2_counted : GoodIn wsX2_house (wsV RX2 114 RX2 yX2_counted wsX2_counted) := goodIn_app (goodIn_sub (List.forall_mem_cons.mpr ⟨(cl_X2_house_1 _ (List.mem_of_getElem? (i := 6) rfl)), List.forall_mem_cons.mpr ⟨(cl_X2_house_1 _ (List.mem_of_getElem? (i := 7) rfl)), List.forall_mem_cons.mpr ⟨(cl_X2_house_1 _ (List.mem_of_getElem? (i := 8) rfl)), List.forall_mem_cons.mpr ⟨(cl_X2_house_1 _ (List.mem_of_getElem? (i := 2) rfl)), fun _ h => absurd h List.not_mem_nil⟩⟩⟩⟩) (by decide +kernel)) ggX2_house_X2_counted
noncomputable def dz_p14_5 : List (Nat × Instr × Nat) := [(0, (.iload_n 1, 1)), (1, (.iconst 3, 1)), (2, (.invokestatic 110, 3)), (5, (.aload_n 0, 1)), (6, (.iload_n 1, 1)), (7, (.invokevirtual 114, 3)), (10, (.ireturn, 1))]
theorem dy_p14_5 : dz_ok cX2_house dz_p14_5 = true := by decide +kernel
theorem dX2_house_0 : decode cX2_house 0 = .ok (.iload_n 1, 1) := dz_at (i := 0) dy_p14_5 rfl
theorem dX2_house_1 : decode cX2_house 1 = .ok (.iconst 3, 1) := dz_at (i := 1) dy_p14_5 rfl
theorem dX2_house_2 : decode cX2_house 2 = .ok (.invokestatic 110, 3) := dz_at (i := 2) dy_p14_5 rfl
theorem dX2_house_5 : decode cX2_house 5 = .ok (.aload_n 0, 1) := dz_at (i := 3) dy_p14_5 rfl
theorem dX2_house_6 : decode cX2_house 6 = .ok (.iload_n 1, 1) := dz_at (i := 4) dy_p14_5 rfl
theorem dX2_house_7 : decode cX2_house 7 = .ok (.invokevirtual 114, 3) := dz_at (i := 5) dy_p14_5 rfl
theorem dX2_house_10 : decode cX2_house 10 = .ok (.ireturn, 1) := dz_at (i := 6) dy_p14_5 rfl
noncomputable def o_X2_house (a1 : Int32) (r1 : Int32) (a2 : Int32) (r2 : Int32) (kn : Int32) (p0 : Int32) : Int32 × Int32 :=
  if (o_X2_checkChoice p0 3) = 0 then (0, (o_X2_counted a1 r1 a2 r2 kn p0))
  else ((o_X2_checkChoice p0 3), 0)
set_option maxHeartbeats 4000000 in
set_option maxRecDepth 100000 in
theorem k_X2_house (l : Launch) (hfl : l.flags = flags0) (dC : Nat → ClassId) (dI : Nat → Nat → Nat) (cy : ClassId) (h0 : Nat) (h1 : Nat) (hw1 : Nat) (hc1 : Nat) (hb1 : Nat) (h2 : Nat) (hw2 : Nat) (hc2 : Nat) (hb2 : Nat) (a1 : Int32) (r1 : Int32) (f1 : Nat → Int64) (g1 : Nat → Int64) (a2 : Int32) (r2 : Int32) (f2 : Nat → Int64) (g2 : Nat → Int64) (kn : Int32) (sz : Nat) (N : Nat) (p0 : Int32) : vx_Met l yX2_house wsX2_house ({ frames := 7, cells := 1, slots := 6, locals := 121 }) (va_Pc [.ref h0, .int p0] (xM (dC, dI) xCl [(h0, eE h1 h2 kn), (h1, eR hw1 hc1 hb1 a1 r1), (hw1, eW true), (hc1, eA cy f1), (hb1, eA cy g1), (h2, eR hw2 hc2 hb2 a2 r2), (hw2, eW false), (hc2, eA cy f2), (hb2, eA cy g2)] [(cy, .long)] sz N)) (va_Qi (fun (r : Int32) (_ : Unit) => (o_X2_house a1 r1 a2 r2 kn p0).1 = 0 ∧ r = (o_X2_house a1 r1 a2 r2 kn p0).2) (fun _ _ => True) (aN sz)) (vx_X (fun _ : Unit => ¬ (o_X2_house a1 r1 a2 r2 kn p0).1 = 0) (fun E _ _ => E = xE (o_X2_house a1 r1 a2 r2 kn p0).1) (aN sz)) 1 6 (aN sz) := by
  refine vx_ofW (cc := cX2_house) (maxL := 2) (ret := (some .int)) (by decide +kernel) rfl ?_
  intro p e s m args below meth c s₁ B hml hno hv
  obtain ⟨rfl, hsz, hP, hK, hD0, hN, hG⟩ := hv
  have hx := B.exec
  have hb := B.bytes
  have hr := B.returns
  have hts := atoms_spec (ws := wsX2_house) B.pre
  have hown : s.vm.findClass RX2 = some m.cls := findClass_of_methodNamed B.named
  have hlocks := B.notSynchronized
  subst hsz
  have hA : ∀ q : Nat, s.heap.size ≤ q → aN s.heap.size q := fun _ h => h
  have hD := hD0
  have hAN : ∀ q, aN s.heap.size q → N ≤ q := fun q h => Nat.le_trans hN h
  have hS : va_S (aN s.heap.size) s.heap s.heap [] := va_S.rf
  have hP : va_P (dC, dI) xCl [(h0, eE h1 h2 kn), (h1, eR hw1 hc1 hb1 a1 r1), (hw1, eW true), (hc1, eA cy f1), (hb1, eA cy g1), (h2, eR hw2 hc2 hb2 a2 r2), (hw2, eW false), (hc2, eA cy f2), (hb2, eA cy g2)] s.heap := hP
  have hl := lv_entry ([.ref h0, .int p0]) (n := 2) (Nat.le_of_ble_eq_true rfl)
  rw [lg_entry_eq]
  generalize (lg_sl ([.ref h0, .int p0]) ++ List.replicate (2 - (lg_sl ([.ref h0, .int p0])).length) Slot.unset).toArray = ls at hl ⊢
  have hl : lv_has ls 2 [(0, .ref h0), (1, .int p0)] := hl
  refine lv_iload_n hx hb dX2_house_0 rfl (lv_at hl 1 rfl) ?_
  refine lv_iconst (v := 3) hx hb dX2_house_1 (by decide +kernel) ?_
  have hPc := hP.sub (ws' := []) [] rfl
  have hDc := hD.sub (ws' := []) [] (by decide +kernel) rfl
  have hKc := hK.sub (tys' := []) [] rfl
  refine vx_callv (vx_runS (As := [.int p0, .int 3]) (rest := []) ⟨hx, hb, hml, hown, hts⟩ (k_X2_checkChoice l hfl dC dI s.heap.size N p0 3) (va_cwS 2 hts gX2_house_X2_checkChoice rfl rfl rfl (by decide +kernel) ⟨Nat.le_of_ble_eq_true rfl, Nat.le_of_ble_eq_true rfl⟩) (xM.preS hKc hPc hDc (fun _ h => h) (Nat.le_trans hN hS.1) (hG.kept hS hAN)) rfl rfl hl.1 rfl (lv_room (Nat.le_of_ble_eq_true rfl)) dX2_house_2 ⟨Nat.le_of_ble_eq_true rfl, Nat.le_of_ble_eq_true rfl⟩) hS xA_old (fun q h => hA q (Nat.le_trans hS.1 h)) xA_old (fun E ce q9 u9 t H locs ht hvm hpx hbx hz hk hS hce hcv hcl => ?_) (fun u t H locs ht hvm hw hB hz hk hS => ?_)
  · have c_2 : ¬ (o_X2_checkChoice p0 3) = 0 := hpx
    have hbe := hbx
    have hP := xP_keep hP hk
    have he : o_X2_house a1 r1 a2 r2 kn p0 = ((o_X2_checkChoice p0 3), 0) := by (rw [o_X2_house, if_neg c_2]) <;> rfl
    exact vx_out (fun x hx => (hno x hx).elim) hlocks hce hcv hcl (fun t ht hvm => ⟨(), by rw [he]; exact c_2, by rw [he]; exact hbe, hS.F ht⟩) hS.2.2 (by omega) (by omega)
  · skip
    have c_3 := hw
    have c_3 : (o_X2_checkChoice p0 3) = 0 := c_3
    have hP := xP_keep hP hk
    refine lv_aload_n hx hb dX2_house_5 rfl (lv_at hl 0 rfl) ?_
    refine lv_iload_n hx hb dX2_house_6 rfl (lv_at hl 1 rfl) ?_
    have hPc := hP.sub (ws' := [(h0, eE h1 h2 kn), (h1, eR hw1 hc1 hb1 a1 r1), (hw1, eW true), (hc1, eA cy f1), (hb1, eA cy g1), (h2, eR hw2 hc2 hb2 a2 r2), (hw2, eW false), (hc2, eA cy f2), (hb2, eA cy g2)]) [0, 1, 2, 3, 4, 5, 6, 7, 8] rfl
    have hDc := hD.sub (ws' := [(h0, eE h1 h2 kn), (h1, eR hw1 hc1 hb1 a1 r1), (hw1, eW true), (hc1, eA cy f1), (hb1, eA cy g1), (h2, eR hw2 hc2 hb2 a2 r2), (hw2, eW false), (hc2, eA cy f2), (hb2, eA cy g2)]) [0, 1, 2, 3, 4, 5, 6, 7, 8] (by decide +kernel) rfl
    have hKc := hK.sub (tys' := [(cy, .long)]) [0] rfl
    refine va_calli (va_runV (As := [.int p0]) (rest := []) ⟨hx, hb, hml, hown, hts⟩ (k_X2_counted l dC dI cy h0 h1 hw1 hc1 hb1 h2 hw2 hc2 hb2 a1 r1 f1 g1 a2 r2 f2 g2 kn H.size N p0) (cwV 1 hts gX2_house_X2_counted rfl rfl rfl (by decide +kernel) ⟨Nat.le_of_ble_eq_true rfl, Nat.le_of_ble_eq_true rfl⟩) (xM.preV hKc hPc hDc (fun _ h => h) (Nat.le_trans hN hS.1) (hG.kept hS hAN) (ci := 4) (q0 := 0) rfl rfl) rfl rfl hl.1 rfl (lv_room (Nat.le_of_ble_eq_true rfl)) dX2_house_7 ⟨Nat.le_of_ble_eq_true rfl, Nat.le_of_ble_eq_true rfl⟩) hS xA_old (fun q h => hA q (Nat.le_trans hS.1 h)) (fun r_4 u t H locs ht hvm hw hB hz hk hS => ?_)
    replace hw : r_4 = (o_X2_counted a1 r1 a2 r2 kn p0) := hw
    subst r_4
    have hP := xP_keep hP hk
    have he : o_X2_house a1 r1 a2 r2 kn p0 = (0, (o_X2_counted a1 r1 a2 r2 kn p0)) := by (rw [o_X2_house, if_pos c_3]) <;> rfl
    refine W.widen (k := 1) (n := 6) (by omega) (by omega) ?_
    refine vx_ret ?_
    exact W.iret (v := (o_X2_counted a1 r1 a2 r2 kn p0)) hx hb hr (fun t ht hW => ⟨⟨_, (), rfl, ⟨(by (rw [he]) <;> rfl), (by (rw [he]) <;> rfl)⟩, trivial⟩, hS.F ht⟩) hS.2.2 dX2_house_10
noncomputable def dz_p14_6 : List (Nat × Instr × Nat) := [(0, (.aload_n 0, 1)), (1, (.dup, 1)), (2, (.getfield 117, 3)), (5, (.iconst 1, 1)), (6, (.iadd, 1)), (7, (.putfield 117, 3)), (10, (.aload_n 0, 1)), (11, (.getfield 117, 3)), (14, (.ireturn, 1))]
theorem dy_p14_6 : dz_ok cX2_knock dz_p14_6 = true := by decide +kernel
theorem dX2_knock_0 : decode cX2_knock 0 = .ok (.aload_n 0, 1) := dz_at (i := 0) dy_p14_6 rfl
theorem dX2_knock_1 : decode cX2_knock 1 = .ok (.dup, 1) := dz_at (i := 1) dy_p14_6 rfl
theorem dX2_knock_2 : decode cX2_knock 2 = .ok (.getfield 117, 3) := dz_at (i := 2) dy_p14_6 rfl
theorem dX2_knock_5 : decode cX2_knock 5 = .ok (.iconst 1, 1) := dz_at (i := 3) dy_p14_6 rfl
theorem dX2_knock_6 : decode cX2_knock 6 = .ok (.iadd, 1) := dz_at (i := 4) dy_p14_6 rfl
theorem dX2_knock_7 : decode cX2_knock 7 = .ok (.putfield 117, 3) := dz_at (i := 5) dy_p14_6 rfl
theorem dX2_knock_10 : decode cX2_knock 10 = .ok (.aload_n 0, 1) := dz_at (i := 6) dy_p14_6 rfl
theorem dX2_knock_11 : decode cX2_knock 11 = .ok (.getfield 117, 3) := dz_at (i := 7) dy_p14_6 rfl
theorem dX2_knock_14 : decode cX2_knock 14 = .ok (.ireturn, 1) := dz_at (i := 8) dy_p14_6 rfl
noncomputable def o_X2_knock (kn : Int32)  : Int32 × Int32 :=
  ((kn + 1), (kn + 1))
set_option maxHeartbeats 4000000 in
set_option maxRecDepth 100000 in
theorem k_X2_knock (l : Launch) (dC : Nat → ClassId) (dI : Nat → Nat → Nat) (cy : ClassId) (h0 : Nat) (h1 : Nat) (hw1 : Nat) (hc1 : Nat) (hb1 : Nat) (h2 : Nat) (hw2 : Nat) (hc2 : Nat) (hb2 : Nat) (a1 : Int32) (r1 : Int32) (f1 : Nat → Int64) (g1 : Nat → Int64) (a2 : Int32) (r2 : Int32) (f2 : Nat → Int64) (g2 : Nat → Int64) (kn : Int32) (sz : Nat) (N : Nat)  : Met l yX2_knock wsX2_knock ({ frames := 0, cells := 0, slots := 0, locals := 0 }) (va_Pc [.ref h0] (xM (dC, dI) xCl [(h0, eE h1 h2 kn), (h1, eR hw1 hc1 hb1 a1 r1), (hw1, eW true), (hc1, eA cy f1), (hb1, eA cy g1), (h2, eR hw2 hc2 hb2 a2 r2), (hw2, eW false), (hc2, eA cy f2), (hb2, eA cy g2)] [(cy, .long)] sz N)) (va_Qi (fun (r : Int32) (_ : Unit) => r = (o_X2_knock kn).1) (fun _ t => xW (dC, dI) xCl [(h0, eE h1 h2 (o_X2_knock kn).2), (h1, eR hw1 hc1 hb1 a1 r1), (hw1, eW true), (hc1, eA cy f1), (hb1, eA cy g1), (h2, eR hw2 hc2 hb2 a2 r2), (hw2, eW false), (hc2, eA cy f2), (hb2, eA cy g2)] (va_A [(h0, eE h1 h2 kn), (h1, eR hw1 hc1 hb1 a1 r1), (hw1, eW true), (hc1, eA cy f1), (hb1, eA cy g1), (h2, eR hw2 hc2 hb2 a2 r2), (hw2, eW false), (hc2, eA cy f2), (hb2, eA cy g2)] sz) t) (va_A [(h0, eE h1 h2 kn), (h1, eR hw1 hc1 hb1 a1 r1), (hw1, eW true), (hc1, eA cy f1), (hb1, eA cy g1), (h2, eR hw2 hc2 hb2 a2 r2), (hw2, eW false), (hc2, eA cy f2), (hb2, eA cy g2)] sz)) 0 0 (va_A [(h0, eE h1 h2 kn), (h1, eR hw1 hc1 hb1 a1 r1), (hw1, eW true), (hc1, eA cy f1), (hb1, eA cy g1), (h2, eR hw2 hc2 hb2 a2 r2), (hw2, eW false), (hc2, eA cy f2), (hb2, eA cy g2)] sz) := by
  refine Met.ofW (cc := cX2_knock) (maxL := 1) (ret := (some .int)) (by decide +kernel) rfl ?_
  intro p e s m args below meth c s₁ B hml hv
  obtain ⟨rfl, hsz, hP, hK, hD0, hN, hG⟩ := hv
  have hx := B.exec
  have hb := B.bytes
  have hr := B.returns
  have hts := atoms_spec (ws := wsX2_knock) B.pre
  have hown : s.vm.findClass RX2 = some m.cls := findClass_of_methodNamed B.named
  have hlocks := B.notSynchronized
  subst hsz
  have hAN : ∀ q, va_A [(h0, eE h1 h2 kn), (h1, eR hw1 hc1 hb1 a1 r1), (hw1, eW true), (hc1, eA cy f1), (hb1, eA cy g1), (h2, eR hw2 hc2 hb2 a2 r2), (hw2, eW false), (hc2, eA cy f2), (hb2, eA cy g2)] s.heap.size q → N ≤ q := xA_N hD0 hN
  have hD := hD0.self (sz := s.heap.size)
  generalize hAe : va_A [(h0, eE h1 h2 kn), (h1, eR hw1 hc1 hb1 a1 r1), (hw1, eW true), (hc1, eA cy f1), (hb1, eA cy g1), (h2, eR hw2 hc2 hb2 a2 r2), (hw2, eW false), (hc2, eA cy f2), (hb2, eA cy g2)] s.heap.size = A at hD hAN ⊢
  have hA : ∀ q : Nat, s.heap.size ≤ q → A q := fun q h => by rw [← hAe]; exact Or.inr h
  have hS : va_S A s.heap s.heap [] := va_S.rf
  have hP : va_P (dC, dI) xCl [(h0, eE h1 h2 kn), (h1, eR hw1 hc1 hb1 a1 r1), (hw1, eW true), (hc1, eA cy f1), (hb1, eA cy g1), (h2, eR hw2 hc2 hb2 a2 r2), (hw2, eW false), (hc2, eA cy f2), (hb2, eA cy g2)] s.heap := hP
  have hl := lv_entry ([.ref h0]) (n := 1) (Nat.le_of_ble_eq_true rfl)
  rw [lg_entry_eq]
  generalize (lg_sl ([.ref h0]) ++ List.replicate (1 - (lg_sl ([.ref h0])).length) Slot.unset).toArray = ls at hl ⊢
  have hl : lv_has ls 1 [(0, .ref h0)] := hl
  refine lv_aload_n hx hb dX2_knock_0 rfl (lv_at hl 0 rfl) ?_
  refine lv_dup hx hb dX2_knock_1 rfl ?_
  refine va_get (D := (dC, dI)) (ci := 4) (v := .int kn) (C := RX2) (T := TX2) (N := 3) hx hb hts (by decide +kernel) hown hK hP 0 rfl rfl 2 (by decide +kernel) (hts (.fieldLink RX2 117 "Edgefloats" "knocks" "I") (by decide +kernel)) (fun _ h9 => h9) rfl dX2_knock_2 ?_
  refine lv_iconst (v := 1) hx hb dX2_knock_5 (by decide +kernel) ?_
  refine lv_iadd hx hb dX2_knock_6 ?_
  refine va_put (D := (dC, dI)) (ci := 4) (v := .int (kn + 1)) (ty := .int) (C := RX2) (T := TX2) (N := 3) hx hb hts (by decide +kernel) tyX2 tyX2_ok nmX2 hown hK hP hD hS 0 rfl rfl 2 (by decide +kernel) (hts (.fieldLink RX2 117 "Edgefloats" "knocks" "I") (by decide +kernel)) (fun _ h9 => h9) rfl (by decide +kernel) rfl rfl (Nat.le_of_ble_eq_true rfl) dX2_knock_7 (fun H locs hP hD hS => ?_)
  have hP : va_P (dC, dI) xCl [(h0, eE h1 h2 (kn + 1)), (h1, eR hw1 hc1 hb1 a1 r1), (hw1, eW true), (hc1, eA cy f1), (hb1, eA cy g1), (h2, eR hw2 hc2 hb2 a2 r2), (hw2, eW false), (hc2, eA cy f2), (hb2, eA cy g2)] H := hP
  have hD : va_D A [(h0, eE h1 h2 (kn + 1)), (h1, eR hw1 hc1 hb1 a1 r1), (hw1, eW true), (hc1, eA cy f1), (hb1, eA cy g1), (h2, eR hw2 hc2 hb2 a2 r2), (hw2, eW false), (hc2, eA cy f2), (hb2, eA cy g2)] := hD
  refine lv_aload_n hx hb dX2_knock_10 rfl (lv_at hl 0 rfl) ?_
  refine va_get (D := (dC, dI)) (ci := 4) (v := .int (kn + 1)) (C := RX2) (T := TX2) (N := 3) hx hb hts (by decide +kernel) hown hK hP 0 rfl rfl 2 (by decide +kernel) (hts (.fieldLink RX2 117 "Edgefloats" "knocks" "I") (by decide +kernel)) (fun _ h9 => h9) rfl dX2_knock_11 ?_
  have he : o_X2_knock kn = ((kn + 1), (kn + 1)) := by (rw [o_X2_knock]) <;> rfl
  refine W.widen (k := 0) (n := 0) (by omega) (by omega) ?_
  exact W.iret (v := (kn + 1)) hx hb hr (fun t ht hW => ⟨⟨_, (), rfl, (by (rw [he]) <;> rfl), (by rw [he]; exact ⟨by rw [ht]; exact hP, hD⟩)⟩, hS.F ht⟩) hS.2.2 dX2_knock_14
noncomputable def dz_p14_7 : List (Nat × Instr × Nat) := [(0, (.lload_n 0, 1)), (1, (.ldc2_w 160, 3)), (4, (.lmul, 1)), (5, (.lload_n 2, 1)), (6, (.ladd, 1)), (7, (.lreturn, 1))]
theorem dy_p14_7 : dz_ok cX2_mixed dz_p14_7 = true := by decide +kernel
theorem dX2_mixed_0 : decode cX2_mixed 0 = .ok (.lload_n 0, 1) := dz_at (i := 0) dy_p14_7 rfl
theorem dX2_mixed_1 : decode cX2_mixed 1 = .ok (.ldc2_w 160, 3) := dz_at (i := 1) dy_p14_7 rfl
theorem dX2_mixed_4 : decode cX2_mixed 4 = .ok (.lmul, 1) := dz_at (i := 2) dy_p14_7 rfl
theorem dX2_mixed_5 : decode cX2_mixed 5 = .ok (.lload_n 2, 1) := dz_at (i := 3) dy_p14_7 rfl
theorem dX2_mixed_6 : decode cX2_mixed 6 = .ok (.ladd, 1) := dz_at (i := 4) dy_p14_7 rfl
theorem dX2_mixed_7 : decode cX2_mixed 7 = .ok (.lreturn, 1) := dz_at (i := 5) dy_p14_7 rfl
noncomputable def o_X2_mixed  (p0 : Int64) (p1 : Int64) : Int64 :=
  ((p0 * 31) + p1)
set_option maxHeartbeats 4000000 in
set_option maxRecDepth 100000 in
theorem k_X2_mixed (l : Launch) (dC : Nat → ClassId) (dI : Nat → Nat → Nat)  (sz : Nat) (p0 : Int64) (p1 : Int64) : Met l yX2_mixed wsX2_mixed ({ frames := 0, cells := 0, slots := 0, locals := 0 }) (va_Pc [.long p0, .long p1] (xB (dC, dI) xCl [] [] sz)) (va_Ql (fun (r : Int64) (_ : Unit) => r = (o_X2_mixed p0 p1)) (fun _ _ => True) (aN sz)) 0 0 (aN sz) := by
  refine Met.ofW (cc := cX2_mixed) (maxL := 4) (ret := (some .long)) (by decide +kernel) rfl ?_
  intro p e s m args below meth c s₁ B hml hv
  obtain ⟨rfl, hsz, hP, hK⟩ := hv
  have hx := B.exec
  have hb := B.bytes
  have hr := B.returns
  have hts := atoms_spec (ws := wsX2_mixed) B.pre
  have hown : s.vm.findClass RX2 = some m.cls := findClass_of_methodNamed B.named
  have hlocks := B.notSynchronized
  subst hsz
  have hA : ∀ q : Nat, s.heap.size ≤ q → aN s.heap.size q := fun _ h => h
  have hS : va_S (aN s.heap.size) s.heap s.heap [] := va_S.rf
  have hP : va_P (dC, dI) xCl [] s.heap := hP
  have hl := lv_entry ([.long p0, .long p1]) (n := 4) (Nat.le_of_ble_eq_true rfl)
  rw [lg_entry_eq]
  generalize (lg_sl ([.long p0, .long p1]) ++ List.replicate (4 - (lg_sl ([.long p0, .long p1])).length) Slot.unset).toArray = ls at hl ⊢
  have hl : lv_has ls 4 [(0, .long p0), (2, .long p1)] := hl
  refine lv_lload_n hx hb dX2_mixed_0 rfl (lv_at hl 0 rfl) ?_
  refine lv_ldc2 (own := RX2) (index := 160) (v := 31) hx hb hown (hts (.constantLong RX2 160 (31)) (by decide +kernel)) dX2_mixed_1 ?_
  refine lv_lmul hx hb dX2_mixed_4 ?_
  refine lv_lload_n hx hb dX2_mixed_5 rfl (lv_at hl 1 rfl) ?_
  refine lv_ladd hx hb dX2_mixed_6 ?_
  have he : o_X2_mixed p0 p1 = ((p0 * 31) + p1) := by (rw [o_X2_mixed]) <;> rfl
  refine W.widen (k := 0) (n := 0) (by omega) (by omega) ?_
  exact W.lret (v := ((p0 * 31) + p1)) hx hb hr (fun t ht hW => ⟨⟨_, (), rfl, (by (rw [he]) <;> rfl), trivial⟩, hS.F ht⟩) hS.2.2 dX2_mixed_7
theorem cl_X2_mixedAnswers_1 : ∀ w ∈ wsX2_mixedAnswers_r1, w ∈ wsX2_mixedAnswers := fun _ h => (List.mem_cons_of_mem _ (List.mem_append_left _ (List.mem_append_left _ (List.mem_append_left _ (List.mem_append_left _ (List.mem_append_left _ h))))))
theorem cl_X2_mixedAnswers_2 : ∀ w ∈ wsX2_mixedAnswers_r2, w ∈ wsX2_mixedAnswers := fun _ h => (List.mem_cons_of_mem _ (List.mem_append_left _ (List.mem_append_left _ (List.mem_append_left _ (List.mem_append_left _ (List.mem_append_right _ (List.mem_append_left _ h)))))))
theorem cl_X2_mixedAnswers_3 : ∀ w ∈ wsX2_mixedAnswers_r3, w ∈ wsX2_mixedAnswers := fun _ h => (List.mem_cons_of_mem _ (List.mem_append_left _ (List.mem_append_left _ (List.mem_append_left _ (List.mem_append_left _ (List.mem_append_right _ (List.mem_append_right _ h)))))))
theorem cl_X2_mixedAnswers_4 : ∀ w ∈ wsX00, w ∈ wsX2_mixedAnswers := fun _ h => (List.mem_cons_of_mem _ (List.mem_append_left _ (List.mem_append_left _ (List.mem_append_left _ (List.mem_append_right _ h)))))
theorem cl_X2_mixedAnswers_5 : ∀ w ∈ wsX10, w ∈ wsX2_mixedAnswers := fun _ h => (List.mem_cons_of_mem _ (List.mem_append_left _ (List.mem_append_left _ (List.mem_append_right _ h))))
theorem cl_X2_mixedAnswers_6 : ∀ w ∈ (vx_atS RX2 152 "java/lang/IndexOutOfBoundsException" ["java/lang/RuntimeException", "java/lang/Exception"]).filter goodWord, w ∈ wsX2_mixedAnswers := fun _ h => (List.mem_cons_of_mem _ (List.mem_append_left _ (List.mem_append_right _ h)))
theorem cl_X2_mixedAnswers_7 : ∀ w ∈ (vx_atS RX2 159 "java/lang/IllegalArgumentException" ["java/lang/RuntimeException", "java/lang/Exception"]).filter goodWord, w ∈ wsX2_mixedAnswers := fun _ h => (List.mem_cons_of_mem _ (List.mem_append_right _ h))
set_option maxRecDepth 20000 in
theorem ggX2_mixedAnswers_X0_hash : GoodIn wsX2_mixedAnswers wsX0_hash := goodIn_sub (List.forall_mem_cons.mpr ⟨(cl_X2_mixedAnswers_1 _ (List.mem_of_getElem? (i := 4) rfl)), fun w h => (List.mem_append.mp h).elim ((fun w h => (List.mem_append.mp h).elim ((fun w h => (List.mem_append.mp h).elim ((List.forall_mem_cons.mpr ⟨(cl_X2_mixedAnswers_1 _ (List.mem_of_getElem? (i := 5) rfl)), List.forall_mem_cons.mpr ⟨(cl_X2_mixedAnswers_1 _ (List.mem_of_getElem? (i := 6) rfl)), List.forall_mem_cons.mpr ⟨(cl_X2_mixedAnswers_1 _ (List.mem_of_getElem? (i := 7) rfl)), List.forall_mem_cons.mpr ⟨(cl_X2_mixedAnswers_1 _ (List.mem_of_getElem? (i := 8) rfl)), List.forall_mem_cons.mpr ⟨(cl_X2_mixedAnswers_1 _ (List.mem_of_getElem? (i := 9) rfl)), List.forall_mem_cons.mpr ⟨(cl_X2_mixedAnswers_1 _ (List.mem_of_getElem? (i := 10) rfl)), List.forall_mem_cons.mpr ⟨(cl_X2_mixedAnswers_1 _ (List.mem_of_getElem? (i := 11) rfl)), List.forall_mem_cons.mpr ⟨(cl_X2_mixedAnswers_1 _ (List.mem_of_getElem? (i := 12) rfl)), List.forall_mem_cons.mpr ⟨(cl_X2_mixedAnswers_1 _ (List.mem_of_getElem? (i := 13) rfl)), List.forall_mem_cons.mpr ⟨(cl_X2_mixedAnswers_1 _ (List.mem_of_getElem? (i := 14) rfl)), List.forall_mem_cons.mpr ⟨(cl_X2_mixedAnswers_1 _ (List.mem_of_getElem? (i := 15) rfl)), List.forall_mem_cons.mpr ⟨(cl_X2_mixedAnswers_1 _ (List.mem_of_getElem? (i := 16) rfl)), List.forall_mem_cons.mpr ⟨(cl_X2_mixedAnswers_1 _ (List.mem_of_getElem? (i := 17) rfl)), List.forall_mem_cons.mpr ⟨(cl_X2_mixedAnswers_1 _ (List.mem_of_getElem? (i := 18) rfl)), List.forall_mem_cons.mpr ⟨(cl_X2_mixedAnswers_1 _ (List.mem_of_getElem? (i := 19) rfl)), List.forall_mem_cons.mpr ⟨(cl_X2_mixedAnswers_1 _ (List.mem_of_getElem? (i := 20) rfl)), fun _ h => absurd h List.not_mem_nil⟩⟩⟩⟩⟩⟩⟩⟩⟩⟩⟩⟩⟩⟩⟩⟩) w) ((cl_X2_mixedAnswers_4) w)) w) ((cl_X2_mixedAnswers_6) w)) w) ((cl_X2_mixedAnswers_7) w)⟩) (by decide +kernel)
set_option maxRecDepth 20000 in
theorem gX2_mixedAnswers_X0_hash : GoodIn wsX2_mixedAnswers (wsV RX2 93 RX0 yX0_hash wsX0_hash) := goodIn_app (goodIn_sub (List.forall_mem_cons.mpr ⟨(cl_X2_mixedAnswers_1 _ (List.mem_of_getElem? (i := 0) rfl)), List.forall_mem_cons.mpr ⟨(cl_X2_mixedAnswers_1 _ (List.mem_of_getElem? (i := 1) rfl)), List.forall_mem_cons.mpr ⟨(cl_X2_mixedAnswers_1 _ (List.mem_of_getElem? (i := 2) rfl)), List.forall_mem_cons.mpr ⟨(cl_X2_mixedAnswers_1 _ (List.mem_of_getElem? (i := 3) rfl)), fun _ h => absurd h List.not_mem_nil⟩⟩⟩⟩) (by decide +kernel)) ggX2_mixedAnswers_X0_hash
set_option maxRecDepth 20000 in
theorem ggX2_mixedAnswers_X2_mixed : GoodIn wsX2_mixedAnswers wsX2_mixed := goodIn_sub (List.forall_mem_cons.mpr ⟨(cl_X2_mixedAnswers_1 _ (List.mem_of_getElem? (i := 23) rfl)), List.forall_mem_cons.mpr ⟨(cl_X2_mixedAnswers_2 _ (List.mem_of_getElem? (i := 0) rfl)), fun _ h => absurd h List.not_mem_nil⟩⟩) (by decide +kernel)
set_option maxRecDepth 20000 in
theorem gX2_mixedAnswers_X2_mixed : GoodIn wsX2_mixedAnswers (va_wsS RX2 127 yX2_mixed wsX2_mixed) := goodIn_app (goodIn_sub (List.forall_mem_cons.mpr ⟨(cl_X2_mixedAnswers_1 _ (List.mem_of_getElem? (i := 21) rfl)), List.forall_mem_cons.mpr ⟨(cl_X2_mixedAnswers_1 _ (List.mem_of_getElem? (i := 22) rfl)), List.forall_mem_cons.mpr ⟨(cl_X2_mixedAnswers_1 _ (List.mem_of_getElem? (i := 8) rfl)), fun _ h => absurd h List.not_mem_nil⟩⟩⟩) (by decide +kernel)) ggX2_mixedAnswers_X2_mixed
set_option maxRecDepth 20000 in
theorem ggX2_mixedAnswers_X0_quarters : GoodIn wsX2_mixedAnswers wsX0_quarters := goodIn_sub (List.forall_mem_cons.mpr ⟨(cl_X2_mixedAnswers_2 _ (List.mem_of_getElem? (i := 4) rfl)), fun w h => (List.mem_append.mp h).elim ((fun w h => (List.mem_append.mp h).elim ((fun w h => (List.mem_append.mp h).elim ((fun w h => (List.mem_append.mp h).elim ((List.forall_mem_cons.mpr ⟨(cl_X2_mixedAnswers_1 _ (List.mem_of_getElem? (i := 5) rfl)), List.forall_mem_cons.mpr ⟨(cl_X2_mixedAnswers_1 _ (List.mem_of_getElem? (i := 6) rfl)), List.forall_mem_cons.mpr ⟨(cl_X2_mixedAnswers_1 _ (List.mem_of_getElem? (i := 7) rfl)), List.forall_mem_cons.mpr ⟨(cl_X2_mixedAnswers_1 _ (List.mem_of_getElem? (i := 8) rfl)), List.forall_mem_cons.mpr ⟨(cl_X2_mixedAnswers_1 _ (List.mem_of_getElem? (i := 9) rfl)), List.forall_mem_cons.mpr ⟨(cl_X2_mixedAnswers_1 _ (List.mem_of_getElem? (i := 10) rfl)), List.forall_mem_cons.mpr ⟨(cl_X2_mixedAnswers_1 _ (List.mem_of_getElem? (i := 11) rfl)), List.forall_mem_cons.mpr ⟨(cl_X2_mixedAnswers_2 _ (List.mem_of_getElem? (i := 5) rfl)), List.forall_mem_cons.mpr ⟨(cl_X2_mixedAnswers_2 _ (List.mem_of_getElem? (i := 6) rfl)), List.forall_mem_cons.mpr ⟨(cl_X2_mixedAnswers_2 _ (List.mem_of_getElem? (i := 7) rfl)), List.forall_mem_cons.mpr ⟨(cl_X2_mixedAnswers_1 _ (List.mem_of_getElem? (i := 19) rfl)), List.forall_mem_cons.mpr ⟨(cl_X2_mixedAnswers_2 _ (List.mem_of_getElem? (i := 8) rfl)), List.forall_mem_cons.mpr ⟨(cl_X2_mixedAnswers_2 _ (List.mem_of_getElem? (i := 9) rfl)), List.forall_mem_cons.mpr ⟨(cl_X2_mixedAnswers_2 _ (List.mem_of_getElem? (i := 10) rfl)), List.forall_mem_cons.mpr ⟨(cl_X2_mixedAnswers_2 _ (List.mem_of_getElem? (i := 11) rfl)), List.forall_mem_cons.mpr ⟨(cl_X2_mixedAnswers_2 _ (List.mem_of_getElem? (i := 12) rfl)), List.forall_mem_cons.mpr ⟨(cl_X2_mixedAnswers_2 _ (List.mem_of_getElem? (i := 13) rfl)), List.forall_mem_cons.mpr ⟨(cl_X2_mixedAnswers_2 _ (List.mem_of_getElem? (i := 14) rfl)), List.forall_mem_cons.mpr ⟨(cl_X2_mixedAnswers_2 _ (List.mem_of_getElem? (i := 15) rfl)), List.forall_mem_cons.mpr ⟨(cl_X2_mixedAnswers_2 _ (List.mem_of_getElem? (i := 16) rfl)), List.forall_mem_cons.mpr ⟨(cl_X2_mixedAnswers_2 _ (List.mem_of_getElem? (i := 17) rfl)), List.forall_mem_cons.mpr ⟨(cl_X2_mixedAnswers_2 _ (List.mem_of_getElem? (i := 18) rfl)), List.forall_mem_cons.mpr ⟨(cl_X2_mixedAnswers_2 _ (List.mem_of_getElem? (i := 19) rfl)), List.forall_mem_cons.mpr ⟨(cl_X2_mixedAnswers_2 _ (List.mem_of_getElem? (i := 20) rfl)), fun _ h => absurd h List.not_mem_nil⟩⟩⟩⟩⟩⟩⟩⟩⟩⟩⟩⟩⟩⟩⟩⟩⟩⟩⟩⟩⟩⟩⟩⟩) w) ((List.forall_mem_cons.mpr ⟨(cl_X2_mixedAnswers_2 _ (List.mem_of_getElem? (i := 21) rfl)), List.forall_mem_cons.mpr ⟨(cl_X2_mixedAnswers_2 _ (List.mem_of_getElem? (i := 22) rfl)), List.forall_mem_cons.mpr ⟨(cl_X2_mixedAnswers_2 _ (List.mem_of_getElem? (i := 23) rfl)), List.forall_mem_cons.mpr ⟨(cl_X2_mixedAnswers_3 _ (List.mem_of_getElem? (i := 0) rfl)), List.forall_mem_cons.mpr ⟨(cl_X2_mixedAnswers_3 _ (List.mem_of_getElem? (i := 1) rfl)), List.forall_mem_cons.mpr ⟨(cl_X2_mixedAnswers_3 _ (List.mem_of_getElem? (i := 2) rfl)), List.forall_mem_cons.mpr ⟨(cl_X2_mixedAnswers_3 _ (List.mem_of_getElem? (i := 3) rfl)), List.forall_mem_cons.mpr ⟨(cl_X2_mixedAnswers_3 _ (List.mem_of_getElem? (i := 4) rfl)), List.forall_mem_cons.mpr ⟨(cl_X2_mixedAnswers_3 _ (List.mem_of_getElem? (i := 5) rfl)), List.forall_mem_cons.mpr ⟨(cl_X2_mixedAnswers_3 _ (List.mem_of_getElem? (i := 6) rfl)), List.forall_mem_cons.mpr ⟨(cl_X2_mixedAnswers_3 _ (List.mem_of_getElem? (i := 7) rfl)), List.forall_mem_cons.mpr ⟨(cl_X2_mixedAnswers_3 _ (List.mem_of_getElem? (i := 8) rfl)), List.forall_mem_cons.mpr ⟨(cl_X2_mixedAnswers_3 _ (List.mem_of_getElem? (i := 9) rfl)), List.forall_mem_cons.mpr ⟨(cl_X2_mixedAnswers_3 _ (List.mem_of_getElem? (i := 10) rfl)), List.forall_mem_cons.mpr ⟨(cl_X2_mixedAnswers_3 _ (List.mem_of_getElem? (i := 11) rfl)), List.forall_mem_cons.mpr ⟨(cl_X2_mixedAnswers_3 _ (List.mem_of_getElem? (i := 12) rfl)), fun _ h => absurd h List.not_mem_nil⟩⟩⟩⟩⟩⟩⟩⟩⟩⟩⟩⟩⟩⟩⟩⟩) w)) w) ((cl_X2_mixedAnswers_4) w)) w) ((cl_X2_mixedAnswers_5) w)) w) ((cl_X2_mixedAnswers_6) w)⟩) (by decide +kernel)
set_option maxRecDepth 20000 in
theorem gX2_mixedAnswers_X0_quarters : GoodIn wsX2_mixedAnswers (wsV RX2 99 RX0 yX0_quarters wsX0_quarters) := goodIn_app (goodIn_sub (List.forall_mem_cons.mpr ⟨(cl_X2_mixedAnswers_2 _ (List.mem_of_getElem? (i := 1) rfl)), List.forall_mem_cons.mpr ⟨(cl_X2_mixedAnswers_2 _ (List.mem_of_getElem? (i := 2) rfl)), List.forall_mem_cons.mpr ⟨(cl_X2_mixedAnswers_2 _ (List.mem_of_getElem? (i := 3) rfl)), List.forall_mem_cons.mpr ⟨(cl_X2_mixedAnswers_1 _ (List.mem_of_getElem? (i := 3) rfl)), fun _ h => absurd h List.not_mem_nil⟩⟩⟩⟩) (by decide +kernel)) ggX2_mixedAnswers_X0_quarters
set_option maxRecDepth 20000 in
theorem ggX2_mixedAnswers_X0_find : GoodIn wsX2_mixedAnswers wsX0_find := goodIn_sub (List.forall_mem_cons.mpr ⟨(cl_X2_mixedAnswers_3 _ (List.mem_of_getElem? (i := 16) rfl)), fun w h => (List.mem_append.mp h).elim ((fun w h => (List.mem_append.mp h).elim ((List.forall_mem_cons.mpr ⟨(cl_X2_mixedAnswers_1 _ (List.mem_of_getElem? (i := 6) rfl)), List.forall_mem_cons.mpr ⟨(cl_X2_mixedAnswers_1 _ (List.mem_of_getElem? (i := 7) rfl)), List.forall_mem_cons.mpr ⟨(cl_X2_mixedAnswers_1 _ (List.mem_of_getElem? (i := 8) rfl)), List.forall_mem_cons.mpr ⟨(cl_X2_mixedAnswers_1 _ (List.mem_of_getElem? (i := 9) rfl)), List.forall_mem_cons.mpr ⟨(cl_X2_mixedAnswers_1 _ (List.mem_of_getElem? (i := 10) rfl)), List.forall_mem_cons.mpr ⟨(cl_X2_mixedAnswers_1 _ (List.mem_of_getElem? (i := 11) rfl)), fun _ h => absurd h List.not_mem_nil⟩⟩⟩⟩⟩⟩) w) ((cl_X2_mixedAnswers_4) w)) w) ((cl_X2_mixedAnswers_6) w)⟩) (by decide +kernel)
set_option maxRecDepth 20000 in
theorem gX2_mixedAnswers_X0_find : GoodIn wsX2_mixedAnswers (wsV RX2 102 RX0 yX0_find wsX0_find) := goodIn_app (goodIn_sub (List.forall_mem_cons.mpr ⟨(cl_X2_mixedAnswers_3 _ (List.mem_of_getElem? (i := 13) rfl)), List.forall_mem_cons.mpr ⟨(cl_X2_mixedAnswers_3 _ (List.mem_of_getElem? (i := 14) rfl)), List.forall_mem_cons.mpr ⟨(cl_X2_mixedAnswers_3 _ (List.mem_of_getElem? (i := 15) rfl)), List.forall_mem_cons.mpr ⟨(cl_X2_mixedAnswers_1 _ (List.mem_of_getElem? (i := 3) rfl)), fun _ h => absurd h List.not_mem_nil⟩⟩⟩⟩) (by decide +kernel)) ggX2_mixedAnswers_X0_find
noncomputable def dz_p14_8 : List (Nat × Instr × Nat) := [(0, (.lload_n 0, 1)), (1, (.aload_n 2, 1)), (2, (.iload_n 3, 1)), (3, (.iconst 0, 1)), (4, (.invokevirtual 93, 3)), (7, (.i2l, 1)), (8, (.invokestatic 127, 3)), (11, (.lstore 4, 2)), (13, (.lload 4, 2)), (15, (.aload_n 2, 1)), (16, (.iload_n 3, 1)), (17, (.invokevirtual 99, 3)), (20, (.i2l, 1)), (21, (.invokestatic 127, 3)), (24, (.lstore 4, 2)), (26, (.lload 4, 2)), (28, (.aload_n 2, 1)), (29, (.iload_n 3, 1)), (30, (.iconst 0, 1)), (31, (.invokevirtual 102, 3)), (34, (.i2l, 1)), (35, (.invokestatic 127, 3)), (38, (.lstore 4, 2)), (40, (.lload 4, 2)), (42, (.aload_n 2, 1)), (43, (.iload_n 3, 1)), (44, (.iconst 1, 1)), (45, (.invokevirtual 102, 3)), (48, (.i2l, 1)), (49, (.invokestatic 127, 3)), (52, (.lreturn, 1))]
theorem dy_p14_8 : dz_ok cX2_mixedAnswers dz_p14_8 = true := by decide +kernel
theorem dX2_mixedAnswers_0 : decode cX2_mixedAnswers 0 = .ok (.lload_n 0, 1) := dz_at (i := 0) dy_p14_8 rfl
theorem dX2_mixedAnswers_1 : decode cX2_mixedAnswers 1 = .ok (.aload_n 2, 1) := dz_at (i := 1) dy_p14_8 rfl
theorem dX2_mixedAnswers_2 : decode cX2_mixedAnswers 2 = .ok (.iload_n 3, 1) := dz_at (i := 2) dy_p14_8 rfl
theorem dX2_mixedAnswers_3 : decode cX2_mixedAnswers 3 = .ok (.iconst 0, 1) := dz_at (i := 3) dy_p14_8 rfl
theorem dX2_mixedAnswers_4 : decode cX2_mixedAnswers 4 = .ok (.invokevirtual 93, 3) := dz_at (i := 4) dy_p14_8 rfl
theorem dX2_mixedAnswers_7 : decode cX2_mixedAnswers 7 = .ok (.i2l, 1) := dz_at (i := 5) dy_p14_8 rfl
theorem dX2_mixedAnswers_8 : decode cX2_mixedAnswers 8 = .ok (.invokestatic 127, 3) := dz_at (i := 6) dy_p14_8 rfl
theorem dX2_mixedAnswers_11 : decode cX2_mixedAnswers 11 = .ok (.lstore 4, 2) := dz_at (i := 7) dy_p14_8 rfl
theorem dX2_mixedAnswers_13 : decode cX2_mixedAnswers 13 = .ok (.lload 4, 2) := dz_at (i := 8) dy_p14_8 rfl
theorem dX2_mixedAnswers_15 : decode cX2_mixedAnswers 15 = .ok (.aload_n 2, 1) := dz_at (i := 9) dy_p14_8 rfl
theorem dX2_mixedAnswers_16 : decode cX2_mixedAnswers 16 = .ok (.iload_n 3, 1) := dz_at (i := 10) dy_p14_8 rfl
theorem dX2_mixedAnswers_17 : decode cX2_mixedAnswers 17 = .ok (.invokevirtual 99, 3) := dz_at (i := 11) dy_p14_8 rfl
theorem dX2_mixedAnswers_20 : decode cX2_mixedAnswers 20 = .ok (.i2l, 1) := dz_at (i := 12) dy_p14_8 rfl
theorem dX2_mixedAnswers_21 : decode cX2_mixedAnswers 21 = .ok (.invokestatic 127, 3) := dz_at (i := 13) dy_p14_8 rfl
theorem dX2_mixedAnswers_24 : decode cX2_mixedAnswers 24 = .ok (.lstore 4, 2) := dz_at (i := 14) dy_p14_8 rfl
theorem dX2_mixedAnswers_26 : decode cX2_mixedAnswers 26 = .ok (.lload 4, 2) := dz_at (i := 15) dy_p14_8 rfl
theorem dX2_mixedAnswers_28 : decode cX2_mixedAnswers 28 = .ok (.aload_n 2, 1) := dz_at (i := 16) dy_p14_8 rfl
theorem dX2_mixedAnswers_29 : decode cX2_mixedAnswers 29 = .ok (.iload_n 3, 1) := dz_at (i := 17) dy_p14_8 rfl
theorem dX2_mixedAnswers_30 : decode cX2_mixedAnswers 30 = .ok (.iconst 0, 1) := dz_at (i := 18) dy_p14_8 rfl
theorem dX2_mixedAnswers_31 : decode cX2_mixedAnswers 31 = .ok (.invokevirtual 102, 3) := dz_at (i := 19) dy_p14_8 rfl
theorem dX2_mixedAnswers_34 : decode cX2_mixedAnswers 34 = .ok (.i2l, 1) := dz_at (i := 20) dy_p14_8 rfl
theorem dX2_mixedAnswers_35 : decode cX2_mixedAnswers 35 = .ok (.invokestatic 127, 3) := dz_at (i := 21) dy_p14_8 rfl
theorem dX2_mixedAnswers_38 : decode cX2_mixedAnswers 38 = .ok (.lstore 4, 2) := dz_at (i := 22) dy_p14_8 rfl
theorem dX2_mixedAnswers_40 : decode cX2_mixedAnswers 40 = .ok (.lload 4, 2) := dz_at (i := 23) dy_p14_8 rfl
theorem dX2_mixedAnswers_42 : decode cX2_mixedAnswers 42 = .ok (.aload_n 2, 1) := dz_at (i := 24) dy_p14_8 rfl
theorem dX2_mixedAnswers_43 : decode cX2_mixedAnswers 43 = .ok (.iload_n 3, 1) := dz_at (i := 25) dy_p14_8 rfl
theorem dX2_mixedAnswers_44 : decode cX2_mixedAnswers 44 = .ok (.iconst 1, 1) := dz_at (i := 26) dy_p14_8 rfl
theorem dX2_mixedAnswers_45 : decode cX2_mixedAnswers 45 = .ok (.invokevirtual 102, 3) := dz_at (i := 27) dy_p14_8 rfl
theorem dX2_mixedAnswers_48 : decode cX2_mixedAnswers 48 = .ok (.i2l, 1) := dz_at (i := 28) dy_p14_8 rfl
theorem dX2_mixedAnswers_49 : decode cX2_mixedAnswers 49 = .ok (.invokestatic 127, 3) := dz_at (i := 29) dy_p14_8 rfl
theorem dX2_mixedAnswers_52 : decode cX2_mixedAnswers 52 = .ok (.lreturn, 1) := dz_at (i := 30) dy_p14_8 rfl
noncomputable def o_X2_mixedAnswers (w : Bool) (f : Nat → Int64) (p0 : Int64) (p2 : Int32) : Int64 :=
  (o_X2_mixed (o_X2_mixed (o_X2_mixed (o_X2_mixed p0 (((o_X0_hash f p2 0).2).toInt64)) (((o_X0_quarters w f p2).2).toInt64)) (((o_X0_find f p2 false).2).toInt64)) (((o_X0_find f p2 true).2).toInt64))
set_option maxHeartbeats 4000000 in
set_option maxRecDepth 100000 in
theorem k_X2_mixedAnswers (l : Launch) (hfl : l.flags = flags0) (dC : Nat → ClassId) (dI : Nat → Nat → Nat) (cy : ClassId) (ro : Nat) (aw : Nat) (ac : Nat) (ab : Nat) (w : Bool) (a : Int32) (rv : Int32) (f : Nat → Int64) (g : Nat → Int64) (sz : Nat) (N : Nat) (p0 : Int64) (p2 : Int32) (hin_p2 : vp_in p2 8) : Met l yX2_mixedAnswers wsX2_mixedAnswers ({ frames := 8, cells := 5, slots := 30, locals := 145 }) (va_Pc [.long p0, .ref ro, .int p2] (xM (dC, dI) xCl [(ro, eR aw ac ab a rv), (aw, eW w), (ac, eA cy f), (ab, eA cy g)] [(cy, .long)] sz N)) (va_Ql (fun (r : Int64) (_ : Unit) => r = (o_X2_mixedAnswers w f p0 p2)) (fun _ _ => True) (aN sz)) 5 30 (aN sz) := by
  refine Met.ofW (cc := cX2_mixedAnswers) (maxL := 6) (ret := (some .long)) (by decide +kernel) rfl ?_
  intro p e s m args below meth c s₁ B hml hv
  obtain ⟨rfl, hsz, hP, hK, hD0, hN, hG⟩ := hv
  have hx := B.exec
  have hb := B.bytes
  have hr := B.returns
  have hts := atoms_spec (ws := wsX2_mixedAnswers) B.pre
  have hown : s.vm.findClass RX2 = some m.cls := findClass_of_methodNamed B.named
  have hlocks := B.notSynchronized
  subst hsz
  have hA : ∀ q : Nat, s.heap.size ≤ q → aN s.heap.size q := fun _ h => h
  have hD := hD0
  have hAN : ∀ q, aN s.heap.size q → N ≤ q := fun q h => Nat.le_trans hN h
  have hS : va_S (aN s.heap.size) s.heap s.heap [] := va_S.rf
  have hP : va_P (dC, dI) xCl [(ro, eR aw ac ab a rv), (aw, eW w), (ac, eA cy f), (ab, eA cy g)] s.heap := hP
  have hl := lv_entry ([.long p0, .ref ro, .int p2]) (n := 6) (Nat.le_of_ble_eq_true rfl)
  rw [lg_entry_eq]
  generalize (lg_sl ([.long p0, .ref ro, .int p2]) ++ List.replicate (6 - (lg_sl ([.long p0, .ref ro, .int p2])).length) Slot.unset).toArray = ls at hl ⊢
  have hl : lv_has ls 6 [(0, .long p0), (2, .ref ro), (3, .int p2)] := hl
  refine lv_lload_n hx hb dX2_mixedAnswers_0 rfl (lv_at hl 0 rfl) ?_
  refine lv_aload_n hx hb dX2_mixedAnswers_1 rfl (lv_at hl 1 rfl) ?_
  refine lv_iload_n hx hb dX2_mixedAnswers_2 rfl (lv_at hl 2 rfl) ?_
  refine lv_iconst (v := 0) hx hb dX2_mixedAnswers_3 (by decide +kernel) ?_
  have hPc := hP.sub (ws' := [(ro, eR aw ac ab a rv), (aw, eW w), (ac, eA cy f), (ab, eA cy g)]) [0, 1, 2, 3] rfl
  have hDc := hD.sub (ws' := [(ro, eR aw ac ab a rv), (aw, eW w), (ac, eA cy f), (ab, eA cy g)]) [0, 1, 2, 3] (by decide +kernel) rfl
  have hKc := hK.sub (tys' := [(cy, .long)]) [0] rfl
  refine vx_calli (vx_runV (As := [.int p2, .int 0]) (rest := [.long p0]) ⟨hx, hb, hml, hown, hts⟩ (k_X0_hash l hfl dC dI cy ro aw ac ab w a rv f g s.heap.size N p2 0) (cwV 2 hts gX2_mixedAnswers_X0_hash rfl rfl rfl (by decide +kernel) ⟨Nat.le_of_ble_eq_true rfl, Nat.le_of_ble_eq_true rfl⟩) (xM.preV hKc hPc hDc (fun _ h => h) (Nat.le_trans hN hS.1) (hG.kept hS hAN) (ci := 2) (q0 := 0) rfl rfl) rfl rfl hl.1 rfl (lv_room (Nat.le_of_ble_eq_true rfl)) dX2_mixedAnswers_4 ⟨Nat.le_of_ble_eq_true rfl, Nat.le_of_ble_eq_true rfl⟩) hS xA_old (fun q h => hA q (Nat.le_trans hS.1 h)) xA_old (fun E ce q9 u9 t H locs ht hvm hpx hbx hz hk hS hce hcv hcl => absurd (show (o_X0_hash f p2 0).1 = 0 from (by (rw [o_X0_hash, if_pos (xm_cc0 hin_p2), if_pos (by decide +kernel)]) <;> rfl)) hpx) (fun r_1 u t H locs ht hvm hw hB hz hk hS => ?_)
  obtain ⟨c_2, hw⟩ := hw
  replace hw : r_1 = (o_X0_hash f p2 0).2 := hw
  subst r_1
  have hP := xP_keep hP hk
  refine lv_i2l (v := (((o_X0_hash f p2 0).2).toInt64)) hx hb dX2_mixedAnswers_7 rfl ?_
  have hPc := hP.sub (ws' := []) [] rfl
  have hKc := hK.sub (tys' := []) [] rfl
  refine va_calll (va_runS (As := [.long p0, .long (((o_X0_hash f p2 0).2).toInt64)]) (rest := []) ⟨hx, hb, hml, hown, hts⟩ (k_X2_mixed l dC dI H.size p0 (((o_X0_hash f p2 0).2).toInt64)) (va_cwS 2 hts gX2_mixedAnswers_X2_mixed rfl rfl rfl (by decide +kernel) ⟨Nat.le_of_ble_eq_true rfl, Nat.le_of_ble_eq_true rfl⟩) (xB.preS hKc hPc) rfl rfl hl.1 rfl (lv_room (Nat.le_of_ble_eq_true rfl)) dX2_mixedAnswers_8 ⟨Nat.le_of_ble_eq_true rfl, Nat.le_of_ble_eq_true rfl⟩) hS xA_old (fun q h => hA q (Nat.le_trans hS.1 h)) (fun r_3 u t H locs ht hvm hw hB hz hk hS => ?_)
  replace hw : r_3 = (o_X2_mixed p0 (((o_X0_hash f p2 0).2).toInt64)) := hw
  subst r_3
  have hP := xP_keep hP hk
  refine lv_lstore (lv' := [(4, .long (o_X2_mixed p0 (((o_X0_hash f p2 0).2).toInt64))), (0, .long p0), (2, .ref ro), (3, .int p2)]) hx hb dX2_mixedAnswers_11 hl (by decide +kernel) rfl (fun ls hl => ?_)
  refine lv_lload hx hb dX2_mixedAnswers_13 (lv_at hl 0 rfl) ?_
  refine lv_aload_n hx hb dX2_mixedAnswers_15 rfl (lv_at hl 2 rfl) ?_
  refine lv_iload_n hx hb dX2_mixedAnswers_16 rfl (lv_at hl 3 rfl) ?_
  have hPc := hP.sub (ws' := [(ro, eR aw ac ab a rv), (aw, eW w), (ac, eA cy f), (ab, eA cy g)]) [0, 1, 2, 3] rfl
  have hDc := hD.sub (ws' := [(ro, eR aw ac ab a rv), (aw, eW w), (ac, eA cy f), (ab, eA cy g)]) [0, 1, 2, 3] (by decide +kernel) rfl
  have hKc := hK.sub (tys' := [(cy, .long)]) [0] rfl
  refine vx_calli (vx_runV (As := [.int p2]) (rest := [.long (o_X2_mixed p0 (((o_X0_hash f p2 0).2).toInt64))]) ⟨hx, hb, hml, hown, hts⟩ (k_X0_quarters l hfl dC dI cy ro aw ac ab w a rv f g H.size N p2) (cwV 1 hts gX2_mixedAnswers_X0_quarters rfl rfl rfl (by decide +kernel) ⟨Nat.le_of_ble_eq_true rfl, Nat.le_of_ble_eq_true rfl⟩) (xM.preV hKc hPc hDc (fun _ h => h) (Nat.le_trans hN hS.1) (hG.kept hS hAN) (ci := 2) (q0 := 0) rfl rfl) rfl rfl hl.1 rfl (lv_room (Nat.le_of_ble_eq_true rfl)) dX2_mixedAnswers_17 ⟨Nat.le_of_ble_eq_true rfl, Nat.le_of_ble_eq_true rfl⟩) hS xA_old (fun q h => hA q (Nat.le_trans hS.1 h)) xA_old (fun E ce q9 u9 t H locs ht hvm hpx hbx hz hk hS hce hcv hcl => absurd (show (o_X0_quarters w f p2).1 = 0 from (by (rw [o_X0_quarters, if_pos (xm_cc0 hin_p2)]) <;> rfl)) hpx) (fun r_4 u t H locs ht hvm hw hB hz hk hS => ?_)
  obtain ⟨c_5, hw⟩ := hw
  replace hw : r_4 = (o_X0_quarters w f p2).2 := hw
  subst r_4
  have hP := xP_keep hP hk
  refine lv_i2l (v := (((o_X0_quarters w f p2).2).toInt64)) hx hb dX2_mixedAnswers_20 rfl ?_
  have hPc := hP.sub (ws' := []) [] rfl
  have hKc := hK.sub (tys' := []) [] rfl
  refine va_calll (va_runS (As := [.long (o_X2_mixed p0 (((o_X0_hash f p2 0).2).toInt64)), .long (((o_X0_quarters w f p2).2).toInt64)]) (rest := []) ⟨hx, hb, hml, hown, hts⟩ (k_X2_mixed l dC dI H.size (o_X2_mixed p0 (((o_X0_hash f p2 0).2).toInt64)) (((o_X0_quarters w f p2).2).toInt64)) (va_cwS 2 hts gX2_mixedAnswers_X2_mixed rfl rfl rfl (by decide +kernel) ⟨Nat.le_of_ble_eq_true rfl, Nat.le_of_ble_eq_true rfl⟩) (xB.preS hKc hPc) rfl rfl hl.1 rfl (lv_room (Nat.le_of_ble_eq_true rfl)) dX2_mixedAnswers_21 ⟨Nat.le_of_ble_eq_true rfl, Nat.le_of_ble_eq_true rfl⟩) hS xA_old (fun q h => hA q (Nat.le_trans hS.1 h)) (fun r_6 u t H locs ht hvm hw hB hz hk hS => ?_)
  replace hw : r_6 = (o_X2_mixed (o_X2_mixed p0 (((o_X0_hash f p2 0).2).toInt64)) (((o_X0_quarters w f p2).2).toInt64)) := hw
  subst r_6
  have hP := xP_keep hP hk
  refine lv_lstore (lv' := [(4, .long (o_X2_mixed (o_X2_mixed p0 (((o_X0_hash f p2 0).2).toInt64)) (((o_X0_quarters w f p2).2).toInt64))), (0, .long p0), (2, .ref ro), (3, .int p2)]) hx hb dX2_mixedAnswers_24 hl (by decide +kernel) rfl (fun ls hl => ?_)
  refine lv_lload hx hb dX2_mixedAnswers_26 (lv_at hl 0 rfl) ?_
  refine lv_aload_n hx hb dX2_mixedAnswers_28 rfl (lv_at hl 2 rfl) ?_
  refine lv_iload_n hx hb dX2_mixedAnswers_29 rfl (lv_at hl 3 rfl) ?_
  refine lv_iconst (v := 0) hx hb dX2_mixedAnswers_30 (by decide +kernel) ?_
  have hPc := hP.sub (ws' := [(ro, eR aw ac ab a rv), (aw, eW w), (ac, eA cy f), (ab, eA cy g)]) [0, 1, 2, 3] rfl
  have hDc := hD.sub (ws' := [(ro, eR aw ac ab a rv), (aw, eW w), (ac, eA cy f), (ab, eA cy g)]) [0, 1, 2, 3] (by decide +kernel) rfl
  have hKc := hK.sub (tys' := [(cy, .long)]) [0] rfl
  refine vx_calli (vx_runV (As := [.int p2, .int 0]) (rest := [.long (o_X2_mixed (o_X2_mixed p0 (((o_X0_hash f p2 0).2).toInt64)) (((o_X0_quarters w f p2).2).toInt64))]) ⟨hx, hb, hml, hown, hts⟩ (k_X0_find l hfl dC dI cy ro aw ac ab w a rv f g H.size N p2 false) (cwV 2 hts gX2_mixedAnswers_X0_find rfl rfl rfl (by decide +kernel) ⟨Nat.le_of_ble_eq_true rfl, Nat.le_of_ble_eq_true rfl⟩) (xM.preV hKc hPc hDc (fun _ h => h) (Nat.le_trans hN hS.1) (hG.kept hS hAN) (ci := 2) (q0 := 0) rfl rfl) rfl rfl hl.1 rfl (lv_room (Nat.le_of_ble_eq_true rfl)) dX2_mixedAnswers_31 ⟨Nat.le_of_ble_eq_true rfl, Nat.le_of_ble_eq_true rfl⟩) hS xA_old (fun q h => hA q (Nat.le_trans hS.1 h)) xA_old (fun E ce q9 u9 t H locs ht hvm hpx hbx hz hk hS hce hcv hcl => absurd (show (o_X0_find f p2 false).1 = 0 from (by (rw [o_X0_find, if_pos (xm_cc0 hin_p2)]) <;> rfl)) hpx) (fun r_7 u t H locs ht hvm hw hB hz hk hS => ?_)
  obtain ⟨c_8, hw⟩ := hw
  replace hw : r_7 = (o_X0_find f p2 false).2 := hw
  subst r_7
  have hP := xP_keep hP hk
  refine lv_i2l (v := (((o_X0_find f p2 false).2).toInt64)) hx hb dX2_mixedAnswers_34 rfl ?_
  have hPc := hP.sub (ws' := []) [] rfl
  have hKc := hK.sub (tys' := []) [] rfl
  refine va_calll (va_runS (As := [.long (o_X2_mixed (o_X2_mixed p0 (((o_X0_hash f p2 0).2).toInt64)) (((o_X0_quarters w f p2).2).toInt64)), .long (((o_X0_find f p2 false).2).toInt64)]) (rest := []) ⟨hx, hb, hml, hown, hts⟩ (k_X2_mixed l dC dI H.size (o_X2_mixed (o_X2_mixed p0 (((o_X0_hash f p2 0).2).toInt64)) (((o_X0_quarters w f p2).2).toInt64)) (((o_X0_find f p2 false).2).toInt64)) (va_cwS 2 hts gX2_mixedAnswers_X2_mixed rfl rfl rfl (by decide +kernel) ⟨Nat.le_of_ble_eq_true rfl, Nat.le_of_ble_eq_true rfl⟩) (xB.preS hKc hPc) rfl rfl hl.1 rfl (lv_room (Nat.le_of_ble_eq_true rfl)) dX2_mixedAnswers_35 ⟨Nat.le_of_ble_eq_true rfl, Nat.le_of_ble_eq_true rfl⟩) hS xA_old (fun q h => hA q (Nat.le_trans hS.1 h)) (fun r_9 u t H locs ht hvm hw hB hz hk hS => ?_)
  replace hw : r_9 = (o_X2_mixed (o_X2_mixed (o_X2_mixed p0 (((o_X0_hash f p2 0).2).toInt64)) (((o_X0_quarters w f p2).2).toInt64)) (((o_X0_find f p2 false).2).toInt64)) := hw
  subst r_9
  have hP := xP_keep hP hk
  refine lv_lstore (lv' := [(4, .long (o_X2_mixed (o_X2_mixed (o_X2_mixed p0 (((o_X0_hash f p2 0).2).toInt64)) (((o_X0_quarters w f p2).2).toInt64)) (((o_X0_find f p2 false).2).toInt64))), (0, .long p0), (2, .ref ro), (3, .int p2)]) hx hb dX2_mixedAnswers_38 hl (by decide +kernel) rfl (fun ls hl => ?_)
  refine lv_lload hx hb dX2_mixedAnswers_40 (lv_at hl 0 rfl) ?_
  refine lv_aload_n hx hb dX2_mixedAnswers_42 rfl (lv_at hl 2 rfl) ?_
  refine lv_iload_n hx hb dX2_mixedAnswers_43 rfl (lv_at hl 3 rfl) ?_
  refine lv_iconst (v := 1) hx hb dX2_mixedAnswers_44 (by decide +kernel) ?_
  have hPc := hP.sub (ws' := [(ro, eR aw ac ab a rv), (aw, eW w), (ac, eA cy f), (ab, eA cy g)]) [0, 1, 2, 3] rfl
  have hDc := hD.sub (ws' := [(ro, eR aw ac ab a rv), (aw, eW w), (ac, eA cy f), (ab, eA cy g)]) [0, 1, 2, 3] (by decide +kernel) rfl
  have hKc := hK.sub (tys' := [(cy, .long)]) [0] rfl
  refine vx_calli (vx_runV (As := [.int p2, .int 1]) (rest := [.long (o_X2_mixed (o_X2_mixed (o_X2_mixed p0 (((o_X0_hash f p2 0).2).toInt64)) (((o_X0_quarters w f p2).2).toInt64)) (((o_X0_find f p2 false).2).toInt64))]) ⟨hx, hb, hml, hown, hts⟩ (k_X0_find l hfl dC dI cy ro aw ac ab w a rv f g H.size N p2 true) (cwV 2 hts gX2_mixedAnswers_X0_find rfl rfl rfl (by decide +kernel) ⟨Nat.le_of_ble_eq_true rfl, Nat.le_of_ble_eq_true rfl⟩) (xM.preV hKc hPc hDc (fun _ h => h) (Nat.le_trans hN hS.1) (hG.kept hS hAN) (ci := 2) (q0 := 0) rfl rfl) rfl rfl hl.1 rfl (lv_room (Nat.le_of_ble_eq_true rfl)) dX2_mixedAnswers_45 ⟨Nat.le_of_ble_eq_true rfl, Nat.le_of_ble_eq_true rfl⟩) hS xA_old (fun q h => hA q (Nat.le_trans hS.1 h)) xA_old (fun E ce q9 u9 t H locs ht hvm hpx hbx hz hk hS hce hcv hcl => absurd (show (o_X0_find f p2 true).1 = 0 from (by (rw [o_X0_find, if_pos (xm_cc0 hin_p2)]) <;> rfl)) hpx) (fun r_10 u t H locs ht hvm hw hB hz hk hS => ?_)
  obtain ⟨c_11, hw⟩ := hw
  replace hw : r_10 = (o_X0_find f p2 true).2 := hw
  subst r_10
  have hP := xP_keep hP hk
  refine lv_i2l (v := (((o_X0_find f p2 true).2).toInt64)) hx hb dX2_mixedAnswers_48 rfl ?_
  have hPc := hP.sub (ws' := []) [] rfl
  have hKc := hK.sub (tys' := []) [] rfl
  refine va_calll (va_runS (As := [.long (o_X2_mixed (o_X2_mixed (o_X2_mixed p0 (((o_X0_hash f p2 0).2).toInt64)) (((o_X0_quarters w f p2).2).toInt64)) (((o_X0_find f p2 false).2).toInt64)), .long (((o_X0_find f p2 true).2).toInt64)]) (rest := []) ⟨hx, hb, hml, hown, hts⟩ (k_X2_mixed l dC dI H.size (o_X2_mixed (o_X2_mixed (o_X2_mixed p0 (((o_X0_hash f p2 0).2).toInt64)) (((o_X0_quarters w f p2).2).toInt64)) (((o_X0_find f p2 false).2).toInt64)) (((o_X0_find f p2 true).2).toInt64)) (va_cwS 2 hts gX2_mixedAnswers_X2_mixed rfl rfl rfl (by decide +kernel) ⟨Nat.le_of_ble_eq_true rfl, Nat.le_of_ble_eq_true rfl⟩) (xB.preS hKc hPc) rfl rfl hl.1 rfl (lv_room (Nat.le_of_ble_eq_true rfl)) dX2_mixedAnswers_49 ⟨Nat.le_of_ble_eq_true rfl, Nat.le_of_ble_eq_true rfl⟩) hS xA_old (fun q h => hA q (Nat.le_trans hS.1 h)) (fun r_12 u t H locs ht hvm hw hB hz hk hS => ?_)
  replace hw : r_12 = (o_X2_mixed (o_X2_mixed (o_X2_mixed (o_X2_mixed p0 (((o_X0_hash f p2 0).2).toInt64)) (((o_X0_quarters w f p2).2).toInt64)) (((o_X0_find f p2 false).2).toInt64)) (((o_X0_find f p2 true).2).toInt64)) := hw
  subst r_12
  have hP := xP_keep hP hk
  have he : o_X2_mixedAnswers w f p0 p2 = (o_X2_mixed (o_X2_mixed (o_X2_mixed (o_X2_mixed p0 (((o_X0_hash f p2 0).2).toInt64)) (((o_X0_quarters w f p2).2).toInt64)) (((o_X0_find f p2 false).2).toInt64)) (((o_X0_find f p2 true).2).toInt64)) := by (rw [o_X2_mixedAnswers]) <;> rfl
  refine W.widen (k := 5) (n := 30) (by omega) (by omega) ?_
  exact W.lret (v := (o_X2_mixed (o_X2_mixed (o_X2_mixed (o_X2_mixed p0 (((o_X0_hash f p2 0).2).toInt64)) (((o_X0_quarters w f p2).2).toInt64)) (((o_X0_find f p2 false).2).toInt64)) (((o_X0_find f p2 true).2).toInt64))) hx hb hr (fun t ht hW => ⟨⟨_, (), rfl, (by (rw [he]) <;> rfl), trivial⟩, hS.F ht⟩) hS.2.2 dX2_mixedAnswers_52
theorem cl_X2_mixedPairs_1 : ∀ w ∈ wsX2_mixedPairs_r1, w ∈ wsX2_mixedPairs := fun _ h => (List.mem_cons_of_mem _ (List.mem_append_left _ (List.mem_append_left _ (List.mem_append_left _ (List.mem_append_left _ (List.mem_append_left _ h))))))
theorem cl_X2_mixedPairs_2 : ∀ w ∈ wsX2_mixedPairs_r2, w ∈ wsX2_mixedPairs := fun _ h => (List.mem_cons_of_mem _ (List.mem_append_left _ (List.mem_append_left _ (List.mem_append_left _ (List.mem_append_left _ (List.mem_append_right _ h))))))
theorem cl_X2_mixedPairs_3 : ∀ w ∈ wsX00, w ∈ wsX2_mixedPairs := fun _ h => (List.mem_cons_of_mem _ (List.mem_append_left _ (List.mem_append_left _ (List.mem_append_left _ (List.mem_append_right _ h)))))
theorem cl_X2_mixedPairs_4 : ∀ w ∈ wsX10, w ∈ wsX2_mixedPairs := fun _ h => (List.mem_cons_of_mem _ (List.mem_append_left _ (List.mem_append_left _ (List.mem_append_right _ h))))
theorem cl_X2_mixedPairs_5 : ∀ w ∈ (vx_atS RX2 152 "java/lang/IndexOutOfBoundsException" ["java/lang/RuntimeException", "java/lang/Exception"]).filter goodWord, w ∈ wsX2_mixedPairs := fun _ h => (List.mem_cons_of_mem _ (List.mem_append_left _ (List.mem_append_right _ h)))
theorem cl_X2_mixedPairs_6 : ∀ w ∈ (vx_atS RX2 159 "java/lang/IllegalArgumentException" ["java/lang/RuntimeException", "java/lang/Exception"]).filter goodWord, w ∈ wsX2_mixedPairs := fun _ h => (List.mem_cons_of_mem _ (List.mem_append_right _ h))
set_option maxRecDepth 20000 in
theorem ggX2_mixedPairs_X0_order : GoodIn wsX2_mixedPairs wsX0_order := goodIn_sub (List.forall_mem_cons.mpr ⟨(cl_X2_mixedPairs_1 _ (List.mem_of_getElem? (i := 4) rfl)), fun w h => (List.mem_append.mp h).elim ((fun w h => (List.mem_append.mp h).elim ((fun w h => (List.mem_append.mp h).elim ((fun w h => (List.mem_append.mp h).elim ((List.forall_mem_cons.mpr ⟨(cl_X2_mixedPairs_1 _ (List.mem_of_getElem? (i := 5) rfl)), List.forall_mem_cons.mpr ⟨(cl_X2_mixedPairs_1 _ (List.mem_of_getElem? (i := 6) rfl)), List.forall_mem_cons.mpr ⟨(cl_X2_mixedPairs_1 _ (List.mem_of_getElem? (i := 7) rfl)), List.forall_mem_cons.mpr ⟨(cl_X2_mixedPairs_1 _ (List.mem_of_getElem? (i := 8) rfl)), List.forall_mem_cons.mpr ⟨(cl_X2_mixedPairs_1 _ (List.mem_of_getElem? (i := 9) rfl)), List.forall_mem_cons.mpr ⟨(cl_X2_mixedPairs_1 _ (List.mem_of_getElem? (i := 10) rfl)), List.forall_mem_cons.mpr ⟨(cl_X2_mixedPairs_1 _ (List.mem_of_getElem? (i := 11) rfl)), List.forall_mem_cons.mpr ⟨(cl_X2_mixedPairs_1 _ (List.mem_of_getElem? (i := 12) rfl)), List.forall_mem_cons.mpr ⟨(cl_X2_mixedPairs_1 _ (List.mem_of_getElem? (i := 13) rfl)), List.forall_mem_cons.mpr ⟨(cl_X2_mixedPairs_1 _ (List.mem_of_getElem? (i := 14) rfl)), List.forall_mem_cons.mpr ⟨(cl_X2_mixedPairs_1 _ (List.mem_of_getElem? (i := 15) rfl)), List.forall_mem_cons.mpr ⟨(cl_X2_mixedPairs_1 _ (List.mem_of_getElem? (i := 16) rfl)), List.forall_mem_cons.mpr ⟨(cl_X2_mixedPairs_1 _ (List.mem_of_getElem? (i := 17) rfl)), List.forall_mem_cons.mpr ⟨(cl_X2_mixedPairs_1 _ (List.mem_of_getElem? (i := 18) rfl)), List.forall_mem_cons.mpr ⟨(cl_X2_mixedPairs_1 _ (List.mem_of_getElem? (i := 19) rfl)), List.forall_mem_cons.mpr ⟨(cl_X2_mixedPairs_1 _ (List.mem_of_getElem? (i := 20) rfl)), List.forall_mem_cons.mpr ⟨(cl_X2_mixedPairs_1 _ (List.mem_of_getElem? (i := 21) rfl)), List.forall_mem_cons.mpr ⟨(cl_X2_mixedPairs_1 _ (List.mem_of_getElem? (i := 22) rfl)), List.forall_mem_cons.mpr ⟨(cl_X2_mixedPairs_1 _ (List.mem_of_getElem? (i := 23) rfl)), List.forall_mem_cons.mpr ⟨(cl_X2_mixedPairs_2 _ (List.mem_of_getElem? (i := 0) rfl)), List.forall_mem_cons.mpr ⟨(cl_X2_mixedPairs_2 _ (List.mem_of_getElem? (i := 1) rfl)), List.forall_mem_cons.mpr ⟨(cl_X2_mixedPairs_2 _ (List.mem_of_getElem? (i := 2) rfl)), fun _ h => absurd h List.not_mem_nil⟩⟩⟩⟩⟩⟩⟩⟩⟩⟩⟩⟩⟩⟩⟩⟩⟩⟩⟩⟩⟩⟩) w) ((cl_X2_mixedPairs_3) w)) w) ((cl_X2_mixedPairs_4) w)) w) ((cl_X2_mixedPairs_5) w)) w) ((cl_X2_mixedPairs_6) w)⟩) (by decide +kernel)
set_option maxRecDepth 20000 in
theorem gX2_mixedPairs_X0_order : GoodIn wsX2_mixedPairs (wsV RX2 75 RX0 yX0_order wsX0_order) := goodIn_app (goodIn_sub (List.forall_mem_cons.mpr ⟨(cl_X2_mixedPairs_1 _ (List.mem_of_getElem? (i := 0) rfl)), List.forall_mem_cons.mpr ⟨(cl_X2_mixedPairs_1 _ (List.mem_of_getElem? (i := 1) rfl)), List.forall_mem_cons.mpr ⟨(cl_X2_mixedPairs_1 _ (List.mem_of_getElem? (i := 2) rfl)), List.forall_mem_cons.mpr ⟨(cl_X2_mixedPairs_1 _ (List.mem_of_getElem? (i := 3) rfl)), fun _ h => absurd h List.not_mem_nil⟩⟩⟩⟩) (by decide +kernel)) ggX2_mixedPairs_X0_order
set_option maxRecDepth 20000 in
theorem ggX2_mixedPairs_X2_mixed : GoodIn wsX2_mixedPairs wsX2_mixed := goodIn_sub (List.forall_mem_cons.mpr ⟨(cl_X2_mixedPairs_2 _ (List.mem_of_getElem? (i := 5) rfl)), List.forall_mem_cons.mpr ⟨(cl_X2_mixedPairs_2 _ (List.mem_of_getElem? (i := 6) rfl)), fun _ h => absurd h List.not_mem_nil⟩⟩) (by decide +kernel)
set_option maxRecDepth 20000 in
theorem gX2_mixedPairs_X2_mixed : GoodIn wsX2_mixedPairs (va_wsS RX2 127 yX2_mixed wsX2_mixed) := goodIn_app (goodIn_sub (List.forall_mem_cons.mpr ⟨(cl_X2_mixedPairs_2 _ (List.mem_of_getElem? (i := 3) rfl)), List.forall_mem_cons.mpr ⟨(cl_X2_mixedPairs_2 _ (List.mem_of_getElem? (i := 4) rfl)), List.forall_mem_cons.mpr ⟨(cl_X2_mixedPairs_1 _ (List.mem_of_getElem? (i := 8) rfl)), fun _ h => absurd h List.not_mem_nil⟩⟩⟩) (by decide +kernel)) ggX2_mixedPairs_X2_mixed
set_option maxRecDepth 20000 in
theorem ggX2_mixedPairs_X0_areLike : GoodIn wsX2_mixedPairs wsX0_areLike := goodIn_sub (List.forall_mem_cons.mpr ⟨(cl_X2_mixedPairs_2 _ (List.mem_of_getElem? (i := 10) rfl)), fun w h => (List.mem_append.mp h).elim ((fun w h => (List.mem_append.mp h).elim ((fun w h => (List.mem_append.mp h).elim ((List.forall_mem_cons.mpr ⟨(cl_X2_mixedPairs_1 _ (List.mem_of_getElem? (i := 5) rfl)), List.forall_mem_cons.mpr ⟨(cl_X2_mixedPairs_1 _ (List.mem_of_getElem? (i := 6) rfl)), List.forall_mem_cons.mpr ⟨(cl_X2_mixedPairs_1 _ (List.mem_of_getElem? (i := 7) rfl)), List.forall_mem_cons.mpr ⟨(cl_X2_mixedPairs_1 _ (List.mem_of_getElem? (i := 8) rfl)), List.forall_mem_cons.mpr ⟨(cl_X2_mixedPairs_1 _ (List.mem_of_getElem? (i := 9) rfl)), List.forall_mem_cons.mpr ⟨(cl_X2_mixedPairs_1 _ (List.mem_of_getElem? (i := 10) rfl)), List.forall_mem_cons.mpr ⟨(cl_X2_mixedPairs_1 _ (List.mem_of_getElem? (i := 11) rfl)), List.forall_mem_cons.mpr ⟨(cl_X2_mixedPairs_2 _ (List.mem_of_getElem? (i := 11) rfl)), List.forall_mem_cons.mpr ⟨(cl_X2_mixedPairs_2 _ (List.mem_of_getElem? (i := 12) rfl)), List.forall_mem_cons.mpr ⟨(cl_X2_mixedPairs_2 _ (List.mem_of_getElem? (i := 13) rfl)), List.forall_mem_cons.mpr ⟨(cl_X2_mixedPairs_1 _ (List.mem_of_getElem? (i := 19) rfl)), List.forall_mem_cons.mpr ⟨(cl_X2_mixedPairs_2 _ (List.mem_of_getElem? (i := 14) rfl)), List.forall_mem_cons.mpr ⟨(cl_X2_mixedPairs_2 _ (List.mem_of_getElem? (i := 15) rfl)), List.forall_mem_cons.mpr ⟨(cl_X2_mixedPairs_2 _ (List.mem_of_getElem? (i := 16) rfl)), List.forall_mem_cons.mpr ⟨(cl_X2_mixedPairs_2 _ (List.mem_of_getElem? (i := 17) rfl)), List.forall_mem_cons.mpr ⟨(cl_X2_mixedPairs_2 _ (List.mem_of_getElem? (i := 18) rfl)), List.forall_mem_cons.mpr ⟨(cl_X2_mixedPairs_2 _ (List.mem_of_getElem? (i := 1) rfl)), List.forall_mem_cons.mpr ⟨(cl_X2_mixedPairs_2 _ (List.mem_of_getElem? (i := 2) rfl)), fun _ h => absurd h List.not_mem_nil⟩⟩⟩⟩⟩⟩⟩⟩⟩⟩⟩⟩⟩⟩⟩⟩⟩⟩) w) ((cl_X2_mixedPairs_3) w)) w) ((cl_X2_mixedPairs_4) w)) w) ((cl_X2_mixedPairs_5) w)⟩) (by decide +kernel)
set_option maxRecDepth 20000 in
theorem gX2_mixedPairs_X0_areLike : GoodIn wsX2_mixedPairs (wsV RX2 86 RX0 yX0_areLike wsX0_areLike) := goodIn_app (goodIn_sub (List.forall_mem_cons.mpr ⟨(cl_X2_mixedPairs_2 _ (List.mem_of_getElem? (i := 7) rfl)), List.forall_mem_cons.mpr ⟨(cl_X2_mixedPairs_2 _ (List.mem_of_getElem? (i := 8) rfl)), List.forall_mem_cons.mpr ⟨(cl_X2_mixedPairs_2 _ (List.mem_of_getElem? (i := 9) rfl)), List.forall_mem_cons.mpr ⟨(cl_X2_mixedPairs_1 _ (List.mem_of_getElem? (i := 3) rfl)), fun _ h => absurd h List.not_mem_nil⟩⟩⟩⟩) (by decide +kernel)) ggX2_mixedPairs_X0_areLike
noncomputable def dz_p14_9 : List (Nat × Instr × Nat) := [(0, (.lload_n 0, 1)), (1, (.lstore_n 3, 1)), (2, (.iconst 0, 1)), (3, (.istore 5, 2)), (5, (.iload 5, 2)), (7, (.bipush 8, 2)), (9, (.if_icmp .ge 64, 3)), (12, (.iload 5, 2)), (14, (.iconst 1, 1)), (15, (.iadd, 1)), (16, (.istore 6, 2)), (18, (.iload 6, 2)), (20, (.bipush 8, 2)), (22, (.if_icmp .ge 45, 3)), (25, (.lload_n 3, 1)), (26, (.aload_n 2, 1)), (27, (.iload 5, 2)), (29, (.iload 6, 2)), (31, (.iconst 0, 1)), (32, (.invokevirtual 75, 3)), (35, (.i2l, 1)), (36, (.invokestatic 127, 3)), (39, (.lstore_n 3, 1)), (40, (.lload_n 3, 1)), (41, (.aload_n 2, 1)), (42, (.iload 5, 2)), (44, (.iload 6, 2)), (46, (.invokevirtual 86, 3)), (49, (.ifCond .eq 7, 3)), (52, (.lconst 1, 1)), (53, (.goto 4, 3)), (56, (.lconst 0, 1)), (57, (.invokestatic 127, 3)), (60, (.lstore_n 3, 1)), (61, (.iinc 6 1, 3)), (64, (.goto (-46), 3)), (67, (.iinc 5 1, 3)), (70, (.goto (-65), 3)), (73, (.lload_n 3, 1)), (74, (.lreturn, 1))]
theorem dy_p14_9 : dz_ok cX2_mixedPairs dz_p14_9 = true := by decide +kernel
theorem dX2_mixedPairs_0 : decode cX2_mixedPairs 0 = .ok (.lload_n 0, 1) := dz_at (i := 0) dy_p14_9 rfl
theorem dX2_mixedPairs_1 : decode cX2_mixedPairs 1 = .ok (.lstore_n 3, 1) := dz_at (i := 1) dy_p14_9 rfl
theorem dX2_mixedPairs_2 : decode cX2_mixedPairs 2 = .ok (.iconst 0, 1) := dz_at (i := 2) dy_p14_9 rfl
theorem dX2_mixedPairs_3 : decode cX2_mixedPairs 3 = .ok (.istore 5, 2) := dz_at (i := 3) dy_p14_9 rfl
theorem dX2_mixedPairs_5 : decode cX2_mixedPairs 5 = .ok (.iload 5, 2) := dz_at (i := 4) dy_p14_9 rfl
theorem dX2_mixedPairs_7 : decode cX2_mixedPairs 7 = .ok (.bipush 8, 2) := dz_at (i := 5) dy_p14_9 rfl
theorem dX2_mixedPairs_9 : decode cX2_mixedPairs 9 = .ok (.if_icmp .ge 64, 3) := dz_at (i := 6) dy_p14_9 rfl
theorem dX2_mixedPairs_12 : decode cX2_mixedPairs 12 = .ok (.iload 5, 2) := dz_at (i := 7) dy_p14_9 rfl
theorem dX2_mixedPairs_14 : decode cX2_mixedPairs 14 = .ok (.iconst 1, 1) := dz_at (i := 8) dy_p14_9 rfl
theorem dX2_mixedPairs_15 : decode cX2_mixedPairs 15 = .ok (.iadd, 1) := dz_at (i := 9) dy_p14_9 rfl
theorem dX2_mixedPairs_16 : decode cX2_mixedPairs 16 = .ok (.istore 6, 2) := dz_at (i := 10) dy_p14_9 rfl
theorem dX2_mixedPairs_18 : decode cX2_mixedPairs 18 = .ok (.iload 6, 2) := dz_at (i := 11) dy_p14_9 rfl
theorem dX2_mixedPairs_20 : decode cX2_mixedPairs 20 = .ok (.bipush 8, 2) := dz_at (i := 12) dy_p14_9 rfl
theorem dX2_mixedPairs_22 : decode cX2_mixedPairs 22 = .ok (.if_icmp .ge 45, 3) := dz_at (i := 13) dy_p14_9 rfl
theorem dX2_mixedPairs_25 : decode cX2_mixedPairs 25 = .ok (.lload_n 3, 1) := dz_at (i := 14) dy_p14_9 rfl
theorem dX2_mixedPairs_26 : decode cX2_mixedPairs 26 = .ok (.aload_n 2, 1) := dz_at (i := 15) dy_p14_9 rfl
theorem dX2_mixedPairs_27 : decode cX2_mixedPairs 27 = .ok (.iload 5, 2) := dz_at (i := 16) dy_p14_9 rfl
theorem dX2_mixedPairs_29 : decode cX2_mixedPairs 29 = .ok (.iload 6, 2) := dz_at (i := 17) dy_p14_9 rfl
theorem dX2_mixedPairs_31 : decode cX2_mixedPairs 31 = .ok (.iconst 0, 1) := dz_at (i := 18) dy_p14_9 rfl
theorem dX2_mixedPairs_32 : decode cX2_mixedPairs 32 = .ok (.invokevirtual 75, 3) := dz_at (i := 19) dy_p14_9 rfl
theorem dX2_mixedPairs_35 : decode cX2_mixedPairs 35 = .ok (.i2l, 1) := dz_at (i := 20) dy_p14_9 rfl
theorem dX2_mixedPairs_36 : decode cX2_mixedPairs 36 = .ok (.invokestatic 127, 3) := dz_at (i := 21) dy_p14_9 rfl
theorem dX2_mixedPairs_39 : decode cX2_mixedPairs 39 = .ok (.lstore_n 3, 1) := dz_at (i := 22) dy_p14_9 rfl
theorem dX2_mixedPairs_40 : decode cX2_mixedPairs 40 = .ok (.lload_n 3, 1) := dz_at (i := 23) dy_p14_9 rfl
theorem dX2_mixedPairs_41 : decode cX2_mixedPairs 41 = .ok (.aload_n 2, 1) := dz_at (i := 24) dy_p14_9 rfl
theorem dX2_mixedPairs_42 : decode cX2_mixedPairs 42 = .ok (.iload 5, 2) := dz_at (i := 25) dy_p14_9 rfl
theorem dX2_mixedPairs_44 : decode cX2_mixedPairs 44 = .ok (.iload 6, 2) := dz_at (i := 26) dy_p14_9 rfl
theorem dX2_mixedPairs_46 : decode cX2_mixedPairs 46 = .ok (.invokevirtual 86, 3) := dz_at (i := 27) dy_p14_9 rfl
theorem dX2_mixedPairs_49 : decode cX2_mixedPairs 49 = .ok (.ifCond .eq 7, 3) := dz_at (i := 28) dy_p14_9 rfl
theorem dX2_mixedPairs_52 : decode cX2_mixedPairs 52 = .ok (.lconst 1, 1) := dz_at (i := 29) dy_p14_9 rfl
theorem dX2_mixedPairs_53 : decode cX2_mixedPairs 53 = .ok (.goto 4, 3) := dz_at (i := 30) dy_p14_9 rfl
theorem dX2_mixedPairs_56 : decode cX2_mixedPairs 56 = .ok (.lconst 0, 1) := dz_at (i := 31) dy_p14_9 rfl
theorem dX2_mixedPairs_57 : decode cX2_mixedPairs 57 = .ok (.invokestatic 127, 3) := dz_at (i := 32) dy_p14_9 rfl
theorem dX2_mixedPairs_60 : decode cX2_mixedPairs 60 = .ok (.lstore_n 3, 1) := dz_at (i := 33) dy_p14_9 rfl
theorem dX2_mixedPairs_61 : decode cX2_mixedPairs 61 = .ok (.iinc 6 1, 3) := dz_at (i := 34) dy_p14_9 rfl
theorem dX2_mixedPairs_64 : decode cX2_mixedPairs 64 = .ok (.goto (-46), 3) := dz_at (i := 35) dy_p14_9 rfl
theorem dX2_mixedPairs_67 : decode cX2_mixedPairs 67 = .ok (.iinc 5 1, 3) := dz_at (i := 36) dy_p14_9 rfl
theorem dX2_mixedPairs_70 : decode cX2_mixedPairs 70 = .ok (.goto (-65), 3) := dz_at (i := 37) dy_p14_9 rfl
theorem dX2_mixedPairs_73 : decode cX2_mixedPairs 73 = .ok (.lload_n 3, 1) := dz_at (i := 38) dy_p14_9 rfl
theorem dX2_mixedPairs_74 : decode cX2_mixedPairs 74 = .ok (.lreturn, 1) := dz_at (i := 39) dy_p14_9 rfl
noncomputable def L_xpb (w : Bool) (f : Nat → Int64) (ixpa : Nat) : Nat → Nat → Int64 → Int64
  | 0, _, v9 => v9
  | nxpb + 1, ixpb, v9 => if (o_X0_areLike w f (nI ixpa) (nI ixpb)).2 = true then L_xpb w f ixpa nxpb (ixpb + 1) (o_X2_mixed (o_X2_mixed v9 (((o_X0_order w f (nI ixpa) (nI ixpb) 0).2).toInt64)) 1)
    else L_xpb w f ixpa nxpb (ixpb + 1) (o_X2_mixed (o_X2_mixed v9 (((o_X0_order w f (nI ixpa) (nI ixpb) 0).2).toInt64)) 0)
noncomputable def L_xpa (w : Bool) (f : Nat → Int64) : Nat → Nat → Int64 → Int64
  | 0, _, v => v
  | nxpa + 1, ixpa, v => L_xpa w f nxpa (ixpa + 1) (L_xpb w f ixpa (8 - (ixpa + 1)) (ixpa + 1) v)
noncomputable def o_X2_mixedPairs (w : Bool) (f : Nat → Int64) (p0 : Int64) : Int64 :=
  (L_xpa w f 8 0 p0)
set_option maxHeartbeats 4000000 in
set_option maxRecDepth 100000 in
theorem k_X2_mixedPairs (l : Launch) (hfl : l.flags = flags0) (dC : Nat → ClassId) (dI : Nat → Nat → Nat) (cy : ClassId) (ro : Nat) (aw : Nat) (ac : Nat) (ab : Nat) (w : Bool) (a : Int32) (rv : Int32) (f : Nat → Int64) (g : Nat → Int64) (sz : Nat) (N : Nat) (p0 : Int64) : Met l yX2_mixedPairs wsX2_mixedPairs ({ frames := 8, cells := 320, slots := 1920, locals := 144 }) (va_Pc [.long p0, .ref ro] (xM (dC, dI) xCl [(ro, eR aw ac ab a rv), (aw, eW w), (ac, eA cy f), (ab, eA cy g)] [(cy, .long)] sz N)) (va_Ql (fun (r : Int64) (_ : Unit) => r = (o_X2_mixedPairs w f p0)) (fun _ _ => True) (aN sz)) 320 1920 (aN sz) := by
  refine Met.ofW (cc := cX2_mixedPairs) (maxL := 7) (ret := (some .long)) (by decide +kernel) rfl ?_
  intro p e s m args below meth c s₁ B hml hv
  obtain ⟨rfl, hsz, hP, hK, hD0, hN, hG⟩ := hv
  have hx := B.exec
  have hb := B.bytes
  have hr := B.returns
  have hts := atoms_spec (ws := wsX2_mixedPairs) B.pre
  have hown : s.vm.findClass RX2 = some m.cls := findClass_of_methodNamed B.named
  have hlocks := B.notSynchronized
  subst hsz
  have hA : ∀ q : Nat, s.heap.size ≤ q → aN s.heap.size q := fun _ h => h
  have hD := hD0
  have hAN : ∀ q, aN s.heap.size q → N ≤ q := fun q h => Nat.le_trans hN h
  have hS : va_S (aN s.heap.size) s.heap s.heap [] := va_S.rf
  have hP : va_P (dC, dI) xCl [(ro, eR aw ac ab a rv), (aw, eW w), (ac, eA cy f), (ab, eA cy g)] s.heap := hP
  have hl := lv_entry ([.long p0, .ref ro]) (n := 7) (Nat.le_of_ble_eq_true rfl)
  rw [lg_entry_eq]
  generalize (lg_sl ([.long p0, .ref ro]) ++ List.replicate (7 - (lg_sl ([.long p0, .ref ro])).length) Slot.unset).toArray = ls at hl ⊢
  have hl : lv_has ls 7 [(0, .long p0), (2, .ref ro)] := hl
  refine lv_lload_n hx hb dX2_mixedPairs_0 rfl (lv_at hl 0 rfl) ?_
  refine lv_lstore_n (lv' := [(3, .long p0), (0, .long p0), (2, .ref ro)]) hx hb dX2_mixedPairs_1 rfl hl (by decide +kernel) rfl (fun ls hl => ?_)
  refine lv_iconst (v := 0) hx hb dX2_mixedPairs_2 (by decide +kernel) ?_
  refine lv_istore (lv' := [(5, .int 0), (3, .long p0), (0, .long p0), (2, .ref ro)]) hx hb dX2_mixedPairs_3 hl (by decide +kernel) rfl (fun ls hl => ?_)
  have loop_xpa : ∀ (nxpa ixpa : Nat) (v : Int64) (cs_xpa ss_xpa : Nat), cs_xpa + nxpa * 40 ≤ 320 → ss_xpa + nxpa * 240 ≤ 1920 → ∀ (H : Heap) (locs : List Loc) (ls : Array Slot), ixpa + nxpa = 8 → 0 ≤ ixpa → (L_xpa w f 8 0 p0) = L_xpa w f nxpa ixpa v → va_P (dC, dI) xCl [(ro, eR aw ac ab a rv), (aw, eW w), (ac, eA cy f), (ab, eA cy g)] H → va_S (aN s.heap.size) s.heap H locs → lv_has ls 7 [(5, .int (nI ixpa)), (3, .long v), (0, .long p0), (2, .ref ro)] → (∀ (H : Heap) (locs : List Loc) (ls : Array Slot), va_P (dC, dI) xCl [(ro, eR aw ac ab a rv), (aw, eW w), (ac, eA cy f), (ab, eA cy g)] H → va_S (aN s.heap.size) s.heap H locs → lv_has ls 7 [(3, .long (L_xpa w f 8 0 p0)), (0, .long p0), (2, .ref ro)] → W p l e (headSpec wsX2_mixedPairs ({ frames := 8, cells := 320, slots := 1920, locals := 144 } : Room)).room s m ([.long p0, .ref ro]).toArray below meth c H locs 320 1920 (MQ below (va_Ql (fun (r : Int64) (_ : Unit) => r = (o_X2_mixedPairs w f p0)) (fun _ _ => True) (aN s.heap.size)) ([.long p0, .ref ro]).toArray s 320 1920 (aN s.heap.size)) (F0 m 73 ls [])) → W p l e (headSpec wsX2_mixedPairs ({ frames := 8, cells := 320, slots := 1920, locals := 144 } : Room)).room s m ([.long p0, .ref ro]).toArray below meth c H locs cs_xpa ss_xpa (MQ below (va_Ql (fun (r : Int64) (_ : Unit) => r = (o_X2_mixedPairs w f p0)) (fun _ _ => True) (aN s.heap.size)) ([.long p0, .ref ro]).toArray s 320 1920 (aN s.heap.size)) (F0 m 5 ls []) := by
    intro nxpa
    induction nxpa with
    | zero =>
      intro ixpa v cs_xpa ss_xpa hcs_xpa hss_xpa H locs ls hin_xpa his_xpa hsp_xpa hP hS hl K_xpa
      have hv : (L_xpa w f 8 0 p0) = v := hsp_xpa
      subst hv
      have hi8 : ixpa = 8 := by omega
      refine lv_iload hx hb dX2_mixedPairs_5 (lv_at hl 0 rfl) ?_
      refine lv_bipush (v := 8) hx hb dX2_mixedPairs_7 (by decide +kernel) ?_
      refine lv_icmp_ge (tgt := 73) hx hb dX2_mixedPairs_9 (by decide +kernel) (fun c9 => ?_) (fun c9 => absurd (by rw [hi8]; decide) c9)
      refine W.widen (k := 320) (n := 1920) (by omega) (by omega) ?_
      exact K_xpa _ _ _ hP hS (lv_sub hl [1, 2, 3] rfl)
    | succ nxpa ih_xpa =>
      intro ixpa v cs_xpa ss_xpa hcs_xpa hss_xpa H locs ls hin_xpa his_xpa hsp_xpa hP hS hl K_xpa
      refine lv_iload hx hb dX2_mixedPairs_5 (lv_at hl 0 rfl) ?_
      refine lv_bipush (v := 8) hx hb dX2_mixedPairs_7 (by decide +kernel) ?_
      refine lv_icmp_ge (tgt := 73) hx hb dX2_mixedPairs_9 (by decide +kernel) (fun c9 => absurd c9 (show ¬ (8 : Int32) ≤ nI ixpa from nI_ge (a := ixpa) (b := 8) (by omega) (by decide +kernel))) (fun c9 => ?_)
      refine lv_iload hx hb dX2_mixedPairs_12 (lv_at hl 0 rfl) ?_
      refine lv_iconst (v := 1) hx hb dX2_mixedPairs_14 (by decide +kernel) ?_
      refine lv_iadd hx hb dX2_mixedPairs_15 ?_
      rw [nI_1 ixpa]
      refine lv_istore (lv' := [(6, .int (nI (ixpa + 1))), (5, .int (nI ixpa)), (3, .long v), (0, .long p0), (2, .ref ro)]) hx hb dX2_mixedPairs_16 hl (by decide +kernel) rfl (fun ls hl => ?_)
      have loop_xpb : ∀ (nxpb ixpb : Nat) (v9 : Int64) (cs_xpb ss_xpb : Nat), cs_xpb + nxpb * 5 ≤ (cs_xpa + 40) → ss_xpb + nxpb * 30 ≤ (ss_xpa + 240) → ∀ (H : Heap) (locs : List Loc) (ls : Array Slot), ixpb + nxpb = 8 → ixpa + 1 ≤ ixpb → (L_xpb w f ixpa (8 - (ixpa + 1)) (ixpa + 1) v) = L_xpb w f ixpa nxpb ixpb v9 → va_P (dC, dI) xCl [(ro, eR aw ac ab a rv), (aw, eW w), (ac, eA cy f), (ab, eA cy g)] H → va_S (aN s.heap.size) s.heap H locs → lv_has ls 7 [(6, .int (nI ixpb)), (5, .int (nI ixpa)), (3, .long v9), (0, .long p0), (2, .ref ro)] → (∀ (H : Heap) (locs : List Loc) (ls : Array Slot), va_P (dC, dI) xCl [(ro, eR aw ac ab a rv), (aw, eW w), (ac, eA cy f), (ab, eA cy g)] H → va_S (aN s.heap.size) s.heap H locs → lv_has ls 7 [(5, .int (nI ixpa)), (3, .long (L_xpb w f ixpa (8 - (ixpa + 1)) (ixpa + 1) v)), (0, .long p0), (2, .ref ro)] → W p l e (headSpec wsX2_mixedPairs ({ frames := 8, cells := 320, slots := 1920, locals := 144 } : Room)).room s m ([.long p0, .ref ro]).toArray below meth c H locs (cs_xpa + 40) (ss_xpa + 240) (MQ below (va_Ql (fun (r : Int64) (_ : Unit) => r = (o_X2_mixedPairs w f p0)) (fun _ _ => True) (aN s.heap.size)) ([.long p0, .ref ro]).toArray s 320 1920 (aN s.heap.size)) (F0 m 67 ls [])) → W p l e (headSpec wsX2_mixedPairs ({ frames := 8, cells := 320, slots := 1920, locals := 144 } : Room)).room s m ([.long p0, .ref ro]).toArray below meth c H locs cs_xpb ss_xpb (MQ below (va_Ql (fun (r : Int64) (_ : Unit) => r = (o_X2_mixedPairs w f p0)) (fun _ _ => True) (aN s.heap.size)) ([.long p0, .ref ro]).toArray s 320 1920 (aN s.heap.size)) (F0 m 18 ls []) := by
        intro nxpb
        induction nxpb with
        | zero =>
          intro ixpb v9 cs_xpb ss_xpb hcs_xpb hss_xpb H locs ls hin_xpb his_xpb hsp_xpb hP hS hl K_xpb
          have hv : (L_xpb w f ixpa (8 - (ixpa + 1)) (ixpa + 1) v) = v9 := hsp_xpb
          subst hv
          have hi8 : ixpb = 8 := by omega
          refine lv_iload hx hb dX2_mixedPairs_18 (lv_at hl 0 rfl) ?_
          refine lv_bipush (v := 8) hx hb dX2_mixedPairs_20 (by decide +kernel) ?_
          refine lv_icmp_ge (tgt := 67) hx hb dX2_mixedPairs_22 (by decide +kernel) (fun c9 => ?_) (fun c9 => absurd (by rw [hi8]; decide) c9)
          refine W.widen (k := (cs_xpa + 40)) (n := (ss_xpa + 240)) (by omega) (by omega) ?_
          exact K_xpb _ _ _ hP hS (lv_sub hl [1, 2, 3, 4] rfl)
        | succ nxpb ih_xpb =>
          intro ixpb v9 cs_xpb ss_xpb hcs_xpb hss_xpb H locs ls hin_xpb his_xpb hsp_xpb hP hS hl K_xpb
          refine lv_iload hx hb dX2_mixedPairs_18 (lv_at hl 0 rfl) ?_
          refine lv_bipush (v := 8) hx hb dX2_mixedPairs_20 (by decide +kernel) ?_
          refine lv_icmp_ge (tgt := 67) hx hb dX2_mixedPairs_22 (by decide +kernel) (fun c9 => absurd c9 (show ¬ (8 : Int32) ≤ nI ixpb from nI_ge (a := ixpb) (b := 8) (by omega) (by decide +kernel))) (fun c9 => ?_)
          refine lv_lload_n hx hb dX2_mixedPairs_25 rfl (lv_at hl 2 rfl) ?_
          refine lv_aload_n hx hb dX2_mixedPairs_26 rfl (lv_at hl 4 rfl) ?_
          refine lv_iload hx hb dX2_mixedPairs_27 (lv_at hl 1 rfl) ?_
          refine lv_iload hx hb dX2_mixedPairs_29 (lv_at hl 0 rfl) ?_
          refine lv_iconst (v := 0) hx hb dX2_mixedPairs_31 (by decide +kernel) ?_
          have hPc := hP.sub (ws' := [(ro, eR aw ac ab a rv), (aw, eW w), (ac, eA cy f), (ab, eA cy g)]) [0, 1, 2, 3] rfl
          have hDc := hD.sub (ws' := [(ro, eR aw ac ab a rv), (aw, eW w), (ac, eA cy f), (ab, eA cy g)]) [0, 1, 2, 3] (by decide +kernel) rfl
          have hKc := hK.sub (tys' := [(cy, .long)]) [0] rfl
          refine vx_calli (vx_runV (As := [.int (nI ixpa), .int (nI ixpb), .int 0]) (rest := [.long v9]) ⟨hx, hb, hml, hown, hts⟩ (k_X0_order l hfl dC dI cy ro aw ac ab w a rv f g H.size N (nI ixpa) (nI ixpb) 0) (cwV 3 hts gX2_mixedPairs_X0_order rfl rfl rfl (by decide +kernel) ⟨Nat.le_of_ble_eq_true rfl, Nat.le_of_ble_eq_true rfl⟩) (xM.preV hKc hPc hDc (fun _ h => h) (Nat.le_trans hN hS.1) (hG.kept hS hAN) (ci := 2) (q0 := 0) rfl rfl) rfl rfl hl.1 rfl (lv_room (Nat.le_of_ble_eq_true rfl)) dX2_mixedPairs_32 ⟨(show _ ≤ 320 by omega), (show _ ≤ 1920 by omega)⟩) hS xA_old (fun q h => hA q (Nat.le_trans hS.1 h)) xA_old (fun E ce q9 u9 t H locs ht hvm hpx hbx hz hk hS hce hcv hcl => absurd (show (o_X0_order w f (nI ixpa) (nI ixpb) 0).1 = 0 from (by (rw [o_X0_order, if_pos (xm_cc0 (vp_in_nI (n := ixpa) (N := 8) (by omega) (by decide +kernel))), if_pos (xm_cc0 (vp_in_nI (n := ixpb) (N := 8) (by omega) (by decide +kernel))), if_pos (by decide +kernel)]) <;> rfl)) hpx) (fun r_1 u t H locs ht hvm hw hB hz hk hS => ?_)
          obtain ⟨c_2, hw⟩ := hw
          replace hw : r_1 = (o_X0_order w f (nI ixpa) (nI ixpb) 0).2 := hw
          subst r_1
          have hP := xP_keep hP hk
          refine lv_i2l (v := (((o_X0_order w f (nI ixpa) (nI ixpb) 0).2).toInt64)) hx hb dX2_mixedPairs_35 rfl ?_
          have hPc := hP.sub (ws' := []) [] rfl
          have hKc := hK.sub (tys' := []) [] rfl
          refine va_calll (va_runS (As := [.long v9, .long (((o_X0_order w f (nI ixpa) (nI ixpb) 0).2).toInt64)]) (rest := []) ⟨hx, hb, hml, hown, hts⟩ (k_X2_mixed l dC dI H.size v9 (((o_X0_order w f (nI ixpa) (nI ixpb) 0).2).toInt64)) (va_cwS 2 hts gX2_mixedPairs_X2_mixed rfl rfl rfl (by decide +kernel) ⟨Nat.le_of_ble_eq_true rfl, Nat.le_of_ble_eq_true rfl⟩) (xB.preS hKc hPc) rfl rfl hl.1 rfl (lv_room (Nat.le_of_ble_eq_true rfl)) dX2_mixedPairs_36 ⟨(show _ ≤ 320 by omega), (show _ ≤ 1920 by omega)⟩) hS xA_old (fun q h => hA q (Nat.le_trans hS.1 h)) (fun r_3 u t H locs ht hvm hw hB hz hk hS => ?_)
          replace hw : r_3 = (o_X2_mixed v9 (((o_X0_order w f (nI ixpa) (nI ixpb) 0).2).toInt64)) := hw
          subst r_3
          have hP := xP_keep hP hk
          refine lv_lstore_n (lv' := [(3, .long (o_X2_mixed v9 (((o_X0_order w f (nI ixpa) (nI ixpb) 0).2).toInt64))), (6, .int (nI ixpb)), (5, .int (nI ixpa)), (0, .long p0), (2, .ref ro)]) hx hb dX2_mixedPairs_39 rfl hl (by decide +kernel) rfl (fun ls hl => ?_)
          refine lv_lload_n hx hb dX2_mixedPairs_40 rfl (lv_at hl 0 rfl) ?_
          refine lv_aload_n hx hb dX2_mixedPairs_41 rfl (lv_at hl 4 rfl) ?_
          refine lv_iload hx hb dX2_mixedPairs_42 (lv_at hl 2 rfl) ?_
          refine lv_iload hx hb dX2_mixedPairs_44 (lv_at hl 1 rfl) ?_
          have hPc := hP.sub (ws' := [(ro, eR aw ac ab a rv), (aw, eW w), (ac, eA cy f), (ab, eA cy g)]) [0, 1, 2, 3] rfl
          have hDc := hD.sub (ws' := [(ro, eR aw ac ab a rv), (aw, eW w), (ac, eA cy f), (ab, eA cy g)]) [0, 1, 2, 3] (by decide +kernel) rfl
          have hKc := hK.sub (tys' := [(cy, .long)]) [0] rfl
          refine vx_calli (vx_runV (As := [.int (nI ixpa), .int (nI ixpb)]) (rest := [.long (o_X2_mixed v9 (((o_X0_order w f (nI ixpa) (nI ixpb) 0).2).toInt64))]) ⟨hx, hb, hml, hown, hts⟩ (k_X0_areLike l hfl dC dI cy ro aw ac ab w a rv f g H.size N (nI ixpa) (nI ixpb)) (cwV 2 hts gX2_mixedPairs_X0_areLike rfl rfl rfl (by decide +kernel) ⟨Nat.le_of_ble_eq_true rfl, Nat.le_of_ble_eq_true rfl⟩) (xM.preV hKc hPc hDc (fun _ h => h) (Nat.le_trans hN hS.1) (hG.kept hS hAN) (ci := 2) (q0 := 0) rfl rfl) rfl rfl hl.1 rfl (lv_room (Nat.le_of_ble_eq_true rfl)) dX2_mixedPairs_46 ⟨(show _ ≤ 320 by omega), (show _ ≤ 1920 by omega)⟩) hS xA_old (fun q h => hA q (Nat.le_trans hS.1 h)) xA_old (fun E ce q9 u9 t H locs ht hvm hpx hbx hz hk hS hce hcv hcl => absurd (show (o_X0_areLike w f (nI ixpa) (nI ixpb)).1 = 0 from (by (rw [o_X0_areLike, if_pos (xm_cc0 (vp_in_nI (n := ixpa) (N := 8) (by omega) (by decide +kernel))), if_pos (xm_cc0 (vp_in_nI (n := ixpb) (N := 8) (by omega) (by decide +kernel)))]) <;> rfl)) hpx) (fun r_4 u t H locs ht hvm hw hB hz hk hS => ?_)
          obtain ⟨c_5, hw⟩ := hw
          replace hw : r_4 = b2i ((o_X0_areLike w f (nI ixpa) (nI ixpb)).2) := hw
          subst r_4
          have hP := xP_keep hP hk
          refine xz_eq (tgt := 56) hx hb dX2_mixedPairs_49 (by decide +kernel) (fun c_6 => ?_) (fun c_6 => ?_)
          · skip
            refine lv_lconst (v := 0) hx hb dX2_mixedPairs_56 (by decide +kernel) ?_
            have hPc := hP.sub (ws' := []) [] rfl
            have hKc := hK.sub (tys' := []) [] rfl
            refine va_calll (va_runS (As := [.long (o_X2_mixed v9 (((o_X0_order w f (nI ixpa) (nI ixpb) 0).2).toInt64)), .long 0]) (rest := []) ⟨hx, hb, hml, hown, hts⟩ (k_X2_mixed l dC dI H.size (o_X2_mixed v9 (((o_X0_order w f (nI ixpa) (nI ixpb) 0).2).toInt64)) 0) (va_cwS 2 hts gX2_mixedPairs_X2_mixed rfl rfl rfl (by decide +kernel) ⟨Nat.le_of_ble_eq_true rfl, Nat.le_of_ble_eq_true rfl⟩) (xB.preS hKc hPc) rfl rfl hl.1 rfl (lv_room (Nat.le_of_ble_eq_true rfl)) dX2_mixedPairs_57 ⟨(show _ ≤ 320 by omega), (show _ ≤ 1920 by omega)⟩) hS xA_old (fun q h => hA q (Nat.le_trans hS.1 h)) (fun r_7 u t H locs ht hvm hw hB hz hk hS => ?_)
            replace hw : r_7 = (o_X2_mixed (o_X2_mixed v9 (((o_X0_order w f (nI ixpa) (nI ixpb) 0).2).toInt64)) 0) := hw
            subst r_7
            have hP := xP_keep hP hk
            refine lv_lstore_n (lv' := [(3, .long (o_X2_mixed (o_X2_mixed v9 (((o_X0_order w f (nI ixpa) (nI ixpb) 0).2).toInt64)) 0)), (6, .int (nI ixpb)), (5, .int (nI ixpa)), (0, .long p0), (2, .ref ro)]) hx hb dX2_mixedPairs_60 rfl hl (by decide +kernel) rfl (fun ls hl => ?_)
            refine lv_iinc (v := (nI (ixpb + 1))) (lv' := [(6, .int (nI (ixpb + 1))), (3, .long (o_X2_mixed (o_X2_mixed v9 (((o_X0_order w f (nI ixpa) (nI ixpb) 0).2).toInt64)) 0)), (5, .int (nI ixpa)), (0, .long p0), (2, .ref ro)]) hx hb dX2_mixedPairs_61 hl (k := 1) rfl (nI_1 ixpb) (by decide +kernel) rfl (fun ls hl => ?_)
            refine lv_goto (tgt := 18) hx hb dX2_mixedPairs_64 (by decide +kernel) ?_
            refine W.widen (k := cs_xpb + 5) (n := ss_xpb + 30) (by omega) (by omega) ?_
            exact ih_xpb (ixpb + 1) (o_X2_mixed (o_X2_mixed v9 (((o_X0_order w f (nI ixpa) (nI ixpb) 0).2).toInt64)) 0) (cs_xpb + 5) (ss_xpb + 30) (by omega) (by omega) _ _ _ (by omega) (by omega) (hsp_xpb.trans (by (rw [L_xpb, if_neg c_6]) <;> rfl)) hP hS (lv_sub hl [0, 2, 1, 3, 4] rfl) K_xpb
          · skip
            refine lv_lconst (v := 1) hx hb dX2_mixedPairs_52 (by decide +kernel) ?_
            refine lv_goto (tgt := 57) hx hb dX2_mixedPairs_53 (by decide +kernel) ?_
            have hPc := hP.sub (ws' := []) [] rfl
            have hKc := hK.sub (tys' := []) [] rfl
            refine va_calll (va_runS (As := [.long (o_X2_mixed v9 (((o_X0_order w f (nI ixpa) (nI ixpb) 0).2).toInt64)), .long 1]) (rest := []) ⟨hx, hb, hml, hown, hts⟩ (k_X2_mixed l dC dI H.size (o_X2_mixed v9 (((o_X0_order w f (nI ixpa) (nI ixpb) 0).2).toInt64)) 1) (va_cwS 2 hts gX2_mixedPairs_X2_mixed rfl rfl rfl (by decide +kernel) ⟨Nat.le_of_ble_eq_true rfl, Nat.le_of_ble_eq_true rfl⟩) (xB.preS hKc hPc) rfl rfl hl.1 rfl (lv_room (Nat.le_of_ble_eq_true rfl)) dX2_mixedPairs_57 ⟨(show _ ≤ 320 by omega), (show _ ≤ 1920 by omega)⟩) hS xA_old (fun q h => hA q (Nat.le_trans hS.1 h)) (fun r_8 u t H locs ht hvm hw hB hz hk hS => ?_)
            replace hw : r_8 = (o_X2_mixed (o_X2_mixed v9 (((o_X0_order w f (nI ixpa) (nI ixpb) 0).2).toInt64)) 1) := hw
            subst r_8
            have hP := xP_keep hP hk
            refine lv_lstore_n (lv' := [(3, .long (o_X2_mixed (o_X2_mixed v9 (((o_X0_order w f (nI ixpa) (nI ixpb) 0).2).toInt64)) 1)), (6, .int (nI ixpb)), (5, .int (nI ixpa)), (0, .long p0), (2, .ref ro)]) hx hb dX2_mixedPairs_60 rfl hl (by decide +kernel) rfl (fun ls hl => ?_)
            refine lv_iinc (v := (nI (ixpb + 1))) (lv' := [(6, .int (nI (ixpb + 1))), (3, .long (o_X2_mixed (o_X2_mixed v9 (((o_X0_order w f (nI ixpa) (nI ixpb) 0).2).toInt64)) 1)), (5, .int (nI ixpa)), (0, .long p0), (2, .ref ro)]) hx hb dX2_mixedPairs_61 hl (k := 1) rfl (nI_1 ixpb) (by decide +kernel) rfl (fun ls hl => ?_)
            refine lv_goto (tgt := 18) hx hb dX2_mixedPairs_64 (by decide +kernel) ?_
            refine W.widen (k := cs_xpb + 5) (n := ss_xpb + 30) (by omega) (by omega) ?_
            exact ih_xpb (ixpb + 1) (o_X2_mixed (o_X2_mixed v9 (((o_X0_order w f (nI ixpa) (nI ixpb) 0).2).toInt64)) 1) (cs_xpb + 5) (ss_xpb + 30) (by omega) (by omega) _ _ _ (by omega) (by omega) (hsp_xpb.trans (by (rw [L_xpb, if_pos c_6]) <;> rfl)) hP hS (lv_sub hl [0, 2, 1, 3, 4] rfl) K_xpb
      refine W.widen (k := (cs_xpa + 0)) (n := (ss_xpa + 0)) (by omega) (by omega) ?_
      refine loop_xpb (8 - (ixpa + 1)) (ixpa + 1) v (cs_xpa + 0) (ss_xpa + 0) (by omega) (by omega) _ _ _ (by omega) (by omega) rfl hP hS (lv_sub hl [0, 1, 2, 3, 4] rfl) (fun H locs ls hP hS hl => ?_)
      refine lv_iinc (v := (nI (ixpa + 1))) (lv' := [(5, .int (nI (ixpa + 1))), (3, .long (L_xpb w f ixpa (8 - (ixpa + 1)) (ixpa + 1) v)), (0, .long p0), (2, .ref ro)]) hx hb dX2_mixedPairs_67 hl (k := 0) rfl (nI_1 ixpa) (by decide +kernel) rfl (fun ls hl => ?_)
      refine lv_goto (tgt := 5) hx hb dX2_mixedPairs_70 (by decide +kernel) ?_
      refine W.widen (k := cs_xpa + 40) (n := ss_xpa + 240) (by omega) (by omega) ?_
      exact ih_xpa (ixpa + 1) (L_xpb w f ixpa (8 - (ixpa + 1)) (ixpa + 1) v) (cs_xpa + 40) (ss_xpa + 240) (by omega) (by omega) _ _ _ (by omega) (by omega) (hsp_xpa.trans (by (rw [L_xpa]) <;> rfl)) hP hS (lv_sub hl [0, 1, 2, 3] rfl) K_xpa
  refine W.widen (k := 0) (n := 0) (by omega) (by omega) ?_
  refine loop_xpa 8 0 p0 0 0 (by omega) (by omega) _ _ _ (by omega) (by omega) rfl hP hS (lv_sub hl [0, 1, 2, 3] rfl) (fun H locs ls hP hS hl => ?_)
  refine lv_lload_n hx hb dX2_mixedPairs_73 rfl (lv_at hl 0 rfl) ?_
  have he : o_X2_mixedPairs w f p0 = (L_xpa w f 8 0 p0) := by (rw [o_X2_mixedPairs]) <;> rfl
  refine W.widen (k := 320) (n := 1920) (by omega) (by omega) ?_
  exact W.lret (v := (L_xpa w f 8 0 p0)) hx hb hr (fun t ht hW => ⟨⟨_, (), rfl, (by (rw [he]) <;> rfl), trivial⟩, hS.F ht⟩) hS.2.2 dX2_mixedPairs_74
theorem cl_X2_isSound_1 : ∀ w ∈ wsX2_isSound_r1, w ∈ wsX2_isSound := fun _ h => (List.mem_cons_of_mem _ (List.mem_append_left _ (List.mem_append_left _ (List.mem_append_left _ (List.mem_append_left _ h)))))
theorem cl_X2_isSound_2 : ∀ w ∈ wsX2_isSound_r2, w ∈ wsX2_isSound := fun _ h => (List.mem_cons_of_mem _ (List.mem_append_left _ (List.mem_append_left _ (List.mem_append_left _ (List.mem_append_right _ (List.mem_append_left _ h))))))
theorem cl_X2_isSound_3 : ∀ w ∈ wsX2_isSound_r3, w ∈ wsX2_isSound := fun _ h => (List.mem_cons_of_mem _ (List.mem_append_left _ (List.mem_append_left _ (List.mem_append_left _ (List.mem_append_right _ (List.mem_append_right _ h))))))
theorem cl_X2_isSound_4 : ∀ w ∈ wsX20, w ∈ wsX2_isSound := fun _ h => (List.mem_cons_of_mem _ (List.mem_append_left _ (List.mem_append_left _ (List.mem_append_right _ h))))
theorem cl_X2_isSound_5 : ∀ w ∈ wsX00, w ∈ wsX2_isSound := fun _ h => (List.mem_cons_of_mem _ (List.mem_append_left _ (List.mem_append_right _ h)))
theorem cl_X2_isSound_6 : ∀ w ∈ wsX10, w ∈ wsX2_isSound := fun _ h => (List.mem_cons_of_mem _ (List.mem_append_right _ h))
set_option maxRecDepth 20000 in
theorem ggX2_isSound_X0_isWellOrdered : GoodIn wsX2_isSound wsX0_isWellOrdered := goodIn_sub (List.forall_mem_cons.mpr ⟨(cl_X2_isSound_1 _ (List.mem_of_getElem? (i := 6) rfl)), fun w h => (List.mem_append.mp h).elim ((fun w h => (List.mem_append.mp h).elim ((fun w h => (List.mem_append.mp h).elim ((List.forall_mem_cons.mpr ⟨(cl_X2_isSound_1 _ (List.mem_of_getElem? (i := 7) rfl)), List.forall_mem_cons.mpr ⟨(cl_X2_isSound_1 _ (List.mem_of_getElem? (i := 8) rfl)), List.forall_mem_cons.mpr ⟨(cl_X2_isSound_1 _ (List.mem_of_getElem? (i := 9) rfl)), List.forall_mem_cons.mpr ⟨(cl_X2_isSound_1 _ (List.mem_of_getElem? (i := 10) rfl)), List.forall_mem_cons.mpr ⟨(cl_X2_isSound_1 _ (List.mem_of_getElem? (i := 11) rfl)), List.forall_mem_cons.mpr ⟨(cl_X2_isSound_1 _ (List.mem_of_getElem? (i := 12) rfl)), List.forall_mem_cons.mpr ⟨(cl_X2_isSound_1 _ (List.mem_of_getElem? (i := 13) rfl)), List.forall_mem_cons.mpr ⟨(cl_X2_isSound_1 _ (List.mem_of_getElem? (i := 14) rfl)), List.forall_mem_cons.mpr ⟨(cl_X2_isSound_1 _ (List.mem_of_getElem? (i := 15) rfl)), List.forall_mem_cons.mpr ⟨(cl_X2_isSound_1 _ (List.mem_of_getElem? (i := 16) rfl)), List.forall_mem_cons.mpr ⟨(cl_X2_isSound_1 _ (List.mem_of_getElem? (i := 17) rfl)), List.forall_mem_cons.mpr ⟨(cl_X2_isSound_1 _ (List.mem_of_getElem? (i := 18) rfl)), List.forall_mem_cons.mpr ⟨(cl_X2_isSound_1 _ (List.mem_of_getElem? (i := 19) rfl)), List.forall_mem_cons.mpr ⟨(cl_X2_isSound_1 _ (List.mem_of_getElem? (i := 20) rfl)), List.forall_mem_cons.mpr ⟨(cl_X2_isSound_1 _ (List.mem_of_getElem? (i := 21) rfl)), List.forall_mem_cons.mpr ⟨(cl_X2_isSound_1 _ (List.mem_of_getElem? (i := 22) rfl)), List.forall_mem_cons.mpr ⟨(cl_X2_isSound_1 _ (List.mem_of_getElem? (i := 23) rfl)), List.forall_mem_cons.mpr ⟨(cl_X2_isSound_2 _ (List.mem_of_getElem? (i := 0) rfl)), List.forall_mem_cons.mpr ⟨(cl_X2_isSound_2 _ (List.mem_of_getElem? (i := 1) rfl)), List.forall_mem_cons.mpr ⟨(cl_X2_isSound_2 _ (List.mem_of_getElem? (i := 2) rfl)), List.forall_mem_cons.mpr ⟨(cl_X2_isSound_2 _ (List.mem_of_getElem? (i := 3) rfl)), List.forall_mem_cons.mpr ⟨(cl_X2_isSound_2 _ (List.mem_of_getElem? (i := 4) rfl)), List.forall_mem_cons.mpr ⟨(cl_X2_isSound_2 _ (List.mem_of_getElem? (i := 5) rfl)), List.forall_mem_cons.mpr ⟨(cl_X2_isSound_2 _ (List.mem_of_getElem? (i := 6) rfl)), fun _ h => absurd h List.not_mem_nil⟩⟩⟩⟩⟩⟩⟩⟩⟩⟩⟩⟩⟩⟩⟩⟩⟩⟩⟩⟩⟩⟩⟩⟩) w) ((fun w h => (List.mem_append.mp h).elim ((List.forall_mem_cons.mpr ⟨(cl_X2_isSound_2 _ (List.mem_of_getElem? (i := 7) rfl)), List.forall_mem_cons.mpr ⟨(cl_X2_isSound_2 _ (List.mem_of_getElem? (i := 8) rfl)), List.forall_mem_cons.mpr ⟨(cl_X2_isSound_2 _ (List.mem_of_getElem? (i := 9) rfl)), List.forall_mem_cons.mpr ⟨(cl_X2_isSound_2 _ (List.mem_of_getElem? (i := 10) rfl)), List.forall_mem_cons.mpr ⟨(cl_X2_isSound_2 _ (List.mem_of_getElem? (i := 11) rfl)), List.forall_mem_cons.mpr ⟨(cl_X2_isSound_2 _ (List.mem_of_getElem? (i := 12) rfl)), List.forall_mem_cons.mpr ⟨(cl_X2_isSound_2 _ (List.mem_of_getElem? (i := 13) rfl)), List.forall_mem_cons.mpr ⟨(cl_X2_isSound_2 _ (List.mem_of_getElem? (i := 14) rfl)), List.forall_mem_cons.mpr ⟨(cl_X2_isSound_2 _ (List.mem_of_getElem? (i := 15) rfl)), List.forall_mem_cons.mpr ⟨(cl_X2_isSound_2 _ (List.mem_of_getElem? (i := 16) rfl)), List.forall_mem_cons.mpr ⟨(cl_X2_isSound_2 _ (List.mem_of_getElem? (i := 17) rfl)), List.forall_mem_cons.mpr ⟨(cl_X2_isSound_2 _ (List.mem_of_getElem? (i := 18) rfl)), List.forall_mem_cons.mpr ⟨(cl_X2_isSound_2 _ (List.mem_of_getElem? (i := 19) rfl)), List.forall_mem_cons.mpr ⟨(cl_X2_isSound_2 _ (List.mem_of_getElem? (i := 20) rfl)), List.forall_mem_cons.mpr ⟨(cl_X2_isSound_2 _ (List.mem_of_getElem? (i := 21) rfl)), List.forall_mem_cons.mpr ⟨(cl_X2_isSound_2 _ (List.mem_of_getElem? (i := 22) rfl)), List.forall_mem_cons.mpr ⟨(cl_X2_isSound_2 _ (List.mem_of_getElem? (i := 23) rfl)), List.forall_mem_cons.mpr ⟨(cl_X2_isSound_3 _ (List.mem_of_getElem? (i := 0) rfl)), List.forall_mem_cons.mpr ⟨(cl_X2_isSound_3 _ (List.mem_of_getElem? (i := 1) rfl)), List.forall_mem_cons.mpr ⟨(cl_X2_isSound_3 _ (List.mem_of_getElem? (i := 2) rfl)), List.forall_mem_cons.mpr ⟨(cl_X2_isSound_3 _ (List.mem_of_getElem? (i := 3) rfl)), List.forall_mem_cons.mpr ⟨(cl_X2_isSound_3 _ (List.mem_of_getElem? (i := 4) rfl)), List.forall_mem_cons.mpr ⟨(cl_X2_isSound_3 _ (List.mem_of_getElem? (i := 5) rfl)), List.forall_mem_cons.mpr ⟨(cl_X2_isSound_3 _ (List.mem_of_getElem? (i := 6) rfl)), fun _ h => absurd h List.not_mem_nil⟩⟩⟩⟩⟩⟩⟩⟩⟩⟩⟩⟩⟩⟩⟩⟩⟩⟩⟩⟩⟩⟩⟩⟩) w) ((List.forall_mem_cons.mpr ⟨(cl_X2_isSound_3 _ (List.mem_of_getElem? (i := 7) rfl)), List.forall_mem_cons.mpr ⟨(cl_X2_isSound_3 _ (List.mem_of_getElem? (i := 8) rfl)), List.forall_mem_cons.mpr ⟨(cl_X2_isSound_3 _ (List.mem_of_getElem? (i := 9) rfl)), List.forall_mem_cons.mpr ⟨(cl_X2_isSound_3 _ (List.mem_of_getElem? (i := 10) rfl)), List.forall_mem_cons.mpr ⟨(cl_X2_isSound_3 _ (List.mem_of_getElem? (i := 11) rfl)), List.forall_mem_cons.mpr ⟨(cl_X2_isSound_3 _ (List.mem_of_getElem? (i := 12) rfl)), List.forall_mem_cons.mpr ⟨(cl_X2_isSound_3 _ (List.mem_of_getElem? (i := 13) rfl)), List.forall_mem_cons.mpr ⟨(cl_X2_isSound_3 _ (List.mem_of_getElem? (i := 14) rfl)), List.forall_mem_cons.mpr ⟨(cl_X2_isSound_3 _ (List.mem_of_getElem? (i := 15) rfl)), List.forall_mem_cons.mpr ⟨(cl_X2_isSound_3 _ (List.mem_of_getElem? (i := 16) rfl)), List.forall_mem_cons.mpr ⟨(cl_X2_isSound_3 _ (List.mem_of_getElem? (i := 17) rfl)), List.forall_mem_cons.mpr ⟨(cl_X2_isSound_1 _ (List.mem_of_getElem? (i := 5) rfl)), List.forall_mem_cons.mpr ⟨(cl_X2_isSound_3 _ (List.mem_of_getElem? (i := 18) rfl)), List.forall_mem_cons.mpr ⟨(cl_X2_isSound_3 _ (List.mem_of_getElem? (i := 19) rfl)), List.forall_mem_cons.mpr ⟨(cl_X2_isSound_3 _ (List.mem_of_getElem? (i := 20) rfl)), List.forall_mem_cons.mpr ⟨(cl_X2_isSound_3 _ (List.mem_of_getElem? (i := 21) rfl)), List.forall_mem_cons.mpr ⟨(cl_X2_isSound_3 _ (List.mem_of_getElem? (i := 22) rfl)), fun _ h => absurd h List.not_mem_nil⟩⟩⟩⟩⟩⟩⟩⟩⟩⟩⟩⟩⟩⟩⟩⟩⟩) w)) w)) w) ((cl_X2_isSound_5) w)) w) ((cl_X2_isSound_6) w)⟩) (by decide +kernel)
set_option maxRecDepth 20000 in
theorem gX2_isSound_X0_isWellOrdered : GoodIn wsX2_isSound (wsV RX2 121 RX0 yX0_isWellOrdered wsX0_isWellOrdered) := goodIn_app (goodIn_sub (List.forall_mem_cons.mpr ⟨(cl_X2_isSound_1 _ (List.mem_of_getElem? (i := 2) rfl)), List.forall_mem_cons.mpr ⟨(cl_X2_isSound_1 _ (List.mem_of_getElem? (i := 3) rfl)), List.forall_mem_cons.mpr ⟨(cl_X2_isSound_1 _ (List.mem_of_getElem? (i := 4) rfl)), List.forall_mem_cons.mpr ⟨(cl_X2_isSound_1 _ (List.mem_of_getElem? (i := 5) rfl)), fun _ h => absurd h List.not_mem_nil⟩⟩⟩⟩) (by decide +kernel)) ggX2_isSound_X0_isWellOrdered
noncomputable def dz_p14_10 : List (Nat × Instr × Nat) := [(0, (.aload_n 0, 1)), (1, (.getfield 20, 3)), (4, (.invokevirtual 121, 3)), (7, (.ifCond .eq 17, 3)), (10, (.aload_n 0, 1)), (11, (.getfield 25, 3)), (14, (.invokevirtual 121, 3)), (17, (.ifCond .eq 7, 3)), (20, (.iconst 1, 1)), (21, (.goto 4, 3)), (24, (.iconst 0, 1)), (25, (.ireturn, 1))]
theorem dy_p14_10 : dz_ok cX2_isSound dz_p14_10 = true := by decide +kernel
theorem dX2_isSound_0 : decode cX2_isSound 0 = .ok (.aload_n 0, 1) := dz_at (i := 0) dy_p14_10 rfl
theorem dX2_isSound_1 : decode cX2_isSound 1 = .ok (.getfield 20, 3) := dz_at (i := 1) dy_p14_10 rfl
theorem dX2_isSound_4 : decode cX2_isSound 4 = .ok (.invokevirtual 121, 3) := dz_at (i := 2) dy_p14_10 rfl
theorem dX2_isSound_7 : decode cX2_isSound 7 = .ok (.ifCond .eq 17, 3) := dz_at (i := 3) dy_p14_10 rfl
theorem dX2_isSound_10 : decode cX2_isSound 10 = .ok (.aload_n 0, 1) := dz_at (i := 4) dy_p14_10 rfl
theorem dX2_isSound_11 : decode cX2_isSound 11 = .ok (.getfield 25, 3) := dz_at (i := 5) dy_p14_10 rfl
theorem dX2_isSound_14 : decode cX2_isSound 14 = .ok (.invokevirtual 121, 3) := dz_at (i := 6) dy_p14_10 rfl
theorem dX2_isSound_17 : decode cX2_isSound 17 = .ok (.ifCond .eq 7, 3) := dz_at (i := 7) dy_p14_10 rfl
theorem dX2_isSound_20 : decode cX2_isSound 20 = .ok (.iconst 1, 1) := dz_at (i := 8) dy_p14_10 rfl
theorem dX2_isSound_21 : decode cX2_isSound 21 = .ok (.goto 4, 3) := dz_at (i := 9) dy_p14_10 rfl
theorem dX2_isSound_24 : decode cX2_isSound 24 = .ok (.iconst 0, 1) := dz_at (i := 10) dy_p14_10 rfl
theorem dX2_isSound_25 : decode cX2_isSound 25 = .ok (.ireturn, 1) := dz_at (i := 11) dy_p14_10 rfl
noncomputable def o_X2_isSound   : Bool :=
  true
set_option maxHeartbeats 4000000 in
set_option maxRecDepth 100000 in
theorem k_X2_isSound (l : Launch) (dC : Nat → ClassId) (dI : Nat → Nat → Nat) (cy : ClassId) (h0 : Nat) (h1 : Nat) (hw1 : Nat) (hc1 : Nat) (hb1 : Nat) (h2 : Nat) (hw2 : Nat) (hc2 : Nat) (hb2 : Nat) (a1 : Int32) (r1 : Int32) (f1 : Nat → Int64) (g1 : Nat → Int64) (a2 : Int32) (r2 : Int32) (f2 : Nat → Int64) (g2 : Nat → Int64) (kn : Int32) (sz : Nat)  (hok2 : okF false f2) (hsp1 : ∀ k, k < 8 → o_X1_isSpoiled true (f1 k) = false) (hsp2 : ∀ k, k < 8 → o_X1_isSpoiled false (f2 k) = false) : Met l yX2_isSound wsX2_isSound ({ frames := 5, cells := 0, slots := 0, locals := 128 }) (va_Pc [.ref h0] (xB (dC, dI) xCl [(h0, eE h1 h2 kn), (h1, eR hw1 hc1 hb1 a1 r1), (hw1, eW true), (hc1, eA cy f1), (hb1, eA cy g1), (h2, eR hw2 hc2 hb2 a2 r2), (hw2, eW false), (hc2, eA cy f2), (hb2, eA cy g2)] [(cy, .long)] sz)) (va_Qi (fun (r : Int32) (_ : Unit) => r = b2i (o_X2_isSound )) (fun _ _ => True) (aN sz)) 0 0 (aN sz) := by
  refine Met.ofW (cc := cX2_isSound) (maxL := 1) (ret := (some .boolean)) (by decide +kernel) rfl ?_
  intro p e s m args below meth c s₁ B hml hv
  obtain ⟨rfl, hsz, hP, hK⟩ := hv
  have hx := B.exec
  have hb := B.bytes
  have hr := B.returns
  have hts := atoms_spec (ws := wsX2_isSound) B.pre
  have hown : s.vm.findClass RX2 = some m.cls := findClass_of_methodNamed B.named
  have hlocks := B.notSynchronized
  subst hsz
  have hA : ∀ q : Nat, s.heap.size ≤ q → aN s.heap.size q := fun _ h => h
  have hS : va_S (aN s.heap.size) s.heap s.heap [] := va_S.rf
  have hP : va_P (dC, dI) xCl [(h0, eE h1 h2 kn), (h1, eR hw1 hc1 hb1 a1 r1), (hw1, eW true), (hc1, eA cy f1), (hb1, eA cy g1), (h2, eR hw2 hc2 hb2 a2 r2), (hw2, eW false), (hc2, eA cy f2), (hb2, eA cy g2)] s.heap := hP
  have hl := lv_entry ([.ref h0]) (n := 1) (Nat.le_of_ble_eq_true rfl)
  rw [lg_entry_eq]
  generalize (lg_sl ([.ref h0]) ++ List.replicate (1 - (lg_sl ([.ref h0])).length) Slot.unset).toArray = ls at hl ⊢
  have hl : lv_has ls 1 [(0, .ref h0)] := hl
  refine lv_aload_n hx hb dX2_isSound_0 rfl (lv_at hl 0 rfl) ?_
  refine va_get (D := (dC, dI)) (ci := 4) (v := .ref h1) (C := RX2) (T := TX2) (N := 3) hx hb hts (by decide +kernel) hown hK hP 0 rfl rfl 0 (by decide +kernel) (hts (.fieldLink RX2 20 "Edgefloats" "wide" "LEdgefloats$Row;") (by decide +kernel)) (fun _ h9 => h9) rfl dX2_isSound_1 ?_
  have hPc := hP.sub (ws' := [(h1, eR hw1 hc1 hb1 a1 r1), (hw1, eW true), (hc1, eA cy f1), (hb1, eA cy g1)]) [1, 2, 3, 4] rfl
  have hKc := hK.sub (tys' := [(cy, .long)]) [0] rfl
  refine va_calli (va_runV (As := []) (rest := []) ⟨hx, hb, hml, hown, hts⟩ (k_X0_isWellOrdered l dC dI cy h1 hw1 hc1 hb1 true a1 r1 f1 g1 s.heap.size (okF_true _) hsp1) (cwV 0 hts gX2_isSound_X0_isWellOrdered rfl rfl rfl (by decide +kernel) ⟨Nat.le_of_ble_eq_true rfl, Nat.le_of_ble_eq_true rfl⟩) (xB.preV hKc hPc (ci := 2) (q0 := 0) rfl rfl) rfl rfl hl.1 rfl (lv_room (Nat.le_of_ble_eq_true rfl)) dX2_isSound_4 ⟨Nat.le_of_ble_eq_true rfl, Nat.le_of_ble_eq_true rfl⟩) hS xA_old (fun q h => hA q (Nat.le_trans hS.1 h)) (fun r_1 u t H locs ht hvm hw hB hz hk hS => ?_)
  replace hw : r_1 = b2i (o_X0_isWellOrdered) := hw
  subst r_1
  have hP := xP_keep hP hk
  refine xz_eq (tgt := 24) hx hb dX2_isSound_7 (by decide +kernel) (fun c9 => absurd (by rfl) c9) (fun c9 => ?_)
  refine lv_aload_n hx hb dX2_isSound_10 rfl (lv_at hl 0 rfl) ?_
  refine va_get (D := (dC, dI)) (ci := 4) (v := .ref h2) (C := RX2) (T := TX2) (N := 3) hx hb hts (by decide +kernel) hown hK hP 0 rfl rfl 1 (by decide +kernel) (hts (.fieldLink RX2 25 "Edgefloats" "narrow" "LEdgefloats$Row;") (by decide +kernel)) (fun _ h9 => h9) rfl dX2_isSound_11 ?_
  have hPc := hP.sub (ws' := [(h2, eR hw2 hc2 hb2 a2 r2), (hw2, eW false), (hc2, eA cy f2), (hb2, eA cy g2)]) [5, 6, 7, 8] rfl
  have hKc := hK.sub (tys' := [(cy, .long)]) [0] rfl
  refine va_calli (va_runV (As := []) (rest := []) ⟨hx, hb, hml, hown, hts⟩ (k_X0_isWellOrdered l dC dI cy h2 hw2 hc2 hb2 false a2 r2 f2 g2 H.size hok2 hsp2) (cwV 0 hts gX2_isSound_X0_isWellOrdered rfl rfl rfl (by decide +kernel) ⟨Nat.le_of_ble_eq_true rfl, Nat.le_of_ble_eq_true rfl⟩) (xB.preV hKc hPc (ci := 2) (q0 := 0) rfl rfl) rfl rfl hl.1 rfl (lv_room (Nat.le_of_ble_eq_true rfl)) dX2_isSound_14 ⟨Nat.le_of_ble_eq_true rfl, Nat.le_of_ble_eq_true rfl⟩) hS xA_old (fun q h => hA q (Nat.le_trans hS.1 h)) (fun r_2 u t H locs ht hvm hw hB hz hk hS => ?_)
  replace hw : r_2 = b2i (o_X0_isWellOrdered) := hw
  subst r_2
  have hP := xP_keep hP hk
  refine xz_eq (tgt := 24) hx hb dX2_isSound_17 (by decide +kernel) (fun c9 => absurd (by rfl) c9) (fun c9 => ?_)
  refine lv_iconst (v := 1) hx hb dX2_isSound_20 (by decide +kernel) ?_
  refine lv_goto (tgt := 25) hx hb dX2_isSound_21 (by decide +kernel) ?_
  have he : o_X2_isSound  = true := by (rw [o_X2_isSound]) <;> rfl
  refine W.widen (k := 0) (n := 0) (by omega) (by omega) ?_
  exact W.zret (v := 1) (ty := .boolean) hx hb hr rfl (fun t ht hW => ⟨⟨_, (), rfl, (by (rw [he]) <;> rfl), trivial⟩, hS.F ht⟩) hS.2.2 dX2_isSound_25
theorem cl_X2_digest_1 : ∀ w ∈ wsX2_digest_r1, w ∈ wsX2_digest := fun _ h => (List.mem_cons_of_mem _ (List.mem_append_left _ (List.mem_append_left _ (List.mem_append_left _ (List.mem_append_left _ (List.mem_append_left _ (List.mem_append_left _ h)))))))
theorem cl_X2_digest_2 : ∀ w ∈ wsX2_digest_r2, w ∈ wsX2_digest := fun _ h => (List.mem_cons_of_mem _ (List.mem_append_left _ (List.mem_append_left _ (List.mem_append_left _ (List.mem_append_left _ (List.mem_append_left _ (List.mem_append_right _ (List.mem_append_left _ h))))))))
theorem cl_X2_digest_3 : ∀ w ∈ wsX2_digest_r3, w ∈ wsX2_digest := fun _ h => (List.mem_cons_of_mem _ (List.mem_append_left _ (List.mem_append_left _ (List.mem_append_left _ (List.mem_append_left _ (List.mem_append_left _ (List.mem_append_right _ (List.mem_append_right _ (List.mem_append_left _ h)))))))))
theorem cl_X2_digest_4 : ∀ w ∈ wsX2_digest_r4, w ∈ wsX2_digest := fun _ h => (List.mem_cons_of_mem _ (List.mem_append_left _ (List.mem_append_left _ (List.mem_append_left _ (List.mem_append_left _ (List.mem_append_left _ (List.mem_append_right _ (List.mem_append_right _ (List.mem_append_right _ (List.mem_append_left _ h))))))))))
theorem cl_X2_digest_5 : ∀ w ∈ wsX2_digest_r5, w ∈ wsX2_digest := fun _ h => (List.mem_cons_of_mem _ (List.mem_append_left _ (List.mem_append_left _ (List.mem_append_left _ (List.mem_append_left _ (List.mem_append_left _ (List.mem_append_right _ (List.mem_append_right _ (List.mem_append_right _ (List.mem_append_right _ (List.mem_append_left _ h)))))))))))
theorem cl_X2_digest_6 : ∀ w ∈ wsX2_digest_r6, w ∈ wsX2_digest := fun _ h => (List.mem_cons_of_mem _ (List.mem_append_left _ (List.mem_append_left _ (List.mem_append_left _ (List.mem_append_left _ (List.mem_append_left _ (List.mem_append_right _ (List.mem_append_right _ (List.mem_append_right _ (List.mem_append_right _ (List.mem_append_right _ (List.mem_append_left _ h))))))))))))
theorem cl_X2_digest_7 : ∀ w ∈ wsX2_digest_r7, w ∈ wsX2_digest := fun _ h => (List.mem_cons_of_mem _ (List.mem_append_left _ (List.mem_append_left _ (List.mem_append_left _ (List.mem_append_left _ (List.mem_append_left _ (List.mem_append_right _ (List.mem_append_right _ (List.mem_append_right _ (List.mem_append_right _ (List.mem_append_right _ (List.mem_append_right _ h))))))))))))
theorem cl_X2_digest_8 : ∀ w ∈ wsX20, w ∈ wsX2_digest := fun _ h => (List.mem_cons_of_mem _ (List.mem_append_left _ (List.mem_append_left _ (List.mem_append_left _ (List.mem_append_left _ (List.mem_append_right _ h))))))
theorem cl_X2_digest_9 : ∀ w ∈ wsX00, w ∈ wsX2_digest := fun _ h => (List.mem_cons_of_mem _ (List.mem_append_left _ (List.mem_append_left _ (List.mem_append_left _ (List.mem_append_right _ h)))))
theorem cl_X2_digest_10 : ∀ w ∈ wsX10, w ∈ wsX2_digest := fun _ h => (List.mem_cons_of_mem _ (List.mem_append_left _ (List.mem_append_left _ (List.mem_append_right _ h))))
theorem cl_X2_digest_11 : ∀ w ∈ (vx_atS RX2 152 "java/lang/IndexOutOfBoundsException" ["java/lang/RuntimeException", "java/lang/Exception"]).filter goodWord, w ∈ wsX2_digest := fun _ h => (List.mem_cons_of_mem _ (List.mem_append_left _ (List.mem_append_right _ h)))
theorem cl_X2_digest_12 : ∀ w ∈ (vx_atS RX2 159 "java/lang/IllegalArgumentException" ["java/lang/RuntimeException", "java/lang/Exception"]).filter goodWord, w ∈ wsX2_digest := fun _ h => (List.mem_cons_of_mem _ (List.mem_append_right _ h))
set_option maxRecDepth 20000 in
theorem ggX2_digest_X0_firstHalf : GoodIn wsX2_digest wsX0_firstHalf := goodIn_sub (List.forall_mem_cons.mpr ⟨(cl_X2_digest_1 _ (List.mem_of_getElem? (i := 7) rfl)), fun w h => (List.mem_append.mp h).elim ((fun w h => (List.mem_append.mp h).elim ((List.forall_mem_cons.mpr ⟨(cl_X2_digest_1 _ (List.mem_of_getElem? (i := 8) rfl)), List.forall_mem_cons.mpr ⟨(cl_X2_digest_1 _ (List.mem_of_getElem? (i := 9) rfl)), List.forall_mem_cons.mpr ⟨(cl_X2_digest_1 _ (List.mem_of_getElem? (i := 10) rfl)), List.forall_mem_cons.mpr ⟨(cl_X2_digest_1 _ (List.mem_of_getElem? (i := 11) rfl)), List.forall_mem_cons.mpr ⟨(cl_X2_digest_1 _ (List.mem_of_getElem? (i := 12) rfl)), List.forall_mem_cons.mpr ⟨(cl_X2_digest_1 _ (List.mem_of_getElem? (i := 13) rfl)), fun _ h => absurd h List.not_mem_nil⟩⟩⟩⟩⟩⟩) w) ((cl_X2_digest_9) w)) w) ((cl_X2_digest_11) w)⟩) (by decide +kernel)
set_option maxRecDepth 20000 in
theorem gX2_digest_X0_firstHalf : GoodIn wsX2_digest (wsV RX2 65 RX0 yX0_firstHalf wsX0_firstHalf) := goodIn_app (goodIn_sub (List.forall_mem_cons.mpr ⟨(cl_X2_digest_1 _ (List.mem_of_getElem? (i := 3) rfl)), List.forall_mem_cons.mpr ⟨(cl_X2_digest_1 _ (List.mem_of_getElem? (i := 4) rfl)), List.forall_mem_cons.mpr ⟨(cl_X2_digest_1 _ (List.mem_of_getElem? (i := 5) rfl)), List.forall_mem_cons.mpr ⟨(cl_X2_digest_1 _ (List.mem_of_getElem? (i := 6) rfl)), fun _ h => absurd h List.not_mem_nil⟩⟩⟩⟩) (by decide +kernel)) ggX2_digest_X0_firstHalf
set_option maxRecDepth 20000 in
theorem ggX2_digest_X2_mixed : GoodIn wsX2_digest wsX2_mixed := goodIn_sub (List.forall_mem_cons.mpr ⟨(cl_X2_digest_1 _ (List.mem_of_getElem? (i := 16) rfl)), List.forall_mem_cons.mpr ⟨(cl_X2_digest_1 _ (List.mem_of_getElem? (i := 17) rfl)), fun _ h => absurd h List.not_mem_nil⟩⟩) (by decide +kernel)
set_option maxRecDepth 20000 in
theorem gX2_digest_X2_mixed : GoodIn wsX2_digest (va_wsS RX2 127 yX2_mixed wsX2_mixed) := goodIn_app (goodIn_sub (List.forall_mem_cons.mpr ⟨(cl_X2_digest_1 _ (List.mem_of_getElem? (i := 14) rfl)), List.forall_mem_cons.mpr ⟨(cl_X2_digest_1 _ (List.mem_of_getElem? (i := 15) rfl)), List.forall_mem_cons.mpr ⟨(cl_X2_digest_1 _ (List.mem_of_getElem? (i := 10) rfl)), fun _ h => absurd h List.not_mem_nil⟩⟩⟩) (by decide +kernel)) ggX2_digest_X2_mixed
set_option maxRecDepth 20000 in
theorem ggX2_digest_X0_lastHalf : GoodIn wsX2_digest wsX0_lastHalf := goodIn_sub (List.forall_mem_cons.mpr ⟨(cl_X2_digest_1 _ (List.mem_of_getElem? (i := 21) rfl)), fun w h => (List.mem_append.mp h).elim ((fun w h => (List.mem_append.mp h).elim ((List.forall_mem_cons.mpr ⟨(cl_X2_digest_1 _ (List.mem_of_getElem? (i := 8) rfl)), List.forall_mem_cons.mpr ⟨(cl_X2_digest_1 _ (List.mem_of_getElem? (i := 9) rfl)), List.forall_mem_cons.mpr ⟨(cl_X2_digest_1 _ (List.mem_of_getElem? (i := 10) rfl)), List.forall_mem_cons.mpr ⟨(cl_X2_digest_1 _ (List.mem_of_getElem? (i := 11) rfl)), List.forall_mem_cons.mpr ⟨(cl_X2_digest_1 _ (List.mem_of_getElem? (i := 12) rfl)), List.forall_mem_cons.mpr ⟨(cl_X2_digest_1 _ (List.mem_of_getElem? (i := 13) rfl)), fun _ h => absurd h List.not_mem_nil⟩⟩⟩⟩⟩⟩) w) ((cl_X2_digest_9) w)) w) ((cl_X2_digest_11) w)⟩) (by decide +kernel)
set_option maxRecDepth 20000 in
theorem gX2_digest_X0_lastHalf : GoodIn wsX2_digest (wsV RX2 68 RX0 yX0_lastHalf wsX0_lastHalf) := goodIn_app (goodIn_sub (List.forall_mem_cons.mpr ⟨(cl_X2_digest_1 _ (List.mem_of_getElem? (i := 18) rfl)), List.forall_mem_cons.mpr ⟨(cl_X2_digest_1 _ (List.mem_of_getElem? (i := 19) rfl)), List.forall_mem_cons.mpr ⟨(cl_X2_digest_1 _ (List.mem_of_getElem? (i := 20) rfl)), List.forall_mem_cons.mpr ⟨(cl_X2_digest_1 _ (List.mem_of_getElem? (i := 6) rfl)), fun _ h => absurd h List.not_mem_nil⟩⟩⟩⟩) (by decide +kernel)) ggX2_digest_X0_lastHalf
set_option maxRecDepth 20000 in
theorem ggX2_digest_X2_mixedAnswers : GoodIn wsX2_digest wsX2_mixedAnswers := goodIn_sub (List.forall_mem_cons.mpr ⟨(cl_X2_digest_2 _ (List.mem_of_getElem? (i := 0) rfl)), fun w h => (List.mem_append.mp h).elim ((fun w h => (List.mem_append.mp h).elim ((fun w h => (List.mem_append.mp h).elim ((fun w h => (List.mem_append.mp h).elim ((fun w h => (List.mem_append.mp h).elim ((List.forall_mem_cons.mpr ⟨(cl_X2_digest_2 _ (List.mem_of_getElem? (i := 1) rfl)), List.forall_mem_cons.mpr ⟨(cl_X2_digest_2 _ (List.mem_of_getElem? (i := 2) rfl)), List.forall_mem_cons.mpr ⟨(cl_X2_digest_2 _ (List.mem_of_getElem? (i := 3) rfl)), List.forall_mem_cons.mpr ⟨(cl_X2_digest_1 _ (List.mem_of_getElem? (i := 6) rfl)), List.forall_mem_cons.mpr ⟨(cl_X2_digest_2 _ (List.mem_of_getElem? (i := 4) rfl)), List.forall_mem_cons.mpr ⟨(cl_X2_digest_2 _ (List.mem_of_getElem? (i := 5) rfl)), List.forall_mem_cons.mpr ⟨(cl_X2_digest_1 _ (List.mem_of_getElem? (i := 8) rfl)), List.forall_mem_cons.mpr ⟨(cl_X2_digest_1 _ (List.mem_of_getElem? (i := 9) rfl)), List.forall_mem_cons.mpr ⟨(cl_X2_digest_1 _ (List.mem_of_getElem? (i := 10) rfl)), List.forall_mem_cons.mpr ⟨(cl_X2_digest_1 _ (List.mem_of_getElem? (i := 11) rfl)), List.forall_mem_cons.mpr ⟨(cl_X2_digest_1 _ (List.mem_of_getElem? (i := 12) rfl)), List.forall_mem_cons.mpr ⟨(cl_X2_digest_1 _ (List.mem_of_getElem? (i := 13) rfl)), List.forall_mem_cons.mpr ⟨(cl_X2_digest_2 _ (List.mem_of_getElem? (i := 6) rfl)), List.forall_mem_cons.mpr ⟨(cl_X2_digest_2 _ (List.mem_of_getElem? (i := 7) rfl)), List.forall_mem_cons.mpr ⟨(cl_X2_digest_2 _ (List.mem_of_getElem? (i := 8) rfl)), List.forall_mem_cons.mpr ⟨(cl_X2_digest_2 _ (List.mem_of_getElem? (i := 9) rfl)), List.forall_mem_cons.mpr ⟨(cl_X2_digest_2 _ (List.mem_of_getElem? (i := 10) rfl)), List.forall_mem_cons.mpr ⟨(cl_X2_digest_2 _ (List.mem_of_getElem? (i := 11) rfl)), List.forall_mem_cons.mpr ⟨(cl_X2_digest_2 _ (List.mem_of_getElem? (i := 12) rfl)), List.forall_mem_cons.mpr ⟨(cl_X2_digest_2 _ (List.mem_of_getElem? (i := 13) rfl)), List.forall_mem_cons.mpr ⟨(cl_X2_digest_2 _ (List.mem_of_getElem? (i := 14) rfl)), List.forall_mem_cons.mpr ⟨(cl_X2_digest_1 _ (List.mem_of_getElem? (i := 14) rfl)), List.forall_mem_cons.mpr ⟨(cl_X2_digest_1 _ (List.mem_of_getElem? (i := 15) rfl)), List.forall_mem_cons.mpr ⟨(cl_X2_digest_1 _ (List.mem_of_getElem? (i := 16) rfl)), fun _ h => absurd h List.not_mem_nil⟩⟩⟩⟩⟩⟩⟩⟩⟩⟩⟩⟩⟩⟩⟩⟩⟩⟩⟩⟩⟩⟩⟩⟩) w) ((fun w h => (List.mem_append.mp h).elim ((List.forall_mem_cons.mpr ⟨(cl_X2_digest_1 _ (List.mem_of_getElem? (i := 17) rfl)), List.forall_mem_cons.mpr ⟨(cl_X2_digest_2 _ (List.mem_of_getElem? (i := 15) rfl)), List.forall_mem_cons.mpr ⟨(cl_X2_digest_2 _ (List.mem_of_getElem? (i := 16) rfl)), List.forall_mem_cons.mpr ⟨(cl_X2_digest_2 _ (List.mem_of_getElem? (i := 17) rfl)), List.forall_mem_cons.mpr ⟨(cl_X2_digest_2 _ (List.mem_of_getElem? (i := 18) rfl)), List.forall_mem_cons.mpr ⟨(cl_X2_digest_2 _ (List.mem_of_getElem? (i := 19) rfl)), List.forall_mem_cons.mpr ⟨(cl_X2_digest_2 _ (List.mem_of_getElem? (i := 20) rfl)), List.forall_mem_cons.mpr ⟨(cl_X2_digest_2 _ (List.mem_of_getElem? (i := 21) rfl)), List.forall_mem_cons.mpr ⟨(cl_X2_digest_2 _ (List.mem_of_getElem? (i := 22) rfl)), List.forall_mem_cons.mpr ⟨(cl_X2_digest_2 _ (List.mem_of_getElem? (i := 23) rfl)), List.forall_mem_cons.mpr ⟨(cl_X2_digest_3 _ (List.mem_of_getElem? (i := 0) rfl)), List.forall_mem_cons.mpr ⟨(cl_X2_digest_3 _ (List.mem_of_getElem? (i := 1) rfl)), List.forall_mem_cons.mpr ⟨(cl_X2_digest_3 _ (List.mem_of_getElem? (i := 2) rfl)), List.forall_mem_cons.mpr ⟨(cl_X2_digest_3 _ (List.mem_of_getElem? (i := 3) rfl)), List.forall_mem_cons.mpr ⟨(cl_X2_digest_3 _ (List.mem_of_getElem? (i := 4) rfl)), List.forall_mem_cons.mpr ⟨(cl_X2_digest_3 _ (List.mem_of_getElem? (i := 5) rfl)), List.forall_mem_cons.mpr ⟨(cl_X2_digest_3 _ (List.mem_of_getElem? (i := 6) rfl)), List.forall_mem_cons.mpr ⟨(cl_X2_digest_3 _ (List.mem_of_getElem? (i := 7) rfl)), List.forall_mem_cons.mpr ⟨(cl_X2_digest_3 _ (List.mem_of_getElem? (i := 8) rfl)), List.forall_mem_cons.mpr ⟨(cl_X2_digest_3 _ (List.mem_of_getElem? (i := 9) rfl)), List.forall_mem_cons.mpr ⟨(cl_X2_digest_3 _ (List.mem_of_getElem? (i := 10) rfl)), List.forall_mem_cons.mpr ⟨(cl_X2_digest_3 _ (List.mem_of_getElem? (i := 11) rfl)), List.forall_mem_cons.mpr ⟨(cl_X2_digest_3 _ (List.mem_of_getElem? (i := 12) rfl)), List.forall_mem_cons.mpr ⟨(cl_X2_digest_3 _ (List.mem_of_getElem? (i := 13) rfl)), fun _ h => absurd h List.not_mem_nil⟩⟩⟩⟩⟩⟩⟩⟩⟩⟩⟩⟩⟩⟩⟩⟩⟩⟩⟩⟩⟩⟩⟩⟩) w) ((List.forall_mem_cons.mpr ⟨(cl_X2_digest_3 _ (List.mem_of_getElem? (i := 14) rfl)), List.forall_mem_cons.mpr ⟨(cl_X2_digest_3 _ (List.mem_of_getElem? (i := 15) rfl)), List.forall_mem_cons.mpr ⟨(cl_X2_digest_3 _ (List.mem_of_getElem? (i := 16) rfl)), List.forall_mem_cons.mpr ⟨(cl_X2_digest_3 _ (List.mem_of_getElem? (i := 17) rfl)), List.forall_mem_cons.mpr ⟨(cl_X2_digest_3 _ (List.mem_of_getElem? (i := 18) rfl)), List.forall_mem_cons.mpr ⟨(cl_X2_digest_3 _ (List.mem_of_getElem? (i := 19) rfl)), List.forall_mem_cons.mpr ⟨(cl_X2_digest_3 _ (List.mem_of_getElem? (i := 20) rfl)), List.forall_mem_cons.mpr ⟨(cl_X2_digest_3 _ (List.mem_of_getElem? (i := 21) rfl)), List.forall_mem_cons.mpr ⟨(cl_X2_digest_3 _ (List.mem_of_getElem? (i := 22) rfl)), List.forall_mem_cons.mpr ⟨(cl_X2_digest_3 _ (List.mem_of_getElem? (i := 23) rfl)), List.forall_mem_cons.mpr ⟨(cl_X2_digest_4 _ (List.mem_of_getElem? (i := 0) rfl)), List.forall_mem_cons.mpr ⟨(cl_X2_digest_4 _ (List.mem_of_getElem? (i := 1) rfl)), List.forall_mem_cons.mpr ⟨(cl_X2_digest_4 _ (List.mem_of_getElem? (i := 2) rfl)), List.forall_mem_cons.mpr ⟨(cl_X2_digest_4 _ (List.mem_of_getElem? (i := 3) rfl)), List.forall_mem_cons.mpr ⟨(cl_X2_digest_4 _ (List.mem_of_getElem? (i := 4) rfl)), List.forall_mem_cons.mpr ⟨(cl_X2_digest_4 _ (List.mem_of_getElem? (i := 5) rfl)), List.forall_mem_cons.mpr ⟨(cl_X2_digest_4 _ (List.mem_of_getElem? (i := 6) rfl)), fun _ h => absurd h List.not_mem_nil⟩⟩⟩⟩⟩⟩⟩⟩⟩⟩⟩⟩⟩⟩⟩⟩⟩) w)) w)) w) ((cl_X2_digest_9) w)) w) ((cl_X2_digest_10) w)) w) ((cl_X2_digest_11) w)) w) ((cl_X2_digest_12) w)⟩) (by decide +kernel)
set_option maxRecDepth 20000 in
theorem gX2_digest_X2_mixedAnswers : GoodIn wsX2_digest (va_wsS RX2 131 yX2_mixedAnswers wsX2_mixedAnswers) := goodIn_app (goodIn_sub (List.forall_mem_cons.mpr ⟨(cl_X2_digest_1 _ (List.mem_of_getElem? (i := 22) rfl)), List.forall_mem_cons.mpr ⟨(cl_X2_digest_1 _ (List.mem_of_getElem? (i := 23) rfl)), List.forall_mem_cons.mpr ⟨(cl_X2_digest_1 _ (List.mem_of_getElem? (i := 10) rfl)), fun _ h => absurd h List.not_mem_nil⟩⟩⟩) (by decide +kernel)) ggX2_digest_X2_mixedAnswers
set_option maxRecDepth 20000 in
theorem ggX2_digest_X2_mixedPairs : GoodIn wsX2_digest wsX2_mixedPairs := goodIn_sub (List.forall_mem_cons.mpr ⟨(cl_X2_digest_4 _ (List.mem_of_getElem? (i := 9) rfl)), fun w h => (List.mem_append.mp h).elim ((fun w h => (List.mem_append.mp h).elim ((fun w h => (List.mem_append.mp h).elim ((fun w h => (List.mem_append.mp h).elim ((fun w h => (List.mem_append.mp h).elim ((List.forall_mem_cons.mpr ⟨(cl_X2_digest_4 _ (List.mem_of_getElem? (i := 10) rfl)), List.forall_mem_cons.mpr ⟨(cl_X2_digest_4 _ (List.mem_of_getElem? (i := 11) rfl)), List.forall_mem_cons.mpr ⟨(cl_X2_digest_4 _ (List.mem_of_getElem? (i := 12) rfl)), List.forall_mem_cons.mpr ⟨(cl_X2_digest_1 _ (List.mem_of_getElem? (i := 6) rfl)), List.forall_mem_cons.mpr ⟨(cl_X2_digest_4 _ (List.mem_of_getElem? (i := 13) rfl)), List.forall_mem_cons.mpr ⟨(cl_X2_digest_2 _ (List.mem_of_getElem? (i := 5) rfl)), List.forall_mem_cons.mpr ⟨(cl_X2_digest_1 _ (List.mem_of_getElem? (i := 8) rfl)), List.forall_mem_cons.mpr ⟨(cl_X2_digest_1 _ (List.mem_of_getElem? (i := 9) rfl)), List.forall_mem_cons.mpr ⟨(cl_X2_digest_1 _ (List.mem_of_getElem? (i := 10) rfl)), List.forall_mem_cons.mpr ⟨(cl_X2_digest_1 _ (List.mem_of_getElem? (i := 11) rfl)), List.forall_mem_cons.mpr ⟨(cl_X2_digest_1 _ (List.mem_of_getElem? (i := 12) rfl)), List.forall_mem_cons.mpr ⟨(cl_X2_digest_1 _ (List.mem_of_getElem? (i := 13) rfl)), List.forall_mem_cons.mpr ⟨(cl_X2_digest_2 _ (List.mem_of_getElem? (i := 6) rfl)), List.forall_mem_cons.mpr ⟨(cl_X2_digest_2 _ (List.mem_of_getElem? (i := 7) rfl)), List.forall_mem_cons.mpr ⟨(cl_X2_digest_2 _ (List.mem_of_getElem? (i := 8) rfl)), List.forall_mem_cons.mpr ⟨(cl_X2_digest_2 _ (List.mem_of_getElem? (i := 9) rfl)), List.forall_mem_cons.mpr ⟨(cl_X2_digest_4 _ (List.mem_of_getElem? (i := 14) rfl)), List.forall_mem_cons.mpr ⟨(cl_X2_digest_4 _ (List.mem_of_getElem? (i := 15) rfl)), List.forall_mem_cons.mpr ⟨(cl_X2_digest_4 _ (List.mem_of_getElem? (i := 16) rfl)), List.forall_mem_cons.mpr ⟨(cl_X2_digest_2 _ (List.mem_of_getElem? (i := 13) rfl)), List.forall_mem_cons.mpr ⟨(cl_X2_digest_4 _ (List.mem_of_getElem? (i := 17) rfl)), List.forall_mem_cons.mpr ⟨(cl_X2_digest_4 _ (List.mem_of_getElem? (i := 18) rfl)), List.forall_mem_cons.mpr ⟨(cl_X2_digest_4 _ (List.mem_of_getElem? (i := 19) rfl)), List.forall_mem_cons.mpr ⟨(cl_X2_digest_4 _ (List.mem_of_getElem? (i := 20) rfl)), fun _ h => absurd h List.not_mem_nil⟩⟩⟩⟩⟩⟩⟩⟩⟩⟩⟩⟩⟩⟩⟩⟩⟩⟩⟩⟩⟩⟩⟩⟩) w) ((List.forall_mem_cons.mpr ⟨(cl_X2_digest_4 _ (List.mem_of_getElem? (i := 21) rfl)), List.forall_mem_cons.mpr ⟨(cl_X2_digest_3 _ (List.mem_of_getElem? (i := 7) rfl)), List.forall_mem_cons.mpr ⟨(cl_X2_digest_4 _ (List.mem_of_getElem? (i := 2) rfl)), List.forall_mem_cons.mpr ⟨(cl_X2_digest_1 _ (List.mem_of_getElem? (i := 14) rfl)), List.forall_mem_cons.mpr ⟨(cl_X2_digest_1 _ (List.mem_of_getElem? (i := 15) rfl)), List.forall_mem_cons.mpr ⟨(cl_X2_digest_1 _ (List.mem_of_getElem? (i := 16) rfl)), List.forall_mem_cons.mpr ⟨(cl_X2_digest_1 _ (List.mem_of_getElem? (i := 17) rfl)), List.forall_mem_cons.mpr ⟨(cl_X2_digest_4 _ (List.mem_of_getElem? (i := 22) rfl)), List.forall_mem_cons.mpr ⟨(cl_X2_digest_4 _ (List.mem_of_getElem? (i := 23) rfl)), List.forall_mem_cons.mpr ⟨(cl_X2_digest_5 _ (List.mem_of_getElem? (i := 0) rfl)), List.forall_mem_cons.mpr ⟨(cl_X2_digest_5 _ (List.mem_of_getElem? (i := 1) rfl)), List.forall_mem_cons.mpr ⟨(cl_X2_digest_5 _ (List.mem_of_getElem? (i := 2) rfl)), List.forall_mem_cons.mpr ⟨(cl_X2_digest_5 _ (List.mem_of_getElem? (i := 3) rfl)), List.forall_mem_cons.mpr ⟨(cl_X2_digest_5 _ (List.mem_of_getElem? (i := 4) rfl)), List.forall_mem_cons.mpr ⟨(cl_X2_digest_5 _ (List.mem_of_getElem? (i := 5) rfl)), List.forall_mem_cons.mpr ⟨(cl_X2_digest_5 _ (List.mem_of_getElem? (i := 6) rfl)), List.forall_mem_cons.mpr ⟨(cl_X2_digest_5 _ (List.mem_of_getElem? (i := 7) rfl)), List.forall_mem_cons.mpr ⟨(cl_X2_digest_5 _ (List.mem_of_getElem? (i := 8) rfl)), List.forall_mem_cons.mpr ⟨(cl_X2_digest_5 _ (List.mem_of_getElem? (i := 9) rfl)), fun _ h => absurd h List.not_mem_nil⟩⟩⟩⟩⟩⟩⟩⟩⟩⟩⟩⟩⟩⟩⟩⟩⟩⟩⟩) w)) w) ((cl_X2_digest_9) w)) w) ((cl_X2_digest_10) w)) w) ((cl_X2_digest_11) w)) w) ((cl_X2_digest_12) w)⟩) (by decide +kernel)
set_option maxRecDepth 20000 in
theorem gX2_digest_X2_mixedPairs : GoodIn wsX2_digest (va_wsS RX2 135 yX2_mixedPairs wsX2_mixedPairs) := goodIn_app (goodIn_sub (List.forall_mem_cons.mpr ⟨(cl_X2_digest_4 _ (List.mem_of_getElem? (i := 7) rfl)), List.forall_mem_cons.mpr ⟨(cl_X2_digest_4 _ (List.mem_of_getElem? (i := 8) rfl)), List.forall_mem_cons.mpr ⟨(cl_X2_digest_1 _ (List.mem_of_getElem? (i := 10) rfl)), fun _ h => absurd h List.not_mem_nil⟩⟩⟩) (by decide +kernel)) ggX2_digest_X2_mixedPairs
set_option maxRecDepth 20000 in
theorem ggX2_digest_X2_counted : GoodIn wsX2_digest wsX2_counted := goodIn_sub (List.forall_mem_cons.mpr ⟨(cl_X2_digest_5 _ (List.mem_of_getElem? (i := 13) rfl)), fun w h => (List.mem_append.mp h).elim ((fun w h => (List.mem_append.mp h).elim ((List.forall_mem_cons.mpr ⟨(cl_X2_digest_1 _ (List.mem_of_getElem? (i := 1) rfl)), List.forall_mem_cons.mpr ⟨(cl_X2_digest_1 _ (List.mem_of_getElem? (i := 2) rfl)), List.forall_mem_cons.mpr ⟨(cl_X2_digest_5 _ (List.mem_of_getElem? (i := 14) rfl)), fun _ h => absurd h List.not_mem_nil⟩⟩⟩) w) ((cl_X2_digest_8) w)) w) ((cl_X2_digest_9) w)⟩) (by decide +kernel)
set_option maxRecDepth 20000 in
theorem gX2_digest_X2_counted : GoodIn wsX2_digest (wsV RX2 114 RX2 yX2_counted wsX2_counted) := goodIn_app (goodIn_sub (List.forall_mem_cons.mpr ⟨(cl_X2_digest_5 _ (List.mem_of_getElem? (i := 10) rfl)), List.forall_mem_cons.mpr ⟨(cl_X2_digest_5 _ (List.mem_of_getElem? (i := 11) rfl)), List.forall_mem_cons.mpr ⟨(cl_X2_digest_5 _ (List.mem_of_getElem? (i := 12) rfl)), List.forall_mem_cons.mpr ⟨(cl_X2_digest_1 _ (List.mem_of_getElem? (i := 10) rfl)), fun _ h => absurd h List.not_mem_nil⟩⟩⟩⟩) (by decide +kernel)) ggX2_digest_X2_counted
set_option maxRecDepth 20000 in
theorem ggX2_digest_X2_isSound : GoodIn wsX2_digest wsX2_isSound := goodIn_sub (List.forall_mem_cons.mpr ⟨(cl_X2_digest_5 _ (List.mem_of_getElem? (i := 18) rfl)), fun w h => (List.mem_append.mp h).elim ((fun w h => (List.mem_append.mp h).elim ((fun w h => (List.mem_append.mp h).elim ((fun w h => (List.mem_append.mp h).elim ((List.forall_mem_cons.mpr ⟨(cl_X2_digest_1 _ (List.mem_of_getElem? (i := 1) rfl)), List.forall_mem_cons.mpr ⟨(cl_X2_digest_1 _ (List.mem_of_getElem? (i := 2) rfl)), List.forall_mem_cons.mpr ⟨(cl_X2_digest_5 _ (List.mem_of_getElem? (i := 19) rfl)), List.forall_mem_cons.mpr ⟨(cl_X2_digest_5 _ (List.mem_of_getElem? (i := 20) rfl)), List.forall_mem_cons.mpr ⟨(cl_X2_digest_5 _ (List.mem_of_getElem? (i := 21) rfl)), List.forall_mem_cons.mpr ⟨(cl_X2_digest_1 _ (List.mem_of_getElem? (i := 6) rfl)), List.forall_mem_cons.mpr ⟨(cl_X2_digest_5 _ (List.mem_of_getElem? (i := 22) rfl)), List.forall_mem_cons.mpr ⟨(cl_X2_digest_2 _ (List.mem_of_getElem? (i := 5) rfl)), List.forall_mem_cons.mpr ⟨(cl_X2_digest_1 _ (List.mem_of_getElem? (i := 8) rfl)), List.forall_mem_cons.mpr ⟨(cl_X2_digest_5 _ (List.mem_of_getElem? (i := 23) rfl)), List.forall_mem_cons.mpr ⟨(cl_X2_digest_6 _ (List.mem_of_getElem? (i := 0) rfl)), List.forall_mem_cons.mpr ⟨(cl_X2_digest_6 _ (List.mem_of_getElem? (i := 1) rfl)), List.forall_mem_cons.mpr ⟨(cl_X2_digest_2 _ (List.mem_of_getElem? (i := 13) rfl)), List.forall_mem_cons.mpr ⟨(cl_X2_digest_6 _ (List.mem_of_getElem? (i := 2) rfl)), List.forall_mem_cons.mpr ⟨(cl_X2_digest_3 _ (List.mem_of_getElem? (i := 12) rfl)), List.forall_mem_cons.mpr ⟨(cl_X2_digest_3 _ (List.mem_of_getElem? (i := 8) rfl)), List.forall_mem_cons.mpr ⟨(cl_X2_digest_3 _ (List.mem_of_getElem? (i := 9) rfl)), List.forall_mem_cons.mpr ⟨(cl_X2_digest_3 _ (List.mem_of_getElem? (i := 10) rfl)), List.forall_mem_cons.mpr ⟨(cl_X2_digest_3 _ (List.mem_of_getElem? (i := 11) rfl)), List.forall_mem_cons.mpr ⟨(cl_X2_digest_3 _ (List.mem_of_getElem? (i := 2) rfl)), List.forall_mem_cons.mpr ⟨(cl_X2_digest_3 _ (List.mem_of_getElem? (i := 17) rfl)), List.forall_mem_cons.mpr ⟨(cl_X2_digest_3 _ (List.mem_of_getElem? (i := 18) rfl)), List.forall_mem_cons.mpr ⟨(cl_X2_digest_3 _ (List.mem_of_getElem? (i := 19) rfl)), List.forall_mem_cons.mpr ⟨(cl_X2_digest_3 _ (List.mem_of_getElem? (i := 20) rfl)), fun _ h => absurd h List.not_mem_nil⟩⟩⟩⟩⟩⟩⟩⟩⟩⟩⟩⟩⟩⟩⟩⟩⟩⟩⟩⟩⟩⟩⟩⟩) w) ((fun w h => (List.mem_append.mp h).elim ((List.forall_mem_cons.mpr ⟨(cl_X2_digest_3 _ (List.mem_of_getElem? (i := 21) rfl)), List.forall_mem_cons.mpr ⟨(cl_X2_digest_6 _ (List.mem_of_getElem? (i := 3) rfl)), List.forall_mem_cons.mpr ⟨(cl_X2_digest_6 _ (List.mem_of_getElem? (i := 4) rfl)), List.forall_mem_cons.mpr ⟨(cl_X2_digest_6 _ (List.mem_of_getElem? (i := 5) rfl)), List.forall_mem_cons.mpr ⟨(cl_X2_digest_6 _ (List.mem_of_getElem? (i := 6) rfl)), List.forall_mem_cons.mpr ⟨(cl_X2_digest_6 _ (List.mem_of_getElem? (i := 7) rfl)), List.forall_mem_cons.mpr ⟨(cl_X2_digest_4 _ (List.mem_of_getElem? (i := 15) rfl)), List.forall_mem_cons.mpr ⟨(cl_X2_digest_4 _ (List.mem_of_getElem? (i := 16) rfl)), List.forall_mem_cons.mpr ⟨(cl_X2_digest_4 _ (List.mem_of_getElem? (i := 17) rfl)), List.forall_mem_cons.mpr ⟨(cl_X2_digest_4 _ (List.mem_of_getElem? (i := 18) rfl)), List.forall_mem_cons.mpr ⟨(cl_X2_digest_4 _ (List.mem_of_getElem? (i := 19) rfl)), List.forall_mem_cons.mpr ⟨(cl_X2_digest_4 _ (List.mem_of_getElem? (i := 20) rfl)), List.forall_mem_cons.mpr ⟨(cl_X2_digest_4 _ (List.mem_of_getElem? (i := 21) rfl)), List.forall_mem_cons.mpr ⟨(cl_X2_digest_3 _ (List.mem_of_getElem? (i := 7) rfl)), List.forall_mem_cons.mpr ⟨(cl_X2_digest_4 _ (List.mem_of_getElem? (i := 2) rfl)), List.forall_mem_cons.mpr ⟨(cl_X2_digest_6 _ (List.mem_of_getElem? (i := 8) rfl)), List.forall_mem_cons.mpr ⟨(cl_X2_digest_2 _ (List.mem_of_getElem? (i := 11) rfl)), List.forall_mem_cons.mpr ⟨(cl_X2_digest_2 _ (List.mem_of_getElem? (i := 12) rfl)), List.forall_mem_cons.mpr ⟨(cl_X2_digest_2 _ (List.mem_of_getElem? (i := 14) rfl)), List.forall_mem_cons.mpr ⟨(cl_X2_digest_6 _ (List.mem_of_getElem? (i := 9) rfl)), List.forall_mem_cons.mpr ⟨(cl_X2_digest_5 _ (List.mem_of_getElem? (i := 3) rfl)), List.forall_mem_cons.mpr ⟨(cl_X2_digest_5 _ (List.mem_of_getElem? (i := 4) rfl)), List.forall_mem_cons.mpr ⟨(cl_X2_digest_5 _ (List.mem_of_getElem? (i := 5) rfl)), List.forall_mem_cons.mpr ⟨(cl_X2_digest_5 _ (List.mem_of_getElem? (i := 6) rfl)), fun _ h => absurd h List.not_mem_nil⟩⟩⟩⟩⟩⟩⟩⟩⟩⟩⟩⟩⟩⟩⟩⟩⟩⟩⟩⟩⟩⟩⟩⟩) w) ((List.forall_mem_cons.mpr ⟨(cl_X2_digest_5 _ (List.mem_of_getElem? (i := 7) rfl)), List.forall_mem_cons.mpr ⟨(cl_X2_digest_5 _ (List.mem_of_getElem? (i := 8) rfl)), List.forall_mem_cons.mpr ⟨(cl_X2_digest_5 _ (List.mem_of_getElem? (i := 9) rfl)), List.forall_mem_cons.mpr ⟨(cl_X2_digest_3 _ (List.mem_of_getElem? (i := 3) rfl)), List.forall_mem_cons.mpr ⟨(cl_X2_digest_3 _ (List.mem_of_getElem? (i := 4) rfl)), List.forall_mem_cons.mpr ⟨(cl_X2_digest_3 _ (List.mem_of_getElem? (i := 5) rfl)), List.forall_mem_cons.mpr ⟨(cl_X2_digest_3 _ (List.mem_of_getElem? (i := 6) rfl)), List.forall_mem_cons.mpr ⟨(cl_X2_digest_6 _ (List.mem_of_getElem? (i := 10) rfl)), List.forall_mem_cons.mpr ⟨(cl_X2_digest_6 _ (List.mem_of_getElem? (i := 11) rfl)), List.forall_mem_cons.mpr ⟨(cl_X2_digest_6 _ (List.mem_of_getElem? (i := 12) rfl)), List.forall_mem_cons.mpr ⟨(cl_X2_digest_6 _ (List.mem_of_getElem? (i := 13) rfl)), List.forall_mem_cons.mpr ⟨(cl_X2_digest_6 _ (List.mem_of_getElem? (i := 14) rfl)), List.forall_mem_cons.mpr ⟨(cl_X2_digest_6 _ (List.mem_of_getElem? (i := 15) rfl)), List.forall_mem_cons.mpr ⟨(cl_X2_digest_6 _ (List.mem_of_getElem? (i := 16) rfl)), List.forall_mem_cons.mpr ⟨(cl_X2_digest_6 _ (List.mem_of_getElem? (i := 17) rfl)), List.forall_mem_cons.mpr ⟨(cl_X2_digest_6 _ (List.mem_of_getElem? (i := 18) rfl)), List.forall_mem_cons.mpr ⟨(cl_X2_digest_6 _ (List.mem_of_getElem? (i := 19) rfl)), List.forall_mem_cons.mpr ⟨(cl_X2_digest_6 _ (List.mem_of_getElem? (i := 20) rfl)), List.forall_mem_cons.mpr ⟨(cl_X2_digest_6 _ (List.mem_of_getElem? (i := 21) rfl)), List.forall_mem_cons.mpr ⟨(cl_X2_digest_6 _ (List.mem_of_getElem? (i := 22) rfl)), List.forall_mem_cons.mpr ⟨(cl_X2_digest_6 _ (List.mem_of_getElem? (i := 23) rfl)), List.forall_mem_cons.mpr ⟨(cl_X2_digest_7 _ (List.mem_of_getElem? (i := 0) rfl)), List.forall_mem_cons.mpr ⟨(cl_X2_digest_7 _ (List.mem_of_getElem? (i := 1) rfl)), fun _ h => absurd h List.not_mem_nil⟩⟩⟩⟩⟩⟩⟩⟩⟩⟩⟩⟩⟩⟩⟩⟩⟩⟩⟩⟩⟩⟩⟩) w)) w)) w) ((cl_X2_digest_8) w)) w) ((cl_X2_digest_9) w)) w) ((cl_X2_digest_10) w)⟩) (by decide +kernel)
set_option maxRecDepth 20000 in
theorem gX2_digest_X2_isSound : GoodIn wsX2_digest (wsV RX2 139 RX2 yX2_isSound wsX2_isSound) := goodIn_app (goodIn_sub (List.forall_mem_cons.mpr ⟨(cl_X2_digest_5 _ (List.mem_of_getElem? (i := 15) rfl)), List.forall_mem_cons.mpr ⟨(cl_X2_digest_5 _ (List.mem_of_getElem? (i := 16) rfl)), List.forall_mem_cons.mpr ⟨(cl_X2_digest_5 _ (List.mem_of_getElem? (i := 17) rfl)), List.forall_mem_cons.mpr ⟨(cl_X2_digest_1 _ (List.mem_of_getElem? (i := 10) rfl)), fun _ h => absurd h List.not_mem_nil⟩⟩⟩⟩) (by decide +kernel)) ggX2_digest_X2_isSound
noncomputable def dz_p14_11 : List (Nat × Instr × Nat) := [(0, (.ldc2_w 125, 3)), (3, (.lstore_n 1, 1)), (4, (.iconst 0, 1)), (5, (.istore_n 3, 1)), (6, (.iload_n 3, 1)), (7, (.bipush 8, 2)), (9, (.if_icmp .ge 47, 3)), (12, (.lload_n 1, 1)), (13, (.aload_n 0, 1)), (14, (.getfield 20, 3)), (17, (.iload_n 3, 1)), (18, (.invokevirtual 65, 3)), (21, (.i2l, 1)), (22, (.invokestatic 127, 3)), (25, (.lstore_n 1, 1)), (26, (.lload_n 1, 1)), (27, (.aload_n 0, 1)), (28, (.getfield 20, 3)), (31, (.iload_n 3, 1)), (32, (.invokevirtual 68, 3)), (35, (.i2l, 1)), (36, (.invokestatic 127, 3)), (39, (.lstore_n 1, 1)), (40, (.lload_n 1, 1)), (41, (.aload_n 0, 1)), (42, (.getfield 20, 3)), (45, (.iload_n 3, 1)), (46, (.invokestatic 131, 3)), (49, (.lstore_n 1, 1)), (50, (.iinc 3 1, 3)), (53, (.goto (-47), 3)), (56, (.iconst 0, 1)), (57, (.istore_n 3, 1)), (58, (.iload_n 3, 1)), (59, (.bipush 8, 2)), (61, (.if_icmp .ge 33, 3)), (64, (.lload_n 1, 1)), (65, (.aload_n 0, 1)), (66, (.getfield 25, 3)), (69, (.iload_n 3, 1))]
theorem dy_p14_11 : dz_ok cX2_digest dz_p14_11 = true := by decide +kernel
theorem dX2_digest_0 : decode cX2_digest 0 = .ok (.ldc2_w 125, 3) := dz_at (i := 0) dy_p14_11 rfl
theorem dX2_digest_3 : decode cX2_digest 3 = .ok (.lstore_n 1, 1) := dz_at (i := 1) dy_p14_11 rfl
theorem dX2_digest_4 : decode cX2_digest 4 = .ok (.iconst 0, 1) := dz_at (i := 2) dy_p14_11 rfl
theorem dX2_digest_5 : decode cX2_digest 5 = .ok (.istore_n 3, 1) := dz_at (i := 3) dy_p14_11 rfl
theorem dX2_digest_6 : decode cX2_digest 6 = .ok (.iload_n 3, 1) := dz_at (i := 4) dy_p14_11 rfl
theorem dX2_digest_7 : decode cX2_digest 7 = .ok (.bipush 8, 2) := dz_at (i := 5) dy_p14_11 rfl
theorem dX2_digest_9 : decode cX2_digest 9 = .ok (.if_icmp .ge 47, 3) := dz_at (i := 6) dy_p14_11 rfl
theorem dX2_digest_12 : decode cX2_digest 12 = .ok (.lload_n 1, 1) := dz_at (i := 7) dy_p14_11 rfl
theorem dX2_digest_13 : decode cX2_digest 13 = .ok (.aload_n 0, 1) := dz_at (i := 8) dy_p14_11 rfl
theorem dX2_digest_14 : decode cX2_digest 14 = .ok (.getfield 20, 3) := dz_at (i := 9) dy_p14_11 rfl
theorem dX2_digest_17 : decode cX2_digest 17 = .ok (.iload_n 3, 1) := dz_at (i := 10) dy_p14_11 rfl
theorem dX2_digest_18 : decode cX2_digest 18 = .ok (.invokevirtual 65, 3) := dz_at (i := 11) dy_p14_11 rfl
theorem dX2_digest_21 : decode cX2_digest 21 = .ok (.i2l, 1) := dz_at (i := 12) dy_p14_11 rfl
theorem dX2_digest_22 : decode cX2_digest 22 = .ok (.invokestatic 127, 3) := dz_at (i := 13) dy_p14_11 rfl
theorem dX2_digest_25 : decode cX2_digest 25 = .ok (.lstore_n 1, 1) := dz_at (i := 14) dy_p14_11 rfl
theorem dX2_digest_26 : decode cX2_digest 26 = .ok (.lload_n 1, 1) := dz_at (i := 15) dy_p14_11 rfl
theorem dX2_digest_27 : decode cX2_digest 27 = .ok (.aload_n 0, 1) := dz_at (i := 16) dy_p14_11 rfl
theorem dX2_digest_28 : decode cX2_digest 28 = .ok (.getfield 20, 3) := dz_at (i := 17) dy_p14_11 rfl
theorem dX2_digest_31 : decode cX2_digest 31 = .ok (.iload_n 3, 1) := dz_at (i := 18) dy_p14_11 rfl
theorem dX2_digest_32 : decode cX2_digest 32 = .ok (.invokevirtual 68, 3) := dz_at (i := 19) dy_p14_11 rfl
theorem dX2_digest_35 : decode cX2_digest 35 = .ok (.i2l, 1) := dz_at (i := 20) dy_p14_11 rfl
theorem dX2_digest_36 : decode cX2_digest 36 = .ok (.invokestatic 127, 3) := dz_at (i := 21) dy_p14_11 rfl
theorem dX2_digest_39 : decode cX2_digest 39 = .ok (.lstore_n 1, 1) := dz_at (i := 22) dy_p14_11 rfl
theorem dX2_digest_40 : decode cX2_digest 40 = .ok (.lload_n 1, 1) := dz_at (i := 23) dy_p14_11 rfl
theorem dX2_digest_41 : decode cX2_digest 41 = .ok (.aload_n 0, 1) := dz_at (i := 24) dy_p14_11 rfl
theorem dX2_digest_42 : decode cX2_digest 42 = .ok (.getfield 20, 3) := dz_at (i := 25) dy_p14_11 rfl
theorem dX2_digest_45 : decode cX2_digest 45 = .ok (.iload_n 3, 1) := dz_at (i := 26) dy_p14_11 rfl
theorem dX2_digest_46 : decode cX2_digest 46 = .ok (.invokestatic 131, 3) := dz_at (i := 27) dy_p14_11 rfl
theorem dX2_digest_49 : decode cX2_digest 49 = .ok (.lstore_n 1, 1) := dz_at (i := 28) dy_p14_11 rfl
theorem dX2_digest_50 : decode cX2_digest 50 = .ok (.iinc 3 1, 3) := dz_at (i := 29) dy_p14_11 rfl
theorem dX2_digest_53 : decode cX2_digest 53 = .ok (.goto (-47), 3) := dz_at (i := 30) dy_p14_11 rfl
theorem dX2_digest_56 : decode cX2_digest 56 = .ok (.iconst 0, 1) := dz_at (i := 31) dy_p14_11 rfl
theorem dX2_digest_57 : decode cX2_digest 57 = .ok (.istore_n 3, 1) := dz_at (i := 32) dy_p14_11 rfl
theorem dX2_digest_58 : decode cX2_digest 58 = .ok (.iload_n 3, 1) := dz_at (i := 33) dy_p14_11 rfl
theorem dX2_digest_59 : decode cX2_digest 59 = .ok (.bipush 8, 2) := dz_at (i := 34) dy_p14_11 rfl
theorem dX2_digest_61 : decode cX2_digest 61 = .ok (.if_icmp .ge 33, 3) := dz_at (i := 35) dy_p14_11 rfl
theorem dX2_digest_64 : decode cX2_digest 64 = .ok (.lload_n 1, 1) := dz_at (i := 36) dy_p14_11 rfl
theorem dX2_digest_65 : decode cX2_digest 65 = .ok (.aload_n 0, 1) := dz_at (i := 37) dy_p14_11 rfl
theorem dX2_digest_66 : decode cX2_digest 66 = .ok (.getfield 25, 3) := dz_at (i := 38) dy_p14_11 rfl
theorem dX2_digest_69 : decode cX2_digest 69 = .ok (.iload_n 3, 1) := dz_at (i := 39) dy_p14_11 rfl
noncomputable def dz_p14_12 : List (Nat × Instr × Nat) := [(70, (.invokevirtual 68, 3)), (73, (.i2l, 1)), (74, (.invokestatic 127, 3)), (77, (.lstore_n 1, 1)), (78, (.lload_n 1, 1)), (79, (.aload_n 0, 1)), (80, (.getfield 25, 3)), (83, (.iload_n 3, 1)), (84, (.invokestatic 131, 3)), (87, (.lstore_n 1, 1)), (88, (.iinc 3 1, 3)), (91, (.goto (-33), 3)), (94, (.lload_n 1, 1)), (95, (.aload_n 0, 1)), (96, (.getfield 20, 3)), (99, (.invokestatic 135, 3)), (102, (.lstore_n 1, 1)), (103, (.lload_n 1, 1)), (104, (.aload_n 0, 1)), (105, (.getfield 25, 3)), (108, (.invokestatic 135, 3)), (111, (.lstore_n 1, 1)), (112, (.iconst 0, 1)), (113, (.istore_n 3, 1)), (114, (.iload_n 3, 1)), (115, (.iconst 3, 1)), (116, (.if_icmp .gt 20, 3)), (119, (.lload_n 1, 1)), (120, (.aload_n 0, 1)), (121, (.iload_n 3, 1)), (122, (.invokevirtual 114, 3)), (125, (.i2l, 1)), (126, (.invokestatic 127, 3)), (129, (.lstore_n 1, 1)), (130, (.iinc 3 1, 3)), (133, (.goto (-19), 3)), (136, (.lload_n 1, 1)), (137, (.aload_n 0, 1)), (138, (.invokevirtual 139, 3)), (141, (.ifCond .eq 7, 3))]
theorem dy_p14_12 : dz_ok cX2_digest dz_p14_12 = true := by decide +kernel
theorem dX2_digest_70 : decode cX2_digest 70 = .ok (.invokevirtual 68, 3) := dz_at (i := 0) dy_p14_12 rfl
theorem dX2_digest_73 : decode cX2_digest 73 = .ok (.i2l, 1) := dz_at (i := 1) dy_p14_12 rfl
theorem dX2_digest_74 : decode cX2_digest 74 = .ok (.invokestatic 127, 3) := dz_at (i := 2) dy_p14_12 rfl
theorem dX2_digest_77 : decode cX2_digest 77 = .ok (.lstore_n 1, 1) := dz_at (i := 3) dy_p14_12 rfl
theorem dX2_digest_78 : decode cX2_digest 78 = .ok (.lload_n 1, 1) := dz_at (i := 4) dy_p14_12 rfl
theorem dX2_digest_79 : decode cX2_digest 79 = .ok (.aload_n 0, 1) := dz_at (i := 5) dy_p14_12 rfl
theorem dX2_digest_80 : decode cX2_digest 80 = .ok (.getfield 25, 3) := dz_at (i := 6) dy_p14_12 rfl
theorem dX2_digest_83 : decode cX2_digest 83 = .ok (.iload_n 3, 1) := dz_at (i := 7) dy_p14_12 rfl
theorem dX2_digest_84 : decode cX2_digest 84 = .ok (.invokestatic 131, 3) := dz_at (i := 8) dy_p14_12 rfl
theorem dX2_digest_87 : decode cX2_digest 87 = .ok (.lstore_n 1, 1) := dz_at (i := 9) dy_p14_12 rfl
theorem dX2_digest_88 : decode cX2_digest 88 = .ok (.iinc 3 1, 3) := dz_at (i := 10) dy_p14_12 rfl
theorem dX2_digest_91 : decode cX2_digest 91 = .ok (.goto (-33), 3) := dz_at (i := 11) dy_p14_12 rfl
theorem dX2_digest_94 : decode cX2_digest 94 = .ok (.lload_n 1, 1) := dz_at (i := 12) dy_p14_12 rfl
theorem dX2_digest_95 : decode cX2_digest 95 = .ok (.aload_n 0, 1) := dz_at (i := 13) dy_p14_12 rfl
theorem dX2_digest_96 : decode cX2_digest 96 = .ok (.getfield 20, 3) := dz_at (i := 14) dy_p14_12 rfl
theorem dX2_digest_99 : decode cX2_digest 99 = .ok (.invokestatic 135, 3) := dz_at (i := 15) dy_p14_12 rfl
theorem dX2_digest_102 : decode cX2_digest 102 = .ok (.lstore_n 1, 1) := dz_at (i := 16) dy_p14_12 rfl
theorem dX2_digest_103 : decode cX2_digest 103 = .ok (.lload_n 1, 1) := dz_at (i := 17) dy_p14_12 rfl
theorem dX2_digest_104 : decode cX2_digest 104 = .ok (.aload_n 0, 1) := dz_at (i := 18) dy_p14_12 rfl
theorem dX2_digest_105 : decode cX2_digest 105 = .ok (.getfield 25, 3) := dz_at (i := 19) dy_p14_12 rfl
theorem dX2_digest_108 : decode cX2_digest 108 = .ok (.invokestatic 135, 3) := dz_at (i := 20) dy_p14_12 rfl
theorem dX2_digest_111 : decode cX2_digest 111 = .ok (.lstore_n 1, 1) := dz_at (i := 21) dy_p14_12 rfl
theorem dX2_digest_112 : decode cX2_digest 112 = .ok (.iconst 0, 1) := dz_at (i := 22) dy_p14_12 rfl
theorem dX2_digest_113 : decode cX2_digest 113 = .ok (.istore_n 3, 1) := dz_at (i := 23) dy_p14_12 rfl
theorem dX2_digest_114 : decode cX2_digest 114 = .ok (.iload_n 3, 1) := dz_at (i := 24) dy_p14_12 rfl
theorem dX2_digest_115 : decode cX2_digest 115 = .ok (.iconst 3, 1) := dz_at (i := 25) dy_p14_12 rfl
theorem dX2_digest_116 : decode cX2_digest 116 = .ok (.if_icmp .gt 20, 3) := dz_at (i := 26) dy_p14_12 rfl
theorem dX2_digest_119 : decode cX2_digest 119 = .ok (.lload_n 1, 1) := dz_at (i := 27) dy_p14_12 rfl
theorem dX2_digest_120 : decode cX2_digest 120 = .ok (.aload_n 0, 1) := dz_at (i := 28) dy_p14_12 rfl
theorem dX2_digest_121 : decode cX2_digest 121 = .ok (.iload_n 3, 1) := dz_at (i := 29) dy_p14_12 rfl
theorem dX2_digest_122 : decode cX2_digest 122 = .ok (.invokevirtual 114, 3) := dz_at (i := 30) dy_p14_12 rfl
theorem dX2_digest_125 : decode cX2_digest 125 = .ok (.i2l, 1) := dz_at (i := 31) dy_p14_12 rfl
theorem dX2_digest_126 : decode cX2_digest 126 = .ok (.invokestatic 127, 3) := dz_at (i := 32) dy_p14_12 rfl
theorem dX2_digest_129 : decode cX2_digest 129 = .ok (.lstore_n 1, 1) := dz_at (i := 33) dy_p14_12 rfl
theorem dX2_digest_130 : decode cX2_digest 130 = .ok (.iinc 3 1, 3) := dz_at (i := 34) dy_p14_12 rfl
theorem dX2_digest_133 : decode cX2_digest 133 = .ok (.goto (-19), 3) := dz_at (i := 35) dy_p14_12 rfl
theorem dX2_digest_136 : decode cX2_digest 136 = .ok (.lload_n 1, 1) := dz_at (i := 36) dy_p14_12 rfl
theorem dX2_digest_137 : decode cX2_digest 137 = .ok (.aload_n 0, 1) := dz_at (i := 37) dy_p14_12 rfl
theorem dX2_digest_138 : decode cX2_digest 138 = .ok (.invokevirtual 139, 3) := dz_at (i := 38) dy_p14_12 rfl
theorem dX2_digest_141 : decode cX2_digest 141 = .ok (.ifCond .eq 7, 3) := dz_at (i := 39) dy_p14_12 rfl
noncomputable def dz_p14_13 : List (Nat × Instr × Nat) := [(144, (.lconst 1, 1)), (145, (.goto 4, 3)), (148, (.lconst 0, 1)), (149, (.invokestatic 127, 3)), (152, (.lreturn, 1))]
theorem dy_p14_13 : dz_ok cX2_digest dz_p14_13 = true := by decide +kernel
theorem dX2_digest_144 : decode cX2_digest 144 = .ok (.lconst 1, 1) := dz_at (i := 0) dy_p14_13 rfl
theorem dX2_digest_145 : decode cX2_digest 145 = .ok (.goto 4, 3) := dz_at (i := 1) dy_p14_13 rfl
theorem dX2_digest_148 : decode cX2_digest 148 = .ok (.lconst 0, 1) := dz_at (i := 2) dy_p14_13 rfl
theorem dX2_digest_149 : decode cX2_digest 149 = .ok (.invokestatic 127, 3) := dz_at (i := 3) dy_p14_13 rfl
theorem dX2_digest_152 : decode cX2_digest 152 = .ok (.lreturn, 1) := dz_at (i := 4) dy_p14_13 rfl
noncomputable def L_xda (f1 : Nat → Int64) : Nat → Nat → Int64 → Int64
  | 0, _, v => v
  | nxda + 1, ixda, v => L_xda f1 nxda (ixda + 1) (o_X2_mixedAnswers true f1 (o_X2_mixed (o_X2_mixed v (((o_X0_firstHalf f1 (nI ixda)).2).toInt64)) (((o_X0_lastHalf f1 (nI ixda)).2).toInt64)) (nI ixda))
noncomputable def L_xdb (f2 : Nat → Int64) : Nat → Nat → Int64 → Int64
  | 0, _, v => v
  | nxdb + 1, ixdb, v => L_xdb f2 nxdb (ixdb + 1) (o_X2_mixedAnswers false f2 (o_X2_mixed v (((o_X0_lastHalf f2 (nI ixdb)).2).toInt64)) (nI ixdb))
noncomputable def L_xdc (a1 : Int32) (r1 : Int32) (a2 : Int32) (r2 : Int32) (kn : Int32) : Nat → Nat → Int64 → Int64
  | 0, _, v => v
  | nxdc + 1, ixdc, v => L_xdc a1 r1 a2 r2 kn nxdc (ixdc + 1) (o_X2_mixed v ((o_X2_counted a1 r1 a2 r2 kn (nI ixdc)).toInt64))
noncomputable def o_X2_digest (a1 : Int32) (r1 : Int32) (f1 : Nat → Int64) (a2 : Int32) (r2 : Int32) (f2 : Nat → Int64) (kn : Int32)  : Int64 :=
  (o_X2_mixed (L_xdc a1 r1 a2 r2 kn 4 0 (o_X2_mixedPairs false f2 (o_X2_mixedPairs true f1 (L_xdb f2 8 0 (L_xda f1 8 0 7638))))) 1)
set_option maxHeartbeats 4000000 in
set_option maxRecDepth 100000 in
theorem k_X2_digest (l : Launch) (hfl : l.flags = flags0) (dC : Nat → ClassId) (dI : Nat → Nat → Nat) (cy : ClassId) (h0 : Nat) (h1 : Nat) (hw1 : Nat) (hc1 : Nat) (hb1 : Nat) (h2 : Nat) (hw2 : Nat) (hc2 : Nat) (hb2 : Nat) (a1 : Int32) (r1 : Int32) (f1 : Nat → Int64) (g1 : Nat → Int64) (a2 : Int32) (r2 : Int32) (f2 : Nat → Int64) (g2 : Nat → Int64) (kn : Int32) (sz : Nat) (N : Nat)  (hok2 : okF false f2) (hsp1 : ∀ k, k < 8 → o_X1_isSpoiled true (f1 k) = false) (hsp2 : ∀ k, k < 8 → o_X1_isSpoiled false (f2 k) = false) : Met l yX2_digest wsX2_digest ({ frames := 9, cells := 744, slots := 4464, locals := 170 }) (va_Pc [.ref h0] (xM (dC, dI) xCl [(h0, eE h1 h2 kn), (h1, eR hw1 hc1 hb1 a1 r1), (hw1, eW true), (hc1, eA cy f1), (hb1, eA cy g1), (h2, eR hw2 hc2 hb2 a2 r2), (hw2, eW false), (hc2, eA cy f2), (hb2, eA cy g2)] [(cy, .long)] sz N)) (va_Ql (fun (r : Int64) (_ : Unit) => r = (o_X2_digest a1 r1 f1 a2 r2 f2 kn)) (fun _ _ => True) (aN sz)) 744 4464 (aN sz) := by
  refine Met.ofW (cc := cX2_digest) (maxL := 4) (ret := (some .long)) (by decide +kernel) rfl ?_
  intro p e s m args below meth c s₁ B hml hv
  obtain ⟨rfl, hsz, hP, hK, hD0, hN, hG⟩ := hv
  have hx := B.exec
  have hb := B.bytes
  have hr := B.returns
  have hts := atoms_spec (ws := wsX2_digest) B.pre
  have hown : s.vm.findClass RX2 = some m.cls := findClass_of_methodNamed B.named
  have hlocks := B.notSynchronized
  subst hsz
  have hA : ∀ q : Nat, s.heap.size ≤ q → aN s.heap.size q := fun _ h => h
  have hD := hD0
  have hAN : ∀ q, aN s.heap.size q → N ≤ q := fun q h => Nat.le_trans hN h
  have hS : va_S (aN s.heap.size) s.heap s.heap [] := va_S.rf
  have hP : va_P (dC, dI) xCl [(h0, eE h1 h2 kn), (h1, eR hw1 hc1 hb1 a1 r1), (hw1, eW true), (hc1, eA cy f1), (hb1, eA cy g1), (h2, eR hw2 hc2 hb2 a2 r2), (hw2, eW false), (hc2, eA cy f2), (hb2, eA cy g2)] s.heap := hP
  have hl := lv_entry ([.ref h0]) (n := 4) (Nat.le_of_ble_eq_true rfl)
  rw [lg_entry_eq]
  generalize (lg_sl ([.ref h0]) ++ List.replicate (4 - (lg_sl ([.ref h0])).length) Slot.unset).toArray = ls at hl ⊢
  have hl : lv_has ls 4 [(0, .ref h0)] := hl
  refine lv_ldc2 (own := RX2) (index := 125) (v := 7638) hx hb hown (hts (.constantLong RX2 125 (7638)) (by decide +kernel)) dX2_digest_0 ?_
  refine lv_lstore_n (lv' := [(1, .long 7638), (0, .ref h0)]) hx hb dX2_digest_3 rfl hl (by decide +kernel) rfl (fun ls hl => ?_)
  refine lv_iconst (v := 0) hx hb dX2_digest_4 (by decide +kernel) ?_
  refine lv_istore_n (lv' := [(3, .int 0), (1, .long 7638), (0, .ref h0)]) hx hb dX2_digest_5 rfl hl (by decide +kernel) rfl (fun ls hl => ?_)
  have loop_xda : ∀ (nxda ixda : Nat) (v : Int64) (cs_xda ss_xda : Nat), cs_xda + nxda * 7 ≤ 56 → ss_xda + nxda * 42 ≤ 336 → ∀ (H : Heap) (locs : List Loc) (ls : Array Slot), ixda + nxda = 8 → 0 ≤ ixda → (L_xda f1 8 0 7638) = L_xda f1 nxda ixda v → va_P (dC, dI) xCl [(h0, eE h1 h2 kn), (h1, eR hw1 hc1 hb1 a1 r1), (hw1, eW true), (hc1, eA cy f1), (hb1, eA cy g1), (h2, eR hw2 hc2 hb2 a2 r2), (hw2, eW false), (hc2, eA cy f2), (hb2, eA cy g2)] H → va_S (aN s.heap.size) s.heap H locs → lv_has ls 4 [(3, .int (nI ixda)), (1, .long v), (0, .ref h0)] → (∀ (H : Heap) (locs : List Loc) (ls : Array Slot), va_P (dC, dI) xCl [(h0, eE h1 h2 kn), (h1, eR hw1 hc1 hb1 a1 r1), (hw1, eW true), (hc1, eA cy f1), (hb1, eA cy g1), (h2, eR hw2 hc2 hb2 a2 r2), (hw2, eW false), (hc2, eA cy f2), (hb2, eA cy g2)] H → va_S (aN s.heap.size) s.heap H locs → lv_has ls 4 [(1, .long (L_xda f1 8 0 7638)), (0, .ref h0)] → W p l e (headSpec wsX2_digest ({ frames := 9, cells := 744, slots := 4464, locals := 170 } : Room)).room s m ([.ref h0]).toArray below meth c H locs 56 336 (MQ below (va_Ql (fun (r : Int64) (_ : Unit) => r = (o_X2_digest a1 r1 f1 a2 r2 f2 kn)) (fun _ _ => True) (aN s.heap.size)) ([.ref h0]).toArray s 744 4464 (aN s.heap.size)) (F0 m 56 ls [])) → W p l e (headSpec wsX2_digest ({ frames := 9, cells := 744, slots := 4464, locals := 170 } : Room)).room s m ([.ref h0]).toArray below meth c H locs cs_xda ss_xda (MQ below (va_Ql (fun (r : Int64) (_ : Unit) => r = (o_X2_digest a1 r1 f1 a2 r2 f2 kn)) (fun _ _ => True) (aN s.heap.size)) ([.ref h0]).toArray s 744 4464 (aN s.heap.size)) (F0 m 6 ls []) := by
    intro nxda
    induction nxda with
    | zero =>
      intro ixda v cs_xda ss_xda hcs_xda hss_xda H locs ls hin_xda his_xda hsp_xda hP hS hl K_xda
      have hv : (L_xda f1 8 0 7638) = v := hsp_xda
      subst hv
      have hi8 : ixda = 8 := by omega
      refine lv_iload_n hx hb dX2_digest_6 rfl (lv_at hl 0 rfl) ?_
      refine lv_bipush (v := 8) hx hb dX2_digest_7 (by decide +kernel) ?_
      refine lv_icmp_ge (tgt := 56) hx hb dX2_digest_9 (by decide +kernel) (fun c9 => ?_) (fun c9 => absurd (by rw [hi8]; decide) c9)
      refine W.widen (k := 56) (n := 336) (by omega) (by omega) ?_
      exact K_xda _ _ _ hP hS (lv_sub hl [1, 2] rfl)
    | succ nxda ih_xda =>
      intro ixda v cs_xda ss_xda hcs_xda hss_xda H locs ls hin_xda his_xda hsp_xda hP hS hl K_xda
      refine lv_iload_n hx hb dX2_digest_6 rfl (lv_at hl 0 rfl) ?_
      refine lv_bipush (v := 8) hx hb dX2_digest_7 (by decide +kernel) ?_
      refine lv_icmp_ge (tgt := 56) hx hb dX2_digest_9 (by decide +kernel) (fun c9 => absurd c9 (show ¬ (8 : Int32) ≤ nI ixda from nI_ge (a := ixda) (b := 8) (by omega) (by decide +kernel))) (fun c9 => ?_)
      refine lv_lload_n hx hb dX2_digest_12 rfl (lv_at hl 1 rfl) ?_
      refine lv_aload_n hx hb dX2_digest_13 rfl (lv_at hl 2 rfl) ?_
      refine va_get (D := (dC, dI)) (ci := 4) (v := .ref h1) (C := RX2) (T := TX2) (N := 3) hx hb hts (by decide +kernel) hown hK hP 0 rfl rfl 0 (by decide +kernel) (hts (.fieldLink RX2 20 "Edgefloats" "wide" "LEdgefloats$Row;") (by decide +kernel)) (fun _ h9 => h9) rfl dX2_digest_14 ?_
      refine lv_iload_n hx hb dX2_digest_17 rfl (lv_at hl 0 rfl) ?_
      have hPc := hP.sub (ws' := [(h1, eR hw1 hc1 hb1 a1 r1), (hw1, eW true), (hc1, eA cy f1), (hb1, eA cy g1)]) [1, 2, 3, 4] rfl
      have hDc := hD.sub (ws' := [(h1, eR hw1 hc1 hb1 a1 r1), (hw1, eW true), (hc1, eA cy f1), (hb1, eA cy g1)]) [1, 2, 3, 4] (by decide +kernel) rfl
      have hKc := hK.sub (tys' := [(cy, .long)]) [0] rfl
      refine vx_calli (vx_runV (As := [.int (nI ixda)]) (rest := [.long v]) ⟨hx, hb, hml, hown, hts⟩ (k_X0_firstHalf l hfl dC dI cy h1 hw1 hc1 hb1 true a1 r1 f1 g1 H.size N (nI ixda)) (cwV 1 hts gX2_digest_X0_firstHalf rfl rfl rfl (by decide +kernel) ⟨Nat.le_of_ble_eq_true rfl, Nat.le_of_ble_eq_true rfl⟩) (xM.preV hKc hPc hDc (fun _ h => h) (Nat.le_trans hN hS.1) (hG.kept hS hAN) (ci := 2) (q0 := 0) rfl rfl) rfl rfl hl.1 rfl (lv_room (Nat.le_of_ble_eq_true rfl)) dX2_digest_18 ⟨(show _ ≤ 744 by omega), (show _ ≤ 4464 by omega)⟩) hS xA_old (fun q h => hA q (Nat.le_trans hS.1 h)) xA_old (fun E ce q9 u9 t H locs ht hvm hpx hbx hz hk hS hce hcv hcl => absurd (show (o_X0_firstHalf f1 (nI ixda)).1 = 0 from (by (rw [o_X0_firstHalf, if_pos (xm_cc0 (vp_in_nI (n := ixda) (N := 8) (by omega) (by decide +kernel)))]) <;> rfl)) hpx) (fun r_1 u t H locs ht hvm hw hB hz hk hS => ?_)
      obtain ⟨c_2, hw⟩ := hw
      replace hw : r_1 = (o_X0_firstHalf f1 (nI ixda)).2 := hw
      subst r_1
      have hP := xP_keep hP hk
      refine lv_i2l (v := (((o_X0_firstHalf f1 (nI ixda)).2).toInt64)) hx hb dX2_digest_21 rfl ?_
      have hPc := hP.sub (ws' := []) [] rfl
      have hKc := hK.sub (tys' := []) [] rfl
      refine va_calll (va_runS (As := [.long v, .long (((o_X0_firstHalf f1 (nI ixda)).2).toInt64)]) (rest := []) ⟨hx, hb, hml, hown, hts⟩ (k_X2_mixed l dC dI H.size v (((o_X0_firstHalf f1 (nI ixda)).2).toInt64)) (va_cwS 2 hts gX2_digest_X2_mixed rfl rfl rfl (by decide +kernel) ⟨Nat.le_of_ble_eq_true rfl, Nat.le_of_ble_eq_true rfl⟩) (xB.preS hKc hPc) rfl rfl hl.1 rfl (lv_room (Nat.le_of_ble_eq_true rfl)) dX2_digest_22 ⟨(show _ ≤ 744 by omega), (show _ ≤ 4464 by omega)⟩) hS xA_old (fun q h => hA q (Nat.le_trans hS.1 h)) (fun r_3 u t H locs ht hvm hw hB hz hk hS => ?_)
      replace hw : r_3 = (o_X2_mixed v (((o_X0_firstHalf f1 (nI ixda)).2).toInt64)) := hw
      subst r_3
      have hP := xP_keep hP hk
      refine lv_lstore_n (lv' := [(1, .long (o_X2_mixed v (((o_X0_firstHalf f1 (nI ixda)).2).toInt64))), (3, .int (nI ixda)), (0, .ref h0)]) hx hb dX2_digest_25 rfl hl (by decide +kernel) rfl (fun ls hl => ?_)
      refine lv_lload_n hx hb dX2_digest_26 rfl (lv_at hl 0 rfl) ?_
      refine lv_aload_n hx hb dX2_digest_27 rfl (lv_at hl 2 rfl) ?_
      refine va_get (D := (dC, dI)) (ci := 4) (v := .ref h1) (C := RX2) (T := TX2) (N := 3) hx hb hts (by decide +kernel) hown hK hP 0 rfl rfl 0 (by decide +kernel) (hts (.fieldLink RX2 20 "Edgefloats" "wide" "LEdgefloats$Row;") (by decide +kernel)) (fun _ h9 => h9) rfl dX2_digest_28 ?_
      refine lv_iload_n hx hb dX2_digest_31 rfl (lv_at hl 1 rfl) ?_
      have hPc := hP.sub (ws' := [(h1, eR hw1 hc1 hb1 a1 r1), (hw1, eW true), (hc1, eA cy f1), (hb1, eA cy g1)]) [1, 2, 3, 4] rfl
      have hDc := hD.sub (ws' := [(h1, eR hw1 hc1 hb1 a1 r1), (hw1, eW true), (hc1, eA cy f1), (hb1, eA cy g1)]) [1, 2, 3, 4] (by decide +kernel) rfl
      have hKc := hK.sub (tys' := [(cy, .long)]) [0] rfl
      refine vx_calli (vx_runV (As := [.int (nI ixda)]) (rest := [.long (o_X2_mixed v (((o_X0_firstHalf f1 (nI ixda)).2).toInt64))]) ⟨hx, hb, hml, hown, hts⟩ (k_X0_lastHalf l hfl dC dI cy h1 hw1 hc1 hb1 true a1 r1 f1 g1 H.size N (nI ixda)) (cwV 1 hts gX2_digest_X0_lastHalf rfl rfl rfl (by decide +kernel) ⟨Nat.le_of_ble_eq_true rfl, Nat.le_of_ble_eq_true rfl⟩) (xM.preV hKc hPc hDc (fun _ h => h) (Nat.le_trans hN hS.1) (hG.kept hS hAN) (ci := 2) (q0 := 0) rfl rfl) rfl rfl hl.1 rfl (lv_room (Nat.le_of_ble_eq_true rfl)) dX2_digest_32 ⟨(show _ ≤ 744 by omega), (show _ ≤ 4464 by omega)⟩) hS xA_old (fun q h => hA q (Nat.le_trans hS.1 h)) xA_old (fun E ce q9 u9 t H locs ht hvm hpx hbx hz hk hS hce hcv hcl => absurd (show (o_X0_lastHalf f1 (nI ixda)).1 = 0 from (by (rw [o_X0_lastHalf, if_pos (xm_cc0 (vp_in_nI (n := ixda) (N := 8) (by omega) (by decide +kernel)))]) <;> rfl)) hpx) (fun r_4 u t H locs ht hvm hw hB hz hk hS => ?_)
      obtain ⟨c_5, hw⟩ := hw
      replace hw : r_4 = (o_X0_lastHalf f1 (nI ixda)).2 := hw
      subst r_4
      have hP := xP_keep hP hk
      refine lv_i2l (v := (((o_X0_lastHalf f1 (nI ixda)).2).toInt64)) hx hb dX2_digest_35 rfl ?_
      have hPc := hP.sub (ws' := []) [] rfl
      have hKc := hK.sub (tys' := []) [] rfl
      refine va_calll (va_runS (As := [.long (o_X2_mixed v (((o_X0_firstHalf f1 (nI ixda)).2).toInt64)), .long (((o_X0_lastHalf f1 (nI ixda)).2).toInt64)]) (rest := []) ⟨hx, hb, hml, hown, hts⟩ (k_X2_mixed l dC dI H.size (o_X2_mixed v (((o_X0_firstHalf f1 (nI ixda)).2).toInt64)) (((o_X0_lastHalf f1 (nI ixda)).2).toInt64)) (va_cwS 2 hts gX2_digest_X2_mixed rfl rfl rfl (by decide +kernel) ⟨Nat.le_of_ble_eq_true rfl, Nat.le_of_ble_eq_true rfl⟩) (xB.preS hKc hPc) rfl rfl hl.1 rfl (lv_room (Nat.le_of_ble_eq_true rfl)) dX2_digest_36 ⟨(show _ ≤ 744 by omega), (show _ ≤ 4464 by omega)⟩) hS xA_old (fun q h => hA q (Nat.le_trans hS.1 h)) (fun r_6 u t H locs ht hvm hw hB hz hk hS => ?_)
      replace hw : r_6 = (o_X2_mixed (o_X2_mixed v (((o_X0_firstHalf f1 (nI ixda)).2).toInt64)) (((o_X0_lastHalf f1 (nI ixda)).2).toInt64)) := hw
      subst r_6
      have hP := xP_keep hP hk
      refine lv_lstore_n (lv' := [(1, .long (o_X2_mixed (o_X2_mixed v (((o_X0_firstHalf f1 (nI ixda)).2).toInt64)) (((o_X0_lastHalf f1 (nI ixda)).2).toInt64))), (3, .int (nI ixda)), (0, .ref h0)]) hx hb dX2_digest_39 rfl hl (by decide +kernel) rfl (fun ls hl => ?_)
      refine lv_lload_n hx hb dX2_digest_40 rfl (lv_at hl 0 rfl) ?_
      refine lv_aload_n hx hb dX2_digest_41 rfl (lv_at hl 2 rfl) ?_
      refine va_get (D := (dC, dI)) (ci := 4) (v := .ref h1) (C := RX2) (T := TX2) (N := 3) hx hb hts (by decide +kernel) hown hK hP 0 rfl rfl 0 (by decide +kernel) (hts (.fieldLink RX2 20 "Edgefloats" "wide" "LEdgefloats$Row;") (by decide +kernel)) (fun _ h9 => h9) rfl dX2_digest_42 ?_
      refine lv_iload_n hx hb dX2_digest_45 rfl (lv_at hl 1 rfl) ?_
      have hPc := hP.sub (ws' := [(h1, eR hw1 hc1 hb1 a1 r1), (hw1, eW true), (hc1, eA cy f1), (hb1, eA cy g1)]) [1, 2, 3, 4] rfl
      have hDc := hD.sub (ws' := [(h1, eR hw1 hc1 hb1 a1 r1), (hw1, eW true), (hc1, eA cy f1), (hb1, eA cy g1)]) [1, 2, 3, 4] (by decide +kernel) rfl
      have hKc := hK.sub (tys' := [(cy, .long)]) [0] rfl
      refine va_calll (va_runS (As := [.long (o_X2_mixed (o_X2_mixed v (((o_X0_firstHalf f1 (nI ixda)).2).toInt64)) (((o_X0_lastHalf f1 (nI ixda)).2).toInt64)), .ref h1, .int (nI ixda)]) (rest := []) ⟨hx, hb, hml, hown, hts⟩ (k_X2_mixedAnswers l hfl dC dI cy h1 hw1 hc1 hb1 true a1 r1 f1 g1 H.size N (o_X2_mixed (o_X2_mixed v (((o_X0_firstHalf f1 (nI ixda)).2).toInt64)) (((o_X0_lastHalf f1 (nI ixda)).2).toInt64)) (nI ixda) (vp_in_nI (n := ixda) (N := 8) (by omega) (by decide +kernel))) (va_cwS 3 hts gX2_digest_X2_mixedAnswers rfl rfl rfl (by decide +kernel) ⟨Nat.le_of_ble_eq_true rfl, Nat.le_of_ble_eq_true rfl⟩) (xM.preS hKc hPc hDc (fun _ h => h) (Nat.le_trans hN hS.1) (hG.kept hS hAN)) rfl rfl hl.1 rfl (lv_room (Nat.le_of_ble_eq_true rfl)) dX2_digest_46 ⟨(show _ ≤ 744 by omega), (show _ ≤ 4464 by omega)⟩) hS xA_old (fun q h => hA q (Nat.le_trans hS.1 h)) (fun r_7 u t H locs ht hvm hw hB hz hk hS => ?_)
      replace hw : r_7 = (o_X2_mixedAnswers true f1 (o_X2_mixed (o_X2_mixed v (((o_X0_firstHalf f1 (nI ixda)).2).toInt64)) (((o_X0_lastHalf f1 (nI ixda)).2).toInt64)) (nI ixda)) := hw
      subst r_7
      have hP := xP_keep hP hk
      refine lv_lstore_n (lv' := [(1, .long (o_X2_mixedAnswers true f1 (o_X2_mixed (o_X2_mixed v (((o_X0_firstHalf f1 (nI ixda)).2).toInt64)) (((o_X0_lastHalf f1 (nI ixda)).2).toInt64)) (nI ixda))), (3, .int (nI ixda)), (0, .ref h0)]) hx hb dX2_digest_49 rfl hl (by decide +kernel) rfl (fun ls hl => ?_)
      refine lv_iinc (v := (nI (ixda + 1))) (lv' := [(3, .int (nI (ixda + 1))), (1, .long (o_X2_mixedAnswers true f1 (o_X2_mixed (o_X2_mixed v (((o_X0_firstHalf f1 (nI ixda)).2).toInt64)) (((o_X0_lastHalf f1 (nI ixda)).2).toInt64)) (nI ixda))), (0, .ref h0)]) hx hb dX2_digest_50 hl (k := 1) rfl (nI_1 ixda) (by decide +kernel) rfl (fun ls hl => ?_)
      refine lv_goto (tgt := 6) hx hb dX2_digest_53 (by decide +kernel) ?_
      refine W.widen (k := cs_xda + 7) (n := ss_xda + 42) (by omega) (by omega) ?_
      exact ih_xda (ixda + 1) (o_X2_mixedAnswers true f1 (o_X2_mixed (o_X2_mixed v (((o_X0_firstHalf f1 (nI ixda)).2).toInt64)) (((o_X0_lastHalf f1 (nI ixda)).2).toInt64)) (nI ixda)) (cs_xda + 7) (ss_xda + 42) (by omega) (by omega) _ _ _ (by omega) (by omega) (hsp_xda.trans (by (rw [L_xda]) <;> rfl)) hP hS (lv_sub hl [0, 1, 2] rfl) K_xda
  refine W.widen (k := 0) (n := 0) (by omega) (by omega) ?_
  refine loop_xda 8 0 7638 0 0 (by omega) (by omega) _ _ _ (by omega) (by omega) rfl hP hS (lv_sub hl [0, 1, 2] rfl) (fun H locs ls hP hS hl => ?_)
  refine lv_iconst (v := 0) hx hb dX2_digest_56 (by decide +kernel) ?_
  refine lv_istore_n (lv' := [(3, .int 0), (1, .long (L_xda f1 8 0 7638)), (0, .ref h0)]) hx hb dX2_digest_57 rfl hl (by decide +kernel) rfl (fun ls hl => ?_)
  have loop_xdb : ∀ (nxdb ixdb : Nat) (v : Int64) (cs_xdb ss_xdb : Nat), cs_xdb + nxdb * 6 ≤ 104 → ss_xdb + nxdb * 36 ≤ 624 → ∀ (H : Heap) (locs : List Loc) (ls : Array Slot), ixdb + nxdb = 8 → 0 ≤ ixdb → (L_xdb f2 8 0 (L_xda f1 8 0 7638)) = L_xdb f2 nxdb ixdb v → va_P (dC, dI) xCl [(h0, eE h1 h2 kn), (h1, eR hw1 hc1 hb1 a1 r1), (hw1, eW true), (hc1, eA cy f1), (hb1, eA cy g1), (h2, eR hw2 hc2 hb2 a2 r2), (hw2, eW false), (hc2, eA cy f2), (hb2, eA cy g2)] H → va_S (aN s.heap.size) s.heap H locs → lv_has ls 4 [(3, .int (nI ixdb)), (1, .long v), (0, .ref h0)] → (∀ (H : Heap) (locs : List Loc) (ls : Array Slot), va_P (dC, dI) xCl [(h0, eE h1 h2 kn), (h1, eR hw1 hc1 hb1 a1 r1), (hw1, eW true), (hc1, eA cy f1), (hb1, eA cy g1), (h2, eR hw2 hc2 hb2 a2 r2), (hw2, eW false), (hc2, eA cy f2), (hb2, eA cy g2)] H → va_S (aN s.heap.size) s.heap H locs → lv_has ls 4 [(1, .long (L_xdb f2 8 0 (L_xda f1 8 0 7638))), (0, .ref h0)] → W p l e (headSpec wsX2_digest ({ frames := 9, cells := 744, slots := 4464, locals := 170 } : Room)).room s m ([.ref h0]).toArray below meth c H locs 104 624 (MQ below (va_Ql (fun (r : Int64) (_ : Unit) => r = (o_X2_digest a1 r1 f1 a2 r2 f2 kn)) (fun _ _ => True) (aN s.heap.size)) ([.ref h0]).toArray s 744 4464 (aN s.heap.size)) (F0 m 94 ls [])) → W p l e (headSpec wsX2_digest ({ frames := 9, cells := 744, slots := 4464, locals := 170 } : Room)).room s m ([.ref h0]).toArray below meth c H locs cs_xdb ss_xdb (MQ below (va_Ql (fun (r : Int64) (_ : Unit) => r = (o_X2_digest a1 r1 f1 a2 r2 f2 kn)) (fun _ _ => True) (aN s.heap.size)) ([.ref h0]).toArray s 744 4464 (aN s.heap.size)) (F0 m 58 ls []) := by
    intro nxdb
    induction nxdb with
    | zero =>
      intro ixdb v cs_xdb ss_xdb hcs_xdb hss_xdb H locs ls hin_xdb his_xdb hsp_xdb hP hS hl K_xdb
      have hv : (L_xdb f2 8 0 (L_xda f1 8 0 7638)) = v := hsp_xdb
      subst hv
      have hi8 : ixdb = 8 := by omega
      refine lv_iload_n hx hb dX2_digest_58 rfl (lv_at hl 0 rfl) ?_
      refine lv_bipush (v := 8) hx hb dX2_digest_59 (by decide +kernel) ?_
      refine lv_icmp_ge (tgt := 94) hx hb dX2_digest_61 (by decide +kernel) (fun c9 => ?_) (fun c9 => absurd (by rw [hi8]; decide) c9)
      refine W.widen (k := 104) (n := 624) (by omega) (by omega) ?_
      exact K_xdb _ _ _ hP hS (lv_sub hl [1, 2] rfl)
    | succ nxdb ih_xdb =>
      intro ixdb v cs_xdb ss_xdb hcs_xdb hss_xdb H locs ls hin_xdb his_xdb hsp_xdb hP hS hl K_xdb
      refine lv_iload_n hx hb dX2_digest_58 rfl (lv_at hl 0 rfl) ?_
      refine lv_bipush (v := 8) hx hb dX2_digest_59 (by decide +kernel) ?_
      refine lv_icmp_ge (tgt := 94) hx hb dX2_digest_61 (by decide +kernel) (fun c9 => absurd c9 (show ¬ (8 : Int32) ≤ nI ixdb from nI_ge (a := ixdb) (b := 8) (by omega) (by decide +kernel))) (fun c9 => ?_)
      refine lv_lload_n hx hb dX2_digest_64 rfl (lv_at hl 1 rfl) ?_
      refine lv_aload_n hx hb dX2_digest_65 rfl (lv_at hl 2 rfl) ?_
      refine va_get (D := (dC, dI)) (ci := 4) (v := .ref h2) (C := RX2) (T := TX2) (N := 3) hx hb hts (by decide +kernel) hown hK hP 0 rfl rfl 1 (by decide +kernel) (hts (.fieldLink RX2 25 "Edgefloats" "narrow" "LEdgefloats$Row;") (by decide +kernel)) (fun _ h9 => h9) rfl dX2_digest_66 ?_
      refine lv_iload_n hx hb dX2_digest_69 rfl (lv_at hl 0 rfl) ?_
      have hPc := hP.sub (ws' := [(h2, eR hw2 hc2 hb2 a2 r2), (hw2, eW false), (hc2, eA cy f2), (hb2, eA cy g2)]) [5, 6, 7, 8] rfl
      have hDc := hD.sub (ws' := [(h2, eR hw2 hc2 hb2 a2 r2), (hw2, eW false), (hc2, eA cy f2), (hb2, eA cy g2)]) [5, 6, 7, 8] (by decide +kernel) rfl
      have hKc := hK.sub (tys' := [(cy, .long)]) [0] rfl
      refine vx_calli (vx_runV (As := [.int (nI ixdb)]) (rest := [.long v]) ⟨hx, hb, hml, hown, hts⟩ (k_X0_lastHalf l hfl dC dI cy h2 hw2 hc2 hb2 false a2 r2 f2 g2 H.size N (nI ixdb)) (cwV 1 hts gX2_digest_X0_lastHalf rfl rfl rfl (by decide +kernel) ⟨Nat.le_of_ble_eq_true rfl, Nat.le_of_ble_eq_true rfl⟩) (xM.preV hKc hPc hDc (fun _ h => h) (Nat.le_trans hN hS.1) (hG.kept hS hAN) (ci := 2) (q0 := 0) rfl rfl) rfl rfl hl.1 rfl (lv_room (Nat.le_of_ble_eq_true rfl)) dX2_digest_70 ⟨(show _ ≤ 744 by omega), (show _ ≤ 4464 by omega)⟩) hS xA_old (fun q h => hA q (Nat.le_trans hS.1 h)) xA_old (fun E ce q9 u9 t H locs ht hvm hpx hbx hz hk hS hce hcv hcl => absurd (show (o_X0_lastHalf f2 (nI ixdb)).1 = 0 from (by (rw [o_X0_lastHalf, if_pos (xm_cc0 (vp_in_nI (n := ixdb) (N := 8) (by omega) (by decide +kernel)))]) <;> rfl)) hpx) (fun r_8 u t H locs ht hvm hw hB hz hk hS => ?_)
      obtain ⟨c_9, hw⟩ := hw
      replace hw : r_8 = (o_X0_lastHalf f2 (nI ixdb)).2 := hw
      subst r_8
      have hP := xP_keep hP hk
      refine lv_i2l (v := (((o_X0_lastHalf f2 (nI ixdb)).2).toInt64)) hx hb dX2_digest_73 rfl ?_
      have hPc := hP.sub (ws' := []) [] rfl
      have hKc := hK.sub (tys' := []) [] rfl
      refine va_calll (va_runS (As := [.long v, .long (((o_X0_lastHalf f2 (nI ixdb)).2).toInt64)]) (rest := []) ⟨hx, hb, hml, hown, hts⟩ (k_X2_mixed l dC dI H.size v (((o_X0_lastHalf f2 (nI ixdb)).2).toInt64)) (va_cwS 2 hts gX2_digest_X2_mixed rfl rfl rfl (by decide +kernel) ⟨Nat.le_of_ble_eq_true rfl, Nat.le_of_ble_eq_true rfl⟩) (xB.preS hKc hPc) rfl rfl hl.1 rfl (lv_room (Nat.le_of_ble_eq_true rfl)) dX2_digest_74 ⟨(show _ ≤ 744 by omega), (show _ ≤ 4464 by omega)⟩) hS xA_old (fun q h => hA q (Nat.le_trans hS.1 h)) (fun r_10 u t H locs ht hvm hw hB hz hk hS => ?_)
      replace hw : r_10 = (o_X2_mixed v (((o_X0_lastHalf f2 (nI ixdb)).2).toInt64)) := hw
      subst r_10
      have hP := xP_keep hP hk
      refine lv_lstore_n (lv' := [(1, .long (o_X2_mixed v (((o_X0_lastHalf f2 (nI ixdb)).2).toInt64))), (3, .int (nI ixdb)), (0, .ref h0)]) hx hb dX2_digest_77 rfl hl (by decide +kernel) rfl (fun ls hl => ?_)
      refine lv_lload_n hx hb dX2_digest_78 rfl (lv_at hl 0 rfl) ?_
      refine lv_aload_n hx hb dX2_digest_79 rfl (lv_at hl 2 rfl) ?_
      refine va_get (D := (dC, dI)) (ci := 4) (v := .ref h2) (C := RX2) (T := TX2) (N := 3) hx hb hts (by decide +kernel) hown hK hP 0 rfl rfl 1 (by decide +kernel) (hts (.fieldLink RX2 25 "Edgefloats" "narrow" "LEdgefloats$Row;") (by decide +kernel)) (fun _ h9 => h9) rfl dX2_digest_80 ?_
      refine lv_iload_n hx hb dX2_digest_83 rfl (lv_at hl 1 rfl) ?_
      have hPc := hP.sub (ws' := [(h2, eR hw2 hc2 hb2 a2 r2), (hw2, eW false), (hc2, eA cy f2), (hb2, eA cy g2)]) [5, 6, 7, 8] rfl
      have hDc := hD.sub (ws' := [(h2, eR hw2 hc2 hb2 a2 r2), (hw2, eW false), (hc2, eA cy f2), (hb2, eA cy g2)]) [5, 6, 7, 8] (by decide +kernel) rfl
      have hKc := hK.sub (tys' := [(cy, .long)]) [0] rfl
      refine va_calll (va_runS (As := [.long (o_X2_mixed v (((o_X0_lastHalf f2 (nI ixdb)).2).toInt64)), .ref h2, .int (nI ixdb)]) (rest := []) ⟨hx, hb, hml, hown, hts⟩ (k_X2_mixedAnswers l hfl dC dI cy h2 hw2 hc2 hb2 false a2 r2 f2 g2 H.size N (o_X2_mixed v (((o_X0_lastHalf f2 (nI ixdb)).2).toInt64)) (nI ixdb) (vp_in_nI (n := ixdb) (N := 8) (by omega) (by decide +kernel))) (va_cwS 3 hts gX2_digest_X2_mixedAnswers rfl rfl rfl (by decide +kernel) ⟨Nat.le_of_ble_eq_true rfl, Nat.le_of_ble_eq_true rfl⟩) (xM.preS hKc hPc hDc (fun _ h => h) (Nat.le_trans hN hS.1) (hG.kept hS hAN)) rfl rfl hl.1 rfl (lv_room (Nat.le_of_ble_eq_true rfl)) dX2_digest_84 ⟨(show _ ≤ 744 by omega), (show _ ≤ 4464 by omega)⟩) hS xA_old (fun q h => hA q (Nat.le_trans hS.1 h)) (fun r_11 u t H locs ht hvm hw hB hz hk hS => ?_)
      replace hw : r_11 = (o_X2_mixedAnswers false f2 (o_X2_mixed v (((o_X0_lastHalf f2 (nI ixdb)).2).toInt64)) (nI ixdb)) := hw
      subst r_11
      have hP := xP_keep hP hk
      refine lv_lstore_n (lv' := [(1, .long (o_X2_mixedAnswers false f2 (o_X2_mixed v (((o_X0_lastHalf f2 (nI ixdb)).2).toInt64)) (nI ixdb))), (3, .int (nI ixdb)), (0, .ref h0)]) hx hb dX2_digest_87 rfl hl (by decide +kernel) rfl (fun ls hl => ?_)
      refine lv_iinc (v := (nI (ixdb + 1))) (lv' := [(3, .int (nI (ixdb + 1))), (1, .long (o_X2_mixedAnswers false f2 (o_X2_mixed v (((o_X0_lastHalf f2 (nI ixdb)).2).toInt64)) (nI ixdb))), (0, .ref h0)]) hx hb dX2_digest_88 hl (k := 1) rfl (nI_1 ixdb) (by decide +kernel) rfl (fun ls hl => ?_)
      refine lv_goto (tgt := 58) hx hb dX2_digest_91 (by decide +kernel) ?_
      refine W.widen (k := cs_xdb + 6) (n := ss_xdb + 36) (by omega) (by omega) ?_
      exact ih_xdb (ixdb + 1) (o_X2_mixedAnswers false f2 (o_X2_mixed v (((o_X0_lastHalf f2 (nI ixdb)).2).toInt64)) (nI ixdb)) (cs_xdb + 6) (ss_xdb + 36) (by omega) (by omega) _ _ _ (by omega) (by omega) (hsp_xdb.trans (by (rw [L_xdb]) <;> rfl)) hP hS (lv_sub hl [0, 1, 2] rfl) K_xdb
  refine W.widen (k := 56) (n := 336) (by omega) (by omega) ?_
  refine loop_xdb 8 0 (L_xda f1 8 0 7638) 56 336 (by omega) (by omega) _ _ _ (by omega) (by omega) rfl hP hS (lv_sub hl [0, 1, 2] rfl) (fun H locs ls hP hS hl => ?_)
  refine lv_lload_n hx hb dX2_digest_94 rfl (lv_at hl 0 rfl) ?_
  refine lv_aload_n hx hb dX2_digest_95 rfl (lv_at hl 1 rfl) ?_
  refine va_get (D := (dC, dI)) (ci := 4) (v := .ref h1) (C := RX2) (T := TX2) (N := 3) hx hb hts (by decide +kernel) hown hK hP 0 rfl rfl 0 (by decide +kernel) (hts (.fieldLink RX2 20 "Edgefloats" "wide" "LEdgefloats$Row;") (by decide +kernel)) (fun _ h9 => h9) rfl dX2_digest_96 ?_
  have hPc := hP.sub (ws' := [(h1, eR hw1 hc1 hb1 a1 r1), (hw1, eW true), (hc1, eA cy f1), (hb1, eA cy g1)]) [1, 2, 3, 4] rfl
  have hDc := hD.sub (ws' := [(h1, eR hw1 hc1 hb1 a1 r1), (hw1, eW true), (hc1, eA cy f1), (hb1, eA cy g1)]) [1, 2, 3, 4] (by decide +kernel) rfl
  have hKc := hK.sub (tys' := [(cy, .long)]) [0] rfl
  refine va_calll (va_runS (As := [.long (L_xdb f2 8 0 (L_xda f1 8 0 7638)), .ref h1]) (rest := []) ⟨hx, hb, hml, hown, hts⟩ (k_X2_mixedPairs l hfl dC dI cy h1 hw1 hc1 hb1 true a1 r1 f1 g1 H.size N (L_xdb f2 8 0 (L_xda f1 8 0 7638))) (va_cwS 2 hts gX2_digest_X2_mixedPairs rfl rfl rfl (by decide +kernel) ⟨Nat.le_of_ble_eq_true rfl, Nat.le_of_ble_eq_true rfl⟩) (xM.preS hKc hPc hDc (fun _ h => h) (Nat.le_trans hN hS.1) (hG.kept hS hAN)) rfl rfl hl.1 rfl (lv_room (Nat.le_of_ble_eq_true rfl)) dX2_digest_99 ⟨Nat.le_of_ble_eq_true rfl, Nat.le_of_ble_eq_true rfl⟩) hS xA_old (fun q h => hA q (Nat.le_trans hS.1 h)) (fun r_12 u t H locs ht hvm hw hB hz hk hS => ?_)
  replace hw : r_12 = (o_X2_mixedPairs true f1 (L_xdb f2 8 0 (L_xda f1 8 0 7638))) := hw
  subst r_12
  have hP := xP_keep hP hk
  refine lv_lstore_n (lv' := [(1, .long (o_X2_mixedPairs true f1 (L_xdb f2 8 0 (L_xda f1 8 0 7638)))), (0, .ref h0)]) hx hb dX2_digest_102 rfl hl (by decide +kernel) rfl (fun ls hl => ?_)
  refine lv_lload_n hx hb dX2_digest_103 rfl (lv_at hl 0 rfl) ?_
  refine lv_aload_n hx hb dX2_digest_104 rfl (lv_at hl 1 rfl) ?_
  refine va_get (D := (dC, dI)) (ci := 4) (v := .ref h2) (C := RX2) (T := TX2) (N := 3) hx hb hts (by decide +kernel) hown hK hP 0 rfl rfl 1 (by decide +kernel) (hts (.fieldLink RX2 25 "Edgefloats" "narrow" "LEdgefloats$Row;") (by decide +kernel)) (fun _ h9 => h9) rfl dX2_digest_105 ?_
  have hPc := hP.sub (ws' := [(h2, eR hw2 hc2 hb2 a2 r2), (hw2, eW false), (hc2, eA cy f2), (hb2, eA cy g2)]) [5, 6, 7, 8] rfl
  have hDc := hD.sub (ws' := [(h2, eR hw2 hc2 hb2 a2 r2), (hw2, eW false), (hc2, eA cy f2), (hb2, eA cy g2)]) [5, 6, 7, 8] (by decide +kernel) rfl
  have hKc := hK.sub (tys' := [(cy, .long)]) [0] rfl
  refine va_calll (va_runS (As := [.long (o_X2_mixedPairs true f1 (L_xdb f2 8 0 (L_xda f1 8 0 7638))), .ref h2]) (rest := []) ⟨hx, hb, hml, hown, hts⟩ (k_X2_mixedPairs l hfl dC dI cy h2 hw2 hc2 hb2 false a2 r2 f2 g2 H.size N (o_X2_mixedPairs true f1 (L_xdb f2 8 0 (L_xda f1 8 0 7638)))) (va_cwS 2 hts gX2_digest_X2_mixedPairs rfl rfl rfl (by decide +kernel) ⟨Nat.le_of_ble_eq_true rfl, Nat.le_of_ble_eq_true rfl⟩) (xM.preS hKc hPc hDc (fun _ h => h) (Nat.le_trans hN hS.1) (hG.kept hS hAN)) rfl rfl hl.1 rfl (lv_room (Nat.le_of_ble_eq_true rfl)) dX2_digest_108 ⟨Nat.le_of_ble_eq_true rfl, Nat.le_of_ble_eq_true rfl⟩) hS xA_old (fun q h => hA q (Nat.le_trans hS.1 h)) (fun r_13 u t H locs ht hvm hw hB hz hk hS => ?_)
  replace hw : r_13 = (o_X2_mixedPairs false f2 (o_X2_mixedPairs true f1 (L_xdb f2 8 0 (L_xda f1 8 0 7638)))) := hw
  subst r_13
  have hP := xP_keep hP hk
  refine lv_lstore_n (lv' := [(1, .long (o_X2_mixedPairs false f2 (o_X2_mixedPairs true f1 (L_xdb f2 8 0 (L_xda f1 8 0 7638))))), (0, .ref h0)]) hx hb dX2_digest_111 rfl hl (by decide +kernel) rfl (fun ls hl => ?_)
  refine lv_iconst (v := 0) hx hb dX2_digest_112 (by decide +kernel) ?_
  refine lv_istore_n (lv' := [(3, .int 0), (1, .long (o_X2_mixedPairs false f2 (o_X2_mixedPairs true f1 (L_xdb f2 8 0 (L_xda f1 8 0 7638))))), (0, .ref h0)]) hx hb dX2_digest_113 rfl hl (by decide +kernel) rfl (fun ls hl => ?_)
  have loop_xdc : ∀ (nxdc ixdc : Nat) (v : Int64) (H : Heap) (locs : List Loc) (ls : Array Slot), ixdc + nxdc = 4 → 0 ≤ ixdc → (L_xdc a1 r1 a2 r2 kn 4 0 (o_X2_mixedPairs false f2 (o_X2_mixedPairs true f1 (L_xdb f2 8 0 (L_xda f1 8 0 7638))))) = L_xdc a1 r1 a2 r2 kn nxdc ixdc v → va_P (dC, dI) xCl [(h0, eE h1 h2 kn), (h1, eR hw1 hc1 hb1 a1 r1), (hw1, eW true), (hc1, eA cy f1), (hb1, eA cy g1), (h2, eR hw2 hc2 hb2 a2 r2), (hw2, eW false), (hc2, eA cy f2), (hb2, eA cy g2)] H → va_S (aN s.heap.size) s.heap H locs → lv_has ls 4 [(3, .int (nI ixdc)), (1, .long v), (0, .ref h0)] → (∀ (H : Heap) (locs : List Loc) (ls : Array Slot), va_P (dC, dI) xCl [(h0, eE h1 h2 kn), (h1, eR hw1 hc1 hb1 a1 r1), (hw1, eW true), (hc1, eA cy f1), (hb1, eA cy g1), (h2, eR hw2 hc2 hb2 a2 r2), (hw2, eW false), (hc2, eA cy f2), (hb2, eA cy g2)] H → va_S (aN s.heap.size) s.heap H locs → lv_has ls 4 [(1, .long (L_xdc a1 r1 a2 r2 kn 4 0 (o_X2_mixedPairs false f2 (o_X2_mixedPairs true f1 (L_xdb f2 8 0 (L_xda f1 8 0 7638)))))), (0, .ref h0)] → W p l e (headSpec wsX2_digest ({ frames := 9, cells := 744, slots := 4464, locals := 170 } : Room)).room s m ([.ref h0]).toArray below meth c H locs 744 4464 (MQ below (va_Ql (fun (r : Int64) (_ : Unit) => r = (o_X2_digest a1 r1 f1 a2 r2 f2 kn)) (fun _ _ => True) (aN s.heap.size)) ([.ref h0]).toArray s 744 4464 (aN s.heap.size)) (F0 m 136 ls [])) → W p l e (headSpec wsX2_digest ({ frames := 9, cells := 744, slots := 4464, locals := 170 } : Room)).room s m ([.ref h0]).toArray below meth c H locs 744 4464 (MQ below (va_Ql (fun (r : Int64) (_ : Unit) => r = (o_X2_digest a1 r1 f1 a2 r2 f2 kn)) (fun _ _ => True) (aN s.heap.size)) ([.ref h0]).toArray s 744 4464 (aN s.heap.size)) (F0 m 114 ls []) := by
    intro nxdc
    induction nxdc with
    | zero =>
      intro ixdc v H locs ls hin_xdc his_xdc hsp_xdc hP hS hl K_xdc
      have hv : (L_xdc a1 r1 a2 r2 kn 4 0 (o_X2_mixedPairs false f2 (o_X2_mixedPairs true f1 (L_xdb f2 8 0 (L_xda f1 8 0 7638))))) = v := hsp_xdc
      subst hv
      have hi8 : ixdc = 4 := by omega
      refine lv_iload_n hx hb dX2_digest_114 rfl (lv_at hl 0 rfl) ?_
      refine lv_iconst (v := 3) hx hb dX2_digest_115 (by decide +kernel) ?_
      refine lv_icmp_gt (tgt := 136) hx hb dX2_digest_116 (by decide +kernel) (fun c9 => ?_) (fun c9 => absurd (by rw [hi8]; decide) c9)
      exact K_xdc _ _ _ hP hS (lv_sub hl [1, 2] rfl)
    | succ nxdc ih_xdc =>
      intro ixdc v H locs ls hin_xdc his_xdc hsp_xdc hP hS hl K_xdc
      refine lv_iload_n hx hb dX2_digest_114 rfl (lv_at hl 0 rfl) ?_
      refine lv_iconst (v := 3) hx hb dX2_digest_115 (by decide +kernel) ?_
      refine lv_icmp_gt (tgt := 136) hx hb dX2_digest_116 (by decide +kernel) (fun c9 => absurd c9 (show ¬ (3 : Int32) < nI ixdc from nI_nlt (a := 3) (b := ixdc) (by omega) (by decide +kernel))) (fun c9 => ?_)
      refine lv_lload_n hx hb dX2_digest_119 rfl (lv_at hl 1 rfl) ?_
      refine lv_aload_n hx hb dX2_digest_120 rfl (lv_at hl 2 rfl) ?_
      refine lv_iload_n hx hb dX2_digest_121 rfl (lv_at hl 0 rfl) ?_
      have hPc := hP.sub (ws' := [(h0, eE h1 h2 kn), (h1, eR hw1 hc1 hb1 a1 r1), (hw1, eW true), (hc1, eA cy f1), (hb1, eA cy g1), (h2, eR hw2 hc2 hb2 a2 r2), (hw2, eW false), (hc2, eA cy f2), (hb2, eA cy g2)]) [0, 1, 2, 3, 4, 5, 6, 7, 8] rfl
      have hDc := hD.sub (ws' := [(h0, eE h1 h2 kn), (h1, eR hw1 hc1 hb1 a1 r1), (hw1, eW true), (hc1, eA cy f1), (hb1, eA cy g1), (h2, eR hw2 hc2 hb2 a2 r2), (hw2, eW false), (hc2, eA cy f2), (hb2, eA cy g2)]) [0, 1, 2, 3, 4, 5, 6, 7, 8] (by decide +kernel) rfl
      have hKc := hK.sub (tys' := [(cy, .long)]) [0] rfl
      refine va_calli (va_runV (As := [.int (nI ixdc)]) (rest := [.long v]) ⟨hx, hb, hml, hown, hts⟩ (k_X2_counted l dC dI cy h0 h1 hw1 hc1 hb1 h2 hw2 hc2 hb2 a1 r1 f1 g1 a2 r2 f2 g2 kn H.size N (nI ixdc)) (cwV 1 hts gX2_digest_X2_counted rfl rfl rfl (by decide +kernel) ⟨Nat.le_of_ble_eq_true rfl, Nat.le_of_ble_eq_true rfl⟩) (xM.preV hKc hPc hDc (fun _ h => h) (Nat.le_trans hN hS.1) (hG.kept hS hAN) (ci := 4) (q0 := 0) rfl rfl) rfl rfl hl.1 rfl (lv_room (Nat.le_of_ble_eq_true rfl)) dX2_digest_122 ⟨Nat.le_of_ble_eq_true rfl, Nat.le_of_ble_eq_true rfl⟩) hS xA_old (fun q h => hA q (Nat.le_trans hS.1 h)) (fun r_14 u t H locs ht hvm hw hB hz hk hS => ?_)
      replace hw : r_14 = (o_X2_counted a1 r1 a2 r2 kn (nI ixdc)) := hw
      subst r_14
      have hP := xP_keep hP hk
      refine lv_i2l (v := ((o_X2_counted a1 r1 a2 r2 kn (nI ixdc)).toInt64)) hx hb dX2_digest_125 rfl ?_
      have hPc := hP.sub (ws' := []) [] rfl
      have hKc := hK.sub (tys' := []) [] rfl
      refine va_calll (va_runS (As := [.long v, .long ((o_X2_counted a1 r1 a2 r2 kn (nI ixdc)).toInt64)]) (rest := []) ⟨hx, hb, hml, hown, hts⟩ (k_X2_mixed l dC dI H.size v ((o_X2_counted a1 r1 a2 r2 kn (nI ixdc)).toInt64)) (va_cwS 2 hts gX2_digest_X2_mixed rfl rfl rfl (by decide +kernel) ⟨Nat.le_of_ble_eq_true rfl, Nat.le_of_ble_eq_true rfl⟩) (xB.preS hKc hPc) rfl rfl hl.1 rfl (lv_room (Nat.le_of_ble_eq_true rfl)) dX2_digest_126 ⟨Nat.le_of_ble_eq_true rfl, Nat.le_of_ble_eq_true rfl⟩) hS xA_old (fun q h => hA q (Nat.le_trans hS.1 h)) (fun r_15 u t H locs ht hvm hw hB hz hk hS => ?_)
      replace hw : r_15 = (o_X2_mixed v ((o_X2_counted a1 r1 a2 r2 kn (nI ixdc)).toInt64)) := hw
      subst r_15
      have hP := xP_keep hP hk
      refine lv_lstore_n (lv' := [(1, .long (o_X2_mixed v ((o_X2_counted a1 r1 a2 r2 kn (nI ixdc)).toInt64))), (3, .int (nI ixdc)), (0, .ref h0)]) hx hb dX2_digest_129 rfl hl (by decide +kernel) rfl (fun ls hl => ?_)
      refine lv_iinc (v := (nI (ixdc + 1))) (lv' := [(3, .int (nI (ixdc + 1))), (1, .long (o_X2_mixed v ((o_X2_counted a1 r1 a2 r2 kn (nI ixdc)).toInt64))), (0, .ref h0)]) hx hb dX2_digest_130 hl (k := 1) rfl (nI_1 ixdc) (by decide +kernel) rfl (fun ls hl => ?_)
      refine lv_goto (tgt := 114) hx hb dX2_digest_133 (by decide +kernel) ?_
      refine W.widen (k := 744) (n := 4464) (Nat.le_refl _) (Nat.le_refl _) ?_
      exact ih_xdc (ixdc + 1) (o_X2_mixed v ((o_X2_counted a1 r1 a2 r2 kn (nI ixdc)).toInt64)) _ _ _ (by omega) (by omega) (hsp_xdc.trans (by (rw [L_xdc]) <;> rfl)) hP hS (lv_sub hl [0, 1, 2] rfl) K_xdc
  refine loop_xdc 4 0 (o_X2_mixedPairs false f2 (o_X2_mixedPairs true f1 (L_xdb f2 8 0 (L_xda f1 8 0 7638)))) _ _ _ (by omega) (by omega) rfl hP hS (lv_sub hl [0, 1, 2] rfl) (fun H locs ls hP hS hl => ?_)
  refine lv_lload_n hx hb dX2_digest_136 rfl (lv_at hl 0 rfl) ?_
  refine lv_aload_n hx hb dX2_digest_137 rfl (lv_at hl 1 rfl) ?_
  have hPc := hP.sub (ws' := [(h0, eE h1 h2 kn), (h1, eR hw1 hc1 hb1 a1 r1), (hw1, eW true), (hc1, eA cy f1), (hb1, eA cy g1), (h2, eR hw2 hc2 hb2 a2 r2), (hw2, eW false), (hc2, eA cy f2), (hb2, eA cy g2)]) [0, 1, 2, 3, 4, 5, 6, 7, 8] rfl
  have hKc := hK.sub (tys' := [(cy, .long)]) [0] rfl
  refine va_calli (va_runV (As := []) (rest := [.long (L_xdc a1 r1 a2 r2 kn 4 0 (o_X2_mixedPairs false f2 (o_X2_mixedPairs true f1 (L_xdb f2 8 0 (L_xda f1 8 0 7638)))))]) ⟨hx, hb, hml, hown, hts⟩ (k_X2_isSound l dC dI cy h0 h1 hw1 hc1 hb1 h2 hw2 hc2 hb2 a1 r1 f1 g1 a2 r2 f2 g2 kn H.size hok2 hsp1 hsp2) (cwV 0 hts gX2_digest_X2_isSound rfl rfl rfl (by decide +kernel) ⟨Nat.le_of_ble_eq_true rfl, Nat.le_of_ble_eq_true rfl⟩) (xB.preV hKc hPc (ci := 4) (q0 := 0) rfl rfl) rfl rfl hl.1 rfl (lv_room (Nat.le_of_ble_eq_true rfl)) dX2_digest_138 ⟨Nat.le_of_ble_eq_true rfl, Nat.le_of_ble_eq_true rfl⟩) hS xA_old (fun q h => hA q (Nat.le_trans hS.1 h)) (fun r_16 u t H locs ht hvm hw hB hz hk hS => ?_)
  replace hw : r_16 = b2i (o_X2_isSound) := hw
  subst r_16
  have hP := xP_keep hP hk
  refine xz_eq (tgt := 148) hx hb dX2_digest_141 (by decide +kernel) (fun c9 => absurd (by rfl) c9) (fun c9 => ?_)
  refine lv_lconst (v := 1) hx hb dX2_digest_144 (by decide +kernel) ?_
  refine lv_goto (tgt := 149) hx hb dX2_digest_145 (by decide +kernel) ?_
  have hPc := hP.sub (ws' := []) [] rfl
  have hKc := hK.sub (tys' := []) [] rfl
  refine va_calll (va_runS (As := [.long (L_xdc a1 r1 a2 r2 kn 4 0 (o_X2_mixedPairs false f2 (o_X2_mixedPairs true f1 (L_xdb f2 8 0 (L_xda f1 8 0 7638))))), .long 1]) (rest := []) ⟨hx, hb, hml, hown, hts⟩ (k_X2_mixed l dC dI H.size (L_xdc a1 r1 a2 r2 kn 4 0 (o_X2_mixedPairs false f2 (o_X2_mixedPairs true f1 (L_xdb f2 8 0 (L_xda f1 8 0 7638))))) 1) (va_cwS 2 hts gX2_digest_X2_mixed rfl rfl rfl (by decide +kernel) ⟨Nat.le_of_ble_eq_true rfl, Nat.le_of_ble_eq_true rfl⟩) (xB.preS hKc hPc) rfl rfl hl.1 rfl (lv_room (Nat.le_of_ble_eq_true rfl)) dX2_digest_149 ⟨Nat.le_of_ble_eq_true rfl, Nat.le_of_ble_eq_true rfl⟩) hS xA_old (fun q h => hA q (Nat.le_trans hS.1 h)) (fun r_17 u t H locs ht hvm hw hB hz hk hS => ?_)
  replace hw : r_17 = (o_X2_mixed (L_xdc a1 r1 a2 r2 kn 4 0 (o_X2_mixedPairs false f2 (o_X2_mixedPairs true f1 (L_xdb f2 8 0 (L_xda f1 8 0 7638))))) 1) := hw
  subst r_17
  have hP := xP_keep hP hk
  have he : o_X2_digest a1 r1 f1 a2 r2 f2 kn = (o_X2_mixed (L_xdc a1 r1 a2 r2 kn 4 0 (o_X2_mixedPairs false f2 (o_X2_mixedPairs true f1 (L_xdb f2 8 0 (L_xda f1 8 0 7638))))) 1) := by (rw [o_X2_digest]) <;> rfl
  refine W.widen (k := 744) (n := 4464) (by omega) (by omega) ?_
  exact W.lret (v := (o_X2_mixed (L_xdc a1 r1 a2 r2 kn 4 0 (o_X2_mixedPairs false f2 (o_X2_mixedPairs true f1 (L_xdb f2 8 0 (L_xda f1 8 0 7638))))) 1)) hx hb hr (fun t ht hW => ⟨⟨_, (), rfl, (by (rw [he]) <;> rfl), trivial⟩, hS.F ht⟩) hS.2.2 dX2_digest_152
