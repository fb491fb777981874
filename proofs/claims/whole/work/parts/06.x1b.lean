noncomputable def dz_p06_1 : List (Nat × Instr × Nat) := [(0, (.iconst 0, 1)), (1, (.istore_n 3, 1)), (2, (.iconst 1, 1)), (3, (.istore 4, 2)), (5, (.iload 4, 2)), (7, (.bipush 32, 2)), (9, (.if_icmp .ge 21, 3)), (12, (.lload_n 1, 1)), (13, (.iload 4, 2)), (15, (.lshr, 1)), (16, (.lconst 0, 1)), (17, (.lcmp, 1)), (18, (.ifCond .eq 6, 3)), (21, (.iload 4, 2)), (23, (.istore_n 3, 1)), (24, (.iinc 4 1, 3)), (27, (.goto (-22), 3)), (30, (.iload_n 3, 1)), (31, (.ireturn, 1))]
theorem dy_p06_1 : dz_ok cX1_highestDigit dz_p06_1 = true := by decide +kernel
theorem dX1_highestDigit_0 : decode cX1_highestDigit 0 = .ok (.iconst 0, 1) := dz_at (i := 0) dy_p06_1 rfl
theorem dX1_highestDigit_1 : decode cX1_highestDigit 1 = .ok (.istore_n 3, 1) := dz_at (i := 1) dy_p06_1 rfl
theorem dX1_highestDigit_2 : decode cX1_highestDigit 2 = .ok (.iconst 1, 1) := dz_at (i := 2) dy_p06_1 rfl
theorem dX1_highestDigit_3 : decode cX1_highestDigit 3 = .ok (.istore 4, 2) := dz_at (i := 3) dy_p06_1 rfl
theorem dX1_highestDigit_5 : decode cX1_highestDigit 5 = .ok (.iload 4, 2) := dz_at (i := 4) dy_p06_1 rfl
theorem dX1_highestDigit_7 : decode cX1_highestDigit 7 = .ok (.bipush 32, 2) := dz_at (i := 5) dy_p06_1 rfl
theorem dX1_highestDigit_9 : decode cX1_highestDigit 9 = .ok (.if_icmp .ge 21, 3) := dz_at (i := 6) dy_p06_1 rfl
theorem dX1_highestDigit_12 : decode cX1_highestDigit 12 = .ok (.lload_n 1, 1) := dz_at (i := 7) dy_p06_1 rfl
theorem dX1_highestDigit_13 : decode cX1_highestDigit 13 = .ok (.iload 4, 2) := dz_at (i := 8) dy_p06_1 rfl
theorem dX1_highestDigit_15 : decode cX1_highestDigit 15 = .ok (.lshr, 1) := dz_at (i := 9) dy_p06_1 rfl
theorem dX1_highestDigit_16 : decode cX1_highestDigit 16 = .ok (.lconst 0, 1) := dz_at (i := 10) dy_p06_1 rfl
theorem dX1_highestDigit_17 : decode cX1_highestDigit 17 = .ok (.lcmp, 1) := dz_at (i := 11) dy_p06_1 rfl
theorem dX1_highestDigit_18 : decode cX1_highestDigit 18 = .ok (.ifCond .eq 6, 3) := dz_at (i := 12) dy_p06_1 rfl
theorem dX1_highestDigit_21 : decode cX1_highestDigit 21 = .ok (.iload 4, 2) := dz_at (i := 13) dy_p06_1 rfl
theorem dX1_highestDigit_23 : decode cX1_highestDigit 23 = .ok (.istore_n 3, 1) := dz_at (i := 14) dy_p06_1 rfl
theorem dX1_highestDigit_24 : decode cX1_highestDigit 24 = .ok (.iinc 4 1, 3) := dz_at (i := 15) dy_p06_1 rfl
theorem dX1_highestDigit_27 : decode cX1_highestDigit 27 = .ok (.goto (-22), 3) := dz_at (i := 16) dy_p06_1 rfl
theorem dX1_highestDigit_30 : decode cX1_highestDigit 30 = .ok (.iload_n 3, 1) := dz_at (i := 17) dy_p06_1 rfl
theorem dX1_highestDigit_31 : decode cX1_highestDigit 31 = .ok (.ireturn, 1) := dz_at (i := 18) dy_p06_1 rfl
noncomputable def L_hd (p0 : Int64) : Nat → Nat → Int32 → Int32
  | 0, _, v => v
  | nhd + 1, ihd, v => if (jLshr p0 (nI ihd)) = 0 then L_hd p0 nhd (ihd + 1) v
    else L_hd p0 nhd (ihd + 1) (nI ihd)
noncomputable def o_X1_highestDigit  (p0 : Int64) : Int32 :=
  (L_hd p0 31 1 0)
set_option maxHeartbeats 4000000 in
set_option maxRecDepth 100000 in
theorem k_X1_highestDigit (l : Launch) (dC : Nat → ClassId) (dI : Nat → Nat → Nat) (h0 : Nat) (w : Bool) (sz : Nat) (p0 : Int64) : Met l yX1_highestDigit wsX1_highestDigit ({ frames := 0, cells := 0, slots := 0, locals := 0 }) (va_Pc [.ref h0, .long p0] (xB (dC, dI) xCl [(h0, eW w)] [] sz)) (va_Qi (fun (r : Int32) (_ : Unit) => r = (o_X1_highestDigit p0)) (fun _ _ => True) (aN sz)) 0 0 (aN sz) := by
  refine Met.ofW (cc := cX1_highestDigit) (maxL := 5) (ret := (some .int)) (by decide +kernel) rfl ?_
  intro p e s m args below meth c s₁ B hml hv
  obtain ⟨rfl, hsz, hP, hK⟩ := hv
  have hx := B.exec
  have hb := B.bytes
  have hr := B.returns
  have hts := atoms_spec (ws := wsX1_highestDigit) B.pre
  have hown : s.vm.findClass RX1 = some m.cls := findClass_of_methodNamed B.named
  have hlocks := B.notSynchronized
  subst hsz
  have hA : ∀ q : Nat, s.heap.size ≤ q → aN s.heap.size q := fun _ h => h
  have hS : va_S (aN s.heap.size) s.heap s.heap [] := va_S.rf
  have hP : va_P (dC, dI) xCl [(h0, eW w)] s.heap := hP
  have hl := lv_entry ([.ref h0, .long p0]) (n := 5) (Nat.le_of_ble_eq_true rfl)
  rw [lg_entry_eq]
  generalize (lg_sl ([.ref h0, .long p0]) ++ List.replicate (5 - (lg_sl ([.ref h0, .long p0])).length) Slot.unset).toArray = ls at hl ⊢
  have hl : lv_has ls 5 [(0, .ref h0), (1, .long p0)] := hl
  refine lv_iconst (v := 0) hx hb dX1_highestDigit_0 (by decide +kernel) ?_
  refine lv_istore_n (lv' := [(3, .int 0), (0, .ref h0), (1, .long p0)]) hx hb dX1_highestDigit_1 rfl hl (by decide +kernel) rfl (fun ls hl => ?_)
  refine lv_iconst (v := 1) hx hb dX1_highestDigit_2 (by decide +kernel) ?_
  refine lv_istore (lv' := [(4, .int 1), (3, .int 0), (0, .ref h0), (1, .long p0)]) hx hb dX1_highestDigit_3 hl (by decide +kernel) rfl (fun ls hl => ?_)
  have loop_hd : ∀ (nhd ihd : Nat) (v : Int32) (H : Heap) (locs : List Loc) (ls : Array Slot), ihd + nhd = 32 → 1 ≤ ihd → (L_hd p0 31 1 0) = L_hd p0 nhd ihd v → va_P (dC, dI) xCl [(h0, eW w)] H → va_S (aN s.heap.size) s.heap H locs → lv_has ls 5 [(4, .int (nI ihd)), (3, .int v), (0, .ref h0), (1, .long p0)] → (∀ (H : Heap) (locs : List Loc) (ls : Array Slot), va_P (dC, dI) xCl [(h0, eW w)] H → va_S (aN s.heap.size) s.heap H locs → lv_has ls 5 [(3, .int (L_hd p0 31 1 0)), (0, .ref h0), (1, .long p0)] → W p l e (headSpec wsX1_highestDigit ({ frames := 0, cells := 0, slots := 0, locals := 0 } : Room)).room s m ([.ref h0, .long p0]).toArray below meth c H locs 0 0 (MQ below (va_Qi (fun (r : Int32) (_ : Unit) => r = (o_X1_highestDigit p0)) (fun _ _ => True) (aN s.heap.size)) ([.ref h0, .long p0]).toArray s 0 0 (aN s.heap.size)) (F0 m 30 ls [])) → W p l e (headSpec wsX1_highestDigit ({ frames := 0, cells := 0, slots := 0, locals := 0 } : Room)).room s m ([.ref h0, .long p0]).toArray below meth c H locs 0 0 (MQ below (va_Qi (fun (r : Int32) (_ : Unit) => r = (o_X1_highestDigit p0)) (fun _ _ => True) (aN s.heap.size)) ([.ref h0, .long p0]).toArray s 0 0 (aN s.heap.size)) (F0 m 5 ls []) := by
    intro nhd
    induction nhd with
    | zero =>
      intro ihd v H locs ls hin_hd his_hd hsp_hd hP hS hl K_hd
      have hv : (L_hd p0 31 1 0) = v := hsp_hd
      subst hv
      have hi8 : ihd = 32 := by omega
      refine lv_iload hx hb dX1_highestDigit_5 (lv_at hl 0 rfl) ?_
      refine lv_bipush (v := 32) hx hb dX1_highestDigit_7 (by decide +kernel) ?_
      refine lv_icmp_ge (tgt := 30) hx hb dX1_highestDigit_9 (by decide +kernel) (fun c9 => ?_) (fun c9 => absurd (by rw [hi8]; decide) c9)
      exact K_hd _ _ _ hP hS (lv_sub hl [1, 2, 3] rfl)
    | succ nhd ih_hd =>
      intro ihd v H locs ls hin_hd his_hd hsp_hd hP hS hl K_hd
      refine lv_iload hx hb dX1_highestDigit_5 (lv_at hl 0 rfl) ?_
      refine lv_bipush (v := 32) hx hb dX1_highestDigit_7 (by decide +kernel) ?_
      refine lv_icmp_ge (tgt := 30) hx hb dX1_highestDigit_9 (by decide +kernel) (fun c9 => absurd c9 (show ¬ (32 : Int32) ≤ nI ihd from nI_ge (a := ihd) (b := 32) (by omega) (by decide +kernel))) (fun c9 => ?_)
      refine lv_lload_n hx hb dX1_highestDigit_12 rfl (lv_at hl 3 rfl) ?_
      refine lv_iload hx hb dX1_highestDigit_13 (lv_at hl 0 rfl) ?_
      refine lv_lshr (v := (jLshr p0 (nI ihd))) hx hb dX1_highestDigit_15 rfl ?_
      refine lv_lconst (v := 0) hx hb dX1_highestDigit_16 (by decide +kernel) ?_
      refine xc_eq (tgt := 24) hx hb dX1_highestDigit_17 dX1_highestDigit_18 (by decide +kernel) (fun c_1 => ?_) (fun c_1 => ?_)
      · skip
        refine lv_iinc (v := (nI (ihd + 1))) (lv' := [(4, .int (nI (ihd + 1))), (3, .int v), (0, .ref h0), (1, .long p0)]) hx hb dX1_highestDigit_24 hl (k := 0) rfl (nI_1 ihd) (by decide +kernel) rfl (fun ls hl => ?_)
        refine lv_goto (tgt := 5) hx hb dX1_highestDigit_27 (by decide +kernel) ?_
        refine W.widen (k := 0) (n := 0) (Nat.le_refl _) (Nat.le_refl _) ?_
        exact ih_hd (ihd + 1) v _ _ _ (by omega) (by omega) (hsp_hd.trans (by (rw [L_hd, if_pos c_1]) <;> rfl)) hP hS (lv_sub hl [0, 1, 2, 3] rfl) K_hd
      · skip
        refine lv_iload hx hb dX1_highestDigit_21 (lv_at hl 0 rfl) ?_
        refine lv_istore_n (lv' := [(3, .int (nI ihd)), (4, .int (nI ihd)), (0, .ref h0), (1, .long p0)]) hx hb dX1_highestDigit_23 rfl hl (by decide +kernel) rfl (fun ls hl => ?_)
        refine lv_iinc (v := (nI (ihd + 1))) (lv' := [(4, .int (nI (ihd + 1))), (3, .int (nI ihd)), (0, .ref h0), (1, .long p0)]) hx hb dX1_highestDigit_24 hl (k := 1) rfl (nI_1 ihd) (by decide +kernel) rfl (fun ls hl => ?_)
        refine lv_goto (tgt := 5) hx hb dX1_highestDigit_27 (by decide +kernel) ?_
        refine W.widen (k := 0) (n := 0) (Nat.le_refl _) (Nat.le_refl _) ?_
        exact ih_hd (ihd + 1) (nI ihd) _ _ _ (by omega) (by omega) (hsp_hd.trans (by (rw [L_hd, if_neg c_1]) <;> rfl)) hP hS (lv_sub hl [0, 1, 2, 3] rfl) K_hd
  refine loop_hd 31 1 0 _ _ _ (by omega) (by omega) rfl hP hS (lv_sub hl [0, 1, 2, 3] rfl) (fun H locs ls hP hS hl => ?_)
  refine lv_iload_n hx hb dX1_highestDigit_30 rfl (lv_at hl 0 rfl) ?_
  have he : o_X1_highestDigit p0 = (L_hd p0 31 1 0) := by (rw [o_X1_highestDigit]) <;> rfl
  refine W.widen (k := 0) (n := 0) (by omega) (by omega) ?_
  exact W.iret (v := (L_hd p0 31 1 0)) hx hb hr (fun t ht hW => ⟨⟨_, (), rfl, (by (rw [he]) <;> rfl), trivial⟩, hS.F ht⟩) hS.2.2 dX1_highestDigit_31
noncomputable def dz_p06_2 : List (Nat × Instr × Nat) := [(0, (.aload_n 0, 1)), (1, (.getfield 18, 3)), (4, (.i2l, 1)), (5, (.aload_n 0, 1)), (6, (.getfield 9, 3)), (9, (.lshl, 1)), (10, (.lstore_n 2, 1)), (11, (.iload_n 1, 1)), (12, (.tableswitch 62 0 5 #[40, 42, 47, 49, 56, 60], 40)), (52, (.lconst 0, 1)), (53, (.lreturn, 1)), (54, (.aload_n 0, 1)), (55, (.getfield 25, 3)), (58, (.lreturn, 1)), (59, (.lload_n 2, 1)), (60, (.lreturn, 1)), (61, (.aload_n 0, 1)), (62, (.getfield 25, 3)), (65, (.lload_n 2, 1)), (66, (.lor, 1)), (67, (.lreturn, 1)), (68, (.lload_n 2, 1)), (69, (.lconst 1, 1)), (70, (.lsub, 1)), (71, (.lreturn, 1)), (72, (.lconst 1, 1)), (73, (.lreturn, 1)), (74, (.lconst 1, 1)), (75, (.aload_n 0, 1)), (76, (.getfield 9, 3)), (79, (.lshl, 1)), (80, (.lreturn, 1))]
theorem dy_p06_2 : dz_ok cX1_known dz_p06_2 = true := by decide +kernel
theorem dX1_known_0 : decode cX1_known 0 = .ok (.aload_n 0, 1) := dz_at (i := 0) dy_p06_2 rfl
theorem dX1_known_1 : decode cX1_known 1 = .ok (.getfield 18, 3) := dz_at (i := 1) dy_p06_2 rfl
theorem dX1_known_4 : decode cX1_known 4 = .ok (.i2l, 1) := dz_at (i := 2) dy_p06_2 rfl
theorem dX1_known_5 : decode cX1_known 5 = .ok (.aload_n 0, 1) := dz_at (i := 3) dy_p06_2 rfl
theorem dX1_known_6 : decode cX1_known 6 = .ok (.getfield 9, 3) := dz_at (i := 4) dy_p06_2 rfl
theorem dX1_known_9 : decode cX1_known 9 = .ok (.lshl, 1) := dz_at (i := 5) dy_p06_2 rfl
theorem dX1_known_10 : decode cX1_known 10 = .ok (.lstore_n 2, 1) := dz_at (i := 6) dy_p06_2 rfl
theorem dX1_known_11 : decode cX1_known 11 = .ok (.iload_n 1, 1) := dz_at (i := 7) dy_p06_2 rfl
theorem dX1_known_12 : decode cX1_known 12 = .ok (.tableswitch 62 0 5 #[40, 42, 47, 49, 56, 60], 40) := dz_at (i := 8) dy_p06_2 rfl
theorem dX1_known_52 : decode cX1_known 52 = .ok (.lconst 0, 1) := dz_at (i := 9) dy_p06_2 rfl
theorem dX1_known_53 : decode cX1_known 53 = .ok (.lreturn, 1) := dz_at (i := 10) dy_p06_2 rfl
theorem dX1_known_54 : decode cX1_known 54 = .ok (.aload_n 0, 1) := dz_at (i := 11) dy_p06_2 rfl
theorem dX1_known_55 : decode cX1_known 55 = .ok (.getfield 25, 3) := dz_at (i := 12) dy_p06_2 rfl
theorem dX1_known_58 : decode cX1_known 58 = .ok (.lreturn, 1) := dz_at (i := 13) dy_p06_2 rfl
theorem dX1_known_59 : decode cX1_known 59 = .ok (.lload_n 2, 1) := dz_at (i := 14) dy_p06_2 rfl
theorem dX1_known_60 : decode cX1_known 60 = .ok (.lreturn, 1) := dz_at (i := 15) dy_p06_2 rfl
theorem dX1_known_61 : decode cX1_known 61 = .ok (.aload_n 0, 1) := dz_at (i := 16) dy_p06_2 rfl
theorem dX1_known_62 : decode cX1_known 62 = .ok (.getfield 25, 3) := dz_at (i := 17) dy_p06_2 rfl
theorem dX1_known_65 : decode cX1_known 65 = .ok (.lload_n 2, 1) := dz_at (i := 18) dy_p06_2 rfl
theorem dX1_known_66 : decode cX1_known 66 = .ok (.lor, 1) := dz_at (i := 19) dy_p06_2 rfl
theorem dX1_known_67 : decode cX1_known 67 = .ok (.lreturn, 1) := dz_at (i := 20) dy_p06_2 rfl
theorem dX1_known_68 : decode cX1_known 68 = .ok (.lload_n 2, 1) := dz_at (i := 21) dy_p06_2 rfl
theorem dX1_known_69 : decode cX1_known 69 = .ok (.lconst 1, 1) := dz_at (i := 22) dy_p06_2 rfl
theorem dX1_known_70 : decode cX1_known 70 = .ok (.lsub, 1) := dz_at (i := 23) dy_p06_2 rfl
theorem dX1_known_71 : decode cX1_known 71 = .ok (.lreturn, 1) := dz_at (i := 24) dy_p06_2 rfl
theorem dX1_known_72 : decode cX1_known 72 = .ok (.lconst 1, 1) := dz_at (i := 25) dy_p06_2 rfl
theorem dX1_known_73 : decode cX1_known 73 = .ok (.lreturn, 1) := dz_at (i := 26) dy_p06_2 rfl
theorem dX1_known_74 : decode cX1_known 74 = .ok (.lconst 1, 1) := dz_at (i := 27) dy_p06_2 rfl
theorem dX1_known_75 : decode cX1_known 75 = .ok (.aload_n 0, 1) := dz_at (i := 28) dy_p06_2 rfl
theorem dX1_known_76 : decode cX1_known 76 = .ok (.getfield 9, 3) := dz_at (i := 29) dy_p06_2 rfl
theorem dX1_known_79 : decode cX1_known 79 = .ok (.lshl, 1) := dz_at (i := 30) dy_p06_2 rfl
theorem dX1_known_80 : decode cX1_known 80 = .ok (.lreturn, 1) := dz_at (i := 31) dy_p06_2 rfl
noncomputable def o_X1_known (w : Bool) (p0 : Int32) : Int64 :=
  if p0 = 0 then 0
  else if p0 = 1 then (wSg w)
  else if p0 = 2 then (jLshl ((wEo w).toInt64) (wFd w))
  else if p0 = 3 then ((wSg w) ||| (jLshl ((wEo w).toInt64) (wFd w)))
  else if p0 = 4 then ((jLshl ((wEo w).toInt64) (wFd w)) - 1)
  else if p0 = 5 then 1
  else (jLshl 1 (wFd w))
set_option maxHeartbeats 4000000 in
set_option maxRecDepth 100000 in
theorem k_X1_known (l : Launch) (dC : Nat → ClassId) (dI : Nat → Nat → Nat) (h0 : Nat) (w : Bool) (sz : Nat) (p0 : Int32) : Met l yX1_known wsX1_known ({ frames := 0, cells := 0, slots := 0, locals := 0 }) (va_Pc [.ref h0, .int p0] (xB (dC, dI) xCl [(h0, eW w)] [] sz)) (va_Ql (fun (r : Int64) (_ : Unit) => r = (o_X1_known w p0)) (fun _ _ => True) (aN sz)) 0 0 (aN sz) := by
  refine Met.ofW (cc := cX1_known) (maxL := 4) (ret := (some .long)) (by decide +kernel) rfl ?_
  intro p e s m args below meth c s₁ B hml hv
  obtain ⟨rfl, hsz, hP, hK⟩ := hv
  have hx := B.exec
  have hb := B.bytes
  have hr := B.returns
  have hts := atoms_spec (ws := wsX1_known) B.pre
  have hown : s.vm.findClass RX1 = some m.cls := findClass_of_methodNamed B.named
  have hlocks := B.notSynchronized
  subst hsz
  have hA : ∀ q : Nat, s.heap.size ≤ q → aN s.heap.size q := fun _ h => h
  have hS : va_S (aN s.heap.size) s.heap s.heap [] := va_S.rf
  have hP : va_P (dC, dI) xCl [(h0, eW w)] s.heap := hP
  have hl := lv_entry ([.ref h0, .int p0]) (n := 4) (Nat.le_of_ble_eq_true rfl)
  rw [lg_entry_eq]
  generalize (lg_sl ([.ref h0, .int p0]) ++ List.replicate (4 - (lg_sl ([.ref h0, .int p0])).length) Slot.unset).toArray = ls at hl ⊢
  have hl : lv_has ls 4 [(0, .ref h0), (1, .int p0)] := hl
  refine lv_aload_n hx hb dX1_known_0 rfl (lv_at hl 0 rfl) ?_
  refine va_get (D := (dC, dI)) (ci := 3) (v := .int (wEo w)) (C := RX1) (T := TX1) (N := 7) hx hb hts (by decide +kernel) hown hK hP 0 rfl rfl 1 (by decide +kernel) (hts (.fieldLink RX1 18 "Edgefloats$Width" "exponentOnes" "I") (by decide +kernel)) (fun _ h9 => h9) rfl dX1_known_1 ?_
  refine lv_i2l (v := ((wEo w).toInt64)) hx hb dX1_known_4 rfl ?_
  refine lv_aload_n hx hb dX1_known_5 rfl (lv_at hl 0 rfl) ?_
  refine va_get (D := (dC, dI)) (ci := 3) (v := .int (wFd w)) (C := RX1) (T := TX1) (N := 7) hx hb hts (by decide +kernel) hown hK hP 0 rfl rfl 0 (by decide +kernel) (hts (.fieldLink RX1 9 "Edgefloats$Width" "fractionDigits" "I") (by decide +kernel)) (fun _ h9 => h9) rfl dX1_known_6 ?_
  refine lv_lshl (v := (jLshl ((wEo w).toInt64) (wFd w))) hx hb dX1_known_9 rfl ?_
  refine lv_lstore_n (lv' := [(2, .long (jLshl ((wEo w).toInt64) (wFd w))), (0, .ref h0), (1, .int p0)]) hx hb dX1_known_10 rfl hl (by decide +kernel) rfl (fun ls hl => ?_)
  refine lv_iload_n hx hb dX1_known_11 rfl (lv_at hl 2 rfl) ?_
  by_cases c_1 : p0 = 0
  · refine lv_tableIn (tgt := 52) (off := 40) hx hb dX1_known_12 (by rw [c_1]; decide) (by rw [c_1]; decide) (by rw [c_1]; rfl) (by decide +kernel) ?_
    refine lv_lconst (v := 0) hx hb dX1_known_52 (by decide +kernel) ?_
    have he : o_X1_known w p0 = 0 := by (rw [o_X1_known, if_pos c_1]) <;> rfl
    refine W.widen (k := 0) (n := 0) (by omega) (by omega) ?_
    exact W.lret (v := 0) hx hb hr (fun t ht hW => ⟨⟨_, (), rfl, (by (rw [he]) <;> rfl), trivial⟩, hS.F ht⟩) hS.2.2 dX1_known_53
  · skip
    by_cases c_2 : p0 = 1
    · refine lv_tableIn (tgt := 54) (off := 42) hx hb dX1_known_12 (by rw [c_2]; decide) (by rw [c_2]; decide) (by rw [c_2]; rfl) (by decide +kernel) ?_
      refine lv_aload_n hx hb dX1_known_54 rfl (lv_at hl 1 rfl) ?_
      refine va_get (D := (dC, dI)) (ci := 3) (v := .long (wSg w)) (C := RX1) (T := TX1) (N := 7) hx hb hts (by decide +kernel) hown hK hP 0 rfl rfl 4 (by decide +kernel) (hts (.fieldLink RX1 25 "Edgefloats$Width" "signOne" "J") (by decide +kernel)) (fun _ h9 => h9) rfl dX1_known_55 ?_
      have he : o_X1_known w p0 = (wSg w) := by (rw [o_X1_known, if_neg c_1, if_pos c_2]) <;> rfl
      refine W.widen (k := 0) (n := 0) (by omega) (by omega) ?_
      exact W.lret (v := (wSg w)) hx hb hr (fun t ht hW => ⟨⟨_, (), rfl, (by (rw [he]) <;> rfl), trivial⟩, hS.F ht⟩) hS.2.2 dX1_known_58
    · skip
      by_cases c_3 : p0 = 2
      · refine lv_tableIn (tgt := 59) (off := 47) hx hb dX1_known_12 (by rw [c_3]; decide) (by rw [c_3]; decide) (by rw [c_3]; rfl) (by decide +kernel) ?_
        refine lv_lload_n hx hb dX1_known_59 rfl (lv_at hl 0 rfl) ?_
        have he : o_X1_known w p0 = (jLshl ((wEo w).toInt64) (wFd w)) := by (rw [o_X1_known, if_neg c_1, if_neg c_2, if_pos c_3]) <;> rfl
        refine W.widen (k := 0) (n := 0) (by omega) (by omega) ?_
        exact W.lret (v := (jLshl ((wEo w).toInt64) (wFd w))) hx hb hr (fun t ht hW => ⟨⟨_, (), rfl, (by (rw [he]) <;> rfl), trivial⟩, hS.F ht⟩) hS.2.2 dX1_known_60
      · skip
        by_cases c_4 : p0 = 3
        · refine lv_tableIn (tgt := 61) (off := 49) hx hb dX1_known_12 (by rw [c_4]; decide) (by rw [c_4]; decide) (by rw [c_4]; rfl) (by decide +kernel) ?_
          refine lv_aload_n hx hb dX1_known_61 rfl (lv_at hl 1 rfl) ?_
          refine va_get (D := (dC, dI)) (ci := 3) (v := .long (wSg w)) (C := RX1) (T := TX1) (N := 7) hx hb hts (by decide +kernel) hown hK hP 0 rfl rfl 4 (by decide +kernel) (hts (.fieldLink RX1 25 "Edgefloats$Width" "signOne" "J") (by decide +kernel)) (fun _ h9 => h9) rfl dX1_known_62 ?_
          refine lv_lload_n hx hb dX1_known_65 rfl (lv_at hl 0 rfl) ?_
          refine lv_lor hx hb dX1_known_66 ?_
          have he : o_X1_known w p0 = ((wSg w) ||| (jLshl ((wEo w).toInt64) (wFd w))) := by (rw [o_X1_known, if_neg c_1, if_neg c_2, if_neg c_3, if_pos c_4]) <;> rfl
          refine W.widen (k := 0) (n := 0) (by omega) (by omega) ?_
          exact W.lret (v := ((wSg w) ||| (jLshl ((wEo w).toInt64) (wFd w)))) hx hb hr (fun t ht hW => ⟨⟨_, (), rfl, (by (rw [he]) <;> rfl), trivial⟩, hS.F ht⟩) hS.2.2 dX1_known_67
        · skip
          by_cases c_5 : p0 = 4
          · refine lv_tableIn (tgt := 68) (off := 56) hx hb dX1_known_12 (by rw [c_5]; decide) (by rw [c_5]; decide) (by rw [c_5]; rfl) (by decide +kernel) ?_
            refine lv_lload_n hx hb dX1_known_68 rfl (lv_at hl 0 rfl) ?_
            refine lv_lconst (v := 1) hx hb dX1_known_69 (by decide +kernel) ?_
            refine lv_lsub hx hb dX1_known_70 ?_
            have he : o_X1_known w p0 = ((jLshl ((wEo w).toInt64) (wFd w)) - 1) := by (rw [o_X1_known, if_neg c_1, if_neg c_2, if_neg c_3, if_neg c_4, if_pos c_5]) <;> rfl
            refine W.widen (k := 0) (n := 0) (by omega) (by omega) ?_
            exact W.lret (v := ((jLshl ((wEo w).toInt64) (wFd w)) - 1)) hx hb hr (fun t ht hW => ⟨⟨_, (), rfl, (by (rw [he]) <;> rfl), trivial⟩, hS.F ht⟩) hS.2.2 dX1_known_71
          · skip
            by_cases c_6 : p0 = 5
            · refine lv_tableIn (tgt := 72) (off := 60) hx hb dX1_known_12 (by rw [c_6]; decide) (by rw [c_6]; decide) (by rw [c_6]; rfl) (by decide +kernel) ?_
              refine lv_lconst (v := 1) hx hb dX1_known_72 (by decide +kernel) ?_
              have he : o_X1_known w p0 = 1 := by (rw [o_X1_known, if_neg c_1, if_neg c_2, if_neg c_3, if_neg c_4, if_neg c_5, if_pos c_6]) <;> rfl
              refine W.widen (k := 0) (n := 0) (by omega) (by omega) ?_
              exact W.lret (v := 1) hx hb hr (fun t ht hW => ⟨⟨_, (), rfl, (by (rw [he]) <;> rfl), trivial⟩, hS.F ht⟩) hS.2.2 dX1_known_73
            · skip
              refine lv_tableOut (tgt := 74) hx hb dX1_known_12 (by have n0 := lv_neT (a := 0) c_1 (by decide +kernel); have n1 := lv_neT (a := 1) c_2 (by decide +kernel); have n2 := lv_neT (a := 2) c_3 (by decide +kernel); have n3 := lv_neT (a := 3) c_4 (by decide +kernel); have n4 := lv_neT (a := 4) c_5 (by decide +kernel); have n5 := lv_neT (a := 5) c_6 (by decide +kernel); omega) (by decide +kernel) ?_
              refine lv_lconst (v := 1) hx hb dX1_known_74 (by decide +kernel) ?_
              refine lv_aload_n hx hb dX1_known_75 rfl (lv_at hl 1 rfl) ?_
              refine va_get (D := (dC, dI)) (ci := 3) (v := .int (wFd w)) (C := RX1) (T := TX1) (N := 7) hx hb hts (by decide +kernel) hown hK hP 0 rfl rfl 0 (by decide +kernel) (hts (.fieldLink RX1 9 "Edgefloats$Width" "fractionDigits" "I") (by decide +kernel)) (fun _ h9 => h9) rfl dX1_known_76 ?_
              refine lv_lshl (v := (jLshl 1 (wFd w))) hx hb dX1_known_79 rfl ?_
              have he : o_X1_known w p0 = (jLshl 1 (wFd w)) := by (rw [o_X1_known, if_neg c_1, if_neg c_2, if_neg c_3, if_neg c_4, if_neg c_5, if_neg c_6]) <;> rfl
              refine W.widen (k := 0) (n := 0) (by omega) (by omega) ?_
              exact W.lret (v := (jLshl 1 (wFd w))) hx hb hr (fun t ht hW => ⟨⟨_, (), rfl, (by (rw [he]) <;> rfl), trivial⟩, hS.F ht⟩) hS.2.2 dX1_known_80
set_option maxRecDepth 20000 in
theorem ggX1_ofQuarters_X1_highestDigit : GoodIn wsX1_ofQuarters wsX1_highestDigit := goodIn_r _ [9] (by decide +kernel) (by decide +kernel)
theorem cl_X1_ofQuarters_1 : ∀ w ∈ [.fieldLink RX1 31 "Edgefloats$Width" "exponentOfOneQuarter" "I", .fieldLink RX1 9 "Edgefloats$Width" "fractionDigits" "I", .fieldLink RX1 21 "Edgefloats$Width" "fractionOnes" "J", .fieldLink RX1 25 "Edgefloats$Width" "signOne" "J", .methodLink RX1 52 yX1_highestDigit, .instanceMethod yX1_highestDigit, .selects RX1 yX1_highestDigit yX1_highestDigit, .initialized RX1, .code yX1_highestDigit cX1_highestDigit 5 (some .int)], w ∈ wsX1_ofQuarters := fun _ h => (List.mem_cons_of_mem _ (List.mem_append_left _ h))
theorem cl_X1_ofQuarters_2 : ∀ w ∈ wsX10, w ∈ wsX1_ofQuarters := fun _ h => (List.mem_cons_of_mem _ (List.mem_append_right _ h))
set_option maxRecDepth 20000 in
theorem gX1_ofQuarters_X1_highestDigit : GoodIn wsX1_ofQuarters (wsV RX1 52 RX1 yX1_highestDigit wsX1_highestDigit) := goodIn_app (goodIn_sub (List.forall_mem_cons.mpr ⟨(cl_X1_ofQuarters_1 _ (List.mem_of_getElem? (i := 4) rfl)), List.forall_mem_cons.mpr ⟨(cl_X1_ofQuarters_1 _ (List.mem_of_getElem? (i := 5) rfl)), List.forall_mem_cons.mpr ⟨(cl_X1_ofQuarters_1 _ (List.mem_of_getElem? (i := 6) rfl)), List.forall_mem_cons.mpr ⟨(cl_X1_ofQuarters_1 _ (List.mem_of_getElem? (i := 7) rfl)), fun _ h => absurd h List.not_mem_nil⟩⟩⟩⟩) (by decide +kernel)) ggX1_ofQuarters_X1_highestDigit
noncomputable def dz_p06_3 : List (Nat × Instr × Nat) := [(0, (.iload_n 1, 1)), (1, (.ifCond .ne 5, 3)), (4, (.lconst 0, 1)), (5, (.lreturn, 1)), (6, (.iload_n 1, 1)), (7, (.ifCond .ge 9, 3)), (10, (.iload_n 1, 1)), (11, (.i2l, 1)), (12, (.lneg, 1)), (13, (.goto 5, 3)), (16, (.iload_n 1, 1)), (17, (.i2l, 1)), (18, (.lstore_n 2, 1)), (19, (.aload_n 0, 1)), (20, (.lload_n 2, 1)), (21, (.invokevirtual 52, 3)), (24, (.istore 4, 2)), (26, (.aload_n 0, 1)), (27, (.getfield 31, 3)), (30, (.iload 4, 2)), (32, (.iadd, 1)), (33, (.i2l, 1)), (34, (.lstore 5, 2)), (36, (.lload_n 2, 1)), (37, (.aload_n 0, 1)), (38, (.getfield 9, 3)), (41, (.iload 4, 2)), (43, (.isub, 1)), (44, (.lshl, 1)), (45, (.aload_n 0, 1)), (46, (.getfield 21, 3)), (49, (.land, 1)), (50, (.lstore 7, 2)), (52, (.lload 5, 2)), (54, (.aload_n 0, 1)), (55, (.getfield 9, 3)), (58, (.lshl, 1)), (59, (.lload 7, 2)), (61, (.lor, 1)), (62, (.lstore 9, 2))]
theorem dy_p06_3 : dz_ok cX1_ofQuarters dz_p06_3 = true := by decide +kernel
theorem dX1_ofQuarters_0 : decode cX1_ofQuarters 0 = .ok (.iload_n 1, 1) := dz_at (i := 0) dy_p06_3 rfl
theorem dX1_ofQuarters_1 : decode cX1_ofQuarters 1 = .ok (.ifCond .ne 5, 3) := dz_at (i := 1) dy_p06_3 rfl
theorem dX1_ofQuarters_4 : decode cX1_ofQuarters 4 = .ok (.lconst 0, 1) := dz_at (i := 2) dy_p06_3 rfl
theorem dX1_ofQuarters_5 : decode cX1_ofQuarters 5 = .ok (.lreturn, 1) := dz_at (i := 3) dy_p06_3 rfl
theorem dX1_ofQuarters_6 : decode cX1_ofQuarters 6 = .ok (.iload_n 1, 1) := dz_at (i := 4) dy_p06_3 rfl
theorem dX1_ofQuarters_7 : decode cX1_ofQuarters 7 = .ok (.ifCond .ge 9, 3) := dz_at (i := 5) dy_p06_3 rfl
theorem dX1_ofQuarters_10 : decode cX1_ofQuarters 10 = .ok (.iload_n 1, 1) := dz_at (i := 6) dy_p06_3 rfl
theorem dX1_ofQuarters_11 : decode cX1_ofQuarters 11 = .ok (.i2l, 1) := dz_at (i := 7) dy_p06_3 rfl
theorem dX1_ofQuarters_12 : decode cX1_ofQuarters 12 = .ok (.lneg, 1) := dz_at (i := 8) dy_p06_3 rfl
theorem dX1_ofQuarters_13 : decode cX1_ofQuarters 13 = .ok (.goto 5, 3) := dz_at (i := 9) dy_p06_3 rfl
theorem dX1_ofQuarters_16 : decode cX1_ofQuarters 16 = .ok (.iload_n 1, 1) := dz_at (i := 10) dy_p06_3 rfl
theorem dX1_ofQuarters_17 : decode cX1_ofQuarters 17 = .ok (.i2l, 1) := dz_at (i := 11) dy_p06_3 rfl
theorem dX1_ofQuarters_18 : decode cX1_ofQuarters 18 = .ok (.lstore_n 2, 1) := dz_at (i := 12) dy_p06_3 rfl
theorem dX1_ofQuarters_19 : decode cX1_ofQuarters 19 = .ok (.aload_n 0, 1) := dz_at (i := 13) dy_p06_3 rfl
theorem dX1_ofQuarters_20 : decode cX1_ofQuarters 20 = .ok (.lload_n 2, 1) := dz_at (i := 14) dy_p06_3 rfl
theorem dX1_ofQuarters_21 : decode cX1_ofQuarters 21 = .ok (.invokevirtual 52, 3) := dz_at (i := 15) dy_p06_3 rfl
theorem dX1_ofQuarters_24 : decode cX1_ofQuarters 24 = .ok (.istore 4, 2) := dz_at (i := 16) dy_p06_3 rfl
theorem dX1_ofQuarters_26 : decode cX1_ofQuarters 26 = .ok (.aload_n 0, 1) := dz_at (i := 17) dy_p06_3 rfl
theorem dX1_ofQuarters_27 : decode cX1_ofQuarters 27 = .ok (.getfield 31, 3) := dz_at (i := 18) dy_p06_3 rfl
theorem dX1_ofQuarters_30 : decode cX1_ofQuarters 30 = .ok (.iload 4, 2) := dz_at (i := 19) dy_p06_3 rfl
theorem dX1_ofQuarters_32 : decode cX1_ofQuarters 32 = .ok (.iadd, 1) := dz_at (i := 20) dy_p06_3 rfl
theorem dX1_ofQuarters_33 : decode cX1_ofQuarters 33 = .ok (.i2l, 1) := dz_at (i := 21) dy_p06_3 rfl
theorem dX1_ofQuarters_34 : decode cX1_ofQuarters 34 = .ok (.lstore 5, 2) := dz_at (i := 22) dy_p06_3 rfl
theorem dX1_ofQuarters_36 : decode cX1_ofQuarters 36 = .ok (.lload_n 2, 1) := dz_at (i := 23) dy_p06_3 rfl
theorem dX1_ofQuarters_37 : decode cX1_ofQuarters 37 = .ok (.aload_n 0, 1) := dz_at (i := 24) dy_p06_3 rfl
theorem dX1_ofQuarters_38 : decode cX1_ofQuarters 38 = .ok (.getfield 9, 3) := dz_at (i := 25) dy_p06_3 rfl
theorem dX1_ofQuarters_41 : decode cX1_ofQuarters 41 = .ok (.iload 4, 2) := dz_at (i := 26) dy_p06_3 rfl
theorem dX1_ofQuarters_43 : decode cX1_ofQuarters 43 = .ok (.isub, 1) := dz_at (i := 27) dy_p06_3 rfl
theorem dX1_ofQuarters_44 : decode cX1_ofQuarters 44 = .ok (.lshl, 1) := dz_at (i := 28) dy_p06_3 rfl
theorem dX1_ofQuarters_45 : decode cX1_ofQuarters 45 = .ok (.aload_n 0, 1) := dz_at (i := 29) dy_p06_3 rfl
theorem dX1_ofQuarters_46 : decode cX1_ofQuarters 46 = .ok (.getfield 21, 3) := dz_at (i := 30) dy_p06_3 rfl
theorem dX1_ofQuarters_49 : decode cX1_ofQuarters 49 = .ok (.land, 1) := dz_at (i := 31) dy_p06_3 rfl
theorem dX1_ofQuarters_50 : decode cX1_ofQuarters 50 = .ok (.lstore 7, 2) := dz_at (i := 32) dy_p06_3 rfl
theorem dX1_ofQuarters_52 : decode cX1_ofQuarters 52 = .ok (.lload 5, 2) := dz_at (i := 33) dy_p06_3 rfl
theorem dX1_ofQuarters_54 : decode cX1_ofQuarters 54 = .ok (.aload_n 0, 1) := dz_at (i := 34) dy_p06_3 rfl
theorem dX1_ofQuarters_55 : decode cX1_ofQuarters 55 = .ok (.getfield 9, 3) := dz_at (i := 35) dy_p06_3 rfl
theorem dX1_ofQuarters_58 : decode cX1_ofQuarters 58 = .ok (.lshl, 1) := dz_at (i := 36) dy_p06_3 rfl
theorem dX1_ofQuarters_59 : decode cX1_ofQuarters 59 = .ok (.lload 7, 2) := dz_at (i := 37) dy_p06_3 rfl
theorem dX1_ofQuarters_61 : decode cX1_ofQuarters 61 = .ok (.lor, 1) := dz_at (i := 38) dy_p06_3 rfl
theorem dX1_ofQuarters_62 : decode cX1_ofQuarters 62 = .ok (.lstore 9, 2) := dz_at (i := 39) dy_p06_3 rfl
noncomputable def dz_p06_4 : List (Nat × Instr × Nat) := [(64, (.iload_n 1, 1)), (65, (.ifCond .ge 13, 3)), (68, (.aload_n 0, 1)), (69, (.getfield 25, 3)), (72, (.lload 9, 2)), (74, (.lor, 1)), (75, (.goto 5, 3)), (78, (.lload 9, 2)), (80, (.lreturn, 1))]
theorem dy_p06_4 : dz_ok cX1_ofQuarters dz_p06_4 = true := by decide +kernel
theorem dX1_ofQuarters_64 : decode cX1_ofQuarters 64 = .ok (.iload_n 1, 1) := dz_at (i := 0) dy_p06_4 rfl
theorem dX1_ofQuarters_65 : decode cX1_ofQuarters 65 = .ok (.ifCond .ge 13, 3) := dz_at (i := 1) dy_p06_4 rfl
theorem dX1_ofQuarters_68 : decode cX1_ofQuarters 68 = .ok (.aload_n 0, 1) := dz_at (i := 2) dy_p06_4 rfl
theorem dX1_ofQuarters_69 : decode cX1_ofQuarters 69 = .ok (.getfield 25, 3) := dz_at (i := 3) dy_p06_4 rfl
theorem dX1_ofQuarters_72 : decode cX1_ofQuarters 72 = .ok (.lload 9, 2) := dz_at (i := 4) dy_p06_4 rfl
theorem dX1_ofQuarters_74 : decode cX1_ofQuarters 74 = .ok (.lor, 1) := dz_at (i := 5) dy_p06_4 rfl
theorem dX1_ofQuarters_75 : decode cX1_ofQuarters 75 = .ok (.goto 5, 3) := dz_at (i := 6) dy_p06_4 rfl
theorem dX1_ofQuarters_78 : decode cX1_ofQuarters 78 = .ok (.lload 9, 2) := dz_at (i := 7) dy_p06_4 rfl
theorem dX1_ofQuarters_80 : decode cX1_ofQuarters 80 = .ok (.lreturn, 1) := dz_at (i := 8) dy_p06_4 rfl
noncomputable def o_X1_ofQuarters (w : Bool) (p0 : Int32) : Int64 :=
  if p0 = 0 then 0
  else if 0 ≤ p0 then ((jLshl (((wEq w) + (o_X1_highestDigit p0.toInt64)).toInt64) (wFd w)) ||| ((jLshl p0.toInt64 ((wFd w) - (o_X1_highestDigit p0.toInt64))) &&& (wFo w)))
  else ((wSg w) ||| ((jLshl (((wEq w) + (o_X1_highestDigit (-p0.toInt64))).toInt64) (wFd w)) ||| ((jLshl (-p0.toInt64) ((wFd w) - (o_X1_highestDigit (-p0.toInt64)))) &&& (wFo w))))
set_option maxHeartbeats 4000000 in
set_option maxRecDepth 100000 in
theorem k_X1_ofQuarters (l : Launch) (dC : Nat → ClassId) (dI : Nat → Nat → Nat) (h0 : Nat) (w : Bool) (sz : Nat) (p0 : Int32) : Met l yX1_ofQuarters wsX1_ofQuarters ({ frames := 1, cells := 0, slots := 0, locals := 24 }) (va_Pc [.ref h0, .int p0] (xB (dC, dI) xCl [(h0, eW w)] [] sz)) (va_Ql (fun (r : Int64) (_ : Unit) => r = (o_X1_ofQuarters w p0)) (fun _ _ => True) (aN sz)) 0 0 (aN sz) := by
  refine Met.ofW (cc := cX1_ofQuarters) (maxL := 11) (ret := (some .long)) (by decide +kernel) rfl ?_
  intro p e s m args below meth c s₁ B hml hv
  obtain ⟨rfl, hsz, hP, hK⟩ := hv
  have hx := B.exec
  have hb := B.bytes
  have hr := B.returns
  have hts := atoms_spec (ws := wsX1_ofQuarters) B.pre
  have hown : s.vm.findClass RX1 = some m.cls := findClass_of_methodNamed B.named
  have hlocks := B.notSynchronized
  subst hsz
  have hA : ∀ q : Nat, s.heap.size ≤ q → aN s.heap.size q := fun _ h => h
  have hS : va_S (aN s.heap.size) s.heap s.heap [] := va_S.rf
  have hP : va_P (dC, dI) xCl [(h0, eW w)] s.heap := hP
  have hl := lv_entry ([.ref h0, .int p0]) (n := 11) (Nat.le_of_ble_eq_true rfl)
  rw [lg_entry_eq]
  generalize (lg_sl ([.ref h0, .int p0]) ++ List.replicate (11 - (lg_sl ([.ref h0, .int p0])).length) Slot.unset).toArray = ls at hl ⊢
  have hl : lv_has ls 11 [(0, .ref h0), (1, .int p0)] := hl
  refine lv_iload_n hx hb dX1_ofQuarters_0 rfl (lv_at hl 1 rfl) ?_
  refine lv_if_ne (tgt := 6) hx hb dX1_ofQuarters_1 (by decide +kernel) (fun c_1 => ?_) (fun c_1 => ?_)
  · skip
    refine lv_iload_n hx hb dX1_ofQuarters_6 rfl (lv_at hl 1 rfl) ?_
    refine lv_if_ge (tgt := 16) hx hb dX1_ofQuarters_7 (by decide +kernel) (fun c_2 => ?_) (fun c_2 => ?_)
    · skip
      refine lv_iload_n hx hb dX1_ofQuarters_16 rfl (lv_at hl 1 rfl) ?_
      refine lv_i2l (v := p0.toInt64) hx hb dX1_ofQuarters_17 rfl ?_
      refine lv_lstore_n (lv' := [(2, .long p0.toInt64), (0, .ref h0), (1, .int p0)]) hx hb dX1_ofQuarters_18 rfl hl (by decide +kernel) rfl (fun ls hl => ?_)
      refine lv_aload_n hx hb dX1_ofQuarters_19 rfl (lv_at hl 1 rfl) ?_
      refine lv_lload_n hx hb dX1_ofQuarters_20 rfl (lv_at hl 0 rfl) ?_
      have hPc := hP.sub (ws' := [(h0, eW w)]) [0] rfl
      have hKc := hK.sub (tys' := []) [] rfl
      refine va_calli (va_runV (As := [.long p0.toInt64]) (rest := []) ⟨hx, hb, hml, hown, hts⟩ (k_X1_highestDigit l dC dI h0 w s.heap.size p0.toInt64) (cwV 1 hts gX1_ofQuarters_X1_highestDigit rfl rfl rfl (by decide +kernel) ⟨Nat.le_of_ble_eq_true rfl, Nat.le_of_ble_eq_true rfl⟩) (xB.preV hKc hPc (ci := 3) (q0 := 0) rfl rfl) rfl rfl hl.1 rfl (lv_room (Nat.le_of_ble_eq_true rfl)) dX1_ofQuarters_21 ⟨Nat.le_of_ble_eq_true rfl, Nat.le_of_ble_eq_true rfl⟩) hS xA_old (fun q h => hA q (Nat.le_trans hS.1 h)) (fun r_3 u t H locs ht hvm hw hB hz hk hS => ?_)
      replace hw : r_3 = (o_X1_highestDigit p0.toInt64) := hw
      subst r_3
      have hP := xP_keep hP hk
      refine lv_istore (lv' := [(4, .int (o_X1_highestDigit p0.toInt64)), (2, .long p0.toInt64), (0, .ref h0), (1, .int p0)]) hx hb dX1_ofQuarters_24 hl (by decide +kernel) rfl (fun ls hl => ?_)
      refine lv_aload_n hx hb dX1_ofQuarters_26 rfl (lv_at hl 2 rfl) ?_
      refine va_get (D := (dC, dI)) (ci := 3) (v := .int (wEq w)) (C := RX1) (T := TX1) (N := 7) hx hb hts (by decide +kernel) hown hK hP 0 rfl rfl 5 (by decide +kernel) (hts (.fieldLink RX1 31 "Edgefloats$Width" "exponentOfOneQuarter" "I") (by decide +kernel)) (fun _ h9 => h9) rfl dX1_ofQuarters_27 ?_
      refine lv_iload hx hb dX1_ofQuarters_30 (lv_at hl 0 rfl) ?_
      refine lv_iadd hx hb dX1_ofQuarters_32 ?_
      refine lv_i2l (v := (((wEq w) + (o_X1_highestDigit p0.toInt64)).toInt64)) hx hb dX1_ofQuarters_33 rfl ?_
      refine lv_lstore (lv' := [(5, .long (((wEq w) + (o_X1_highestDigit p0.toInt64)).toInt64)), (4, .int (o_X1_highestDigit p0.toInt64)), (2, .long p0.toInt64), (0, .ref h0), (1, .int p0)]) hx hb dX1_ofQuarters_34 hl (by decide +kernel) rfl (fun ls hl => ?_)
      refine lv_lload_n hx hb dX1_ofQuarters_36 rfl (lv_at hl 2 rfl) ?_
      refine lv_aload_n hx hb dX1_ofQuarters_37 rfl (lv_at hl 3 rfl) ?_
      refine va_get (D := (dC, dI)) (ci := 3) (v := .int (wFd w)) (C := RX1) (T := TX1) (N := 7) hx hb hts (by decide +kernel) hown hK hP 0 rfl rfl 0 (by decide +kernel) (hts (.fieldLink RX1 9 "Edgefloats$Width" "fractionDigits" "I") (by decide +kernel)) (fun _ h9 => h9) rfl dX1_ofQuarters_38 ?_
      refine lv_iload hx hb dX1_ofQuarters_41 (lv_at hl 1 rfl) ?_
      refine lv_isub hx hb dX1_ofQuarters_43 ?_
      refine lv_lshl (v := (jLshl p0.toInt64 ((wFd w) - (o_X1_highestDigit p0.toInt64)))) hx hb dX1_ofQuarters_44 rfl ?_
      refine lv_aload_n hx hb dX1_ofQuarters_45 rfl (lv_at hl 3 rfl) ?_
      refine va_get (D := (dC, dI)) (ci := 3) (v := .long (wFo w)) (C := RX1) (T := TX1) (N := 7) hx hb hts (by decide +kernel) hown hK hP 0 rfl rfl 2 (by decide +kernel) (hts (.fieldLink RX1 21 "Edgefloats$Width" "fractionOnes" "J") (by decide +kernel)) (fun _ h9 => h9) rfl dX1_ofQuarters_46 ?_
      refine lv_land hx hb dX1_ofQuarters_49 ?_
      refine lv_lstore (lv' := [(7, .long ((jLshl p0.toInt64 ((wFd w) - (o_X1_highestDigit p0.toInt64))) &&& (wFo w))), (5, .long (((wEq w) + (o_X1_highestDigit p0.toInt64)).toInt64)), (4, .int (o_X1_highestDigit p0.toInt64)), (2, .long p0.toInt64), (0, .ref h0), (1, .int p0)]) hx hb dX1_ofQuarters_50 hl (by decide +kernel) rfl (fun ls hl => ?_)
      refine lv_lload hx hb dX1_ofQuarters_52 (lv_at hl 1 rfl) ?_
      refine lv_aload_n hx hb dX1_ofQuarters_54 rfl (lv_at hl 4 rfl) ?_
      refine va_get (D := (dC, dI)) (ci := 3) (v := .int (wFd w)) (C := RX1) (T := TX1) (N := 7) hx hb hts (by decide +kernel) hown hK hP 0 rfl rfl 0 (by decide +kernel) (hts (.fieldLink RX1 9 "Edgefloats$Width" "fractionDigits" "I") (by decide +kernel)) (fun _ h9 => h9) rfl dX1_ofQuarters_55 ?_
      refine lv_lshl (v := (jLshl (((wEq w) + (o_X1_highestDigit p0.toInt64)).toInt64) (wFd w))) hx hb dX1_ofQuarters_58 rfl ?_
      refine lv_lload hx hb dX1_ofQuarters_59 (lv_at hl 0 rfl) ?_
      refine lv_lor hx hb dX1_ofQuarters_61 ?_
      refine lv_lstore (lv' := [(9, .long ((jLshl (((wEq w) + (o_X1_highestDigit p0.toInt64)).toInt64) (wFd w)) ||| ((jLshl p0.toInt64 ((wFd w) - (o_X1_highestDigit p0.toInt64))) &&& (wFo w)))), (7, .long ((jLshl p0.toInt64 ((wFd w) - (o_X1_highestDigit p0.toInt64))) &&& (wFo w))), (5, .long (((wEq w) + (o_X1_highestDigit p0.toInt64)).toInt64)), (4, .int (o_X1_highestDigit p0.toInt64)), (2, .long p0.toInt64), (0, .ref h0), (1, .int p0)]) hx hb dX1_ofQuarters_62 hl (by decide +kernel) rfl (fun ls hl => ?_)
      refine lv_iload_n hx hb dX1_ofQuarters_64 rfl (lv_at hl 6 rfl) ?_
      refine lv_if_ge (tgt := 78) hx hb dX1_ofQuarters_65 (by decide +kernel) (fun c9 => ?_) (fun c9 => absurd c_2 c9)
      refine lv_lload hx hb dX1_ofQuarters_78 (lv_at hl 0 rfl) ?_
      have he : o_X1_ofQuarters w p0 = ((jLshl (((wEq w) + (o_X1_highestDigit p0.toInt64)).toInt64) (wFd w)) ||| ((jLshl p0.toInt64 ((wFd w) - (o_X1_highestDigit p0.toInt64))) &&& (wFo w))) := by (rw [o_X1_ofQuarters, if_neg c_1, if_pos c_2]) <;> rfl
      refine W.widen (k := 0) (n := 0) (by omega) (by omega) ?_
      exact W.lret (v := ((jLshl (((wEq w) + (o_X1_highestDigit p0.toInt64)).toInt64) (wFd w)) ||| ((jLshl p0.toInt64 ((wFd w) - (o_X1_highestDigit p0.toInt64))) &&& (wFo w)))) hx hb hr (fun t ht hW => ⟨⟨_, (), rfl, (by (rw [he]) <;> rfl), trivial⟩, hS.F ht⟩) hS.2.2 dX1_ofQuarters_80
    · skip
      refine lv_iload_n hx hb dX1_ofQuarters_10 rfl (lv_at hl 1 rfl) ?_
      refine lv_i2l (v := p0.toInt64) hx hb dX1_ofQuarters_11 rfl ?_
      refine lv_lneg hx hb dX1_ofQuarters_12 ?_
      refine lv_goto (tgt := 18) hx hb dX1_ofQuarters_13 (by decide +kernel) ?_
      refine lv_lstore_n (lv' := [(2, .long (-p0.toInt64)), (0, .ref h0), (1, .int p0)]) hx hb dX1_ofQuarters_18 rfl hl (by decide +kernel) rfl (fun ls hl => ?_)
      refine lv_aload_n hx hb dX1_ofQuarters_19 rfl (lv_at hl 1 rfl) ?_
      refine lv_lload_n hx hb dX1_ofQuarters_20 rfl (lv_at hl 0 rfl) ?_
      have hPc := hP.sub (ws' := [(h0, eW w)]) [0] rfl
      have hKc := hK.sub (tys' := []) [] rfl
      refine va_calli (va_runV (As := [.long (-p0.toInt64)]) (rest := []) ⟨hx, hb, hml, hown, hts⟩ (k_X1_highestDigit l dC dI h0 w s.heap.size (-p0.toInt64)) (cwV 1 hts gX1_ofQuarters_X1_highestDigit rfl rfl rfl (by decide +kernel) ⟨Nat.le_of_ble_eq_true rfl, Nat.le_of_ble_eq_true rfl⟩) (xB.preV hKc hPc (ci := 3) (q0 := 0) rfl rfl) rfl rfl hl.1 rfl (lv_room (Nat.le_of_ble_eq_true rfl)) dX1_ofQuarters_21 ⟨Nat.le_of_ble_eq_true rfl, Nat.le_of_ble_eq_true rfl⟩) hS xA_old (fun q h => hA q (Nat.le_trans hS.1 h)) (fun r_4 u t H locs ht hvm hw hB hz hk hS => ?_)
      replace hw : r_4 = (o_X1_highestDigit (-p0.toInt64)) := hw
      subst r_4
      have hP := xP_keep hP hk
      refine lv_istore (lv' := [(4, .int (o_X1_highestDigit (-p0.toInt64))), (2, .long (-p0.toInt64)), (0, .ref h0), (1, .int p0)]) hx hb dX1_ofQuarters_24 hl (by decide +kernel) rfl (fun ls hl => ?_)
      refine lv_aload_n hx hb dX1_ofQuarters_26 rfl (lv_at hl 2 rfl) ?_
      refine va_get (D := (dC, dI)) (ci := 3) (v := .int (wEq w)) (C := RX1) (T := TX1) (N := 7) hx hb hts (by decide +kernel) hown hK hP 0 rfl rfl 5 (by decide +kernel) (hts (.fieldLink RX1 31 "Edgefloats$Width" "exponentOfOneQuarter" "I") (by decide +kernel)) (fun _ h9 => h9) rfl dX1_ofQuarters_27 ?_
      refine lv_iload hx hb dX1_ofQuarters_30 (lv_at hl 0 rfl) ?_
      refine lv_iadd hx hb dX1_ofQuarters_32 ?_
      refine lv_i2l (v := (((wEq w) + (o_X1_highestDigit (-p0.toInt64))).toInt64)) hx hb dX1_ofQuarters_33 rfl ?_
      refine lv_lstore (lv' := [(5, .long (((wEq w) + (o_X1_highestDigit (-p0.toInt64))).toInt64)), (4, .int (o_X1_highestDigit (-p0.toInt64))), (2, .long (-p0.toInt64)), (0, .ref h0), (1, .int p0)]) hx hb dX1_ofQuarters_34 hl (by decide +kernel) rfl (fun ls hl => ?_)
      refine lv_lload_n hx hb dX1_ofQuarters_36 rfl (lv_at hl 2 rfl) ?_
      refine lv_aload_n hx hb dX1_ofQuarters_37 rfl (lv_at hl 3 rfl) ?_
      refine va_get (D := (dC, dI)) (ci := 3) (v := .int (wFd w)) (C := RX1) (T := TX1) (N := 7) hx hb hts (by decide +kernel) hown hK hP 0 rfl rfl 0 (by decide +kernel) (hts (.fieldLink RX1 9 "Edgefloats$Width" "fractionDigits" "I") (by decide +kernel)) (fun _ h9 => h9) rfl dX1_ofQuarters_38 ?_
      refine lv_iload hx hb dX1_ofQuarters_41 (lv_at hl 1 rfl) ?_
      refine lv_isub hx hb dX1_ofQuarters_43 ?_
      refine lv_lshl (v := (jLshl (-p0.toInt64) ((wFd w) - (o_X1_highestDigit (-p0.toInt64))))) hx hb dX1_ofQuarters_44 rfl ?_
      refine lv_aload_n hx hb dX1_ofQuarters_45 rfl (lv_at hl 3 rfl) ?_
      refine va_get (D := (dC, dI)) (ci := 3) (v := .long (wFo w)) (C := RX1) (T := TX1) (N := 7) hx hb hts (by decide +kernel) hown hK hP 0 rfl rfl 2 (by decide +kernel) (hts (.fieldLink RX1 21 "Edgefloats$Width" "fractionOnes" "J") (by decide +kernel)) (fun _ h9 => h9) rfl dX1_ofQuarters_46 ?_
      refine lv_land hx hb dX1_ofQuarters_49 ?_
      refine lv_lstore (lv' := [(7, .long ((jLshl (-p0.toInt64) ((wFd w) - (o_X1_highestDigit (-p0.toInt64)))) &&& (wFo w))), (5, .long (((wEq w) + (o_X1_highestDigit (-p0.toInt64))).toInt64)), (4, .int (o_X1_highestDigit (-p0.toInt64))), (2, .long (-p0.toInt64)), (0, .ref h0), (1, .int p0)]) hx hb dX1_ofQuarters_50 hl (by decide +kernel) rfl (fun ls hl => ?_)
      refine lv_lload hx hb dX1_ofQuarters_52 (lv_at hl 1 rfl) ?_
      refine lv_aload_n hx hb dX1_ofQuarters_54 rfl (lv_at hl 4 rfl) ?_
      refine va_get (D := (dC, dI)) (ci := 3) (v := .int (wFd w)) (C := RX1) (T := TX1) (N := 7) hx hb hts (by decide +kernel) hown hK hP 0 rfl rfl 0 (by decide +kernel) (hts (.fieldLink RX1 9 "Edgefloats$Width" "fractionDigits" "I") (by decide +kernel)) (fun _ h9 => h9) rfl dX1_ofQuarters_55 ?_
      refine lv_lshl (v := (jLshl (((wEq w) + (o_X1_highestDigit (-p0.toInt64))).toInt64) (wFd w))) hx hb dX1_ofQuarters_58 rfl ?_
      refine lv_lload hx hb dX1_ofQuarters_59 (lv_at hl 0 rfl) ?_
      refine lv_lor hx hb dX1_ofQuarters_61 ?_
      refine lv_lstore (lv' := [(9, .long ((jLshl (((wEq w) + (o_X1_highestDigit (-p0.toInt64))).toInt64) (wFd w)) ||| ((jLshl (-p0.toInt64) ((wFd w) - (o_X1_highestDigit (-p0.toInt64)))) &&& (wFo w)))), (7, .long ((jLshl (-p0.toInt64) ((wFd w) - (o_X1_highestDigit (-p0.toInt64)))) &&& (wFo w))), (5, .long (((wEq w) + (o_X1_highestDigit (-p0.toInt64))).toInt64)), (4, .int (o_X1_highestDigit (-p0.toInt64))), (2, .long (-p0.toInt64)), (0, .ref h0), (1, .int p0)]) hx hb dX1_ofQuarters_62 hl (by decide +kernel) rfl (fun ls hl => ?_)
      refine lv_iload_n hx hb dX1_ofQuarters_64 rfl (lv_at hl 6 rfl) ?_
      refine lv_if_ge (tgt := 78) hx hb dX1_ofQuarters_65 (by decide +kernel) (fun c9 => absurd c9 c_2) (fun c9 => ?_)
      refine lv_aload_n hx hb dX1_ofQuarters_68 rfl (lv_at hl 5 rfl) ?_
      refine va_get (D := (dC, dI)) (ci := 3) (v := .long (wSg w)) (C := RX1) (T := TX1) (N := 7) hx hb hts (by decide +kernel) hown hK hP 0 rfl rfl 4 (by decide +kernel) (hts (.fieldLink RX1 25 "Edgefloats$Width" "signOne" "J") (by decide +kernel)) (fun _ h9 => h9) rfl dX1_ofQuarters_69 ?_
      refine lv_lload hx hb dX1_ofQuarters_72 (lv_at hl 0 rfl) ?_
      refine lv_lor hx hb dX1_ofQuarters_74 ?_
      refine lv_goto (tgt := 80) hx hb dX1_ofQuarters_75 (by decide +kernel) ?_
      have he : o_X1_ofQuarters w p0 = ((wSg w) ||| ((jLshl (((wEq w) + (o_X1_highestDigit (-p0.toInt64))).toInt64) (wFd w)) ||| ((jLshl (-p0.toInt64) ((wFd w) - (o_X1_highestDigit (-p0.toInt64)))) &&& (wFo w)))) := by (rw [o_X1_ofQuarters, if_neg c_1, if_neg c_2]) <;> rfl
      refine W.widen (k := 0) (n := 0) (by omega) (by omega) ?_
      exact W.lret (v := ((wSg w) ||| ((jLshl (((wEq w) + (o_X1_highestDigit (-p0.toInt64))).toInt64) (wFd w)) ||| ((jLshl (-p0.toInt64) ((wFd w) - (o_X1_highestDigit (-p0.toInt64)))) &&& (wFo w))))) hx hb hr (fun t ht hW => ⟨⟨_, (), rfl, (by (rw [he]) <;> rfl), trivial⟩, hS.F ht⟩) hS.2.2 dX1_ofQuarters_80
  · skip
    refine lv_lconst (v := 0) hx hb dX1_ofQuarters_4 (by decide +kernel) ?_
    have he : o_X1_ofQuarters w p0 = 0 := by (rw [o_X1_ofQuarters, if_pos c_1]) <;> rfl
    refine W.widen (k := 0) (n := 0) (by omega) (by omega) ?_
    exact W.lret (v := 0) hx hb hr (fun t ht hW => ⟨⟨_, (), rfl, (by (rw [he]) <;> rfl), trivial⟩, hS.F ht⟩) hS.2.2 dX1_ofQuarters_5
theorem cl_X1_quarters_1 : ∀ w ∈ wsX1_quarters_r1, w ∈ wsX1_quarters := fun _ h => (List.mem_cons_of_mem _ (List.mem_append_left _ (List.mem_append_left _ h)))
theorem cl_X1_quarters_2 : ∀ w ∈ wsX1_quarters_r2, w ∈ wsX1_quarters := fun _ h => (List.mem_cons_of_mem _ (List.mem_append_left _ (List.mem_append_right _ h)))
theorem cl_X1_quarters_3 : ∀ w ∈ wsX10, w ∈ wsX1_quarters := fun _ h => (List.mem_cons_of_mem _ (List.mem_append_right _ h))
set_option maxRecDepth 20000 in
theorem ggX1_quarters_X1_isZero : GoodIn wsX1_quarters wsX1_isZero := goodIn_sub (List.forall_mem_cons.mpr ⟨(cl_X1_quarters_1 _ (List.mem_of_getElem? (i := 8) rfl)), fun w h => (List.mem_append.mp h).elim ((List.forall_mem_cons.mpr ⟨(cl_X1_quarters_1 _ (List.mem_of_getElem? (i := 9) rfl)), fun _ h => absurd h List.not_mem_nil⟩) w) ((cl_X1_quarters_3) w)⟩) (by decide +kernel)
set_option maxRecDepth 20000 in
theorem gX1_quarters_X1_isZero : GoodIn wsX1_quarters (wsV RX1 55 RX1 yX1_isZero wsX1_isZero) := goodIn_app (goodIn_sub (List.forall_mem_cons.mpr ⟨(cl_X1_quarters_1 _ (List.mem_of_getElem? (i := 4) rfl)), List.forall_mem_cons.mpr ⟨(cl_X1_quarters_1 _ (List.mem_of_getElem? (i := 5) rfl)), List.forall_mem_cons.mpr ⟨(cl_X1_quarters_1 _ (List.mem_of_getElem? (i := 6) rfl)), List.forall_mem_cons.mpr ⟨(cl_X1_quarters_1 _ (List.mem_of_getElem? (i := 7) rfl)), fun _ h => absurd h List.not_mem_nil⟩⟩⟩⟩) (by decide +kernel)) ggX1_quarters_X1_isZero
set_option maxRecDepth 20000 in
theorem ggX1_quarters_X1_exponent : GoodIn wsX1_quarters wsX1_exponent := goodIn_sub (List.forall_mem_cons.mpr ⟨(cl_X1_quarters_1 _ (List.mem_of_getElem? (i := 13) rfl)), fun w h => (List.mem_append.mp h).elim ((List.forall_mem_cons.mpr ⟨(cl_X1_quarters_1 _ (List.mem_of_getElem? (i := 3) rfl)), List.forall_mem_cons.mpr ⟨(cl_X1_quarters_1 _ (List.mem_of_getElem? (i := 14) rfl)), fun _ h => absurd h List.not_mem_nil⟩⟩) w) ((cl_X1_quarters_3) w)⟩) (by decide +kernel)
set_option maxRecDepth 20000 in
theorem gX1_quarters_X1_exponent : GoodIn wsX1_quarters (wsV RX1 34 RX1 yX1_exponent wsX1_exponent) := goodIn_app (goodIn_sub (List.forall_mem_cons.mpr ⟨(cl_X1_quarters_1 _ (List.mem_of_getElem? (i := 10) rfl)), List.forall_mem_cons.mpr ⟨(cl_X1_quarters_1 _ (List.mem_of_getElem? (i := 11) rfl)), List.forall_mem_cons.mpr ⟨(cl_X1_quarters_1 _ (List.mem_of_getElem? (i := 12) rfl)), List.forall_mem_cons.mpr ⟨(cl_X1_quarters_1 _ (List.mem_of_getElem? (i := 7) rfl)), fun _ h => absurd h List.not_mem_nil⟩⟩⟩⟩) (by decide +kernel)) ggX1_quarters_X1_exponent
set_option maxRecDepth 20000 in
theorem ggX1_quarters_X1_highestDigit : GoodIn wsX1_quarters wsX1_highestDigit := goodIn_r _ [19] (by decide +kernel) (by decide +kernel)
set_option maxRecDepth 20000 in
theorem gX1_quarters_X1_highestDigit : GoodIn wsX1_quarters (wsV RX1 52 RX1 yX1_highestDigit wsX1_highestDigit) := goodIn_app (goodIn_sub (List.forall_mem_cons.mpr ⟨(cl_X1_quarters_1 _ (List.mem_of_getElem? (i := 15) rfl)), List.forall_mem_cons.mpr ⟨(cl_X1_quarters_1 _ (List.mem_of_getElem? (i := 16) rfl)), List.forall_mem_cons.mpr ⟨(cl_X1_quarters_1 _ (List.mem_of_getElem? (i := 17) rfl)), List.forall_mem_cons.mpr ⟨(cl_X1_quarters_1 _ (List.mem_of_getElem? (i := 7) rfl)), fun _ h => absurd h List.not_mem_nil⟩⟩⟩⟩) (by decide +kernel)) ggX1_quarters_X1_highestDigit
set_option maxRecDepth 20000 in
theorem ggX1_quarters_X1_fraction : GoodIn wsX1_quarters wsX1_fraction := goodIn_sub (List.forall_mem_cons.mpr ⟨(cl_X1_quarters_1 _ (List.mem_of_getElem? (i := 22) rfl)), fun w h => (List.mem_append.mp h).elim ((List.forall_mem_cons.mpr ⟨(cl_X1_quarters_1 _ (List.mem_of_getElem? (i := 23) rfl)), fun _ h => absurd h List.not_mem_nil⟩) w) ((cl_X1_quarters_3) w)⟩) (by decide +kernel)
set_option maxRecDepth 20000 in
theorem gX1_quarters_X1_fraction : GoodIn wsX1_quarters (wsV RX1 38 RX1 yX1_fraction wsX1_fraction) := goodIn_app (goodIn_sub (List.forall_mem_cons.mpr ⟨(cl_X1_quarters_1 _ (List.mem_of_getElem? (i := 19) rfl)), List.forall_mem_cons.mpr ⟨(cl_X1_quarters_1 _ (List.mem_of_getElem? (i := 20) rfl)), List.forall_mem_cons.mpr ⟨(cl_X1_quarters_1 _ (List.mem_of_getElem? (i := 21) rfl)), List.forall_mem_cons.mpr ⟨(cl_X1_quarters_1 _ (List.mem_of_getElem? (i := 7) rfl)), fun _ h => absurd h List.not_mem_nil⟩⟩⟩⟩) (by decide +kernel)) ggX1_quarters_X1_fraction
set_option maxRecDepth 20000 in
theorem ggX1_quarters_X1_hasSign : GoodIn wsX1_quarters wsX1_hasSign := goodIn_sub (List.forall_mem_cons.mpr ⟨(cl_X1_quarters_2 _ (List.mem_of_getElem? (i := 3) rfl)), fun w h => (List.mem_append.mp h).elim ((List.forall_mem_cons.mpr ⟨(cl_X1_quarters_2 _ (List.mem_of_getElem? (i := 4) rfl)), fun _ h => absurd h List.not_mem_nil⟩) w) ((cl_X1_quarters_3) w)⟩) (by decide +kernel)
set_option maxRecDepth 20000 in
theorem gX1_quarters_X1_hasSign : GoodIn wsX1_quarters (wsV RX1 60 RX1 yX1_hasSign wsX1_hasSign) := goodIn_app (goodIn_sub (List.forall_mem_cons.mpr ⟨(cl_X1_quarters_2 _ (List.mem_of_getElem? (i := 0) rfl)), List.forall_mem_cons.mpr ⟨(cl_X1_quarters_2 _ (List.mem_of_getElem? (i := 1) rfl)), List.forall_mem_cons.mpr ⟨(cl_X1_quarters_2 _ (List.mem_of_getElem? (i := 2) rfl)), List.forall_mem_cons.mpr ⟨(cl_X1_quarters_1 _ (List.mem_of_getElem? (i := 7) rfl)), fun _ h => absurd h List.not_mem_nil⟩⟩⟩⟩) (by decide +kernel)) ggX1_quarters_X1_hasSign
noncomputable def dz_p06_5 : List (Nat × Instr × Nat) := [(0, (.aload_n 0, 1)), (1, (.lload_n 1, 1)), (2, (.invokevirtual 55, 3)), (5, (.ifCond .eq 5, 3)), (8, (.iconst 0, 1)), (9, (.ireturn, 1)), (10, (.aload_n 0, 1)), (11, (.lload_n 1, 1)), (12, (.invokevirtual 34, 3)), (15, (.aload_n 0, 1)), (16, (.getfield 31, 3)), (19, (.isub, 1)), (20, (.istore_n 3, 1)), (21, (.iload_n 3, 1)), (22, (.ifCond .lt 16, 3)), (25, (.iload_n 3, 1)), (26, (.aload_n 0, 1)), (27, (.aload_n 0, 1)), (28, (.getfield 15, 3)), (31, (.i2l, 1)), (32, (.invokevirtual 52, 3)), (35, (.if_icmp .le 6, 3)), (38, (.ldc 59, 2)), (40, (.ireturn, 1)), (41, (.aload_n 0, 1)), (42, (.getfield 9, 3)), (45, (.iload_n 3, 1)), (46, (.isub, 1)), (47, (.istore 4, 2)), (49, (.lconst 1, 1)), (50, (.aload_n 0, 1)), (51, (.getfield 9, 3)), (54, (.lshl, 1)), (55, (.aload_n 0, 1)), (56, (.lload_n 1, 1)), (57, (.invokevirtual 38, 3)), (60, (.lor, 1)), (61, (.lstore 5, 2)), (63, (.lload 5, 2)), (65, (.iload 4, 2))]
theorem dy_p06_5 : dz_ok cX1_quarters dz_p06_5 = true := by decide +kernel
theorem dX1_quarters_0 : decode cX1_quarters 0 = .ok (.aload_n 0, 1) := dz_at (i := 0) dy_p06_5 rfl
theorem dX1_quarters_1 : decode cX1_quarters 1 = .ok (.lload_n 1, 1) := dz_at (i := 1) dy_p06_5 rfl
theorem dX1_quarters_2 : decode cX1_quarters 2 = .ok (.invokevirtual 55, 3) := dz_at (i := 2) dy_p06_5 rfl
theorem dX1_quarters_5 : decode cX1_quarters 5 = .ok (.ifCond .eq 5, 3) := dz_at (i := 3) dy_p06_5 rfl
theorem dX1_quarters_8 : decode cX1_quarters 8 = .ok (.iconst 0, 1) := dz_at (i := 4) dy_p06_5 rfl
theorem dX1_quarters_9 : decode cX1_quarters 9 = .ok (.ireturn, 1) := dz_at (i := 5) dy_p06_5 rfl
theorem dX1_quarters_10 : decode cX1_quarters 10 = .ok (.aload_n 0, 1) := dz_at (i := 6) dy_p06_5 rfl
theorem dX1_quarters_11 : decode cX1_quarters 11 = .ok (.lload_n 1, 1) := dz_at (i := 7) dy_p06_5 rfl
theorem dX1_quarters_12 : decode cX1_quarters 12 = .ok (.invokevirtual 34, 3) := dz_at (i := 8) dy_p06_5 rfl
theorem dX1_quarters_15 : decode cX1_quarters 15 = .ok (.aload_n 0, 1) := dz_at (i := 9) dy_p06_5 rfl
theorem dX1_quarters_16 : decode cX1_quarters 16 = .ok (.getfield 31, 3) := dz_at (i := 10) dy_p06_5 rfl
theorem dX1_quarters_19 : decode cX1_quarters 19 = .ok (.isub, 1) := dz_at (i := 11) dy_p06_5 rfl
theorem dX1_quarters_20 : decode cX1_quarters 20 = .ok (.istore_n 3, 1) := dz_at (i := 12) dy_p06_5 rfl
theorem dX1_quarters_21 : decode cX1_quarters 21 = .ok (.iload_n 3, 1) := dz_at (i := 13) dy_p06_5 rfl
theorem dX1_quarters_22 : decode cX1_quarters 22 = .ok (.ifCond .lt 16, 3) := dz_at (i := 14) dy_p06_5 rfl
theorem dX1_quarters_25 : decode cX1_quarters 25 = .ok (.iload_n 3, 1) := dz_at (i := 15) dy_p06_5 rfl
theorem dX1_quarters_26 : decode cX1_quarters 26 = .ok (.aload_n 0, 1) := dz_at (i := 16) dy_p06_5 rfl
theorem dX1_quarters_27 : decode cX1_quarters 27 = .ok (.aload_n 0, 1) := dz_at (i := 17) dy_p06_5 rfl
theorem dX1_quarters_28 : decode cX1_quarters 28 = .ok (.getfield 15, 3) := dz_at (i := 18) dy_p06_5 rfl
theorem dX1_quarters_31 : decode cX1_quarters 31 = .ok (.i2l, 1) := dz_at (i := 19) dy_p06_5 rfl
theorem dX1_quarters_32 : decode cX1_quarters 32 = .ok (.invokevirtual 52, 3) := dz_at (i := 20) dy_p06_5 rfl
theorem dX1_quarters_35 : decode cX1_quarters 35 = .ok (.if_icmp .le 6, 3) := dz_at (i := 21) dy_p06_5 rfl
theorem dX1_quarters_38 : decode cX1_quarters 38 = .ok (.ldc 59, 2) := dz_at (i := 22) dy_p06_5 rfl
theorem dX1_quarters_40 : decode cX1_quarters 40 = .ok (.ireturn, 1) := dz_at (i := 23) dy_p06_5 rfl
theorem dX1_quarters_41 : decode cX1_quarters 41 = .ok (.aload_n 0, 1) := dz_at (i := 24) dy_p06_5 rfl
theorem dX1_quarters_42 : decode cX1_quarters 42 = .ok (.getfield 9, 3) := dz_at (i := 25) dy_p06_5 rfl
theorem dX1_quarters_45 : decode cX1_quarters 45 = .ok (.iload_n 3, 1) := dz_at (i := 26) dy_p06_5 rfl
theorem dX1_quarters_46 : decode cX1_quarters 46 = .ok (.isub, 1) := dz_at (i := 27) dy_p06_5 rfl
theorem dX1_quarters_47 : decode cX1_quarters 47 = .ok (.istore 4, 2) := dz_at (i := 28) dy_p06_5 rfl
theorem dX1_quarters_49 : decode cX1_quarters 49 = .ok (.lconst 1, 1) := dz_at (i := 29) dy_p06_5 rfl
theorem dX1_quarters_50 : decode cX1_quarters 50 = .ok (.aload_n 0, 1) := dz_at (i := 30) dy_p06_5 rfl
theorem dX1_quarters_51 : decode cX1_quarters 51 = .ok (.getfield 9, 3) := dz_at (i := 31) dy_p06_5 rfl
theorem dX1_quarters_54 : decode cX1_quarters 54 = .ok (.lshl, 1) := dz_at (i := 32) dy_p06_5 rfl
theorem dX1_quarters_55 : decode cX1_quarters 55 = .ok (.aload_n 0, 1) := dz_at (i := 33) dy_p06_5 rfl
theorem dX1_quarters_56 : decode cX1_quarters 56 = .ok (.lload_n 1, 1) := dz_at (i := 34) dy_p06_5 rfl
theorem dX1_quarters_57 : decode cX1_quarters 57 = .ok (.invokevirtual 38, 3) := dz_at (i := 35) dy_p06_5 rfl
theorem dX1_quarters_60 : decode cX1_quarters 60 = .ok (.lor, 1) := dz_at (i := 36) dy_p06_5 rfl
theorem dX1_quarters_61 : decode cX1_quarters 61 = .ok (.lstore 5, 2) := dz_at (i := 37) dy_p06_5 rfl
theorem dX1_quarters_63 : decode cX1_quarters 63 = .ok (.lload 5, 2) := dz_at (i := 38) dy_p06_5 rfl
theorem dX1_quarters_65 : decode cX1_quarters 65 = .ok (.iload 4, 2) := dz_at (i := 39) dy_p06_5 rfl
noncomputable def dz_p06_6 : List (Nat × Instr × Nat) := [(67, (.lshr, 1)), (68, (.lstore 7, 2)), (70, (.lload 7, 2)), (72, (.iload 4, 2)), (74, (.lshl, 1)), (75, (.lload 5, 2)), (77, (.lcmp, 1)), (78, (.ifCond .ne 14, 3)), (81, (.lload 7, 2)), (83, (.aload_n 0, 1)), (84, (.getfield 15, 3)), (87, (.i2l, 1)), (88, (.lcmp, 1)), (89, (.ifCond .le 6, 3)), (92, (.ldc 59, 2)), (94, (.ireturn, 1)), (95, (.aload_n 0, 1)), (96, (.lload_n 1, 1)), (97, (.invokevirtual 60, 3)), (100, (.ifCond .eq 9, 3)), (103, (.lload 7, 2)), (105, (.lneg, 1)), (106, (.goto 5, 3)), (109, (.lload 7, 2)), (111, (.l2i, 1)), (112, (.ireturn, 1))]
theorem dy_p06_6 : dz_ok cX1_quarters dz_p06_6 = true := by decide +kernel
theorem dX1_quarters_67 : decode cX1_quarters 67 = .ok (.lshr, 1) := dz_at (i := 0) dy_p06_6 rfl
theorem dX1_quarters_68 : decode cX1_quarters 68 = .ok (.lstore 7, 2) := dz_at (i := 1) dy_p06_6 rfl
theorem dX1_quarters_70 : decode cX1_quarters 70 = .ok (.lload 7, 2) := dz_at (i := 2) dy_p06_6 rfl
theorem dX1_quarters_72 : decode cX1_quarters 72 = .ok (.iload 4, 2) := dz_at (i := 3) dy_p06_6 rfl
theorem dX1_quarters_74 : decode cX1_quarters 74 = .ok (.lshl, 1) := dz_at (i := 4) dy_p06_6 rfl
theorem dX1_quarters_75 : decode cX1_quarters 75 = .ok (.lload 5, 2) := dz_at (i := 5) dy_p06_6 rfl
theorem dX1_quarters_77 : decode cX1_quarters 77 = .ok (.lcmp, 1) := dz_at (i := 6) dy_p06_6 rfl
theorem dX1_quarters_78 : decode cX1_quarters 78 = .ok (.ifCond .ne 14, 3) := dz_at (i := 7) dy_p06_6 rfl
theorem dX1_quarters_81 : decode cX1_quarters 81 = .ok (.lload 7, 2) := dz_at (i := 8) dy_p06_6 rfl
theorem dX1_quarters_83 : decode cX1_quarters 83 = .ok (.aload_n 0, 1) := dz_at (i := 9) dy_p06_6 rfl
theorem dX1_quarters_84 : decode cX1_quarters 84 = .ok (.getfield 15, 3) := dz_at (i := 10) dy_p06_6 rfl
theorem dX1_quarters_87 : decode cX1_quarters 87 = .ok (.i2l, 1) := dz_at (i := 11) dy_p06_6 rfl
theorem dX1_quarters_88 : decode cX1_quarters 88 = .ok (.lcmp, 1) := dz_at (i := 12) dy_p06_6 rfl
theorem dX1_quarters_89 : decode cX1_quarters 89 = .ok (.ifCond .le 6, 3) := dz_at (i := 13) dy_p06_6 rfl
theorem dX1_quarters_92 : decode cX1_quarters 92 = .ok (.ldc 59, 2) := dz_at (i := 14) dy_p06_6 rfl
theorem dX1_quarters_94 : decode cX1_quarters 94 = .ok (.ireturn, 1) := dz_at (i := 15) dy_p06_6 rfl
theorem dX1_quarters_95 : decode cX1_quarters 95 = .ok (.aload_n 0, 1) := dz_at (i := 16) dy_p06_6 rfl
theorem dX1_quarters_96 : decode cX1_quarters 96 = .ok (.lload_n 1, 1) := dz_at (i := 17) dy_p06_6 rfl
theorem dX1_quarters_97 : decode cX1_quarters 97 = .ok (.invokevirtual 60, 3) := dz_at (i := 18) dy_p06_6 rfl
theorem dX1_quarters_100 : decode cX1_quarters 100 = .ok (.ifCond .eq 9, 3) := dz_at (i := 19) dy_p06_6 rfl
theorem dX1_quarters_103 : decode cX1_quarters 103 = .ok (.lload 7, 2) := dz_at (i := 20) dy_p06_6 rfl
theorem dX1_quarters_105 : decode cX1_quarters 105 = .ok (.lneg, 1) := dz_at (i := 21) dy_p06_6 rfl
theorem dX1_quarters_106 : decode cX1_quarters 106 = .ok (.goto 5, 3) := dz_at (i := 22) dy_p06_6 rfl
theorem dX1_quarters_109 : decode cX1_quarters 109 = .ok (.lload 7, 2) := dz_at (i := 23) dy_p06_6 rfl
theorem dX1_quarters_111 : decode cX1_quarters 111 = .ok (.l2i, 1) := dz_at (i := 24) dy_p06_6 rfl
theorem dX1_quarters_112 : decode cX1_quarters 112 = .ok (.ireturn, 1) := dz_at (i := 25) dy_p06_6 rfl
noncomputable def o_X1_quarters (w : Bool) (p0 : Int64) : Int32 :=
  if (o_X1_isZero w p0) = true then 0
  else if ((o_X1_exponent w p0) - (wEq w)) < 0 then (-2147483648)
  else if ((o_X1_exponent w p0) - (wEq w)) ≤ (o_X1_highestDigit ((wQb w).toInt64)) then (if (jLshl (jLshr ((jLshl 1 (wFd w)) ||| (o_X1_fraction w p0)) ((wFd w) - ((o_X1_exponent w p0) - (wEq w)))) ((wFd w) - ((o_X1_exponent w p0) - (wEq w)))) = ((jLshl 1 (wFd w)) ||| (o_X1_fraction w p0)) then (if (jLshr ((jLshl 1 (wFd w)) ||| (o_X1_fraction w p0)) ((wFd w) - ((o_X1_exponent w p0) - (wEq w)))) ≤ ((wQb w).toInt64) then (if (o_X1_hasSign w p0) = true then ((-(jLshr ((jLshl 1 (wFd w)) ||| (o_X1_fraction w p0)) ((wFd w) - ((o_X1_exponent w p0) - (wEq w))))).toInt32)
        else ((jLshr ((jLshl 1 (wFd w)) ||| (o_X1_fraction w p0)) ((wFd w) - ((o_X1_exponent w p0) - (wEq w)))).toInt32))
      else (-2147483648))
    else (-2147483648))
  else (-2147483648)
set_option maxHeartbeats 4000000 in
set_option maxRecDepth 100000 in
theorem k_X1_quarters (l : Launch) (dC : Nat → ClassId) (dI : Nat → Nat → Nat) (h0 : Nat) (w : Bool) (sz : Nat) (p0 : Int64) : Met l yX1_quarters wsX1_quarters ({ frames := 1, cells := 0, slots := 0, locals := 24 }) (va_Pc [.ref h0, .long p0] (xB (dC, dI) xCl [(h0, eW w)] [] sz)) (va_Qi (fun (r : Int32) (_ : Unit) => r = (o_X1_quarters w p0)) (fun _ _ => True) (aN sz)) 0 0 (aN sz) := by
  refine Met.ofW (cc := cX1_quarters) (maxL := 9) (ret := (some .int)) (by decide +kernel) rfl ?_
  intro p e s m args below meth c s₁ B hml hv
  obtain ⟨rfl, hsz, hP, hK⟩ := hv
  have hx := B.exec
  have hb := B.bytes
  have hr := B.returns
  have hts := atoms_spec (ws := wsX1_quarters) B.pre
  have hown : s.vm.findClass RX1 = some m.cls := findClass_of_methodNamed B.named
  have hlocks := B.notSynchronized
  subst hsz
  have hA : ∀ q : Nat, s.heap.size ≤ q → aN s.heap.size q := fun _ h => h
  have hS : va_S (aN s.heap.size) s.heap s.heap [] := va_S.rf
  have hP : va_P (dC, dI) xCl [(h0, eW w)] s.heap := hP
  have hl := lv_entry ([.ref h0, .long p0]) (n := 9) (Nat.le_of_ble_eq_true rfl)
  rw [lg_entry_eq]
  generalize (lg_sl ([.ref h0, .long p0]) ++ List.replicate (9 - (lg_sl ([.ref h0, .long p0])).length) Slot.unset).toArray = ls at hl ⊢
  have hl : lv_has ls 9 [(0, .ref h0), (1, .long p0)] := hl
  refine lv_aload_n hx hb dX1_quarters_0 rfl (lv_at hl 0 rfl) ?_
  refine lv_lload_n hx hb dX1_quarters_1 rfl (lv_at hl 1 rfl) ?_
  have hPc := hP.sub (ws' := [(h0, eW w)]) [0] rfl
  have hKc := hK.sub (tys' := []) [] rfl
  refine va_calli (va_runV (As := [.long p0]) (rest := []) ⟨hx, hb, hml, hown, hts⟩ (k_X1_isZero l dC dI h0 w s.heap.size p0) (cwV 1 hts gX1_quarters_X1_isZero rfl rfl rfl (by decide +kernel) ⟨Nat.le_of_ble_eq_true rfl, Nat.le_of_ble_eq_true rfl⟩) (xB.preV hKc hPc (ci := 3) (q0 := 0) rfl rfl) rfl rfl hl.1 rfl (lv_room (Nat.le_of_ble_eq_true rfl)) dX1_quarters_2 ⟨Nat.le_of_ble_eq_true rfl, Nat.le_of_ble_eq_true rfl⟩) hS xA_old (fun q h => hA q (Nat.le_trans hS.1 h)) (fun r_1 u t H locs ht hvm hw hB hz hk hS => ?_)
  replace hw : r_1 = b2i (o_X1_isZero w p0) := hw
  subst r_1
  have hP := xP_keep hP hk
  refine xz_eq (tgt := 10) hx hb dX1_quarters_5 (by decide +kernel) (fun c_2 => ?_) (fun c_2 => ?_)
  · skip
    refine lv_aload_n hx hb dX1_quarters_10 rfl (lv_at hl 0 rfl) ?_
    refine lv_lload_n hx hb dX1_quarters_11 rfl (lv_at hl 1 rfl) ?_
    have hPc := hP.sub (ws' := [(h0, eW w)]) [0] rfl
    have hKc := hK.sub (tys' := []) [] rfl
    refine va_calli (va_runV (As := [.long p0]) (rest := []) ⟨hx, hb, hml, hown, hts⟩ (k_X1_exponent l dC dI h0 w H.size p0) (cwV 1 hts gX1_quarters_X1_exponent rfl rfl rfl (by decide +kernel) ⟨Nat.le_of_ble_eq_true rfl, Nat.le_of_ble_eq_true rfl⟩) (xB.preV hKc hPc (ci := 3) (q0 := 0) rfl rfl) rfl rfl hl.1 rfl (lv_room (Nat.le_of_ble_eq_true rfl)) dX1_quarters_12 ⟨Nat.le_of_ble_eq_true rfl, Nat.le_of_ble_eq_true rfl⟩) hS xA_old (fun q h => hA q (Nat.le_trans hS.1 h)) (fun r_3 u t H locs ht hvm hw hB hz hk hS => ?_)
    replace hw : r_3 = (o_X1_exponent w p0) := hw
    subst r_3
    have hP := xP_keep hP hk
    refine lv_aload_n hx hb dX1_quarters_15 rfl (lv_at hl 0 rfl) ?_
    refine va_get (D := (dC, dI)) (ci := 3) (v := .int (wEq w)) (C := RX1) (T := TX1) (N := 7) hx hb hts (by decide +kernel) hown hK hP 0 rfl rfl 5 (by decide +kernel) (hts (.fieldLink RX1 31 "Edgefloats$Width" "exponentOfOneQuarter" "I") (by decide +kernel)) (fun _ h9 => h9) rfl dX1_quarters_16 ?_
    refine lv_isub hx hb dX1_quarters_19 ?_
    refine lv_istore_n (lv' := [(3, .int ((o_X1_exponent w p0) - (wEq w))), (0, .ref h0), (1, .long p0)]) hx hb dX1_quarters_20 rfl hl (by decide +kernel) rfl (fun ls hl => ?_)
    refine lv_iload_n hx hb dX1_quarters_21 rfl (lv_at hl 0 rfl) ?_
    refine lv_if_lt (tgt := 38) hx hb dX1_quarters_22 (by decide +kernel) (fun c_4 => ?_) (fun c_4 => ?_)
    · skip
      refine lv_ldc (own := RX1) (index := 59) (v := (-2147483648)) hx hb hown (hts (.constant RX1 59 (-2147483648)) (by decide +kernel)) dX1_quarters_38 ?_
      have he : o_X1_quarters w p0 = (-2147483648) := by (rw [o_X1_quarters, if_neg c_2, if_pos c_4]) <;> rfl
      refine W.widen (k := 0) (n := 0) (by omega) (by omega) ?_
      exact W.iret (v := (-2147483648)) hx hb hr (fun t ht hW => ⟨⟨_, (), rfl, (by (rw [he]) <;> rfl), trivial⟩, hS.F ht⟩) hS.2.2 dX1_quarters_40
    · skip
      refine lv_iload_n hx hb dX1_quarters_25 rfl (lv_at hl 0 rfl) ?_
      refine lv_aload_n hx hb dX1_quarters_26 rfl (lv_at hl 1 rfl) ?_
      refine lv_aload_n hx hb dX1_quarters_27 rfl (lv_at hl 1 rfl) ?_
      refine va_get (D := (dC, dI)) (ci := 3) (v := .int (wQb w)) (C := RX1) (T := TX1) (N := 7) hx hb hts (by decide +kernel) hown hK hP 0 rfl rfl 6 (by decide +kernel) (hts (.fieldLink RX1 15 "Edgefloats$Width" "quarterBound" "I") (by decide +kernel)) (fun _ h9 => h9) rfl dX1_quarters_28 ?_
      refine lv_i2l (v := ((wQb w).toInt64)) hx hb dX1_quarters_31 rfl ?_
      have hPc := hP.sub (ws' := [(h0, eW w)]) [0] rfl
      have hKc := hK.sub (tys' := []) [] rfl
      refine va_calli (va_runV (As := [.long ((wQb w).toInt64)]) (rest := [.int ((o_X1_exponent w p0) - (wEq w))]) ⟨hx, hb, hml, hown, hts⟩ (k_X1_highestDigit l dC dI h0 w H.size ((wQb w).toInt64)) (cwV 1 hts gX1_quarters_X1_highestDigit rfl rfl rfl (by decide +kernel) ⟨Nat.le_of_ble_eq_true rfl, Nat.le_of_ble_eq_true rfl⟩) (xB.preV hKc hPc (ci := 3) (q0 := 0) rfl rfl) rfl rfl hl.1 rfl (lv_room (Nat.le_of_ble_eq_true rfl)) dX1_quarters_32 ⟨Nat.le_of_ble_eq_true rfl, Nat.le_of_ble_eq_true rfl⟩) hS xA_old (fun q h => hA q (Nat.le_trans hS.1 h)) (fun r_5 u t H locs ht hvm hw hB hz hk hS => ?_)
      replace hw : r_5 = (o_X1_highestDigit ((wQb w).toInt64)) := hw
      subst r_5
      have hP := xP_keep hP hk
      refine lv_icmp_le (tgt := 41) hx hb dX1_quarters_35 (by decide +kernel) (fun c_6 => ?_) (fun c_6 => ?_)
      · skip
        refine lv_aload_n hx hb dX1_quarters_41 rfl (lv_at hl 1 rfl) ?_
        refine va_get (D := (dC, dI)) (ci := 3) (v := .int (wFd w)) (C := RX1) (T := TX1) (N := 7) hx hb hts (by decide +kernel) hown hK hP 0 rfl rfl 0 (by decide +kernel) (hts (.fieldLink RX1 9 "Edgefloats$Width" "fractionDigits" "I") (by decide +kernel)) (fun _ h9 => h9) rfl dX1_quarters_42 ?_
        refine lv_iload_n hx hb dX1_quarters_45 rfl (lv_at hl 0 rfl) ?_
        refine lv_isub hx hb dX1_quarters_46 ?_
        refine lv_istore (lv' := [(4, .int ((wFd w) - ((o_X1_exponent w p0) - (wEq w)))), (3, .int ((o_X1_exponent w p0) - (wEq w))), (0, .ref h0), (1, .long p0)]) hx hb dX1_quarters_47 hl (by decide +kernel) rfl (fun ls hl => ?_)
        refine lv_lconst (v := 1) hx hb dX1_quarters_49 (by decide +kernel) ?_
        refine lv_aload_n hx hb dX1_quarters_50 rfl (lv_at hl 2 rfl) ?_
        refine va_get (D := (dC, dI)) (ci := 3) (v := .int (wFd w)) (C := RX1) (T := TX1) (N := 7) hx hb hts (by decide +kernel) hown hK hP 0 rfl rfl 0 (by decide +kernel) (hts (.fieldLink RX1 9 "Edgefloats$Width" "fractionDigits" "I") (by decide +kernel)) (fun _ h9 => h9) rfl dX1_quarters_51 ?_
        refine lv_lshl (v := (jLshl 1 (wFd w))) hx hb dX1_quarters_54 rfl ?_
        refine lv_aload_n hx hb dX1_quarters_55 rfl (lv_at hl 2 rfl) ?_
        refine lv_lload_n hx hb dX1_quarters_56 rfl (lv_at hl 3 rfl) ?_
        have hPc := hP.sub (ws' := [(h0, eW w)]) [0] rfl
        have hKc := hK.sub (tys' := []) [] rfl
        refine va_calll (va_runV (As := [.long p0]) (rest := [.long (jLshl 1 (wFd w))]) ⟨hx, hb, hml, hown, hts⟩ (k_X1_fraction l dC dI h0 w H.size p0) (cwV 1 hts gX1_quarters_X1_fraction rfl rfl rfl (by decide +kernel) ⟨Nat.le_of_ble_eq_true rfl, Nat.le_of_ble_eq_true rfl⟩) (xB.preV hKc hPc (ci := 3) (q0 := 0) rfl rfl) rfl rfl hl.1 rfl (lv_room (Nat.le_of_ble_eq_true rfl)) dX1_quarters_57 ⟨Nat.le_of_ble_eq_true rfl, Nat.le_of_ble_eq_true rfl⟩) hS xA_old (fun q h => hA q (Nat.le_trans hS.1 h)) (fun r_7 u t H locs ht hvm hw hB hz hk hS => ?_)
        replace hw : r_7 = (o_X1_fraction w p0) := hw
        subst r_7
        have hP := xP_keep hP hk
        refine lv_lor hx hb dX1_quarters_60 ?_
        refine lv_lstore (lv' := [(5, .long ((jLshl 1 (wFd w)) ||| (o_X1_fraction w p0))), (4, .int ((wFd w) - ((o_X1_exponent w p0) - (wEq w)))), (3, .int ((o_X1_exponent w p0) - (wEq w))), (0, .ref h0), (1, .long p0)]) hx hb dX1_quarters_61 hl (by decide +kernel) rfl (fun ls hl => ?_)
        refine lv_lload hx hb dX1_quarters_63 (lv_at hl 0 rfl) ?_
        refine lv_iload hx hb dX1_quarters_65 (lv_at hl 1 rfl) ?_
        refine lv_lshr (v := (jLshr ((jLshl 1 (wFd w)) ||| (o_X1_fraction w p0)) ((wFd w) - ((o_X1_exponent w p0) - (wEq w))))) hx hb dX1_quarters_67 rfl ?_
        refine lv_lstore (lv' := [(7, .long (jLshr ((jLshl 1 (wFd w)) ||| (o_X1_fraction w p0)) ((wFd w) - ((o_X1_exponent w p0) - (wEq w))))), (5, .long ((jLshl 1 (wFd w)) ||| (o_X1_fraction w p0))), (4, .int ((wFd w) - ((o_X1_exponent w p0) - (wEq w)))), (3, .int ((o_X1_exponent w p0) - (wEq w))), (0, .ref h0), (1, .long p0)]) hx hb dX1_quarters_68 hl (by decide +kernel) rfl (fun ls hl => ?_)
        refine lv_lload hx hb dX1_quarters_70 (lv_at hl 0 rfl) ?_
        refine lv_iload hx hb dX1_quarters_72 (lv_at hl 2 rfl) ?_
        refine lv_lshl (v := (jLshl (jLshr ((jLshl 1 (wFd w)) ||| (o_X1_fraction w p0)) ((wFd w) - ((o_X1_exponent w p0) - (wEq w)))) ((wFd w) - ((o_X1_exponent w p0) - (wEq w))))) hx hb dX1_quarters_74 rfl ?_
        refine lv_lload hx hb dX1_quarters_75 (lv_at hl 1 rfl) ?_
        refine xc_ne (tgt := 92) hx hb dX1_quarters_77 dX1_quarters_78 (by decide +kernel) (fun c_8 => ?_) (fun c_8 => ?_)
        · skip
          refine lv_ldc (own := RX1) (index := 59) (v := (-2147483648)) hx hb hown (hts (.constant RX1 59 (-2147483648)) (by decide +kernel)) dX1_quarters_92 ?_
          have he : o_X1_quarters w p0 = (-2147483648) := by (rw [o_X1_quarters, if_neg c_2, if_neg c_4, if_pos c_6, if_neg c_8]) <;> rfl
          refine W.widen (k := 0) (n := 0) (by omega) (by omega) ?_
          exact W.iret (v := (-2147483648)) hx hb hr (fun t ht hW => ⟨⟨_, (), rfl, (by (rw [he]) <;> rfl), trivial⟩, hS.F ht⟩) hS.2.2 dX1_quarters_94
        · skip
          refine lv_lload hx hb dX1_quarters_81 (lv_at hl 0 rfl) ?_
          refine lv_aload_n hx hb dX1_quarters_83 rfl (lv_at hl 4 rfl) ?_
          refine va_get (D := (dC, dI)) (ci := 3) (v := .int (wQb w)) (C := RX1) (T := TX1) (N := 7) hx hb hts (by decide +kernel) hown hK hP 0 rfl rfl 6 (by decide +kernel) (hts (.fieldLink RX1 15 "Edgefloats$Width" "quarterBound" "I") (by decide +kernel)) (fun _ h9 => h9) rfl dX1_quarters_84 ?_
          refine lv_i2l (v := ((wQb w).toInt64)) hx hb dX1_quarters_87 rfl ?_
          refine xc_le (tgt := 95) hx hb dX1_quarters_88 dX1_quarters_89 (by decide +kernel) (fun c_9 => ?_) (fun c_9 => ?_)
          · skip
            refine lv_aload_n hx hb dX1_quarters_95 rfl (lv_at hl 4 rfl) ?_
            refine lv_lload_n hx hb dX1_quarters_96 rfl (lv_at hl 5 rfl) ?_
            have hPc := hP.sub (ws' := [(h0, eW w)]) [0] rfl
            have hKc := hK.sub (tys' := []) [] rfl
            refine va_calli (va_runV (As := [.long p0]) (rest := []) ⟨hx, hb, hml, hown, hts⟩ (k_X1_hasSign l dC dI h0 w H.size p0) (cwV 1 hts gX1_quarters_X1_hasSign rfl rfl rfl (by decide +kernel) ⟨Nat.le_of_ble_eq_true rfl, Nat.le_of_ble_eq_true rfl⟩) (xB.preV hKc hPc (ci := 3) (q0 := 0) rfl rfl) rfl rfl hl.1 rfl (lv_room (Nat.le_of_ble_eq_true rfl)) dX1_quarters_97 ⟨Nat.le_of_ble_eq_true rfl, Nat.le_of_ble_eq_true rfl⟩) hS xA_old (fun q h => hA q (Nat.le_trans hS.1 h)) (fun r_10 u t H locs ht hvm hw hB hz hk hS => ?_)
            replace hw : r_10 = b2i (o_X1_hasSign w p0) := hw
            subst r_10
            have hP := xP_keep hP hk
            refine xz_eq (tgt := 109) hx hb dX1_quarters_100 (by decide +kernel) (fun c_11 => ?_) (fun c_11 => ?_)
            · skip
              refine lv_lload hx hb dX1_quarters_109 (lv_at hl 0 rfl) ?_
              refine lv_l2i (v := ((jLshr ((jLshl 1 (wFd w)) ||| (o_X1_fraction w p0)) ((wFd w) - ((o_X1_exponent w p0) - (wEq w)))).toInt32)) hx hb dX1_quarters_111 rfl ?_
              have he : o_X1_quarters w p0 = ((jLshr ((jLshl 1 (wFd w)) ||| (o_X1_fraction w p0)) ((wFd w) - ((o_X1_exponent w p0) - (wEq w)))).toInt32) := by (rw [o_X1_quarters, if_neg c_2, if_neg c_4, if_pos c_6, if_pos c_8, if_pos c_9, if_neg c_11]) <;> rfl
              refine W.widen (k := 0) (n := 0) (by omega) (by omega) ?_
              exact W.iret (v := ((jLshr ((jLshl 1 (wFd w)) ||| (o_X1_fraction w p0)) ((wFd w) - ((o_X1_exponent w p0) - (wEq w)))).toInt32)) hx hb hr (fun t ht hW => ⟨⟨_, (), rfl, (by (rw [he]) <;> rfl), trivial⟩, hS.F ht⟩) hS.2.2 dX1_quarters_112
            · skip
              refine lv_lload hx hb dX1_quarters_103 (lv_at hl 0 rfl) ?_
              refine lv_lneg hx hb dX1_quarters_105 ?_
              refine lv_goto (tgt := 111) hx hb dX1_quarters_106 (by decide +kernel) ?_
              refine lv_l2i (v := ((-(jLshr ((jLshl 1 (wFd w)) ||| (o_X1_fraction w p0)) ((wFd w) - ((o_X1_exponent w p0) - (wEq w))))).toInt32)) hx hb dX1_quarters_111 rfl ?_
              have he : o_X1_quarters w p0 = ((-(jLshr ((jLshl 1 (wFd w)) ||| (o_X1_fraction w p0)) ((wFd w) - ((o_X1_exponent w p0) - (wEq w))))).toInt32) := by (rw [o_X1_quarters, if_neg c_2, if_neg c_4, if_pos c_6, if_pos c_8, if_pos c_9, if_pos c_11]) <;> rfl
              refine W.widen (k := 0) (n := 0) (by omega) (by omega) ?_
              exact W.iret (v := ((-(jLshr ((jLshl 1 (wFd w)) ||| (o_X1_fraction w p0)) ((wFd w) - ((o_X1_exponent w p0) - (wEq w))))).toInt32)) hx hb hr (fun t ht hW => ⟨⟨_, (), rfl, (by (rw [he]) <;> rfl), trivial⟩, hS.F ht⟩) hS.2.2 dX1_quarters_112
          · skip
            refine lv_ldc (own := RX1) (index := 59) (v := (-2147483648)) hx hb hown (hts (.constant RX1 59 (-2147483648)) (by decide +kernel)) dX1_quarters_92 ?_
            have he : o_X1_quarters w p0 = (-2147483648) := by (rw [o_X1_quarters, if_neg c_2, if_neg c_4, if_pos c_6, if_pos c_8, if_neg c_9]) <;> rfl
            refine W.widen (k := 0) (n := 0) (by omega) (by omega) ?_
            exact W.iret (v := (-2147483648)) hx hb hr (fun t ht hW => ⟨⟨_, (), rfl, (by (rw [he]) <;> rfl), trivial⟩, hS.F ht⟩) hS.2.2 dX1_quarters_94
      · skip
        refine lv_ldc (own := RX1) (index := 59) (v := (-2147483648)) hx hb hown (hts (.constant RX1 59 (-2147483648)) (by decide +kernel)) dX1_quarters_38 ?_
        have he : o_X1_quarters w p0 = (-2147483648) := by (rw [o_X1_quarters, if_neg c_2, if_neg c_4, if_neg c_6]) <;> rfl
        refine W.widen (k := 0) (n := 0) (by omega) (by omega) ?_
        exact W.iret (v := (-2147483648)) hx hb hr (fun t ht hW => ⟨⟨_, (), rfl, (by (rw [he]) <;> rfl), trivial⟩, hS.F ht⟩) hS.2.2 dX1_quarters_40
  · skip
    refine lv_iconst (v := 0) hx hb dX1_quarters_8 (by decide +kernel) ?_
    have he : o_X1_quarters w p0 = 0 := by (rw [o_X1_quarters, if_pos c_2]) <;> rfl
    refine W.widen (k := 0) (n := 0) (by omega) (by omega) ?_
    exact W.iret (v := 0) hx hb hr (fun t ht hW => ⟨⟨_, (), rfl, (by (rw [he]) <;> rfl), trivial⟩, hS.F ht⟩) hS.2.2 dX1_quarters_9
theorem cl_X1_isQuarter_1 : ∀ w ∈ wsX1_isQuarter_r1, w ∈ wsX1_isQuarter := fun _ h => (List.mem_cons_of_mem _ (List.mem_append_left _ (List.mem_append_left _ h)))
theorem cl_X1_isQuarter_2 : ∀ w ∈ wsX1_isQuarter_r2, w ∈ wsX1_isQuarter := fun _ h => (List.mem_cons_of_mem _ (List.mem_append_left _ (List.mem_append_right _ h)))
theorem cl_X1_isQuarter_3 : ∀ w ∈ wsX10, w ∈ wsX1_isQuarter := fun _ h => (List.mem_cons_of_mem _ (List.mem_append_right _ h))
set_option maxRecDepth 20000 in
theorem ggX1_isQuarter_X1_quarters : GoodIn wsX1_isQuarter wsX1_quarters := goodIn_sub (List.forall_mem_cons.mpr ⟨(cl_X1_isQuarter_1 _ (List.mem_of_getElem? (i := 5) rfl)), fun w h => (List.mem_append.mp h).elim ((fun w h => (List.mem_append.mp h).elim ((List.forall_mem_cons.mpr ⟨(cl_X1_isQuarter_1 _ (List.mem_of_getElem? (i := 6) rfl)), List.forall_mem_cons.mpr ⟨(cl_X1_isQuarter_1 _ (List.mem_of_getElem? (i := 7) rfl)), List.forall_mem_cons.mpr ⟨(cl_X1_isQuarter_1 _ (List.mem_of_getElem? (i := 0) rfl)), List.forall_mem_cons.mpr ⟨(cl_X1_isQuarter_1 _ (List.mem_of_getElem? (i := 8) rfl)), List.forall_mem_cons.mpr ⟨(cl_X1_isQuarter_1 _ (List.mem_of_getElem? (i := 9) rfl)), List.forall_mem_cons.mpr ⟨(cl_X1_isQuarter_1 _ (List.mem_of_getElem? (i := 10) rfl)), List.forall_mem_cons.mpr ⟨(cl_X1_isQuarter_1 _ (List.mem_of_getElem? (i := 11) rfl)), List.forall_mem_cons.mpr ⟨(cl_X1_isQuarter_1 _ (List.mem_of_getElem? (i := 4) rfl)), List.forall_mem_cons.mpr ⟨(cl_X1_isQuarter_1 _ (List.mem_of_getElem? (i := 12) rfl)), List.forall_mem_cons.mpr ⟨(cl_X1_isQuarter_1 _ (List.mem_of_getElem? (i := 13) rfl)), List.forall_mem_cons.mpr ⟨(cl_X1_isQuarter_1 _ (List.mem_of_getElem? (i := 14) rfl)), List.forall_mem_cons.mpr ⟨(cl_X1_isQuarter_1 _ (List.mem_of_getElem? (i := 15) rfl)), List.forall_mem_cons.mpr ⟨(cl_X1_isQuarter_1 _ (List.mem_of_getElem? (i := 16) rfl)), List.forall_mem_cons.mpr ⟨(cl_X1_isQuarter_1 _ (List.mem_of_getElem? (i := 17) rfl)), List.forall_mem_cons.mpr ⟨(cl_X1_isQuarter_1 _ (List.mem_of_getElem? (i := 18) rfl)), List.forall_mem_cons.mpr ⟨(cl_X1_isQuarter_1 _ (List.mem_of_getElem? (i := 19) rfl)), List.forall_mem_cons.mpr ⟨(cl_X1_isQuarter_1 _ (List.mem_of_getElem? (i := 20) rfl)), List.forall_mem_cons.mpr ⟨(cl_X1_isQuarter_1 _ (List.mem_of_getElem? (i := 21) rfl)), List.forall_mem_cons.mpr ⟨(cl_X1_isQuarter_1 _ (List.mem_of_getElem? (i := 22) rfl)), List.forall_mem_cons.mpr ⟨(cl_X1_isQuarter_1 _ (List.mem_of_getElem? (i := 23) rfl)), List.forall_mem_cons.mpr ⟨(cl_X1_isQuarter_2 _ (List.mem_of_getElem? (i := 0) rfl)), List.forall_mem_cons.mpr ⟨(cl_X1_isQuarter_2 _ (List.mem_of_getElem? (i := 1) rfl)), List.forall_mem_cons.mpr ⟨(cl_X1_isQuarter_2 _ (List.mem_of_getElem? (i := 2) rfl)), List.forall_mem_cons.mpr ⟨(cl_X1_isQuarter_2 _ (List.mem_of_getElem? (i := 3) rfl)), fun _ h => absurd h List.not_mem_nil⟩⟩⟩⟩⟩⟩⟩⟩⟩⟩⟩⟩⟩⟩⟩⟩⟩⟩⟩⟩⟩⟩⟩⟩) w) ((List.forall_mem_cons.mpr ⟨(cl_X1_isQuarter_2 _ (List.mem_of_getElem? (i := 4) rfl)), List.forall_mem_cons.mpr ⟨(cl_X1_isQuarter_2 _ (List.mem_of_getElem? (i := 5) rfl)), List.forall_mem_cons.mpr ⟨(cl_X1_isQuarter_2 _ (List.mem_of_getElem? (i := 6) rfl)), List.forall_mem_cons.mpr ⟨(cl_X1_isQuarter_2 _ (List.mem_of_getElem? (i := 7) rfl)), List.forall_mem_cons.mpr ⟨(cl_X1_isQuarter_2 _ (List.mem_of_getElem? (i := 8) rfl)), fun _ h => absurd h List.not_mem_nil⟩⟩⟩⟩⟩) w)) w) ((cl_X1_isQuarter_3) w)⟩) (by decide +kernel)
set_option maxRecDepth 20000 in
theorem gX1_isQuarter_X1_quarters : GoodIn wsX1_isQuarter (wsV RX1 63 RX1 yX1_quarters wsX1_quarters) := goodIn_app (goodIn_sub (List.forall_mem_cons.mpr ⟨(cl_X1_isQuarter_1 _ (List.mem_of_getElem? (i := 1) rfl)), List.forall_mem_cons.mpr ⟨(cl_X1_isQuarter_1 _ (List.mem_of_getElem? (i := 2) rfl)), List.forall_mem_cons.mpr ⟨(cl_X1_isQuarter_1 _ (List.mem_of_getElem? (i := 3) rfl)), List.forall_mem_cons.mpr ⟨(cl_X1_isQuarter_1 _ (List.mem_of_getElem? (i := 4) rfl)), fun _ h => absurd h List.not_mem_nil⟩⟩⟩⟩) (by decide +kernel)) ggX1_isQuarter_X1_quarters
noncomputable def dz_p06_7 : List (Nat × Instr × Nat) := [(0, (.aload_n 0, 1)), (1, (.lload_n 1, 1)), (2, (.invokevirtual 63, 3)), (5, (.ldc 59, 2)), (7, (.if_icmp .eq 7, 3)), (10, (.iconst 1, 1)), (11, (.goto 4, 3)), (14, (.iconst 0, 1)), (15, (.ireturn, 1))]
theorem dy_p06_7 : dz_ok cX1_isQuarter dz_p06_7 = true := by decide +kernel
theorem dX1_isQuarter_0 : decode cX1_isQuarter 0 = .ok (.aload_n 0, 1) := dz_at (i := 0) dy_p06_7 rfl
theorem dX1_isQuarter_1 : decode cX1_isQuarter 1 = .ok (.lload_n 1, 1) := dz_at (i := 1) dy_p06_7 rfl
theorem dX1_isQuarter_2 : decode cX1_isQuarter 2 = .ok (.invokevirtual 63, 3) := dz_at (i := 2) dy_p06_7 rfl
theorem dX1_isQuarter_5 : decode cX1_isQuarter 5 = .ok (.ldc 59, 2) := dz_at (i := 3) dy_p06_7 rfl
theorem dX1_isQuarter_7 : decode cX1_isQuarter 7 = .ok (.if_icmp .eq 7, 3) := dz_at (i := 4) dy_p06_7 rfl
theorem dX1_isQuarter_10 : decode cX1_isQuarter 10 = .ok (.iconst 1, 1) := dz_at (i := 5) dy_p06_7 rfl
theorem dX1_isQuarter_11 : decode cX1_isQuarter 11 = .ok (.goto 4, 3) := dz_at (i := 6) dy_p06_7 rfl
theorem dX1_isQuarter_14 : decode cX1_isQuarter 14 = .ok (.iconst 0, 1) := dz_at (i := 7) dy_p06_7 rfl
theorem dX1_isQuarter_15 : decode cX1_isQuarter 15 = .ok (.ireturn, 1) := dz_at (i := 8) dy_p06_7 rfl
noncomputable def o_X1_isQuarter (w : Bool) (p0 : Int64) : Bool :=
  if (o_X1_quarters w p0) = (-2147483648) then false
  else true
set_option maxHeartbeats 4000000 in
set_option maxRecDepth 100000 in
theorem k_X1_isQuarter (l : Launch) (dC : Nat → ClassId) (dI : Nat → Nat → Nat) (h0 : Nat) (w : Bool) (sz : Nat) (p0 : Int64) : Met l yX1_isQuarter wsX1_isQuarter ({ frames := 2, cells := 0, slots := 0, locals := 52 }) (va_Pc [.ref h0, .long p0] (xB (dC, dI) xCl [(h0, eW w)] [] sz)) (va_Qi (fun (r : Int32) (_ : Unit) => r = b2i (o_X1_isQuarter w p0)) (fun _ _ => True) (aN sz)) 0 0 (aN sz) := by
  refine Met.ofW (cc := cX1_isQuarter) (maxL := 3) (ret := (some .boolean)) (by decide +kernel) rfl ?_
  intro p e s m args below meth c s₁ B hml hv
  obtain ⟨rfl, hsz, hP, hK⟩ := hv
  have hx := B.exec
  have hb := B.bytes
  have hr := B.returns
  have hts := atoms_spec (ws := wsX1_isQuarter) B.pre
  have hown : s.vm.findClass RX1 = some m.cls := findClass_of_methodNamed B.named
  have hlocks := B.notSynchronized
  subst hsz
  have hA : ∀ q : Nat, s.heap.size ≤ q → aN s.heap.size q := fun _ h => h
  have hS : va_S (aN s.heap.size) s.heap s.heap [] := va_S.rf
  have hP : va_P (dC, dI) xCl [(h0, eW w)] s.heap := hP
  have hl := lv_entry ([.ref h0, .long p0]) (n := 3) (Nat.le_of_ble_eq_true rfl)
  rw [lg_entry_eq]
  generalize (lg_sl ([.ref h0, .long p0]) ++ List.replicate (3 - (lg_sl ([.ref h0, .long p0])).length) Slot.unset).toArray = ls at hl ⊢
  have hl : lv_has ls 3 [(0, .ref h0), (1, .long p0)] := hl
  refine lv_aload_n hx hb dX1_isQuarter_0 rfl (lv_at hl 0 rfl) ?_
  refine lv_lload_n hx hb dX1_isQuarter_1 rfl (lv_at hl 1 rfl) ?_
  have hPc := hP.sub (ws' := [(h0, eW w)]) [0] rfl
  have hKc := hK.sub (tys' := []) [] rfl
  refine va_calli (va_runV (As := [.long p0]) (rest := []) ⟨hx, hb, hml, hown, hts⟩ (k_X1_quarters l dC dI h0 w s.heap.size p0) (cwV 1 hts gX1_isQuarter_X1_quarters rfl rfl rfl (by decide +kernel) ⟨Nat.le_of_ble_eq_true rfl, Nat.le_of_ble_eq_true rfl⟩) (xB.preV hKc hPc (ci := 3) (q0 := 0) rfl rfl) rfl rfl hl.1 rfl (lv_room (Nat.le_of_ble_eq_true rfl)) dX1_isQuarter_2 ⟨Nat.le_of_ble_eq_true rfl, Nat.le_of_ble_eq_true rfl⟩) hS xA_old (fun q h => hA q (Nat.le_trans hS.1 h)) (fun r_1 u t H locs ht hvm hw hB hz hk hS => ?_)
  replace hw : r_1 = (o_X1_quarters w p0) := hw
  subst r_1
  have hP := xP_keep hP hk
  refine lv_ldc (own := RX1) (index := 59) (v := (-2147483648)) hx hb hown (hts (.constant RX1 59 (-2147483648)) (by decide +kernel)) dX1_isQuarter_5 ?_
  refine lv_icmp_eq (tgt := 14) hx hb dX1_isQuarter_7 (by decide +kernel) (fun c_2 => ?_) (fun c_2 => ?_)
  · skip
    refine lv_iconst (v := 0) hx hb dX1_isQuarter_14 (by decide +kernel) ?_
    have he : o_X1_isQuarter w p0 = false := by (rw [o_X1_isQuarter, if_pos c_2]) <;> rfl
    refine W.widen (k := 0) (n := 0) (by omega) (by omega) ?_
    exact W.zret (v := 0) (ty := .boolean) hx hb hr rfl (fun t ht hW => ⟨⟨_, (), rfl, (by (rw [he]) <;> rfl), trivial⟩, hS.F ht⟩) hS.2.2 dX1_isQuarter_15
  · skip
    refine lv_iconst (v := 1) hx hb dX1_isQuarter_10 (by decide +kernel) ?_
    refine lv_goto (tgt := 15) hx hb dX1_isQuarter_11 (by decide +kernel) ?_
    have he : o_X1_isQuarter w p0 = true := by (rw [o_X1_isQuarter, if_neg c_2]) <;> rfl
    refine W.widen (k := 0) (n := 0) (by omega) (by omega) ?_
    exact W.zret (v := 1) (ty := .boolean) hx hb hr rfl (fun t ht hW => ⟨⟨_, (), rfl, (by (rw [he]) <;> rfl), trivial⟩, hS.F ht⟩) hS.2.2 dX1_isQuarter_15
theorem cl_X1_haveSum_1 : ∀ w ∈ wsX1_haveSum_r1, w ∈ wsX1_haveSum := fun _ h => (List.mem_cons_of_mem _ (List.mem_append_left _ (List.mem_append_left _ h)))
theorem cl_X1_haveSum_2 : ∀ w ∈ wsX1_haveSum_r2, w ∈ wsX1_haveSum := fun _ h => (List.mem_cons_of_mem _ (List.mem_append_left _ (List.mem_append_right _ h)))
theorem cl_X1_haveSum_3 : ∀ w ∈ wsX10, w ∈ wsX1_haveSum := fun _ h => (List.mem_cons_of_mem _ (List.mem_append_right _ h))
set_option maxRecDepth 20000 in
theorem ggX1_haveSum_X1_isEndless : GoodIn wsX1_haveSum wsX1_isEndless := goodIn_sub (List.forall_mem_cons.mpr ⟨(cl_X1_haveSum_1 _ (List.mem_of_getElem? (i := 5) rfl)), fun w h => (List.mem_append.mp h).elim ((List.forall_mem_cons.mpr ⟨(cl_X1_haveSum_1 _ (List.mem_of_getElem? (i := 6) rfl)), List.forall_mem_cons.mpr ⟨(cl_X1_haveSum_1 _ (List.mem_of_getElem? (i := 7) rfl)), List.forall_mem_cons.mpr ⟨(cl_X1_haveSum_1 _ (List.mem_of_getElem? (i := 8) rfl)), List.forall_mem_cons.mpr ⟨(cl_X1_haveSum_1 _ (List.mem_of_getElem? (i := 9) rfl)), List.forall_mem_cons.mpr ⟨(cl_X1_haveSum_1 _ (List.mem_of_getElem? (i := 4) rfl)), List.forall_mem_cons.mpr ⟨(cl_X1_haveSum_1 _ (List.mem_of_getElem? (i := 10) rfl)), List.forall_mem_cons.mpr ⟨(cl_X1_haveSum_1 _ (List.mem_of_getElem? (i := 11) rfl)), List.forall_mem_cons.mpr ⟨(cl_X1_haveSum_1 _ (List.mem_of_getElem? (i := 12) rfl)), List.forall_mem_cons.mpr ⟨(cl_X1_haveSum_1 _ (List.mem_of_getElem? (i := 13) rfl)), List.forall_mem_cons.mpr ⟨(cl_X1_haveSum_1 _ (List.mem_of_getElem? (i := 14) rfl)), List.forall_mem_cons.mpr ⟨(cl_X1_haveSum_1 _ (List.mem_of_getElem? (i := 15) rfl)), List.forall_mem_cons.mpr ⟨(cl_X1_haveSum_1 _ (List.mem_of_getElem? (i := 16) rfl)), fun _ h => absurd h List.not_mem_nil⟩⟩⟩⟩⟩⟩⟩⟩⟩⟩⟩⟩) w) ((cl_X1_haveSum_3) w)⟩) (by decide +kernel)
set_option maxRecDepth 20000 in
theorem gX1_haveSum_X1_isEndless : GoodIn wsX1_haveSum (wsV RX1 66 RX1 yX1_isEndless wsX1_isEndless) := goodIn_app (goodIn_sub (List.forall_mem_cons.mpr ⟨(cl_X1_haveSum_1 _ (List.mem_of_getElem? (i := 1) rfl)), List.forall_mem_cons.mpr ⟨(cl_X1_haveSum_1 _ (List.mem_of_getElem? (i := 2) rfl)), List.forall_mem_cons.mpr ⟨(cl_X1_haveSum_1 _ (List.mem_of_getElem? (i := 3) rfl)), List.forall_mem_cons.mpr ⟨(cl_X1_haveSum_1 _ (List.mem_of_getElem? (i := 4) rfl)), fun _ h => absurd h List.not_mem_nil⟩⟩⟩⟩) (by decide +kernel)) ggX1_haveSum_X1_isEndless
set_option maxRecDepth 20000 in
theorem ggX1_haveSum_X1_isQuarter : GoodIn wsX1_haveSum wsX1_isQuarter := goodIn_sub (List.forall_mem_cons.mpr ⟨(cl_X1_haveSum_1 _ (List.mem_of_getElem? (i := 20) rfl)), fun w h => (List.mem_append.mp h).elim ((fun w h => (List.mem_append.mp h).elim ((List.forall_mem_cons.mpr ⟨(cl_X1_haveSum_1 _ (List.mem_of_getElem? (i := 21) rfl)), List.forall_mem_cons.mpr ⟨(cl_X1_haveSum_1 _ (List.mem_of_getElem? (i := 22) rfl)), List.forall_mem_cons.mpr ⟨(cl_X1_haveSum_1 _ (List.mem_of_getElem? (i := 23) rfl)), List.forall_mem_cons.mpr ⟨(cl_X1_haveSum_2 _ (List.mem_of_getElem? (i := 0) rfl)), List.forall_mem_cons.mpr ⟨(cl_X1_haveSum_1 _ (List.mem_of_getElem? (i := 4) rfl)), List.forall_mem_cons.mpr ⟨(cl_X1_haveSum_2 _ (List.mem_of_getElem? (i := 1) rfl)), List.forall_mem_cons.mpr ⟨(cl_X1_haveSum_2 _ (List.mem_of_getElem? (i := 2) rfl)), List.forall_mem_cons.mpr ⟨(cl_X1_haveSum_1 _ (List.mem_of_getElem? (i := 0) rfl)), List.forall_mem_cons.mpr ⟨(cl_X1_haveSum_1 _ (List.mem_of_getElem? (i := 11) rfl)), List.forall_mem_cons.mpr ⟨(cl_X1_haveSum_2 _ (List.mem_of_getElem? (i := 3) rfl)), List.forall_mem_cons.mpr ⟨(cl_X1_haveSum_2 _ (List.mem_of_getElem? (i := 4) rfl)), List.forall_mem_cons.mpr ⟨(cl_X1_haveSum_2 _ (List.mem_of_getElem? (i := 5) rfl)), List.forall_mem_cons.mpr ⟨(cl_X1_haveSum_2 _ (List.mem_of_getElem? (i := 6) rfl)), List.forall_mem_cons.mpr ⟨(cl_X1_haveSum_2 _ (List.mem_of_getElem? (i := 7) rfl)), List.forall_mem_cons.mpr ⟨(cl_X1_haveSum_1 _ (List.mem_of_getElem? (i := 7) rfl)), List.forall_mem_cons.mpr ⟨(cl_X1_haveSum_1 _ (List.mem_of_getElem? (i := 8) rfl)), List.forall_mem_cons.mpr ⟨(cl_X1_haveSum_1 _ (List.mem_of_getElem? (i := 9) rfl)), List.forall_mem_cons.mpr ⟨(cl_X1_haveSum_1 _ (List.mem_of_getElem? (i := 10) rfl)), List.forall_mem_cons.mpr ⟨(cl_X1_haveSum_1 _ (List.mem_of_getElem? (i := 6) rfl)), List.forall_mem_cons.mpr ⟨(cl_X1_haveSum_2 _ (List.mem_of_getElem? (i := 8) rfl)), List.forall_mem_cons.mpr ⟨(cl_X1_haveSum_2 _ (List.mem_of_getElem? (i := 9) rfl)), List.forall_mem_cons.mpr ⟨(cl_X1_haveSum_2 _ (List.mem_of_getElem? (i := 10) rfl)), List.forall_mem_cons.mpr ⟨(cl_X1_haveSum_2 _ (List.mem_of_getElem? (i := 11) rfl)), List.forall_mem_cons.mpr ⟨(cl_X1_haveSum_1 _ (List.mem_of_getElem? (i := 12) rfl)), fun _ h => absurd h List.not_mem_nil⟩⟩⟩⟩⟩⟩⟩⟩⟩⟩⟩⟩⟩⟩⟩⟩⟩⟩⟩⟩⟩⟩⟩⟩) w) ((List.forall_mem_cons.mpr ⟨(cl_X1_haveSum_1 _ (List.mem_of_getElem? (i := 13) rfl)), List.forall_mem_cons.mpr ⟨(cl_X1_haveSum_1 _ (List.mem_of_getElem? (i := 14) rfl)), List.forall_mem_cons.mpr ⟨(cl_X1_haveSum_1 _ (List.mem_of_getElem? (i := 15) rfl)), List.forall_mem_cons.mpr ⟨(cl_X1_haveSum_1 _ (List.mem_of_getElem? (i := 16) rfl)), List.forall_mem_cons.mpr ⟨(cl_X1_haveSum_2 _ (List.mem_of_getElem? (i := 12) rfl)), List.forall_mem_cons.mpr ⟨(cl_X1_haveSum_2 _ (List.mem_of_getElem? (i := 13) rfl)), List.forall_mem_cons.mpr ⟨(cl_X1_haveSum_2 _ (List.mem_of_getElem? (i := 14) rfl)), List.forall_mem_cons.mpr ⟨(cl_X1_haveSum_2 _ (List.mem_of_getElem? (i := 15) rfl)), List.forall_mem_cons.mpr ⟨(cl_X1_haveSum_2 _ (List.mem_of_getElem? (i := 16) rfl)), fun _ h => absurd h List.not_mem_nil⟩⟩⟩⟩⟩⟩⟩⟩⟩) w)) w) ((cl_X1_haveSum_3) w)⟩) (by decide +kernel)
set_option maxRecDepth 20000 in
theorem gX1_haveSum_X1_isQuarter : GoodIn wsX1_haveSum (wsV RX1 69 RX1 yX1_isQuarter wsX1_isQuarter) := goodIn_app (goodIn_sub (List.forall_mem_cons.mpr ⟨(cl_X1_haveSum_1 _ (List.mem_of_getElem? (i := 17) rfl)), List.forall_mem_cons.mpr ⟨(cl_X1_haveSum_1 _ (List.mem_of_getElem? (i := 18) rfl)), List.forall_mem_cons.mpr ⟨(cl_X1_haveSum_1 _ (List.mem_of_getElem? (i := 19) rfl)), List.forall_mem_cons.mpr ⟨(cl_X1_haveSum_1 _ (List.mem_of_getElem? (i := 4) rfl)), fun _ h => absurd h List.not_mem_nil⟩⟩⟩⟩) (by decide +kernel)) ggX1_haveSum_X1_isQuarter
set_option maxRecDepth 20000 in
theorem ggX1_haveSum_X1_quarters : GoodIn wsX1_haveSum wsX1_quarters := goodIn_sub (List.forall_mem_cons.mpr ⟨(cl_X1_haveSum_2 _ (List.mem_of_getElem? (i := 1) rfl)), fun w h => (List.mem_append.mp h).elim ((fun w h => (List.mem_append.mp h).elim ((List.forall_mem_cons.mpr ⟨(cl_X1_haveSum_2 _ (List.mem_of_getElem? (i := 2) rfl)), List.forall_mem_cons.mpr ⟨(cl_X1_haveSum_1 _ (List.mem_of_getElem? (i := 0) rfl)), List.forall_mem_cons.mpr ⟨(cl_X1_haveSum_1 _ (List.mem_of_getElem? (i := 21) rfl)), List.forall_mem_cons.mpr ⟨(cl_X1_haveSum_1 _ (List.mem_of_getElem? (i := 11) rfl)), List.forall_mem_cons.mpr ⟨(cl_X1_haveSum_2 _ (List.mem_of_getElem? (i := 3) rfl)), List.forall_mem_cons.mpr ⟨(cl_X1_haveSum_2 _ (List.mem_of_getElem? (i := 4) rfl)), List.forall_mem_cons.mpr ⟨(cl_X1_haveSum_2 _ (List.mem_of_getElem? (i := 5) rfl)), List.forall_mem_cons.mpr ⟨(cl_X1_haveSum_1 _ (List.mem_of_getElem? (i := 4) rfl)), List.forall_mem_cons.mpr ⟨(cl_X1_haveSum_2 _ (List.mem_of_getElem? (i := 6) rfl)), List.forall_mem_cons.mpr ⟨(cl_X1_haveSum_2 _ (List.mem_of_getElem? (i := 7) rfl)), List.forall_mem_cons.mpr ⟨(cl_X1_haveSum_1 _ (List.mem_of_getElem? (i := 7) rfl)), List.forall_mem_cons.mpr ⟨(cl_X1_haveSum_1 _ (List.mem_of_getElem? (i := 8) rfl)), List.forall_mem_cons.mpr ⟨(cl_X1_haveSum_1 _ (List.mem_of_getElem? (i := 9) rfl)), List.forall_mem_cons.mpr ⟨(cl_X1_haveSum_1 _ (List.mem_of_getElem? (i := 10) rfl)), List.forall_mem_cons.mpr ⟨(cl_X1_haveSum_1 _ (List.mem_of_getElem? (i := 6) rfl)), List.forall_mem_cons.mpr ⟨(cl_X1_haveSum_2 _ (List.mem_of_getElem? (i := 8) rfl)), List.forall_mem_cons.mpr ⟨(cl_X1_haveSum_2 _ (List.mem_of_getElem? (i := 9) rfl)), List.forall_mem_cons.mpr ⟨(cl_X1_haveSum_2 _ (List.mem_of_getElem? (i := 10) rfl)), List.forall_mem_cons.mpr ⟨(cl_X1_haveSum_2 _ (List.mem_of_getElem? (i := 11) rfl)), List.forall_mem_cons.mpr ⟨(cl_X1_haveSum_1 _ (List.mem_of_getElem? (i := 12) rfl)), List.forall_mem_cons.mpr ⟨(cl_X1_haveSum_1 _ (List.mem_of_getElem? (i := 13) rfl)), List.forall_mem_cons.mpr ⟨(cl_X1_haveSum_1 _ (List.mem_of_getElem? (i := 14) rfl)), List.forall_mem_cons.mpr ⟨(cl_X1_haveSum_1 _ (List.mem_of_getElem? (i := 15) rfl)), List.forall_mem_cons.mpr ⟨(cl_X1_haveSum_1 _ (List.mem_of_getElem? (i := 16) rfl)), fun _ h => absurd h List.not_mem_nil⟩⟩⟩⟩⟩⟩⟩⟩⟩⟩⟩⟩⟩⟩⟩⟩⟩⟩⟩⟩⟩⟩⟩⟩) w) ((List.forall_mem_cons.mpr ⟨(cl_X1_haveSum_2 _ (List.mem_of_getElem? (i := 12) rfl)), List.forall_mem_cons.mpr ⟨(cl_X1_haveSum_2 _ (List.mem_of_getElem? (i := 13) rfl)), List.forall_mem_cons.mpr ⟨(cl_X1_haveSum_2 _ (List.mem_of_getElem? (i := 14) rfl)), List.forall_mem_cons.mpr ⟨(cl_X1_haveSum_2 _ (List.mem_of_getElem? (i := 15) rfl)), List.forall_mem_cons.mpr ⟨(cl_X1_haveSum_2 _ (List.mem_of_getElem? (i := 16) rfl)), fun _ h => absurd h List.not_mem_nil⟩⟩⟩⟩⟩) w)) w) ((cl_X1_haveSum_3) w)⟩) (by decide +kernel)
set_option maxRecDepth 20000 in
theorem gX1_haveSum_X1_quarters : GoodIn wsX1_haveSum (wsV RX1 63 RX1 yX1_quarters wsX1_quarters) := goodIn_app (goodIn_sub (List.forall_mem_cons.mpr ⟨(cl_X1_haveSum_1 _ (List.mem_of_getElem? (i := 22) rfl)), List.forall_mem_cons.mpr ⟨(cl_X1_haveSum_1 _ (List.mem_of_getElem? (i := 23) rfl)), List.forall_mem_cons.mpr ⟨(cl_X1_haveSum_2 _ (List.mem_of_getElem? (i := 0) rfl)), List.forall_mem_cons.mpr ⟨(cl_X1_haveSum_1 _ (List.mem_of_getElem? (i := 4) rfl)), fun _ h => absurd h List.not_mem_nil⟩⟩⟩⟩) (by decide +kernel)) ggX1_haveSum_X1_quarters
noncomputable def dz_p06_8 : List (Nat × Instr × Nat) := [(0, (.aload_n 0, 1)), (1, (.lload_n 1, 1)), (2, (.invokevirtual 66, 3)), (5, (.ifCond .eq 23, 3)), (8, (.lload_n 1, 1)), (9, (.lload_n 3, 1)), (10, (.lcmp, 1)), (11, (.ifCond .eq 11, 3)), (14, (.aload_n 0, 1)), (15, (.lload_n 3, 1)), (16, (.invokevirtual 69, 3)), (19, (.ifCond .eq 7, 3)), (22, (.iconst 1, 1)), (23, (.goto 4, 3)), (26, (.iconst 0, 1)), (27, (.ireturn, 1)), (28, (.aload_n 0, 1)), (29, (.lload_n 3, 1)), (30, (.invokevirtual 66, 3)), (33, (.ifCond .eq 9, 3)), (36, (.aload_n 0, 1)), (37, (.lload_n 1, 1)), (38, (.invokevirtual 69, 3)), (41, (.ireturn, 1)), (42, (.aload_n 0, 1)), (43, (.lload_n 1, 1)), (44, (.invokevirtual 69, 3)), (47, (.ifCond .eq 11, 3)), (50, (.aload_n 0, 1)), (51, (.lload_n 3, 1)), (52, (.invokevirtual 69, 3)), (55, (.ifCond .ne 5, 3)), (58, (.iconst 0, 1)), (59, (.ireturn, 1)), (60, (.aload_n 0, 1)), (61, (.lload_n 1, 1)), (62, (.invokevirtual 63, 3)), (65, (.i2l, 1)), (66, (.aload_n 0, 1)), (67, (.lload_n 3, 1))]
theorem dy_p06_8 : dz_ok cX1_haveSum dz_p06_8 = true := by decide +kernel
theorem dX1_haveSum_0 : decode cX1_haveSum 0 = .ok (.aload_n 0, 1) := dz_at (i := 0) dy_p06_8 rfl
theorem dX1_haveSum_1 : decode cX1_haveSum 1 = .ok (.lload_n 1, 1) := dz_at (i := 1) dy_p06_8 rfl
theorem dX1_haveSum_2 : decode cX1_haveSum 2 = .ok (.invokevirtual 66, 3) := dz_at (i := 2) dy_p06_8 rfl
theorem dX1_haveSum_5 : decode cX1_haveSum 5 = .ok (.ifCond .eq 23, 3) := dz_at (i := 3) dy_p06_8 rfl
theorem dX1_haveSum_8 : decode cX1_haveSum 8 = .ok (.lload_n 1, 1) := dz_at (i := 4) dy_p06_8 rfl
theorem dX1_haveSum_9 : decode cX1_haveSum 9 = .ok (.lload_n 3, 1) := dz_at (i := 5) dy_p06_8 rfl
theorem dX1_haveSum_10 : decode cX1_haveSum 10 = .ok (.lcmp, 1) := dz_at (i := 6) dy_p06_8 rfl
theorem dX1_haveSum_11 : decode cX1_haveSum 11 = .ok (.ifCond .eq 11, 3) := dz_at (i := 7) dy_p06_8 rfl
theorem dX1_haveSum_14 : decode cX1_haveSum 14 = .ok (.aload_n 0, 1) := dz_at (i := 8) dy_p06_8 rfl
theorem dX1_haveSum_15 : decode cX1_haveSum 15 = .ok (.lload_n 3, 1) := dz_at (i := 9) dy_p06_8 rfl
theorem dX1_haveSum_16 : decode cX1_haveSum 16 = .ok (.invokevirtual 69, 3) := dz_at (i := 10) dy_p06_8 rfl
theorem dX1_haveSum_19 : decode cX1_haveSum 19 = .ok (.ifCond .eq 7, 3) := dz_at (i := 11) dy_p06_8 rfl
theorem dX1_haveSum_22 : decode cX1_haveSum 22 = .ok (.iconst 1, 1) := dz_at (i := 12) dy_p06_8 rfl
theorem dX1_haveSum_23 : decode cX1_haveSum 23 = .ok (.goto 4, 3) := dz_at (i := 13) dy_p06_8 rfl
theorem dX1_haveSum_26 : decode cX1_haveSum 26 = .ok (.iconst 0, 1) := dz_at (i := 14) dy_p06_8 rfl
theorem dX1_haveSum_27 : decode cX1_haveSum 27 = .ok (.ireturn, 1) := dz_at (i := 15) dy_p06_8 rfl
theorem dX1_haveSum_28 : decode cX1_haveSum 28 = .ok (.aload_n 0, 1) := dz_at (i := 16) dy_p06_8 rfl
theorem dX1_haveSum_29 : decode cX1_haveSum 29 = .ok (.lload_n 3, 1) := dz_at (i := 17) dy_p06_8 rfl
theorem dX1_haveSum_30 : decode cX1_haveSum 30 = .ok (.invokevirtual 66, 3) := dz_at (i := 18) dy_p06_8 rfl
theorem dX1_haveSum_33 : decode cX1_haveSum 33 = .ok (.ifCond .eq 9, 3) := dz_at (i := 19) dy_p06_8 rfl
theorem dX1_haveSum_36 : decode cX1_haveSum 36 = .ok (.aload_n 0, 1) := dz_at (i := 20) dy_p06_8 rfl
theorem dX1_haveSum_37 : decode cX1_haveSum 37 = .ok (.lload_n 1, 1) := dz_at (i := 21) dy_p06_8 rfl
theorem dX1_haveSum_38 : decode cX1_haveSum 38 = .ok (.invokevirtual 69, 3) := dz_at (i := 22) dy_p06_8 rfl
theorem dX1_haveSum_41 : decode cX1_haveSum 41 = .ok (.ireturn, 1) := dz_at (i := 23) dy_p06_8 rfl
theorem dX1_haveSum_42 : decode cX1_haveSum 42 = .ok (.aload_n 0, 1) := dz_at (i := 24) dy_p06_8 rfl
theorem dX1_haveSum_43 : decode cX1_haveSum 43 = .ok (.lload_n 1, 1) := dz_at (i := 25) dy_p06_8 rfl
theorem dX1_haveSum_44 : decode cX1_haveSum 44 = .ok (.invokevirtual 69, 3) := dz_at (i := 26) dy_p06_8 rfl
theorem dX1_haveSum_47 : decode cX1_haveSum 47 = .ok (.ifCond .eq 11, 3) := dz_at (i := 27) dy_p06_8 rfl
theorem dX1_haveSum_50 : decode cX1_haveSum 50 = .ok (.aload_n 0, 1) := dz_at (i := 28) dy_p06_8 rfl
theorem dX1_haveSum_51 : decode cX1_haveSum 51 = .ok (.lload_n 3, 1) := dz_at (i := 29) dy_p06_8 rfl
theorem dX1_haveSum_52 : decode cX1_haveSum 52 = .ok (.invokevirtual 69, 3) := dz_at (i := 30) dy_p06_8 rfl
theorem dX1_haveSum_55 : decode cX1_haveSum 55 = .ok (.ifCond .ne 5, 3) := dz_at (i := 31) dy_p06_8 rfl
theorem dX1_haveSum_58 : decode cX1_haveSum 58 = .ok (.iconst 0, 1) := dz_at (i := 32) dy_p06_8 rfl
theorem dX1_haveSum_59 : decode cX1_haveSum 59 = .ok (.ireturn, 1) := dz_at (i := 33) dy_p06_8 rfl
theorem dX1_haveSum_60 : decode cX1_haveSum 60 = .ok (.aload_n 0, 1) := dz_at (i := 34) dy_p06_8 rfl
theorem dX1_haveSum_61 : decode cX1_haveSum 61 = .ok (.lload_n 1, 1) := dz_at (i := 35) dy_p06_8 rfl
theorem dX1_haveSum_62 : decode cX1_haveSum 62 = .ok (.invokevirtual 63, 3) := dz_at (i := 36) dy_p06_8 rfl
theorem dX1_haveSum_65 : decode cX1_haveSum 65 = .ok (.i2l, 1) := dz_at (i := 37) dy_p06_8 rfl
theorem dX1_haveSum_66 : decode cX1_haveSum 66 = .ok (.aload_n 0, 1) := dz_at (i := 38) dy_p06_8 rfl
theorem dX1_haveSum_67 : decode cX1_haveSum 67 = .ok (.lload_n 3, 1) := dz_at (i := 39) dy_p06_8 rfl
noncomputable def dz_p06_9 : List (Nat × Instr × Nat) := [(68, (.invokevirtual 63, 3)), (71, (.i2l, 1)), (72, (.ladd, 1)), (73, (.lstore 5, 2)), (75, (.lload 5, 2)), (77, (.aload_n 0, 1)), (78, (.getfield 15, 3)), (81, (.ineg, 1)), (82, (.i2l, 1)), (83, (.lcmp, 1)), (84, (.ifCond .lt 18, 3)), (87, (.lload 5, 2)), (89, (.aload_n 0, 1)), (90, (.getfield 15, 3)), (93, (.i2l, 1)), (94, (.lcmp, 1)), (95, (.ifCond .gt 7, 3)), (98, (.iconst 1, 1)), (99, (.goto 4, 3)), (102, (.iconst 0, 1)), (103, (.ireturn, 1))]
theorem dy_p06_9 : dz_ok cX1_haveSum dz_p06_9 = true := by decide +kernel
theorem dX1_haveSum_68 : decode cX1_haveSum 68 = .ok (.invokevirtual 63, 3) := dz_at (i := 0) dy_p06_9 rfl
theorem dX1_haveSum_71 : decode cX1_haveSum 71 = .ok (.i2l, 1) := dz_at (i := 1) dy_p06_9 rfl
theorem dX1_haveSum_72 : decode cX1_haveSum 72 = .ok (.ladd, 1) := dz_at (i := 2) dy_p06_9 rfl
theorem dX1_haveSum_73 : decode cX1_haveSum 73 = .ok (.lstore 5, 2) := dz_at (i := 3) dy_p06_9 rfl
theorem dX1_haveSum_75 : decode cX1_haveSum 75 = .ok (.lload 5, 2) := dz_at (i := 4) dy_p06_9 rfl
theorem dX1_haveSum_77 : decode cX1_haveSum 77 = .ok (.aload_n 0, 1) := dz_at (i := 5) dy_p06_9 rfl
theorem dX1_haveSum_78 : decode cX1_haveSum 78 = .ok (.getfield 15, 3) := dz_at (i := 6) dy_p06_9 rfl
theorem dX1_haveSum_81 : decode cX1_haveSum 81 = .ok (.ineg, 1) := dz_at (i := 7) dy_p06_9 rfl
theorem dX1_haveSum_82 : decode cX1_haveSum 82 = .ok (.i2l, 1) := dz_at (i := 8) dy_p06_9 rfl
theorem dX1_haveSum_83 : decode cX1_haveSum 83 = .ok (.lcmp, 1) := dz_at (i := 9) dy_p06_9 rfl
theorem dX1_haveSum_84 : decode cX1_haveSum 84 = .ok (.ifCond .lt 18, 3) := dz_at (i := 10) dy_p06_9 rfl
theorem dX1_haveSum_87 : decode cX1_haveSum 87 = .ok (.lload 5, 2) := dz_at (i := 11) dy_p06_9 rfl
theorem dX1_haveSum_89 : decode cX1_haveSum 89 = .ok (.aload_n 0, 1) := dz_at (i := 12) dy_p06_9 rfl
theorem dX1_haveSum_90 : decode cX1_haveSum 90 = .ok (.getfield 15, 3) := dz_at (i := 13) dy_p06_9 rfl
theorem dX1_haveSum_93 : decode cX1_haveSum 93 = .ok (.i2l, 1) := dz_at (i := 14) dy_p06_9 rfl
theorem dX1_haveSum_94 : decode cX1_haveSum 94 = .ok (.lcmp, 1) := dz_at (i := 15) dy_p06_9 rfl
theorem dX1_haveSum_95 : decode cX1_haveSum 95 = .ok (.ifCond .gt 7, 3) := dz_at (i := 16) dy_p06_9 rfl
theorem dX1_haveSum_98 : decode cX1_haveSum 98 = .ok (.iconst 1, 1) := dz_at (i := 17) dy_p06_9 rfl
theorem dX1_haveSum_99 : decode cX1_haveSum 99 = .ok (.goto 4, 3) := dz_at (i := 18) dy_p06_9 rfl
theorem dX1_haveSum_102 : decode cX1_haveSum 102 = .ok (.iconst 0, 1) := dz_at (i := 19) dy_p06_9 rfl
theorem dX1_haveSum_103 : decode cX1_haveSum 103 = .ok (.ireturn, 1) := dz_at (i := 20) dy_p06_9 rfl
noncomputable def o_X1_haveSum (w : Bool) (p0 : Int64) (p1 : Int64) : Bool :=
  if (o_X1_isEndless w p0) = true then (if p0 = p1 then true
    else if (o_X1_isQuarter w p1) = true then true
    else false)
  else if (o_X1_isEndless w p1) = true then (o_X1_isQuarter w p0)
  else if (o_X1_isQuarter w p0) = true then (if (o_X1_isQuarter w p1) = true then (if (((o_X1_quarters w p0).toInt64) + ((o_X1_quarters w p1).toInt64)) < ((-(wQb w)).toInt64) then false
      else if ((wQb w).toInt64) < (((o_X1_quarters w p0).toInt64) + ((o_X1_quarters w p1).toInt64)) then false
      else true)
    else false)
  else false
set_option maxHeartbeats 4000000 in
set_option maxRecDepth 100000 in
theorem k_X1_haveSum (l : Launch) (dC : Nat → ClassId) (dI : Nat → Nat → Nat) (h0 : Nat) (w : Bool) (sz : Nat) (p0 : Int64) (p1 : Int64) : Met l yX1_haveSum wsX1_haveSum ({ frames := 3, cells := 0, slots := 0, locals := 74 }) (va_Pc [.ref h0, .long p0, .long p1] (xB (dC, dI) xCl [(h0, eW w)] [] sz)) (va_Qi (fun (r : Int32) (_ : Unit) => r = b2i (o_X1_haveSum w p0 p1)) (fun _ _ => True) (aN sz)) 0 0 (aN sz) := by
  refine Met.ofW (cc := cX1_haveSum) (maxL := 7) (ret := (some .boolean)) (by decide +kernel) rfl ?_
  intro p e s m args below meth c s₁ B hml hv
  obtain ⟨rfl, hsz, hP, hK⟩ := hv
  have hx := B.exec
  have hb := B.bytes
  have hr := B.returns
  have hts := atoms_spec (ws := wsX1_haveSum) B.pre
  have hown : s.vm.findClass RX1 = some m.cls := findClass_of_methodNamed B.named
  have hlocks := B.notSynchronized
  subst hsz
  have hA : ∀ q : Nat, s.heap.size ≤ q → aN s.heap.size q := fun _ h => h
  have hS : va_S (aN s.heap.size) s.heap s.heap [] := va_S.rf
  have hP : va_P (dC, dI) xCl [(h0, eW w)] s.heap := hP
  have hl := lv_entry ([.ref h0, .long p0, .long p1]) (n := 7) (Nat.le_of_ble_eq_true rfl)
  rw [lg_entry_eq]
  generalize (lg_sl ([.ref h0, .long p0, .long p1]) ++ List.replicate (7 - (lg_sl ([.ref h0, .long p0, .long p1])).length) Slot.unset).toArray = ls at hl ⊢
  have hl : lv_has ls 7 [(0, .ref h0), (1, .long p0), (3, .long p1)] := hl
  refine lv_aload_n hx hb dX1_haveSum_0 rfl (lv_at hl 0 rfl) ?_
  refine lv_lload_n hx hb dX1_haveSum_1 rfl (lv_at hl 1 rfl) ?_
  have hPc := hP.sub (ws' := [(h0, eW w)]) [0] rfl
  have hKc := hK.sub (tys' := []) [] rfl
  refine va_calli (va_runV (As := [.long p0]) (rest := []) ⟨hx, hb, hml, hown, hts⟩ (k_X1_isEndless l dC dI h0 w s.heap.size p0) (cwV 1 hts gX1_haveSum_X1_isEndless rfl rfl rfl (by decide +kernel) ⟨Nat.le_of_ble_eq_true rfl, Nat.le_of_ble_eq_true rfl⟩) (xB.preV hKc hPc (ci := 3) (q0 := 0) rfl rfl) rfl rfl hl.1 rfl (lv_room (Nat.le_of_ble_eq_true rfl)) dX1_haveSum_2 ⟨Nat.le_of_ble_eq_true rfl, Nat.le_of_ble_eq_true rfl⟩) hS xA_old (fun q h => hA q (Nat.le_trans hS.1 h)) (fun r_1 u t H locs ht hvm hw hB hz hk hS => ?_)
  replace hw : r_1 = b2i (o_X1_isEndless w p0) := hw
  subst r_1
  have hP := xP_keep hP hk
  refine xz_eq (tgt := 28) hx hb dX1_haveSum_5 (by decide +kernel) (fun c_2 => ?_) (fun c_2 => ?_)
  · skip
    refine lv_aload_n hx hb dX1_haveSum_28 rfl (lv_at hl 0 rfl) ?_
    refine lv_lload_n hx hb dX1_haveSum_29 rfl (lv_at hl 2 rfl) ?_
    have hPc := hP.sub (ws' := [(h0, eW w)]) [0] rfl
    have hKc := hK.sub (tys' := []) [] rfl
    refine va_calli (va_runV (As := [.long p1]) (rest := []) ⟨hx, hb, hml, hown, hts⟩ (k_X1_isEndless l dC dI h0 w H.size p1) (cwV 1 hts gX1_haveSum_X1_isEndless rfl rfl rfl (by decide +kernel) ⟨Nat.le_of_ble_eq_true rfl, Nat.le_of_ble_eq_true rfl⟩) (xB.preV hKc hPc (ci := 3) (q0 := 0) rfl rfl) rfl rfl hl.1 rfl (lv_room (Nat.le_of_ble_eq_true rfl)) dX1_haveSum_30 ⟨Nat.le_of_ble_eq_true rfl, Nat.le_of_ble_eq_true rfl⟩) hS xA_old (fun q h => hA q (Nat.le_trans hS.1 h)) (fun r_3 u t H locs ht hvm hw hB hz hk hS => ?_)
    replace hw : r_3 = b2i (o_X1_isEndless w p1) := hw
    subst r_3
    have hP := xP_keep hP hk
    refine xz_eq (tgt := 42) hx hb dX1_haveSum_33 (by decide +kernel) (fun c_4 => ?_) (fun c_4 => ?_)
    · skip
      refine lv_aload_n hx hb dX1_haveSum_42 rfl (lv_at hl 0 rfl) ?_
      refine lv_lload_n hx hb dX1_haveSum_43 rfl (lv_at hl 1 rfl) ?_
      have hPc := hP.sub (ws' := [(h0, eW w)]) [0] rfl
      have hKc := hK.sub (tys' := []) [] rfl
      refine va_calli (va_runV (As := [.long p0]) (rest := []) ⟨hx, hb, hml, hown, hts⟩ (k_X1_isQuarter l dC dI h0 w H.size p0) (cwV 1 hts gX1_haveSum_X1_isQuarter rfl rfl rfl (by decide +kernel) ⟨Nat.le_of_ble_eq_true rfl, Nat.le_of_ble_eq_true rfl⟩) (xB.preV hKc hPc (ci := 3) (q0 := 0) rfl rfl) rfl rfl hl.1 rfl (lv_room (Nat.le_of_ble_eq_true rfl)) dX1_haveSum_44 ⟨Nat.le_of_ble_eq_true rfl, Nat.le_of_ble_eq_true rfl⟩) hS xA_old (fun q h => hA q (Nat.le_trans hS.1 h)) (fun r_5 u t H locs ht hvm hw hB hz hk hS => ?_)
      replace hw : r_5 = b2i (o_X1_isQuarter w p0) := hw
      subst r_5
      have hP := xP_keep hP hk
      refine xz_eq (tgt := 58) hx hb dX1_haveSum_47 (by decide +kernel) (fun c_6 => ?_) (fun c_6 => ?_)
      · skip
        refine lv_iconst (v := 0) hx hb dX1_haveSum_58 (by decide +kernel) ?_
        have he : o_X1_haveSum w p0 p1 = false := by (rw [o_X1_haveSum, if_neg c_2, if_neg c_4, if_neg c_6]) <;> rfl
        refine W.widen (k := 0) (n := 0) (by omega) (by omega) ?_
        exact W.zret (v := 0) (ty := .boolean) hx hb hr rfl (fun t ht hW => ⟨⟨_, (), rfl, (by (rw [he]) <;> rfl), trivial⟩, hS.F ht⟩) hS.2.2 dX1_haveSum_59
      · skip
        refine lv_aload_n hx hb dX1_haveSum_50 rfl (lv_at hl 0 rfl) ?_
        refine lv_lload_n hx hb dX1_haveSum_51 rfl (lv_at hl 2 rfl) ?_
        have hPc := hP.sub (ws' := [(h0, eW w)]) [0] rfl
        have hKc := hK.sub (tys' := []) [] rfl
        refine va_calli (va_runV (As := [.long p1]) (rest := []) ⟨hx, hb, hml, hown, hts⟩ (k_X1_isQuarter l dC dI h0 w H.size p1) (cwV 1 hts gX1_haveSum_X1_isQuarter rfl rfl rfl (by decide +kernel) ⟨Nat.le_of_ble_eq_true rfl, Nat.le_of_ble_eq_true rfl⟩) (xB.preV hKc hPc (ci := 3) (q0 := 0) rfl rfl) rfl rfl hl.1 rfl (lv_room (Nat.le_of_ble_eq_true rfl)) dX1_haveSum_52 ⟨Nat.le_of_ble_eq_true rfl, Nat.le_of_ble_eq_true rfl⟩) hS xA_old (fun q h => hA q (Nat.le_trans hS.1 h)) (fun r_7 u t H locs ht hvm hw hB hz hk hS => ?_)
        replace hw : r_7 = b2i (o_X1_isQuarter w p1) := hw
        subst r_7
        have hP := xP_keep hP hk
        refine xz_ne (tgt := 60) hx hb dX1_haveSum_55 (by decide +kernel) (fun c_8 => ?_) (fun c_8 => ?_)
        · skip
          refine lv_aload_n hx hb dX1_haveSum_60 rfl (lv_at hl 0 rfl) ?_
          refine lv_lload_n hx hb dX1_haveSum_61 rfl (lv_at hl 1 rfl) ?_
          have hPc := hP.sub (ws' := [(h0, eW w)]) [0] rfl
          have hKc := hK.sub (tys' := []) [] rfl
          refine va_calli (va_runV (As := [.long p0]) (rest := []) ⟨hx, hb, hml, hown, hts⟩ (k_X1_quarters l dC dI h0 w H.size p0) (cwV 1 hts gX1_haveSum_X1_quarters rfl rfl rfl (by decide +kernel) ⟨Nat.le_of_ble_eq_true rfl, Nat.le_of_ble_eq_true rfl⟩) (xB.preV hKc hPc (ci := 3) (q0 := 0) rfl rfl) rfl rfl hl.1 rfl (lv_room (Nat.le_of_ble_eq_true rfl)) dX1_haveSum_62 ⟨Nat.le_of_ble_eq_true rfl, Nat.le_of_ble_eq_true rfl⟩) hS xA_old (fun q h => hA q (Nat.le_trans hS.1 h)) (fun r_9 u t H locs ht hvm hw hB hz hk hS => ?_)
          replace hw : r_9 = (o_X1_quarters w p0) := hw
          subst r_9
          have hP := xP_keep hP hk
          refine lv_i2l (v := ((o_X1_quarters w p0).toInt64)) hx hb dX1_haveSum_65 rfl ?_
          refine lv_aload_n hx hb dX1_haveSum_66 rfl (lv_at hl 0 rfl) ?_
          refine lv_lload_n hx hb dX1_haveSum_67 rfl (lv_at hl 2 rfl) ?_
          have hPc := hP.sub (ws' := [(h0, eW w)]) [0] rfl
          have hKc := hK.sub (tys' := []) [] rfl
          refine va_calli (va_runV (As := [.long p1]) (rest := [.long ((o_X1_quarters w p0).toInt64)]) ⟨hx, hb, hml, hown, hts⟩ (k_X1_quarters l dC dI h0 w H.size p1) (cwV 1 hts gX1_haveSum_X1_quarters rfl rfl rfl (by decide +kernel) ⟨Nat.le_of_ble_eq_true rfl, Nat.le_of_ble_eq_true rfl⟩) (xB.preV hKc hPc (ci := 3) (q0 := 0) rfl rfl) rfl rfl hl.1 rfl (lv_room (Nat.le_of_ble_eq_true rfl)) dX1_haveSum_68 ⟨Nat.le_of_ble_eq_true rfl, Nat.le_of_ble_eq_true rfl⟩) hS xA_old (fun q h => hA q (Nat.le_trans hS.1 h)) (fun r_10 u t H locs ht hvm hw hB hz hk hS => ?_)
          replace hw : r_10 = (o_X1_quarters w p1) := hw
          subst r_10
          have hP := xP_keep hP hk
          refine lv_i2l (v := ((o_X1_quarters w p1).toInt64)) hx hb dX1_haveSum_71 rfl ?_
          refine lv_ladd hx hb dX1_haveSum_72 ?_
          refine lv_lstore (lv' := [(5, .long (((o_X1_quarters w p0).toInt64) + ((o_X1_quarters w p1).toInt64))), (0, .ref h0), (1, .long p0), (3, .long p1)]) hx hb dX1_haveSum_73 hl (by decide +kernel) rfl (fun ls hl => ?_)
          refine lv_lload hx hb dX1_haveSum_75 (lv_at hl 0 rfl) ?_
          refine lv_aload_n hx hb dX1_haveSum_77 rfl (lv_at hl 1 rfl) ?_
          refine va_get (D := (dC, dI)) (ci := 3) (v := .int (wQb w)) (C := RX1) (T := TX1) (N := 7) hx hb hts (by decide +kernel) hown hK hP 0 rfl rfl 6 (by decide +kernel) (hts (.fieldLink RX1 15 "Edgefloats$Width" "quarterBound" "I") (by decide +kernel)) (fun _ h9 => h9) rfl dX1_haveSum_78 ?_
          refine lv_ineg hx hb dX1_haveSum_81 ?_
          refine lv_i2l (v := ((-(wQb w)).toInt64)) hx hb dX1_haveSum_82 rfl ?_
          refine xc_lt (tgt := 102) hx hb dX1_haveSum_83 dX1_haveSum_84 (by decide +kernel) (fun c_11 => ?_) (fun c_11 => ?_)
          · skip
            refine lv_iconst (v := 0) hx hb dX1_haveSum_102 (by decide +kernel) ?_
            have he : o_X1_haveSum w p0 p1 = false := by (rw [o_X1_haveSum, if_neg c_2, if_neg c_4, if_pos c_6, if_pos c_8, if_pos c_11]) <;> rfl
            refine W.widen (k := 0) (n := 0) (by omega) (by omega) ?_
            exact W.zret (v := 0) (ty := .boolean) hx hb hr rfl (fun t ht hW => ⟨⟨_, (), rfl, (by (rw [he]) <;> rfl), trivial⟩, hS.F ht⟩) hS.2.2 dX1_haveSum_103
          · skip
            refine lv_lload hx hb dX1_haveSum_87 (lv_at hl 0 rfl) ?_
            refine lv_aload_n hx hb dX1_haveSum_89 rfl (lv_at hl 1 rfl) ?_
            refine va_get (D := (dC, dI)) (ci := 3) (v := .int (wQb w)) (C := RX1) (T := TX1) (N := 7) hx hb hts (by decide +kernel) hown hK hP 0 rfl rfl 6 (by decide +kernel) (hts (.fieldLink RX1 15 "Edgefloats$Width" "quarterBound" "I") (by decide +kernel)) (fun _ h9 => h9) rfl dX1_haveSum_90 ?_
            refine lv_i2l (v := ((wQb w).toInt64)) hx hb dX1_haveSum_93 rfl ?_
            refine xc_gt (tgt := 102) hx hb dX1_haveSum_94 dX1_haveSum_95 (by decide +kernel) (fun c_12 => ?_) (fun c_12 => ?_)
            · skip
              refine lv_iconst (v := 0) hx hb dX1_haveSum_102 (by decide +kernel) ?_
              have he : o_X1_haveSum w p0 p1 = false := by (rw [o_X1_haveSum, if_neg c_2, if_neg c_4, if_pos c_6, if_pos c_8, if_neg c_11, if_pos c_12]) <;> rfl
              refine W.widen (k := 0) (n := 0) (by omega) (by omega) ?_
              exact W.zret (v := 0) (ty := .boolean) hx hb hr rfl (fun t ht hW => ⟨⟨_, (), rfl, (by (rw [he]) <;> rfl), trivial⟩, hS.F ht⟩) hS.2.2 dX1_haveSum_103
            · skip
              refine lv_iconst (v := 1) hx hb dX1_haveSum_98 (by decide +kernel) ?_
              refine lv_goto (tgt := 103) hx hb dX1_haveSum_99 (by decide +kernel) ?_
              have he : o_X1_haveSum w p0 p1 = true := by (rw [o_X1_haveSum, if_neg c_2, if_neg c_4, if_pos c_6, if_pos c_8, if_neg c_11, if_neg c_12]) <;> rfl
              refine W.widen (k := 0) (n := 0) (by omega) (by omega) ?_
              exact W.zret (v := 1) (ty := .boolean) hx hb hr rfl (fun t ht hW => ⟨⟨_, (), rfl, (by (rw [he]) <;> rfl), trivial⟩, hS.F ht⟩) hS.2.2 dX1_haveSum_103
        · skip
          refine lv_iconst (v := 0) hx hb dX1_haveSum_58 (by decide +kernel) ?_
          have he : o_X1_haveSum w p0 p1 = false := by (rw [o_X1_haveSum, if_neg c_2, if_neg c_4, if_pos c_6, if_neg c_8]) <;> rfl
          refine W.widen (k := 0) (n := 0) (by omega) (by omega) ?_
          exact W.zret (v := 0) (ty := .boolean) hx hb hr rfl (fun t ht hW => ⟨⟨_, (), rfl, (by (rw [he]) <;> rfl), trivial⟩, hS.F ht⟩) hS.2.2 dX1_haveSum_59
    · skip
      refine lv_aload_n hx hb dX1_haveSum_36 rfl (lv_at hl 0 rfl) ?_
      refine lv_lload_n hx hb dX1_haveSum_37 rfl (lv_at hl 1 rfl) ?_
      have hPc := hP.sub (ws' := [(h0, eW w)]) [0] rfl
      have hKc := hK.sub (tys' := []) [] rfl
      refine va_calli (va_runV (As := [.long p0]) (rest := []) ⟨hx, hb, hml, hown, hts⟩ (k_X1_isQuarter l dC dI h0 w H.size p0) (cwV 1 hts gX1_haveSum_X1_isQuarter rfl rfl rfl (by decide +kernel) ⟨Nat.le_of_ble_eq_true rfl, Nat.le_of_ble_eq_true rfl⟩) (xB.preV hKc hPc (ci := 3) (q0 := 0) rfl rfl) rfl rfl hl.1 rfl (lv_room (Nat.le_of_ble_eq_true rfl)) dX1_haveSum_38 ⟨Nat.le_of_ble_eq_true rfl, Nat.le_of_ble_eq_true rfl⟩) hS xA_old (fun q h => hA q (Nat.le_trans hS.1 h)) (fun r_13 u t H locs ht hvm hw hB hz hk hS => ?_)
      replace hw : r_13 = b2i (o_X1_isQuarter w p0) := hw
      subst r_13
      have hP := xP_keep hP hk
      have he : o_X1_haveSum w p0 p1 = (o_X1_isQuarter w p0) := by (rw [o_X1_haveSum, if_neg c_2, if_pos c_4]) <;> rfl
      refine W.widen (k := 0) (n := 0) (by omega) (by omega) ?_
      exact W.zret (v := (b2i (o_X1_isQuarter w p0))) (ty := .boolean) hx hb hr (b2i_nar _) (fun t ht hW => ⟨⟨_, (), rfl, (by (rw [he]) <;> rfl), trivial⟩, hS.F ht⟩) hS.2.2 dX1_haveSum_41
  · skip
    refine lv_lload_n hx hb dX1_haveSum_8 rfl (lv_at hl 1 rfl) ?_
    refine lv_lload_n hx hb dX1_haveSum_9 rfl (lv_at hl 2 rfl) ?_
    refine xc_eq (tgt := 22) hx hb dX1_haveSum_10 dX1_haveSum_11 (by decide +kernel) (fun c_14 => ?_) (fun c_14 => ?_)
    · skip
      refine lv_iconst (v := 1) hx hb dX1_haveSum_22 (by decide +kernel) ?_
      refine lv_goto (tgt := 27) hx hb dX1_haveSum_23 (by decide +kernel) ?_
      have he : o_X1_haveSum w p0 p1 = true := by (rw [o_X1_haveSum, if_pos c_2, if_pos c_14]) <;> rfl
      refine W.widen (k := 0) (n := 0) (by omega) (by omega) ?_
      exact W.zret (v := 1) (ty := .boolean) hx hb hr rfl (fun t ht hW => ⟨⟨_, (), rfl, (by (rw [he]) <;> rfl), trivial⟩, hS.F ht⟩) hS.2.2 dX1_haveSum_27
    · skip
      refine lv_aload_n hx hb dX1_haveSum_14 rfl (lv_at hl 0 rfl) ?_
      refine lv_lload_n hx hb dX1_haveSum_15 rfl (lv_at hl 2 rfl) ?_
      have hPc := hP.sub (ws' := [(h0, eW w)]) [0] rfl
      have hKc := hK.sub (tys' := []) [] rfl
      refine va_calli (va_runV (As := [.long p1]) (rest := []) ⟨hx, hb, hml, hown, hts⟩ (k_X1_isQuarter l dC dI h0 w H.size p1) (cwV 1 hts gX1_haveSum_X1_isQuarter rfl rfl rfl (by decide +kernel) ⟨Nat.le_of_ble_eq_true rfl, Nat.le_of_ble_eq_true rfl⟩) (xB.preV hKc hPc (ci := 3) (q0 := 0) rfl rfl) rfl rfl hl.1 rfl (lv_room (Nat.le_of_ble_eq_true rfl)) dX1_haveSum_16 ⟨Nat.le_of_ble_eq_true rfl, Nat.le_of_ble_eq_true rfl⟩) hS xA_old (fun q h => hA q (Nat.le_trans hS.1 h)) (fun r_15 u t H locs ht hvm hw hB hz hk hS => ?_)
      replace hw : r_15 = b2i (o_X1_isQuarter w p1) := hw
      subst r_15
      have hP := xP_keep hP hk
      refine xz_eq (tgt := 26) hx hb dX1_haveSum_19 (by decide +kernel) (fun c_16 => ?_) (fun c_16 => ?_)
      · skip
        refine lv_iconst (v := 0) hx hb dX1_haveSum_26 (by decide +kernel) ?_
        have he : o_X1_haveSum w p0 p1 = false := by (rw [o_X1_haveSum, if_pos c_2, if_neg c_14, if_neg c_16]) <;> rfl
        refine W.widen (k := 0) (n := 0) (by omega) (by omega) ?_
        exact W.zret (v := 0) (ty := .boolean) hx hb hr rfl (fun t ht hW => ⟨⟨_, (), rfl, (by (rw [he]) <;> rfl), trivial⟩, hS.F ht⟩) hS.2.2 dX1_haveSum_27
      · skip
        refine lv_iconst (v := 1) hx hb dX1_haveSum_22 (by decide +kernel) ?_
        refine lv_goto (tgt := 27) hx hb dX1_haveSum_23 (by decide +kernel) ?_
        have he : o_X1_haveSum w p0 p1 = true := by (rw [o_X1_haveSum, if_pos c_2, if_neg c_14, if_pos c_16]) <;> rfl
        refine W.widen (k := 0) (n := 0) (by omega) (by omega) ?_
        exact W.zret (v := 1) (ty := .boolean) hx hb hr rfl (fun t ht hW => ⟨⟨_, (), rfl, (by (rw [he]) <;> rfl), trivial⟩, hS.F ht⟩) hS.2.2 dX1_haveSum_27
theorem cl_X1_sum_1 : ∀ w ∈ wsX1_sum_r1, w ∈ wsX1_sum := fun _ h => (List.mem_cons_of_mem _ (List.mem_append_left _ (List.mem_append_left _ h)))
theorem cl_X1_sum_2 : ∀ w ∈ wsX1_sum_r2, w ∈ wsX1_sum := fun _ h => (List.mem_cons_of_mem _ (List.mem_append_left _ (List.mem_append_right _ h)))
theorem cl_X1_sum_3 : ∀ w ∈ wsX10, w ∈ wsX1_sum := fun _ h => (List.mem_cons_of_mem _ (List.mem_append_right _ h))
set_option maxRecDepth 20000 in
theorem ggX1_sum_X1_isEndless : GoodIn wsX1_sum wsX1_isEndless := goodIn_sub (List.forall_mem_cons.mpr ⟨(cl_X1_sum_1 _ (List.mem_of_getElem? (i := 5) rfl)), fun w h => (List.mem_append.mp h).elim ((List.forall_mem_cons.mpr ⟨(cl_X1_sum_1 _ (List.mem_of_getElem? (i := 6) rfl)), List.forall_mem_cons.mpr ⟨(cl_X1_sum_1 _ (List.mem_of_getElem? (i := 7) rfl)), List.forall_mem_cons.mpr ⟨(cl_X1_sum_1 _ (List.mem_of_getElem? (i := 8) rfl)), List.forall_mem_cons.mpr ⟨(cl_X1_sum_1 _ (List.mem_of_getElem? (i := 9) rfl)), List.forall_mem_cons.mpr ⟨(cl_X1_sum_1 _ (List.mem_of_getElem? (i := 4) rfl)), List.forall_mem_cons.mpr ⟨(cl_X1_sum_1 _ (List.mem_of_getElem? (i := 10) rfl)), List.forall_mem_cons.mpr ⟨(cl_X1_sum_1 _ (List.mem_of_getElem? (i := 11) rfl)), List.forall_mem_cons.mpr ⟨(cl_X1_sum_1 _ (List.mem_of_getElem? (i := 12) rfl)), List.forall_mem_cons.mpr ⟨(cl_X1_sum_1 _ (List.mem_of_getElem? (i := 13) rfl)), List.forall_mem_cons.mpr ⟨(cl_X1_sum_1 _ (List.mem_of_getElem? (i := 14) rfl)), List.forall_mem_cons.mpr ⟨(cl_X1_sum_1 _ (List.mem_of_getElem? (i := 15) rfl)), List.forall_mem_cons.mpr ⟨(cl_X1_sum_1 _ (List.mem_of_getElem? (i := 16) rfl)), fun _ h => absurd h List.not_mem_nil⟩⟩⟩⟩⟩⟩⟩⟩⟩⟩⟩⟩) w) ((cl_X1_sum_3) w)⟩) (by decide +kernel)
set_option maxRecDepth 20000 in
theorem gX1_sum_X1_isEndless : GoodIn wsX1_sum (wsV RX1 66 RX1 yX1_isEndless wsX1_isEndless) := goodIn_app (goodIn_sub (List.forall_mem_cons.mpr ⟨(cl_X1_sum_1 _ (List.mem_of_getElem? (i := 1) rfl)), List.forall_mem_cons.mpr ⟨(cl_X1_sum_1 _ (List.mem_of_getElem? (i := 2) rfl)), List.forall_mem_cons.mpr ⟨(cl_X1_sum_1 _ (List.mem_of_getElem? (i := 3) rfl)), List.forall_mem_cons.mpr ⟨(cl_X1_sum_1 _ (List.mem_of_getElem? (i := 4) rfl)), fun _ h => absurd h List.not_mem_nil⟩⟩⟩⟩) (by decide +kernel)) ggX1_sum_X1_isEndless
set_option maxRecDepth 20000 in
theorem ggX1_sum_X1_quarters : GoodIn wsX1_sum wsX1_quarters := goodIn_sub (List.forall_mem_cons.mpr ⟨(cl_X1_sum_1 _ (List.mem_of_getElem? (i := 20) rfl)), fun w h => (List.mem_append.mp h).elim ((fun w h => (List.mem_append.mp h).elim ((List.forall_mem_cons.mpr ⟨(cl_X1_sum_1 _ (List.mem_of_getElem? (i := 21) rfl)), List.forall_mem_cons.mpr ⟨(cl_X1_sum_1 _ (List.mem_of_getElem? (i := 22) rfl)), List.forall_mem_cons.mpr ⟨(cl_X1_sum_1 _ (List.mem_of_getElem? (i := 23) rfl)), List.forall_mem_cons.mpr ⟨(cl_X1_sum_1 _ (List.mem_of_getElem? (i := 11) rfl)), List.forall_mem_cons.mpr ⟨(cl_X1_sum_2 _ (List.mem_of_getElem? (i := 0) rfl)), List.forall_mem_cons.mpr ⟨(cl_X1_sum_2 _ (List.mem_of_getElem? (i := 1) rfl)), List.forall_mem_cons.mpr ⟨(cl_X1_sum_2 _ (List.mem_of_getElem? (i := 2) rfl)), List.forall_mem_cons.mpr ⟨(cl_X1_sum_1 _ (List.mem_of_getElem? (i := 4) rfl)), List.forall_mem_cons.mpr ⟨(cl_X1_sum_2 _ (List.mem_of_getElem? (i := 3) rfl)), List.forall_mem_cons.mpr ⟨(cl_X1_sum_2 _ (List.mem_of_getElem? (i := 4) rfl)), List.forall_mem_cons.mpr ⟨(cl_X1_sum_1 _ (List.mem_of_getElem? (i := 7) rfl)), List.forall_mem_cons.mpr ⟨(cl_X1_sum_1 _ (List.mem_of_getElem? (i := 8) rfl)), List.forall_mem_cons.mpr ⟨(cl_X1_sum_1 _ (List.mem_of_getElem? (i := 9) rfl)), List.forall_mem_cons.mpr ⟨(cl_X1_sum_1 _ (List.mem_of_getElem? (i := 10) rfl)), List.forall_mem_cons.mpr ⟨(cl_X1_sum_1 _ (List.mem_of_getElem? (i := 6) rfl)), List.forall_mem_cons.mpr ⟨(cl_X1_sum_2 _ (List.mem_of_getElem? (i := 5) rfl)), List.forall_mem_cons.mpr ⟨(cl_X1_sum_2 _ (List.mem_of_getElem? (i := 6) rfl)), List.forall_mem_cons.mpr ⟨(cl_X1_sum_2 _ (List.mem_of_getElem? (i := 7) rfl)), List.forall_mem_cons.mpr ⟨(cl_X1_sum_2 _ (List.mem_of_getElem? (i := 8) rfl)), List.forall_mem_cons.mpr ⟨(cl_X1_sum_1 _ (List.mem_of_getElem? (i := 12) rfl)), List.forall_mem_cons.mpr ⟨(cl_X1_sum_1 _ (List.mem_of_getElem? (i := 13) rfl)), List.forall_mem_cons.mpr ⟨(cl_X1_sum_1 _ (List.mem_of_getElem? (i := 14) rfl)), List.forall_mem_cons.mpr ⟨(cl_X1_sum_1 _ (List.mem_of_getElem? (i := 15) rfl)), List.forall_mem_cons.mpr ⟨(cl_X1_sum_1 _ (List.mem_of_getElem? (i := 16) rfl)), fun _ h => absurd h List.not_mem_nil⟩⟩⟩⟩⟩⟩⟩⟩⟩⟩⟩⟩⟩⟩⟩⟩⟩⟩⟩⟩⟩⟩⟩⟩) w) ((List.forall_mem_cons.mpr ⟨(cl_X1_sum_2 _ (List.mem_of_getElem? (i := 9) rfl)), List.forall_mem_cons.mpr ⟨(cl_X1_sum_2 _ (List.mem_of_getElem? (i := 10) rfl)), List.forall_mem_cons.mpr ⟨(cl_X1_sum_2 _ (List.mem_of_getElem? (i := 11) rfl)), List.forall_mem_cons.mpr ⟨(cl_X1_sum_2 _ (List.mem_of_getElem? (i := 12) rfl)), List.forall_mem_cons.mpr ⟨(cl_X1_sum_1 _ (List.mem_of_getElem? (i := 0) rfl)), fun _ h => absurd h List.not_mem_nil⟩⟩⟩⟩⟩) w)) w) ((cl_X1_sum_3) w)⟩) (by decide +kernel)
set_option maxRecDepth 20000 in
theorem gX1_sum_X1_quarters : GoodIn wsX1_sum (wsV RX1 63 RX1 yX1_quarters wsX1_quarters) := goodIn_app (goodIn_sub (List.forall_mem_cons.mpr ⟨(cl_X1_sum_1 _ (List.mem_of_getElem? (i := 17) rfl)), List.forall_mem_cons.mpr ⟨(cl_X1_sum_1 _ (List.mem_of_getElem? (i := 18) rfl)), List.forall_mem_cons.mpr ⟨(cl_X1_sum_1 _ (List.mem_of_getElem? (i := 19) rfl)), List.forall_mem_cons.mpr ⟨(cl_X1_sum_1 _ (List.mem_of_getElem? (i := 4) rfl)), fun _ h => absurd h List.not_mem_nil⟩⟩⟩⟩) (by decide +kernel)) ggX1_sum_X1_quarters
set_option maxRecDepth 20000 in
theorem ggX1_sum_X1_ofQuarters : GoodIn wsX1_sum wsX1_ofQuarters := goodIn_sub (List.forall_mem_cons.mpr ⟨(cl_X1_sum_2 _ (List.mem_of_getElem? (i := 16) rfl)), fun w h => (List.mem_append.mp h).elim ((List.forall_mem_cons.mpr ⟨(cl_X1_sum_1 _ (List.mem_of_getElem? (i := 21) rfl)), List.forall_mem_cons.mpr ⟨(cl_X1_sum_1 _ (List.mem_of_getElem? (i := 11) rfl)), List.forall_mem_cons.mpr ⟨(cl_X1_sum_1 _ (List.mem_of_getElem? (i := 16) rfl)), List.forall_mem_cons.mpr ⟨(cl_X1_sum_1 _ (List.mem_of_getElem? (i := 0) rfl)), List.forall_mem_cons.mpr ⟨(cl_X1_sum_2 _ (List.mem_of_getElem? (i := 5) rfl)), List.forall_mem_cons.mpr ⟨(cl_X1_sum_2 _ (List.mem_of_getElem? (i := 6) rfl)), List.forall_mem_cons.mpr ⟨(cl_X1_sum_2 _ (List.mem_of_getElem? (i := 7) rfl)), List.forall_mem_cons.mpr ⟨(cl_X1_sum_1 _ (List.mem_of_getElem? (i := 4) rfl)), List.forall_mem_cons.mpr ⟨(cl_X1_sum_2 _ (List.mem_of_getElem? (i := 8) rfl)), fun _ h => absurd h List.not_mem_nil⟩⟩⟩⟩⟩⟩⟩⟩⟩) w) ((cl_X1_sum_3) w)⟩) (by decide +kernel)
set_option maxRecDepth 20000 in
theorem gX1_sum_X1_ofQuarters : GoodIn wsX1_sum (wsV RX1 72 RX1 yX1_ofQuarters wsX1_ofQuarters) := goodIn_app (goodIn_sub (List.forall_mem_cons.mpr ⟨(cl_X1_sum_2 _ (List.mem_of_getElem? (i := 13) rfl)), List.forall_mem_cons.mpr ⟨(cl_X1_sum_2 _ (List.mem_of_getElem? (i := 14) rfl)), List.forall_mem_cons.mpr ⟨(cl_X1_sum_2 _ (List.mem_of_getElem? (i := 15) rfl)), List.forall_mem_cons.mpr ⟨(cl_X1_sum_1 _ (List.mem_of_getElem? (i := 4) rfl)), fun _ h => absurd h List.not_mem_nil⟩⟩⟩⟩) (by decide +kernel)) ggX1_sum_X1_ofQuarters
noncomputable def dz_p06_10 : List (Nat × Instr × Nat) := [(0, (.aload_n 0, 1)), (1, (.lload_n 1, 1)), (2, (.invokevirtual 66, 3)), (5, (.ifCond .eq 5, 3)), (8, (.lload_n 1, 1)), (9, (.lreturn, 1)), (10, (.aload_n 0, 1)), (11, (.lload_n 3, 1)), (12, (.invokevirtual 66, 3)), (15, (.ifCond .eq 5, 3)), (18, (.lload_n 3, 1)), (19, (.lreturn, 1)), (20, (.lload_n 1, 1)), (21, (.aload_n 0, 1)), (22, (.getfield 25, 3)), (25, (.lcmp, 1)), (26, (.ifCond .ne 17, 3)), (29, (.lload_n 3, 1)), (30, (.aload_n 0, 1)), (31, (.getfield 25, 3)), (34, (.lcmp, 1)), (35, (.ifCond .ne 8, 3)), (38, (.aload_n 0, 1)), (39, (.getfield 25, 3)), (42, (.lreturn, 1)), (43, (.aload_n 0, 1)), (44, (.aload_n 0, 1)), (45, (.lload_n 1, 1)), (46, (.invokevirtual 63, 3)), (49, (.aload_n 0, 1)), (50, (.lload_n 3, 1)), (51, (.invokevirtual 63, 3)), (54, (.iadd, 1)), (55, (.invokevirtual 72, 3)), (58, (.lreturn, 1))]
theorem dy_p06_10 : dz_ok cX1_sum dz_p06_10 = true := by decide +kernel
theorem dX1_sum_0 : decode cX1_sum 0 = .ok (.aload_n 0, 1) := dz_at (i := 0) dy_p06_10 rfl
theorem dX1_sum_1 : decode cX1_sum 1 = .ok (.lload_n 1, 1) := dz_at (i := 1) dy_p06_10 rfl
theorem dX1_sum_2 : decode cX1_sum 2 = .ok (.invokevirtual 66, 3) := dz_at (i := 2) dy_p06_10 rfl
theorem dX1_sum_5 : decode cX1_sum 5 = .ok (.ifCond .eq 5, 3) := dz_at (i := 3) dy_p06_10 rfl
theorem dX1_sum_8 : decode cX1_sum 8 = .ok (.lload_n 1, 1) := dz_at (i := 4) dy_p06_10 rfl
theorem dX1_sum_9 : decode cX1_sum 9 = .ok (.lreturn, 1) := dz_at (i := 5) dy_p06_10 rfl
theorem dX1_sum_10 : decode cX1_sum 10 = .ok (.aload_n 0, 1) := dz_at (i := 6) dy_p06_10 rfl
theorem dX1_sum_11 : decode cX1_sum 11 = .ok (.lload_n 3, 1) := dz_at (i := 7) dy_p06_10 rfl
theorem dX1_sum_12 : decode cX1_sum 12 = .ok (.invokevirtual 66, 3) := dz_at (i := 8) dy_p06_10 rfl
theorem dX1_sum_15 : decode cX1_sum 15 = .ok (.ifCond .eq 5, 3) := dz_at (i := 9) dy_p06_10 rfl
theorem dX1_sum_18 : decode cX1_sum 18 = .ok (.lload_n 3, 1) := dz_at (i := 10) dy_p06_10 rfl
theorem dX1_sum_19 : decode cX1_sum 19 = .ok (.lreturn, 1) := dz_at (i := 11) dy_p06_10 rfl
theorem dX1_sum_20 : decode cX1_sum 20 = .ok (.lload_n 1, 1) := dz_at (i := 12) dy_p06_10 rfl
theorem dX1_sum_21 : decode cX1_sum 21 = .ok (.aload_n 0, 1) := dz_at (i := 13) dy_p06_10 rfl
theorem dX1_sum_22 : decode cX1_sum 22 = .ok (.getfield 25, 3) := dz_at (i := 14) dy_p06_10 rfl
theorem dX1_sum_25 : decode cX1_sum 25 = .ok (.lcmp, 1) := dz_at (i := 15) dy_p06_10 rfl
theorem dX1_sum_26 : decode cX1_sum 26 = .ok (.ifCond .ne 17, 3) := dz_at (i := 16) dy_p06_10 rfl
theorem dX1_sum_29 : decode cX1_sum 29 = .ok (.lload_n 3, 1) := dz_at (i := 17) dy_p06_10 rfl
theorem dX1_sum_30 : decode cX1_sum 30 = .ok (.aload_n 0, 1) := dz_at (i := 18) dy_p06_10 rfl
theorem dX1_sum_31 : decode cX1_sum 31 = .ok (.getfield 25, 3) := dz_at (i := 19) dy_p06_10 rfl
theorem dX1_sum_34 : decode cX1_sum 34 = .ok (.lcmp, 1) := dz_at (i := 20) dy_p06_10 rfl
theorem dX1_sum_35 : decode cX1_sum 35 = .ok (.ifCond .ne 8, 3) := dz_at (i := 21) dy_p06_10 rfl
theorem dX1_sum_38 : decode cX1_sum 38 = .ok (.aload_n 0, 1) := dz_at (i := 22) dy_p06_10 rfl
theorem dX1_sum_39 : decode cX1_sum 39 = .ok (.getfield 25, 3) := dz_at (i := 23) dy_p06_10 rfl
theorem dX1_sum_42 : decode cX1_sum 42 = .ok (.lreturn, 1) := dz_at (i := 24) dy_p06_10 rfl
theorem dX1_sum_43 : decode cX1_sum 43 = .ok (.aload_n 0, 1) := dz_at (i := 25) dy_p06_10 rfl
theorem dX1_sum_44 : decode cX1_sum 44 = .ok (.aload_n 0, 1) := dz_at (i := 26) dy_p06_10 rfl
theorem dX1_sum_45 : decode cX1_sum 45 = .ok (.lload_n 1, 1) := dz_at (i := 27) dy_p06_10 rfl
theorem dX1_sum_46 : decode cX1_sum 46 = .ok (.invokevirtual 63, 3) := dz_at (i := 28) dy_p06_10 rfl
theorem dX1_sum_49 : decode cX1_sum 49 = .ok (.aload_n 0, 1) := dz_at (i := 29) dy_p06_10 rfl
theorem dX1_sum_50 : decode cX1_sum 50 = .ok (.lload_n 3, 1) := dz_at (i := 30) dy_p06_10 rfl
theorem dX1_sum_51 : decode cX1_sum 51 = .ok (.invokevirtual 63, 3) := dz_at (i := 31) dy_p06_10 rfl
theorem dX1_sum_54 : decode cX1_sum 54 = .ok (.iadd, 1) := dz_at (i := 32) dy_p06_10 rfl
theorem dX1_sum_55 : decode cX1_sum 55 = .ok (.invokevirtual 72, 3) := dz_at (i := 33) dy_p06_10 rfl
theorem dX1_sum_58 : decode cX1_sum 58 = .ok (.lreturn, 1) := dz_at (i := 34) dy_p06_10 rfl
noncomputable def o_X1_sum (w : Bool) (p0 : Int64) (p1 : Int64) : Int64 :=
  if (o_X1_isEndless w p0) = true then p0
  else if (o_X1_isEndless w p1) = true then p1
  else if p0 = (wSg w) then (if p1 = (wSg w) then (wSg w)
    else (o_X1_ofQuarters w ((o_X1_quarters w p0) + (o_X1_quarters w p1))))
  else (o_X1_ofQuarters w ((o_X1_quarters w p0) + (o_X1_quarters w p1)))
set_option maxHeartbeats 4000000 in
set_option maxRecDepth 100000 in
theorem k_X1_sum (l : Launch) (dC : Nat → ClassId) (dI : Nat → Nat → Nat) (h0 : Nat) (w : Bool) (sz : Nat) (p0 : Int64) (p1 : Int64) : Met l yX1_sum wsX1_sum ({ frames := 2, cells := 0, slots := 0, locals := 54 }) (va_Pc [.ref h0, .long p0, .long p1] (xB (dC, dI) xCl [(h0, eW w)] [] sz)) (va_Ql (fun (r : Int64) (_ : Unit) => r = (o_X1_sum w p0 p1)) (fun _ _ => True) (aN sz)) 0 0 (aN sz) := by
  refine Met.ofW (cc := cX1_sum) (maxL := 5) (ret := (some .long)) (by decide +kernel) rfl ?_
  intro p e s m args below meth c s₁ B hml hv
  obtain ⟨rfl, hsz, hP, hK⟩ := hv
  have hx := B.exec
  have hb := B.bytes
  have hr := B.returns
  have hts := atoms_spec (ws := wsX1_sum) B.pre
  have hown : s.vm.findClass RX1 = some m.cls := findClass_of_methodNamed B.named
  have hlocks := B.notSynchronized
  subst hsz
  have hA : ∀ q : Nat, s.heap.size ≤ q → aN s.heap.size q := fun _ h => h
  have hS : va_S (aN s.heap.size) s.heap s.heap [] := va_S.rf
  have hP : va_P (dC, dI) xCl [(h0, eW w)] s.heap := hP
  have hl := lv_entry ([.ref h0, .long p0, .long p1]) (n := 5) (Nat.le_of_ble_eq_true rfl)
  rw [lg_entry_eq]
  generalize (lg_sl ([.ref h0, .long p0, .long p1]) ++ List.replicate (5 - (lg_sl ([.ref h0, .long p0, .long p1])).length) Slot.unset).toArray = ls at hl ⊢
  have hl : lv_has ls 5 [(0, .ref h0), (1, .long p0), (3, .long p1)] := hl
  refine lv_aload_n hx hb dX1_sum_0 rfl (lv_at hl 0 rfl) ?_
  refine lv_lload_n hx hb dX1_sum_1 rfl (lv_at hl 1 rfl) ?_
  have hPc := hP.sub (ws' := [(h0, eW w)]) [0] rfl
  have hKc := hK.sub (tys' := []) [] rfl
  refine va_calli (va_runV (As := [.long p0]) (rest := []) ⟨hx, hb, hml, hown, hts⟩ (k_X1_isEndless l dC dI h0 w s.heap.size p0) (cwV 1 hts gX1_sum_X1_isEndless rfl rfl rfl (by decide +kernel) ⟨Nat.le_of_ble_eq_true rfl, Nat.le_of_ble_eq_true rfl⟩) (xB.preV hKc hPc (ci := 3) (q0 := 0) rfl rfl) rfl rfl hl.1 rfl (lv_room (Nat.le_of_ble_eq_true rfl)) dX1_sum_2 ⟨Nat.le_of_ble_eq_true rfl, Nat.le_of_ble_eq_true rfl⟩) hS xA_old (fun q h => hA q (Nat.le_trans hS.1 h)) (fun r_1 u t H locs ht hvm hw hB hz hk hS => ?_)
  replace hw : r_1 = b2i (o_X1_isEndless w p0) := hw
  subst r_1
  have hP := xP_keep hP hk
  refine xz_eq (tgt := 10) hx hb dX1_sum_5 (by decide +kernel) (fun c_2 => ?_) (fun c_2 => ?_)
  · skip
    refine lv_aload_n hx hb dX1_sum_10 rfl (lv_at hl 0 rfl) ?_
    refine lv_lload_n hx hb dX1_sum_11 rfl (lv_at hl 2 rfl) ?_
    have hPc := hP.sub (ws' := [(h0, eW w)]) [0] rfl
    have hKc := hK.sub (tys' := []) [] rfl
    refine va_calli (va_runV (As := [.long p1]) (rest := []) ⟨hx, hb, hml, hown, hts⟩ (k_X1_isEndless l dC dI h0 w H.size p1) (cwV 1 hts gX1_sum_X1_isEndless rfl rfl rfl (by decide +kernel) ⟨Nat.le_of_ble_eq_true rfl, Nat.le_of_ble_eq_true rfl⟩) (xB.preV hKc hPc (ci := 3) (q0 := 0) rfl rfl) rfl rfl hl.1 rfl (lv_room (Nat.le_of_ble_eq_true rfl)) dX1_sum_12 ⟨Nat.le_of_ble_eq_true rfl, Nat.le_of_ble_eq_true rfl⟩) hS xA_old (fun q h => hA q (Nat.le_trans hS.1 h)) (fun r_3 u t H locs ht hvm hw hB hz hk hS => ?_)
    replace hw : r_3 = b2i (o_X1_isEndless w p1) := hw
    subst r_3
    have hP := xP_keep hP hk
    refine xz_eq (tgt := 20) hx hb dX1_sum_15 (by decide +kernel) (fun c_4 => ?_) (fun c_4 => ?_)
    · skip
      refine lv_lload_n hx hb dX1_sum_20 rfl (lv_at hl 1 rfl) ?_
      refine lv_aload_n hx hb dX1_sum_21 rfl (lv_at hl 0 rfl) ?_
      refine va_get (D := (dC, dI)) (ci := 3) (v := .long (wSg w)) (C := RX1) (T := TX1) (N := 7) hx hb hts (by decide +kernel) hown hK hP 0 rfl rfl 4 (by decide +kernel) (hts (.fieldLink RX1 25 "Edgefloats$Width" "signOne" "J") (by decide +kernel)) (fun _ h9 => h9) rfl dX1_sum_22 ?_
      refine xc_ne (tgt := 43) hx hb dX1_sum_25 dX1_sum_26 (by decide +kernel) (fun c_5 => ?_) (fun c_5 => ?_)
      · skip
        refine lv_aload_n hx hb dX1_sum_43 rfl (lv_at hl 0 rfl) ?_
        refine lv_aload_n hx hb dX1_sum_44 rfl (lv_at hl 0 rfl) ?_
        refine lv_lload_n hx hb dX1_sum_45 rfl (lv_at hl 1 rfl) ?_
        have hPc := hP.sub (ws' := [(h0, eW w)]) [0] rfl
        have hKc := hK.sub (tys' := []) [] rfl
        refine va_calli (va_runV (As := [.long p0]) (rest := [.ref h0]) ⟨hx, hb, hml, hown, hts⟩ (k_X1_quarters l dC dI h0 w H.size p0) (cwV 1 hts gX1_sum_X1_quarters rfl rfl rfl (by decide +kernel) ⟨Nat.le_of_ble_eq_true rfl, Nat.le_of_ble_eq_true rfl⟩) (xB.preV hKc hPc (ci := 3) (q0 := 0) rfl rfl) rfl rfl hl.1 rfl (lv_room (Nat.le_of_ble_eq_true rfl)) dX1_sum_46 ⟨Nat.le_of_ble_eq_true rfl, Nat.le_of_ble_eq_true rfl⟩) hS xA_old (fun q h => hA q (Nat.le_trans hS.1 h)) (fun r_6 u t H locs ht hvm hw hB hz hk hS => ?_)
        replace hw : r_6 = (o_X1_quarters w p0) := hw
        subst r_6
        have hP := xP_keep hP hk
        refine lv_aload_n hx hb dX1_sum_49 rfl (lv_at hl 0 rfl) ?_
        refine lv_lload_n hx hb dX1_sum_50 rfl (lv_at hl 2 rfl) ?_
        have hPc := hP.sub (ws' := [(h0, eW w)]) [0] rfl
        have hKc := hK.sub (tys' := []) [] rfl
        refine va_calli (va_runV (As := [.long p1]) (rest := [.int (o_X1_quarters w p0), .ref h0]) ⟨hx, hb, hml, hown, hts⟩ (k_X1_quarters l dC dI h0 w H.size p1) (cwV 1 hts gX1_sum_X1_quarters rfl rfl rfl (by decide +kernel) ⟨Nat.le_of_ble_eq_true rfl, Nat.le_of_ble_eq_true rfl⟩) (xB.preV hKc hPc (ci := 3) (q0 := 0) rfl rfl) rfl rfl hl.1 rfl (lv_room (Nat.le_of_ble_eq_true rfl)) dX1_sum_51 ⟨Nat.le_of_ble_eq_true rfl, Nat.le_of_ble_eq_true rfl⟩) hS xA_old (fun q h => hA q (Nat.le_trans hS.1 h)) (fun r_7 u t H locs ht hvm hw hB hz hk hS => ?_)
        replace hw : r_7 = (o_X1_quarters w p1) := hw
        subst r_7
        have hP := xP_keep hP hk
        refine lv_iadd hx hb dX1_sum_54 ?_
        have hPc := hP.sub (ws' := [(h0, eW w)]) [0] rfl
        have hKc := hK.sub (tys' := []) [] rfl
        refine va_calll (va_runV (As := [.int ((o_X1_quarters w p0) + (o_X1_quarters w p1))]) (rest := []) ⟨hx, hb, hml, hown, hts⟩ (k_X1_ofQuarters l dC dI h0 w H.size ((o_X1_quarters w p0) + (o_X1_quarters w p1))) (cwV 1 hts gX1_sum_X1_ofQuarters rfl rfl rfl (by decide +kernel) ⟨Nat.le_of_ble_eq_true rfl, Nat.le_of_ble_eq_true rfl⟩) (xB.preV hKc hPc (ci := 3) (q0 := 0) rfl rfl) rfl rfl hl.1 rfl (lv_room (Nat.le_of_ble_eq_true rfl)) dX1_sum_55 ⟨Nat.le_of_ble_eq_true rfl, Nat.le_of_ble_eq_true rfl⟩) hS xA_old (fun q h => hA q (Nat.le_trans hS.1 h)) (fun r_8 u t H locs ht hvm hw hB hz hk hS => ?_)
        replace hw : r_8 = (o_X1_ofQuarters w ((o_X1_quarters w p0) + (o_X1_quarters w p1))) := hw
        subst r_8
        have hP := xP_keep hP hk
        have he : o_X1_sum w p0 p1 = (o_X1_ofQuarters w ((o_X1_quarters w p0) + (o_X1_quarters w p1))) := by (rw [o_X1_sum, if_neg c_2, if_neg c_4, if_neg c_5]) <;> rfl
        refine W.widen (k := 0) (n := 0) (by omega) (by omega) ?_
        exact W.lret (v := (o_X1_ofQuarters w ((o_X1_quarters w p0) + (o_X1_quarters w p1)))) hx hb hr (fun t ht hW => ⟨⟨_, (), rfl, (by (rw [he]) <;> rfl), trivial⟩, hS.F ht⟩) hS.2.2 dX1_sum_58
      · skip
        refine lv_lload_n hx hb dX1_sum_29 rfl (lv_at hl 2 rfl) ?_
        refine lv_aload_n hx hb dX1_sum_30 rfl (lv_at hl 0 rfl) ?_
        refine va_get (D := (dC, dI)) (ci := 3) (v := .long (wSg w)) (C := RX1) (T := TX1) (N := 7) hx hb hts (by decide +kernel) hown hK hP 0 rfl rfl 4 (by decide +kernel) (hts (.fieldLink RX1 25 "Edgefloats$Width" "signOne" "J") (by decide +kernel)) (fun _ h9 => h9) rfl dX1_sum_31 ?_
        refine xc_ne (tgt := 43) hx hb dX1_sum_34 dX1_sum_35 (by decide +kernel) (fun c_9 => ?_) (fun c_9 => ?_)
        · skip
          refine lv_aload_n hx hb dX1_sum_43 rfl (lv_at hl 0 rfl) ?_
          refine lv_aload_n hx hb dX1_sum_44 rfl (lv_at hl 0 rfl) ?_
          refine lv_lload_n hx hb dX1_sum_45 rfl (lv_at hl 1 rfl) ?_
          have hPc := hP.sub (ws' := [(h0, eW w)]) [0] rfl
          have hKc := hK.sub (tys' := []) [] rfl
          refine va_calli (va_runV (As := [.long p0]) (rest := [.ref h0]) ⟨hx, hb, hml, hown, hts⟩ (k_X1_quarters l dC dI h0 w H.size p0) (cwV 1 hts gX1_sum_X1_quarters rfl rfl rfl (by decide +kernel) ⟨Nat.le_of_ble_eq_true rfl, Nat.le_of_ble_eq_true rfl⟩) (xB.preV hKc hPc (ci := 3) (q0 := 0) rfl rfl) rfl rfl hl.1 rfl (lv_room (Nat.le_of_ble_eq_true rfl)) dX1_sum_46 ⟨Nat.le_of_ble_eq_true rfl, Nat.le_of_ble_eq_true rfl⟩) hS xA_old (fun q h => hA q (Nat.le_trans hS.1 h)) (fun r_10 u t H locs ht hvm hw hB hz hk hS => ?_)
          replace hw : r_10 = (o_X1_quarters w p0) := hw
          subst r_10
          have hP := xP_keep hP hk
          refine lv_aload_n hx hb dX1_sum_49 rfl (lv_at hl 0 rfl) ?_
          refine lv_lload_n hx hb dX1_sum_50 rfl (lv_at hl 2 rfl) ?_
          have hPc := hP.sub (ws' := [(h0, eW w)]) [0] rfl
          have hKc := hK.sub (tys' := []) [] rfl
          refine va_calli (va_runV (As := [.long p1]) (rest := [.int (o_X1_quarters w p0), .ref h0]) ⟨hx, hb, hml, hown, hts⟩ (k_X1_quarters l dC dI h0 w H.size p1) (cwV 1 hts gX1_sum_X1_quarters rfl rfl rfl (by decide +kernel) ⟨Nat.le_of_ble_eq_true rfl, Nat.le_of_ble_eq_true rfl⟩) (xB.preV hKc hPc (ci := 3) (q0 := 0) rfl rfl) rfl rfl hl.1 rfl (lv_room (Nat.le_of_ble_eq_true rfl)) dX1_sum_51 ⟨Nat.le_of_ble_eq_true rfl, Nat.le_of_ble_eq_true rfl⟩) hS xA_old (fun q h => hA q (Nat.le_trans hS.1 h)) (fun r_11 u t H locs ht hvm hw hB hz hk hS => ?_)
          replace hw : r_11 = (o_X1_quarters w p1) := hw
          subst r_11
          have hP := xP_keep hP hk
          refine lv_iadd hx hb dX1_sum_54 ?_
          have hPc := hP.sub (ws' := [(h0, eW w)]) [0] rfl
          have hKc := hK.sub (tys' := []) [] rfl
          refine va_calll (va_runV (As := [.int ((o_X1_quarters w p0) + (o_X1_quarters w p1))]) (rest := []) ⟨hx, hb, hml, hown, hts⟩ (k_X1_ofQuarters l dC dI h0 w H.size ((o_X1_quarters w p0) + (o_X1_quarters w p1))) (cwV 1 hts gX1_sum_X1_ofQuarters rfl rfl rfl (by decide +kernel) ⟨Nat.le_of_ble_eq_true rfl, Nat.le_of_ble_eq_true rfl⟩) (xB.preV hKc hPc (ci := 3) (q0 := 0) rfl rfl) rfl rfl hl.1 rfl (lv_room (Nat.le_of_ble_eq_true rfl)) dX1_sum_55 ⟨Nat.le_of_ble_eq_true rfl, Nat.le_of_ble_eq_true rfl⟩) hS xA_old (fun q h => hA q (Nat.le_trans hS.1 h)) (fun r_12 u t H locs ht hvm hw hB hz hk hS => ?_)
          replace hw : r_12 = (o_X1_ofQuarters w ((o_X1_quarters w p0) + (o_X1_quarters w p1))) := hw
          subst r_12
          have hP := xP_keep hP hk
          have he : o_X1_sum w p0 p1 = (o_X1_ofQuarters w ((o_X1_quarters w p0) + (o_X1_quarters w p1))) := by (rw [o_X1_sum, if_neg c_2, if_neg c_4, if_pos c_5, if_neg c_9]) <;> rfl
          refine W.widen (k := 0) (n := 0) (by omega) (by omega) ?_
          exact W.lret (v := (o_X1_ofQuarters w ((o_X1_quarters w p0) + (o_X1_quarters w p1)))) hx hb hr (fun t ht hW => ⟨⟨_, (), rfl, (by (rw [he]) <;> rfl), trivial⟩, hS.F ht⟩) hS.2.2 dX1_sum_58
        · skip
          refine lv_aload_n hx hb dX1_sum_38 rfl (lv_at hl 0 rfl) ?_
          refine va_get (D := (dC, dI)) (ci := 3) (v := .long (wSg w)) (C := RX1) (T := TX1) (N := 7) hx hb hts (by decide +kernel) hown hK hP 0 rfl rfl 4 (by decide +kernel) (hts (.fieldLink RX1 25 "Edgefloats$Width" "signOne" "J") (by decide +kernel)) (fun _ h9 => h9) rfl dX1_sum_39 ?_
          have he : o_X1_sum w p0 p1 = (wSg w) := by (rw [o_X1_sum, if_neg c_2, if_neg c_4, if_pos c_5, if_pos c_9]) <;> rfl
          refine W.widen (k := 0) (n := 0) (by omega) (by omega) ?_
          exact W.lret (v := (wSg w)) hx hb hr (fun t ht hW => ⟨⟨_, (), rfl, (by (rw [he]) <;> rfl), trivial⟩, hS.F ht⟩) hS.2.2 dX1_sum_42
    · skip
      refine lv_lload_n hx hb dX1_sum_18 rfl (lv_at hl 2 rfl) ?_
      have he : o_X1_sum w p0 p1 = p1 := by (rw [o_X1_sum, if_neg c_2, if_pos c_4]) <;> rfl
      refine W.widen (k := 0) (n := 0) (by omega) (by omega) ?_
      exact W.lret (v := p1) hx hb hr (fun t ht hW => ⟨⟨_, (), rfl, (by (rw [he]) <;> rfl), trivial⟩, hS.F ht⟩) hS.2.2 dX1_sum_19
  · skip
    refine lv_lload_n hx hb dX1_sum_8 rfl (lv_at hl 1 rfl) ?_
    have he : o_X1_sum w p0 p1 = p0 := by (rw [o_X1_sum, if_pos c_2]) <;> rfl
    refine W.widen (k := 0) (n := 0) (by omega) (by omega) ?_
    exact W.lret (v := p0) hx hb hr (fun t ht hW => ⟨⟨_, (), rfl, (by (rw [he]) <;> rfl), trivial⟩, hS.F ht⟩) hS.2.2 dX1_sum_9
theorem cl_X1_isTripleSound_1 : ∀ w ∈ [.methodLink RX1 48 yX1_order, .instanceMethod yX1_order, .selects RX1 yX1_order yX1_order, .initialized RX1, .code yX1_order cX1_order 9 (some .int), .methodLink RX1 42 yX1_standing, .instanceMethod yX1_standing, .selects RX1 yX1_standing yX1_standing, .code yX1_standing cX1_standing 5 (some .long), .fieldLink RX1 28 "Edgefloats$Width" "sizeOnes" "J", .fieldLink RX1 25 "Edgefloats$Width" "signOne" "J"], w ∈ wsX1_isTripleSound := fun _ h => (List.mem_cons_of_mem _ (List.mem_append_left _ h))
theorem cl_X1_isTripleSound_2 : ∀ w ∈ wsX10, w ∈ wsX1_isTripleSound := fun _ h => (List.mem_cons_of_mem _ (List.mem_append_right _ h))
set_option maxRecDepth 20000 in
theorem ggX1_isTripleSound_X1_order : GoodIn wsX1_isTripleSound wsX1_order := goodIn_sub (List.forall_mem_cons.mpr ⟨(cl_X1_isTripleSound_1 _ (List.mem_of_getElem? (i := 4) rfl)), fun w h => (List.mem_append.mp h).elim ((List.forall_mem_cons.mpr ⟨(cl_X1_isTripleSound_1 _ (List.mem_of_getElem? (i := 5) rfl)), List.forall_mem_cons.mpr ⟨(cl_X1_isTripleSound_1 _ (List.mem_of_getElem? (i := 6) rfl)), List.forall_mem_cons.mpr ⟨(cl_X1_isTripleSound_1 _ (List.mem_of_getElem? (i := 7) rfl)), List.forall_mem_cons.mpr ⟨(cl_X1_isTripleSound_1 _ (List.mem_of_getElem? (i := 3) rfl)), List.forall_mem_cons.mpr ⟨(cl_X1_isTripleSound_1 _ (List.mem_of_getElem? (i := 8) rfl)), List.forall_mem_cons.mpr ⟨(cl_X1_isTripleSound_1 _ (List.mem_of_getElem? (i := 9) rfl)), List.forall_mem_cons.mpr ⟨(cl_X1_isTripleSound_1 _ (List.mem_of_getElem? (i := 10) rfl)), fun _ h => absurd h List.not_mem_nil⟩⟩⟩⟩⟩⟩⟩) w) ((cl_X1_isTripleSound_2) w)⟩) (by decide +kernel)
set_option maxRecDepth 20000 in
theorem gX1_isTripleSound_X1_order : GoodIn wsX1_isTripleSound (wsV RX1 48 RX1 yX1_order wsX1_order) := goodIn_app (goodIn_sub (List.forall_mem_cons.mpr ⟨(cl_X1_isTripleSound_1 _ (List.mem_of_getElem? (i := 0) rfl)), List.forall_mem_cons.mpr ⟨(cl_X1_isTripleSound_1 _ (List.mem_of_getElem? (i := 1) rfl)), List.forall_mem_cons.mpr ⟨(cl_X1_isTripleSound_1 _ (List.mem_of_getElem? (i := 2) rfl)), List.forall_mem_cons.mpr ⟨(cl_X1_isTripleSound_1 _ (List.mem_of_getElem? (i := 3) rfl)), fun _ h => absurd h List.not_mem_nil⟩⟩⟩⟩) (by decide +kernel)) ggX1_isTripleSound_X1_order
noncomputable def dz_p06_11 : List (Nat × Instr × Nat) := [(0, (.aload_n 0, 1)), (1, (.lload_n 1, 1)), (2, (.lload_n 3, 1)), (3, (.invokevirtual 48, 3)), (6, (.ifCond .ge 17, 3)), (9, (.aload_n 0, 1)), (10, (.lload_n 3, 1)), (11, (.lload 5, 2)), (13, (.invokevirtual 48, 3)), (16, (.ifCond .ge 7, 3)), (19, (.iconst 1, 1)), (20, (.goto 4, 3)), (23, (.iconst 0, 1)), (24, (.istore 7, 2)), (26, (.iload 7, 2)), (28, (.ifCond .eq 13, 3)), (31, (.aload_n 0, 1)), (32, (.lload_n 1, 1)), (33, (.lload 5, 2)), (35, (.invokevirtual 48, 3)), (38, (.ifCond .ge 7, 3)), (41, (.iconst 1, 1)), (42, (.goto 4, 3)), (45, (.iconst 0, 1)), (46, (.ireturn, 1))]
theorem dy_p06_11 : dz_ok cX1_isTripleSound dz_p06_11 = true := by decide +kernel
theorem dX1_isTripleSound_0 : decode cX1_isTripleSound 0 = .ok (.aload_n 0, 1) := dz_at (i := 0) dy_p06_11 rfl
theorem dX1_isTripleSound_1 : decode cX1_isTripleSound 1 = .ok (.lload_n 1, 1) := dz_at (i := 1) dy_p06_11 rfl
theorem dX1_isTripleSound_2 : decode cX1_isTripleSound 2 = .ok (.lload_n 3, 1) := dz_at (i := 2) dy_p06_11 rfl
theorem dX1_isTripleSound_3 : decode cX1_isTripleSound 3 = .ok (.invokevirtual 48, 3) := dz_at (i := 3) dy_p06_11 rfl
theorem dX1_isTripleSound_6 : decode cX1_isTripleSound 6 = .ok (.ifCond .ge 17, 3) := dz_at (i := 4) dy_p06_11 rfl
theorem dX1_isTripleSound_9 : decode cX1_isTripleSound 9 = .ok (.aload_n 0, 1) := dz_at (i := 5) dy_p06_11 rfl
theorem dX1_isTripleSound_10 : decode cX1_isTripleSound 10 = .ok (.lload_n 3, 1) := dz_at (i := 6) dy_p06_11 rfl
theorem dX1_isTripleSound_11 : decode cX1_isTripleSound 11 = .ok (.lload 5, 2) := dz_at (i := 7) dy_p06_11 rfl
theorem dX1_isTripleSound_13 : decode cX1_isTripleSound 13 = .ok (.invokevirtual 48, 3) := dz_at (i := 8) dy_p06_11 rfl
theorem dX1_isTripleSound_16 : decode cX1_isTripleSound 16 = .ok (.ifCond .ge 7, 3) := dz_at (i := 9) dy_p06_11 rfl
theorem dX1_isTripleSound_19 : decode cX1_isTripleSound 19 = .ok (.iconst 1, 1) := dz_at (i := 10) dy_p06_11 rfl
theorem dX1_isTripleSound_20 : decode cX1_isTripleSound 20 = .ok (.goto 4, 3) := dz_at (i := 11) dy_p06_11 rfl
theorem dX1_isTripleSound_23 : decode cX1_isTripleSound 23 = .ok (.iconst 0, 1) := dz_at (i := 12) dy_p06_11 rfl
theorem dX1_isTripleSound_24 : decode cX1_isTripleSound 24 = .ok (.istore 7, 2) := dz_at (i := 13) dy_p06_11 rfl
theorem dX1_isTripleSound_26 : decode cX1_isTripleSound 26 = .ok (.iload 7, 2) := dz_at (i := 14) dy_p06_11 rfl
theorem dX1_isTripleSound_28 : decode cX1_isTripleSound 28 = .ok (.ifCond .eq 13, 3) := dz_at (i := 15) dy_p06_11 rfl
theorem dX1_isTripleSound_31 : decode cX1_isTripleSound 31 = .ok (.aload_n 0, 1) := dz_at (i := 16) dy_p06_11 rfl
theorem dX1_isTripleSound_32 : decode cX1_isTripleSound 32 = .ok (.lload_n 1, 1) := dz_at (i := 17) dy_p06_11 rfl
theorem dX1_isTripleSound_33 : decode cX1_isTripleSound 33 = .ok (.lload 5, 2) := dz_at (i := 18) dy_p06_11 rfl
theorem dX1_isTripleSound_35 : decode cX1_isTripleSound 35 = .ok (.invokevirtual 48, 3) := dz_at (i := 19) dy_p06_11 rfl
theorem dX1_isTripleSound_38 : decode cX1_isTripleSound 38 = .ok (.ifCond .ge 7, 3) := dz_at (i := 20) dy_p06_11 rfl
theorem dX1_isTripleSound_41 : decode cX1_isTripleSound 41 = .ok (.iconst 1, 1) := dz_at (i := 21) dy_p06_11 rfl
theorem dX1_isTripleSound_42 : decode cX1_isTripleSound 42 = .ok (.goto 4, 3) := dz_at (i := 22) dy_p06_11 rfl
theorem dX1_isTripleSound_45 : decode cX1_isTripleSound 45 = .ok (.iconst 0, 1) := dz_at (i := 23) dy_p06_11 rfl
theorem dX1_isTripleSound_46 : decode cX1_isTripleSound 46 = .ok (.ireturn, 1) := dz_at (i := 24) dy_p06_11 rfl
noncomputable def o_X1_isTripleSound (w : Bool) (p0 : Int64) (p1 : Int64) (p2 : Int64) : Bool :=
  if 0 ≤ (o_X1_order w p0 p1) then true
  else if 0 ≤ (o_X1_order w p1 p2) then true
  else if 0 ≤ (o_X1_order w p0 p2) then false
  else true
set_option maxHeartbeats 4000000 in
set_option maxRecDepth 100000 in
theorem k_X1_isTripleSound (l : Launch) (dC : Nat → ClassId) (dI : Nat → Nat → Nat) (h0 : Nat) (w : Bool) (sz : Nat) (p0 : Int64) (p1 : Int64) (p2 : Int64) : Met l yX1_isTripleSound wsX1_isTripleSound ({ frames := 2, cells := 0, slots := 0, locals := 52 }) (va_Pc [.ref h0, .long p0, .long p1, .long p2] (xB (dC, dI) xCl [(h0, eW w)] [] sz)) (va_Qi (fun (r : Int32) (_ : Unit) => r = b2i (o_X1_isTripleSound w p0 p1 p2)) (fun _ _ => True) (aN sz)) 0 0 (aN sz) := by
  refine Met.ofW (cc := cX1_isTripleSound) (maxL := 8) (ret := (some .boolean)) (by decide +kernel) rfl ?_
  intro p e s m args below meth c s₁ B hml hv
  obtain ⟨rfl, hsz, hP, hK⟩ := hv
  have hx := B.exec
  have hb := B.bytes
  have hr := B.returns
  have hts := atoms_spec (ws := wsX1_isTripleSound) B.pre
  have hown : s.vm.findClass RX1 = some m.cls := findClass_of_methodNamed B.named
  have hlocks := B.notSynchronized
  subst hsz
  have hA : ∀ q : Nat, s.heap.size ≤ q → aN s.heap.size q := fun _ h => h
  have hS : va_S (aN s.heap.size) s.heap s.heap [] := va_S.rf
  have hP : va_P (dC, dI) xCl [(h0, eW w)] s.heap := hP
  have hl := lv_entry ([.ref h0, .long p0, .long p1, .long p2]) (n := 8) (Nat.le_of_ble_eq_true rfl)
  rw [lg_entry_eq]
  generalize (lg_sl ([.ref h0, .long p0, .long p1, .long p2]) ++ List.replicate (8 - (lg_sl ([.ref h0, .long p0, .long p1, .long p2])).length) Slot.unset).toArray = ls at hl ⊢
  have hl : lv_has ls 8 [(0, .ref h0), (1, .long p0), (3, .long p1), (5, .long p2)] := hl
  refine lv_aload_n hx hb dX1_isTripleSound_0 rfl (lv_at hl 0 rfl) ?_
  refine lv_lload_n hx hb dX1_isTripleSound_1 rfl (lv_at hl 1 rfl) ?_
  refine lv_lload_n hx hb dX1_isTripleSound_2 rfl (lv_at hl 2 rfl) ?_
  have hPc := hP.sub (ws' := [(h0, eW w)]) [0] rfl
  have hKc := hK.sub (tys' := []) [] rfl
  refine va_calli (va_runV (As := [.long p0, .long p1]) (rest := []) ⟨hx, hb, hml, hown, hts⟩ (k_X1_order l dC dI h0 w s.heap.size p0 p1) (cwV 2 hts gX1_isTripleSound_X1_order rfl rfl rfl (by decide +kernel) ⟨Nat.le_of_ble_eq_true rfl, Nat.le_of_ble_eq_true rfl⟩) (xB.preV hKc hPc (ci := 3) (q0 := 0) rfl rfl) rfl rfl hl.1 rfl (lv_room (Nat.le_of_ble_eq_true rfl)) dX1_isTripleSound_3 ⟨Nat.le_of_ble_eq_true rfl, Nat.le_of_ble_eq_true rfl⟩) hS xA_old (fun q h => hA q (Nat.le_trans hS.1 h)) (fun r_1 u t H locs ht hvm hw hB hz hk hS => ?_)
  replace hw : r_1 = (o_X1_order w p0 p1) := hw
  subst r_1
  have hP := xP_keep hP hk
  refine lv_if_ge (tgt := 23) hx hb dX1_isTripleSound_6 (by decide +kernel) (fun c_2 => ?_) (fun c_2 => ?_)
  · skip
    refine lv_iconst (v := 0) hx hb dX1_isTripleSound_23 (by decide +kernel) ?_
    refine lv_istore (lv' := [(7, .int 0), (0, .ref h0), (1, .long p0), (3, .long p1), (5, .long p2)]) hx hb dX1_isTripleSound_24 hl (by decide +kernel) rfl (fun ls hl => ?_)
    refine lv_iload hx hb dX1_isTripleSound_26 (lv_at hl 0 rfl) ?_
    refine lv_if_eq (tgt := 41) hx hb dX1_isTripleSound_28 (by decide +kernel) (fun _ => ?_) (fun c9 => absurd c9 (by decide +kernel))
    refine lv_iconst (v := 1) hx hb dX1_isTripleSound_41 (by decide +kernel) ?_
    refine lv_goto (tgt := 46) hx hb dX1_isTripleSound_42 (by decide +kernel) ?_
    have he : o_X1_isTripleSound w p0 p1 p2 = true := by (rw [o_X1_isTripleSound, if_pos c_2]) <;> rfl
    refine W.widen (k := 0) (n := 0) (by omega) (by omega) ?_
    exact W.zret (v := 1) (ty := .boolean) hx hb hr rfl (fun t ht hW => ⟨⟨_, (), rfl, (by (rw [he]) <;> rfl), trivial⟩, hS.F ht⟩) hS.2.2 dX1_isTripleSound_46
  · skip
    refine lv_aload_n hx hb dX1_isTripleSound_9 rfl (lv_at hl 0 rfl) ?_
    refine lv_lload_n hx hb dX1_isTripleSound_10 rfl (lv_at hl 2 rfl) ?_
    refine lv_lload hx hb dX1_isTripleSound_11 (lv_at hl 3 rfl) ?_
    have hPc := hP.sub (ws' := [(h0, eW w)]) [0] rfl
    have hKc := hK.sub (tys' := []) [] rfl
    refine va_calli (va_runV (As := [.long p1, .long p2]) (rest := []) ⟨hx, hb, hml, hown, hts⟩ (k_X1_order l dC dI h0 w H.size p1 p2) (cwV 2 hts gX1_isTripleSound_X1_order rfl rfl rfl (by decide +kernel) ⟨Nat.le_of_ble_eq_true rfl, Nat.le_of_ble_eq_true rfl⟩) (xB.preV hKc hPc (ci := 3) (q0 := 0) rfl rfl) rfl rfl hl.1 rfl (lv_room (Nat.le_of_ble_eq_true rfl)) dX1_isTripleSound_13 ⟨Nat.le_of_ble_eq_true rfl, Nat.le_of_ble_eq_true rfl⟩) hS xA_old (fun q h => hA q (Nat.le_trans hS.1 h)) (fun r_3 u t H locs ht hvm hw hB hz hk hS => ?_)
    replace hw : r_3 = (o_X1_order w p1 p2) := hw
    subst r_3
    have hP := xP_keep hP hk
    refine lv_if_ge (tgt := 23) hx hb dX1_isTripleSound_16 (by decide +kernel) (fun c_4 => ?_) (fun c_4 => ?_)
    · skip
      refine lv_iconst (v := 0) hx hb dX1_isTripleSound_23 (by decide +kernel) ?_
      refine lv_istore (lv' := [(7, .int 0), (0, .ref h0), (1, .long p0), (3, .long p1), (5, .long p2)]) hx hb dX1_isTripleSound_24 hl (by decide +kernel) rfl (fun ls hl => ?_)
      refine lv_iload hx hb dX1_isTripleSound_26 (lv_at hl 0 rfl) ?_
      refine lv_if_eq (tgt := 41) hx hb dX1_isTripleSound_28 (by decide +kernel) (fun _ => ?_) (fun c9 => absurd c9 (by decide +kernel))
      refine lv_iconst (v := 1) hx hb dX1_isTripleSound_41 (by decide +kernel) ?_
      refine lv_goto (tgt := 46) hx hb dX1_isTripleSound_42 (by decide +kernel) ?_
      have he : o_X1_isTripleSound w p0 p1 p2 = true := by (rw [o_X1_isTripleSound, if_neg c_2, if_pos c_4]) <;> rfl
      refine W.widen (k := 0) (n := 0) (by omega) (by omega) ?_
      exact W.zret (v := 1) (ty := .boolean) hx hb hr rfl (fun t ht hW => ⟨⟨_, (), rfl, (by (rw [he]) <;> rfl), trivial⟩, hS.F ht⟩) hS.2.2 dX1_isTripleSound_46
    · skip
      refine lv_iconst (v := 1) hx hb dX1_isTripleSound_19 (by decide +kernel) ?_
      refine lv_goto (tgt := 24) hx hb dX1_isTripleSound_20 (by decide +kernel) ?_
      refine lv_istore (lv' := [(7, .int 1), (0, .ref h0), (1, .long p0), (3, .long p1), (5, .long p2)]) hx hb dX1_isTripleSound_24 hl (by decide +kernel) rfl (fun ls hl => ?_)
      refine lv_iload hx hb dX1_isTripleSound_26 (lv_at hl 0 rfl) ?_
      refine lv_if_eq (tgt := 41) hx hb dX1_isTripleSound_28 (by decide +kernel) (fun c9 => absurd c9 (by decide +kernel)) (fun _ => ?_)
      refine lv_aload_n hx hb dX1_isTripleSound_31 rfl (lv_at hl 1 rfl) ?_
      refine lv_lload_n hx hb dX1_isTripleSound_32 rfl (lv_at hl 2 rfl) ?_
      refine lv_lload hx hb dX1_isTripleSound_33 (lv_at hl 4 rfl) ?_
      have hPc := hP.sub (ws' := [(h0, eW w)]) [0] rfl
      have hKc := hK.sub (tys' := []) [] rfl
      refine va_calli (va_runV (As := [.long p0, .long p2]) (rest := []) ⟨hx, hb, hml, hown, hts⟩ (k_X1_order l dC dI h0 w H.size p0 p2) (cwV 2 hts gX1_isTripleSound_X1_order rfl rfl rfl (by decide +kernel) ⟨Nat.le_of_ble_eq_true rfl, Nat.le_of_ble_eq_true rfl⟩) (xB.preV hKc hPc (ci := 3) (q0 := 0) rfl rfl) rfl rfl hl.1 rfl (lv_room (Nat.le_of_ble_eq_true rfl)) dX1_isTripleSound_35 ⟨Nat.le_of_ble_eq_true rfl, Nat.le_of_ble_eq_true rfl⟩) hS xA_old (fun q h => hA q (Nat.le_trans hS.1 h)) (fun r_5 u t H locs ht hvm hw hB hz hk hS => ?_)
      replace hw : r_5 = (o_X1_order w p0 p2) := hw
      subst r_5
      have hP := xP_keep hP hk
      refine lv_if_ge (tgt := 45) hx hb dX1_isTripleSound_38 (by decide +kernel) (fun c_6 => ?_) (fun c_6 => ?_)
      · skip
        refine lv_iconst (v := 0) hx hb dX1_isTripleSound_45 (by decide +kernel) ?_
        have he : o_X1_isTripleSound w p0 p1 p2 = false := by (rw [o_X1_isTripleSound, if_neg c_2, if_neg c_4, if_pos c_6]) <;> rfl
        refine W.widen (k := 0) (n := 0) (by omega) (by omega) ?_
        exact W.zret (v := 0) (ty := .boolean) hx hb hr rfl (fun t ht hW => ⟨⟨_, (), rfl, (by (rw [he]) <;> rfl), trivial⟩, hS.F ht⟩) hS.2.2 dX1_isTripleSound_46
      · skip
        refine lv_iconst (v := 1) hx hb dX1_isTripleSound_41 (by decide +kernel) ?_
        refine lv_goto (tgt := 46) hx hb dX1_isTripleSound_42 (by decide +kernel) ?_
        have he : o_X1_isTripleSound w p0 p1 p2 = true := by (rw [o_X1_isTripleSound, if_neg c_2, if_neg c_4, if_neg c_6]) <;> rfl
        refine W.widen (k := 0) (n := 0) (by omega) (by omega) ?_
        exact W.zret (v := 1) (ty := .boolean) hx hb hr rfl (fun t ht hW => ⟨⟨_, (), rfl, (by (rw [he]) <;> rfl), trivial⟩, hS.F ht⟩) hS.2.2 dX1_isTripleSound_46
theorem cl_X1_isPairSound_1 : ∀ w ∈ wsX1_isPairSound_r1, w ∈ wsX1_isPairSound := fun _ h => (List.mem_cons_of_mem _ (List.mem_append_left _ (List.mem_append_left _ h)))
theorem cl_X1_isPairSound_2 : ∀ w ∈ wsX1_isPairSound_r2, w ∈ wsX1_isPairSound := fun _ h => (List.mem_cons_of_mem _ (List.mem_append_left _ (List.mem_append_right _ h)))
theorem cl_X1_isPairSound_3 : ∀ w ∈ wsX10, w ∈ wsX1_isPairSound := fun _ h => (List.mem_cons_of_mem _ (List.mem_append_right _ h))
set_option maxRecDepth 20000 in
theorem ggX1_isPairSound_X1_order : GoodIn wsX1_isPairSound wsX1_order := goodIn_sub (List.forall_mem_cons.mpr ⟨(cl_X1_isPairSound_1 _ (List.mem_of_getElem? (i := 4) rfl)), fun w h => (List.mem_append.mp h).elim ((List.forall_mem_cons.mpr ⟨(cl_X1_isPairSound_1 _ (List.mem_of_getElem? (i := 5) rfl)), List.forall_mem_cons.mpr ⟨(cl_X1_isPairSound_1 _ (List.mem_of_getElem? (i := 6) rfl)), List.forall_mem_cons.mpr ⟨(cl_X1_isPairSound_1 _ (List.mem_of_getElem? (i := 7) rfl)), List.forall_mem_cons.mpr ⟨(cl_X1_isPairSound_1 _ (List.mem_of_getElem? (i := 3) rfl)), List.forall_mem_cons.mpr ⟨(cl_X1_isPairSound_1 _ (List.mem_of_getElem? (i := 8) rfl)), List.forall_mem_cons.mpr ⟨(cl_X1_isPairSound_1 _ (List.mem_of_getElem? (i := 9) rfl)), List.forall_mem_cons.mpr ⟨(cl_X1_isPairSound_1 _ (List.mem_of_getElem? (i := 10) rfl)), fun _ h => absurd h List.not_mem_nil⟩⟩⟩⟩⟩⟩⟩) w) ((cl_X1_isPairSound_3) w)⟩) (by decide +kernel)
set_option maxRecDepth 20000 in
theorem gX1_isPairSound_X1_order : GoodIn wsX1_isPairSound (wsV RX1 48 RX1 yX1_order wsX1_order) := goodIn_app (goodIn_sub (List.forall_mem_cons.mpr ⟨(cl_X1_isPairSound_1 _ (List.mem_of_getElem? (i := 0) rfl)), List.forall_mem_cons.mpr ⟨(cl_X1_isPairSound_1 _ (List.mem_of_getElem? (i := 1) rfl)), List.forall_mem_cons.mpr ⟨(cl_X1_isPairSound_1 _ (List.mem_of_getElem? (i := 2) rfl)), List.forall_mem_cons.mpr ⟨(cl_X1_isPairSound_1 _ (List.mem_of_getElem? (i := 3) rfl)), fun _ h => absurd h List.not_mem_nil⟩⟩⟩⟩) (by decide +kernel)) ggX1_isPairSound_X1_order
set_option maxRecDepth 20000 in
theorem ggX1_isPairSound_X1_hash : GoodIn wsX1_isPairSound wsX1_hash := goodIn_r _ [15] (by decide +kernel) (by decide +kernel)
set_option maxRecDepth 20000 in
theorem gX1_isPairSound_X1_hash : GoodIn wsX1_isPairSound (wsV RX1 97 RX1 yX1_hash wsX1_hash) := goodIn_app (goodIn_sub (List.forall_mem_cons.mpr ⟨(cl_X1_isPairSound_1 _ (List.mem_of_getElem? (i := 11) rfl)), List.forall_mem_cons.mpr ⟨(cl_X1_isPairSound_1 _ (List.mem_of_getElem? (i := 12) rfl)), List.forall_mem_cons.mpr ⟨(cl_X1_isPairSound_1 _ (List.mem_of_getElem? (i := 13) rfl)), List.forall_mem_cons.mpr ⟨(cl_X1_isPairSound_1 _ (List.mem_of_getElem? (i := 3) rfl)), fun _ h => absurd h List.not_mem_nil⟩⟩⟩⟩) (by decide +kernel)) ggX1_isPairSound_X1_hash
set_option maxRecDepth 20000 in
theorem ggX1_isPairSound_X1_areLike : GoodIn wsX1_isPairSound wsX1_areLike := goodIn_sub (List.forall_mem_cons.mpr ⟨(cl_X1_isPairSound_1 _ (List.mem_of_getElem? (i := 18) rfl)), fun w h => (List.mem_append.mp h).elim ((List.forall_mem_cons.mpr ⟨(cl_X1_isPairSound_1 _ (List.mem_of_getElem? (i := 19) rfl)), List.forall_mem_cons.mpr ⟨(cl_X1_isPairSound_1 _ (List.mem_of_getElem? (i := 20) rfl)), List.forall_mem_cons.mpr ⟨(cl_X1_isPairSound_1 _ (List.mem_of_getElem? (i := 21) rfl)), List.forall_mem_cons.mpr ⟨(cl_X1_isPairSound_1 _ (List.mem_of_getElem? (i := 3) rfl)), List.forall_mem_cons.mpr ⟨(cl_X1_isPairSound_1 _ (List.mem_of_getElem? (i := 22) rfl)), List.forall_mem_cons.mpr ⟨(cl_X1_isPairSound_1 _ (List.mem_of_getElem? (i := 9) rfl)), List.forall_mem_cons.mpr ⟨(cl_X1_isPairSound_1 _ (List.mem_of_getElem? (i := 10) rfl)), fun _ h => absurd h List.not_mem_nil⟩⟩⟩⟩⟩⟩⟩) w) ((cl_X1_isPairSound_3) w)⟩) (by decide +kernel)
set_option maxRecDepth 20000 in
theorem gX1_isPairSound_X1_areLike : GoodIn wsX1_isPairSound (wsV RX1 100 RX1 yX1_areLike wsX1_areLike) := goodIn_app (goodIn_sub (List.forall_mem_cons.mpr ⟨(cl_X1_isPairSound_1 _ (List.mem_of_getElem? (i := 15) rfl)), List.forall_mem_cons.mpr ⟨(cl_X1_isPairSound_1 _ (List.mem_of_getElem? (i := 16) rfl)), List.forall_mem_cons.mpr ⟨(cl_X1_isPairSound_1 _ (List.mem_of_getElem? (i := 17) rfl)), List.forall_mem_cons.mpr ⟨(cl_X1_isPairSound_1 _ (List.mem_of_getElem? (i := 3) rfl)), fun _ h => absurd h List.not_mem_nil⟩⟩⟩⟩) (by decide +kernel)) ggX1_isPairSound_X1_areLike
set_option maxRecDepth 20000 in
theorem ggX1_isPairSound_X1_isZero : GoodIn wsX1_isPairSound wsX1_isZero := goodIn_sub (List.forall_mem_cons.mpr ⟨(cl_X1_isPairSound_2 _ (List.mem_of_getElem? (i := 2) rfl)), fun w h => (List.mem_append.mp h).elim ((List.forall_mem_cons.mpr ⟨(cl_X1_isPairSound_1 _ (List.mem_of_getElem? (i := 9) rfl)), fun _ h => absurd h List.not_mem_nil⟩) w) ((cl_X1_isPairSound_3) w)⟩) (by decide +kernel)
set_option maxRecDepth 20000 in
theorem gX1_isPairSound_X1_isZero : GoodIn wsX1_isPairSound (wsV RX1 55 RX1 yX1_isZero wsX1_isZero) := goodIn_app (goodIn_sub (List.forall_mem_cons.mpr ⟨(cl_X1_isPairSound_1 _ (List.mem_of_getElem? (i := 23) rfl)), List.forall_mem_cons.mpr ⟨(cl_X1_isPairSound_2 _ (List.mem_of_getElem? (i := 0) rfl)), List.forall_mem_cons.mpr ⟨(cl_X1_isPairSound_2 _ (List.mem_of_getElem? (i := 1) rfl)), List.forall_mem_cons.mpr ⟨(cl_X1_isPairSound_1 _ (List.mem_of_getElem? (i := 3) rfl)), fun _ h => absurd h List.not_mem_nil⟩⟩⟩⟩) (by decide +kernel)) ggX1_isPairSound_X1_isZero
set_option maxRecDepth 20000 in
theorem ggX1_isPairSound_X1_greater : GoodIn wsX1_isPairSound wsX1_greater := goodIn_sub (List.forall_mem_cons.mpr ⟨(cl_X1_isPairSound_2 _ (List.mem_of_getElem? (i := 6) rfl)), fun w h => (List.mem_append.mp h).elim ((List.forall_mem_cons.mpr ⟨(cl_X1_isPairSound_1 _ (List.mem_of_getElem? (i := 0) rfl)), List.forall_mem_cons.mpr ⟨(cl_X1_isPairSound_1 _ (List.mem_of_getElem? (i := 1) rfl)), List.forall_mem_cons.mpr ⟨(cl_X1_isPairSound_1 _ (List.mem_of_getElem? (i := 2) rfl)), List.forall_mem_cons.mpr ⟨(cl_X1_isPairSound_1 _ (List.mem_of_getElem? (i := 3) rfl)), List.forall_mem_cons.mpr ⟨(cl_X1_isPairSound_1 _ (List.mem_of_getElem? (i := 4) rfl)), List.forall_mem_cons.mpr ⟨(cl_X1_isPairSound_1 _ (List.mem_of_getElem? (i := 5) rfl)), List.forall_mem_cons.mpr ⟨(cl_X1_isPairSound_1 _ (List.mem_of_getElem? (i := 6) rfl)), List.forall_mem_cons.mpr ⟨(cl_X1_isPairSound_1 _ (List.mem_of_getElem? (i := 7) rfl)), List.forall_mem_cons.mpr ⟨(cl_X1_isPairSound_1 _ (List.mem_of_getElem? (i := 8) rfl)), List.forall_mem_cons.mpr ⟨(cl_X1_isPairSound_1 _ (List.mem_of_getElem? (i := 9) rfl)), List.forall_mem_cons.mpr ⟨(cl_X1_isPairSound_1 _ (List.mem_of_getElem? (i := 10) rfl)), fun _ h => absurd h List.not_mem_nil⟩⟩⟩⟩⟩⟩⟩⟩⟩⟩⟩) w) ((cl_X1_isPairSound_3) w)⟩) (by decide +kernel)
set_option maxRecDepth 20000 in
theorem gX1_isPairSound_X1_greater : GoodIn wsX1_isPairSound (wsV RX1 104 RX1 yX1_greater wsX1_greater) := goodIn_app (goodIn_sub (List.forall_mem_cons.mpr ⟨(cl_X1_isPairSound_2 _ (List.mem_of_getElem? (i := 3) rfl)), List.forall_mem_cons.mpr ⟨(cl_X1_isPairSound_2 _ (List.mem_of_getElem? (i := 4) rfl)), List.forall_mem_cons.mpr ⟨(cl_X1_isPairSound_2 _ (List.mem_of_getElem? (i := 5) rfl)), List.forall_mem_cons.mpr ⟨(cl_X1_isPairSound_1 _ (List.mem_of_getElem? (i := 3) rfl)), fun _ h => absurd h List.not_mem_nil⟩⟩⟩⟩) (by decide +kernel)) ggX1_isPairSound_X1_greater
set_option maxRecDepth 20000 in
theorem ggX1_isPairSound_X1_lesser : GoodIn wsX1_isPairSound wsX1_lesser := goodIn_sub (List.forall_mem_cons.mpr ⟨(cl_X1_isPairSound_2 _ (List.mem_of_getElem? (i := 10) rfl)), fun w h => (List.mem_append.mp h).elim ((List.forall_mem_cons.mpr ⟨(cl_X1_isPairSound_1 _ (List.mem_of_getElem? (i := 0) rfl)), List.forall_mem_cons.mpr ⟨(cl_X1_isPairSound_1 _ (List.mem_of_getElem? (i := 1) rfl)), List.forall_mem_cons.mpr ⟨(cl_X1_isPairSound_1 _ (List.mem_of_getElem? (i := 2) rfl)), List.forall_mem_cons.mpr ⟨(cl_X1_isPairSound_1 _ (List.mem_of_getElem? (i := 3) rfl)), List.forall_mem_cons.mpr ⟨(cl_X1_isPairSound_1 _ (List.mem_of_getElem? (i := 4) rfl)), List.forall_mem_cons.mpr ⟨(cl_X1_isPairSound_1 _ (List.mem_of_getElem? (i := 5) rfl)), List.forall_mem_cons.mpr ⟨(cl_X1_isPairSound_1 _ (List.mem_of_getElem? (i := 6) rfl)), List.forall_mem_cons.mpr ⟨(cl_X1_isPairSound_1 _ (List.mem_of_getElem? (i := 7) rfl)), List.forall_mem_cons.mpr ⟨(cl_X1_isPairSound_1 _ (List.mem_of_getElem? (i := 8) rfl)), List.forall_mem_cons.mpr ⟨(cl_X1_isPairSound_1 _ (List.mem_of_getElem? (i := 9) rfl)), List.forall_mem_cons.mpr ⟨(cl_X1_isPairSound_1 _ (List.mem_of_getElem? (i := 10) rfl)), fun _ h => absurd h List.not_mem_nil⟩⟩⟩⟩⟩⟩⟩⟩⟩⟩⟩) w) ((cl_X1_isPairSound_3) w)⟩) (by decide +kernel)
set_option maxRecDepth 20000 in
theorem gX1_isPairSound_X1_lesser : GoodIn wsX1_isPairSound (wsV RX1 108 RX1 yX1_lesser wsX1_lesser) := goodIn_app (goodIn_sub (List.forall_mem_cons.mpr ⟨(cl_X1_isPairSound_2 _ (List.mem_of_getElem? (i := 7) rfl)), List.forall_mem_cons.mpr ⟨(cl_X1_isPairSound_2 _ (List.mem_of_getElem? (i := 8) rfl)), List.forall_mem_cons.mpr ⟨(cl_X1_isPairSound_2 _ (List.mem_of_getElem? (i := 9) rfl)), List.forall_mem_cons.mpr ⟨(cl_X1_isPairSound_1 _ (List.mem_of_getElem? (i := 3) rfl)), fun _ h => absurd h List.not_mem_nil⟩⟩⟩⟩) (by decide +kernel)) ggX1_isPairSound_X1_lesser
noncomputable def dz_p06_12 : List (Nat × Instr × Nat) := [(0, (.aload_n 0, 1)), (1, (.lload_n 1, 1)), (2, (.lload_n 3, 1)), (3, (.invokevirtual 48, 3)), (6, (.istore 5, 2)), (8, (.iload 5, 2)), (10, (.ifCond .ne 7, 3)), (13, (.iconst 1, 1)), (14, (.goto 4, 3)), (17, (.iconst 0, 1)), (18, (.istore 6, 2)), (20, (.iload 5, 2)), (22, (.aload_n 0, 1)), (23, (.lload_n 3, 1)), (24, (.lload_n 1, 1)), (25, (.invokevirtual 48, 3)), (28, (.ineg, 1)), (29, (.if_icmp .ne 19, 3)), (32, (.iload 6, 2)), (34, (.lload_n 1, 1)), (35, (.lload_n 3, 1)), (36, (.lcmp, 1)), (37, (.ifCond .ne 7, 3)), (40, (.iconst 1, 1)), (41, (.goto 4, 3)), (44, (.iconst 0, 1)), (45, (.if_icmp .eq 5, 3)), (48, (.iconst 0, 1)), (49, (.ireturn, 1)), (50, (.iload 6, 2)), (52, (.ifCond .eq 18, 3)), (55, (.aload_n 0, 1)), (56, (.lload_n 1, 1)), (57, (.invokevirtual 97, 3)), (60, (.aload_n 0, 1)), (61, (.lload_n 3, 1)), (62, (.invokevirtual 97, 3)), (65, (.if_icmp .eq 5, 3)), (68, (.iconst 0, 1)), (69, (.ireturn, 1))]
theorem dy_p06_12 : dz_ok cX1_isPairSound dz_p06_12 = true := by decide +kernel
theorem dX1_isPairSound_0 : decode cX1_isPairSound 0 = .ok (.aload_n 0, 1) := dz_at (i := 0) dy_p06_12 rfl
theorem dX1_isPairSound_1 : decode cX1_isPairSound 1 = .ok (.lload_n 1, 1) := dz_at (i := 1) dy_p06_12 rfl
theorem dX1_isPairSound_2 : decode cX1_isPairSound 2 = .ok (.lload_n 3, 1) := dz_at (i := 2) dy_p06_12 rfl
theorem dX1_isPairSound_3 : decode cX1_isPairSound 3 = .ok (.invokevirtual 48, 3) := dz_at (i := 3) dy_p06_12 rfl
theorem dX1_isPairSound_6 : decode cX1_isPairSound 6 = .ok (.istore 5, 2) := dz_at (i := 4) dy_p06_12 rfl
theorem dX1_isPairSound_8 : decode cX1_isPairSound 8 = .ok (.iload 5, 2) := dz_at (i := 5) dy_p06_12 rfl
theorem dX1_isPairSound_10 : decode cX1_isPairSound 10 = .ok (.ifCond .ne 7, 3) := dz_at (i := 6) dy_p06_12 rfl
theorem dX1_isPairSound_13 : decode cX1_isPairSound 13 = .ok (.iconst 1, 1) := dz_at (i := 7) dy_p06_12 rfl
theorem dX1_isPairSound_14 : decode cX1_isPairSound 14 = .ok (.goto 4, 3) := dz_at (i := 8) dy_p06_12 rfl
theorem dX1_isPairSound_17 : decode cX1_isPairSound 17 = .ok (.iconst 0, 1) := dz_at (i := 9) dy_p06_12 rfl
theorem dX1_isPairSound_18 : decode cX1_isPairSound 18 = .ok (.istore 6, 2) := dz_at (i := 10) dy_p06_12 rfl
theorem dX1_isPairSound_20 : decode cX1_isPairSound 20 = .ok (.iload 5, 2) := dz_at (i := 11) dy_p06_12 rfl
theorem dX1_isPairSound_22 : decode cX1_isPairSound 22 = .ok (.aload_n 0, 1) := dz_at (i := 12) dy_p06_12 rfl
theorem dX1_isPairSound_23 : decode cX1_isPairSound 23 = .ok (.lload_n 3, 1) := dz_at (i := 13) dy_p06_12 rfl
theorem dX1_isPairSound_24 : decode cX1_isPairSound 24 = .ok (.lload_n 1, 1) := dz_at (i := 14) dy_p06_12 rfl
theorem dX1_isPairSound_25 : decode cX1_isPairSound 25 = .ok (.invokevirtual 48, 3) := dz_at (i := 15) dy_p06_12 rfl
theorem dX1_isPairSound_28 : decode cX1_isPairSound 28 = .ok (.ineg, 1) := dz_at (i := 16) dy_p06_12 rfl
theorem dX1_isPairSound_29 : decode cX1_isPairSound 29 = .ok (.if_icmp .ne 19, 3) := dz_at (i := 17) dy_p06_12 rfl
theorem dX1_isPairSound_32 : decode cX1_isPairSound 32 = .ok (.iload 6, 2) := dz_at (i := 18) dy_p06_12 rfl
theorem dX1_isPairSound_34 : decode cX1_isPairSound 34 = .ok (.lload_n 1, 1) := dz_at (i := 19) dy_p06_12 rfl
theorem dX1_isPairSound_35 : decode cX1_isPairSound 35 = .ok (.lload_n 3, 1) := dz_at (i := 20) dy_p06_12 rfl
theorem dX1_isPairSound_36 : decode cX1_isPairSound 36 = .ok (.lcmp, 1) := dz_at (i := 21) dy_p06_12 rfl
theorem dX1_isPairSound_37 : decode cX1_isPairSound 37 = .ok (.ifCond .ne 7, 3) := dz_at (i := 22) dy_p06_12 rfl
theorem dX1_isPairSound_40 : decode cX1_isPairSound 40 = .ok (.iconst 1, 1) := dz_at (i := 23) dy_p06_12 rfl
theorem dX1_isPairSound_41 : decode cX1_isPairSound 41 = .ok (.goto 4, 3) := dz_at (i := 24) dy_p06_12 rfl
theorem dX1_isPairSound_44 : decode cX1_isPairSound 44 = .ok (.iconst 0, 1) := dz_at (i := 25) dy_p06_12 rfl
theorem dX1_isPairSound_45 : decode cX1_isPairSound 45 = .ok (.if_icmp .eq 5, 3) := dz_at (i := 26) dy_p06_12 rfl
theorem dX1_isPairSound_48 : decode cX1_isPairSound 48 = .ok (.iconst 0, 1) := dz_at (i := 27) dy_p06_12 rfl
theorem dX1_isPairSound_49 : decode cX1_isPairSound 49 = .ok (.ireturn, 1) := dz_at (i := 28) dy_p06_12 rfl
theorem dX1_isPairSound_50 : decode cX1_isPairSound 50 = .ok (.iload 6, 2) := dz_at (i := 29) dy_p06_12 rfl
theorem dX1_isPairSound_52 : decode cX1_isPairSound 52 = .ok (.ifCond .eq 18, 3) := dz_at (i := 30) dy_p06_12 rfl
theorem dX1_isPairSound_55 : decode cX1_isPairSound 55 = .ok (.aload_n 0, 1) := dz_at (i := 31) dy_p06_12 rfl
theorem dX1_isPairSound_56 : decode cX1_isPairSound 56 = .ok (.lload_n 1, 1) := dz_at (i := 32) dy_p06_12 rfl
theorem dX1_isPairSound_57 : decode cX1_isPairSound 57 = .ok (.invokevirtual 97, 3) := dz_at (i := 33) dy_p06_12 rfl
theorem dX1_isPairSound_60 : decode cX1_isPairSound 60 = .ok (.aload_n 0, 1) := dz_at (i := 34) dy_p06_12 rfl
theorem dX1_isPairSound_61 : decode cX1_isPairSound 61 = .ok (.lload_n 3, 1) := dz_at (i := 35) dy_p06_12 rfl
theorem dX1_isPairSound_62 : decode cX1_isPairSound 62 = .ok (.invokevirtual 97, 3) := dz_at (i := 36) dy_p06_12 rfl
theorem dX1_isPairSound_65 : decode cX1_isPairSound 65 = .ok (.if_icmp .eq 5, 3) := dz_at (i := 37) dy_p06_12 rfl
theorem dX1_isPairSound_68 : decode cX1_isPairSound 68 = .ok (.iconst 0, 1) := dz_at (i := 38) dy_p06_12 rfl
theorem dX1_isPairSound_69 : decode cX1_isPairSound 69 = .ok (.ireturn, 1) := dz_at (i := 39) dy_p06_12 rfl
noncomputable def dz_p06_13 : List (Nat × Instr × Nat) := [(70, (.iload 6, 2)), (72, (.ifCond .ne 30, 3)), (75, (.aload_n 0, 1)), (76, (.lload_n 1, 1)), (77, (.lload_n 3, 1)), (78, (.invokevirtual 100, 3)), (81, (.ifCond .eq 21, 3)), (84, (.aload_n 0, 1)), (85, (.lload_n 1, 1)), (86, (.invokevirtual 55, 3)), (89, (.ifCond .eq 11, 3)), (92, (.aload_n 0, 1)), (93, (.lload_n 3, 1)), (94, (.invokevirtual 55, 3)), (97, (.ifCond .ne 5, 3)), (100, (.iconst 0, 1)), (101, (.ireturn, 1)), (102, (.aload_n 0, 1)), (103, (.lload_n 1, 1)), (104, (.lload_n 3, 1)), (105, (.invokevirtual 104, 3)), (108, (.lstore 7, 2)), (110, (.aload_n 0, 1)), (111, (.lload_n 1, 1)), (112, (.lload_n 3, 1)), (113, (.invokevirtual 108, 3)), (116, (.lstore 9, 2)), (118, (.lload 7, 2)), (120, (.lload_n 1, 1)), (121, (.lcmp, 1)), (122, (.ifCond .ne 10, 3)), (125, (.lload 9, 2)), (127, (.lload_n 3, 1)), (128, (.lcmp, 1)), (129, (.ifCond .eq 17, 3)), (132, (.lload 7, 2)), (134, (.lload_n 3, 1)), (135, (.lcmp, 1)), (136, (.ifCond .ne 14, 3)), (139, (.lload 9, 2))]
theorem dy_p06_13 : dz_ok cX1_isPairSound dz_p06_13 = true := by decide +kernel
theorem dX1_isPairSound_70 : decode cX1_isPairSound 70 = .ok (.iload 6, 2) := dz_at (i := 0) dy_p06_13 rfl
theorem dX1_isPairSound_72 : decode cX1_isPairSound 72 = .ok (.ifCond .ne 30, 3) := dz_at (i := 1) dy_p06_13 rfl
theorem dX1_isPairSound_75 : decode cX1_isPairSound 75 = .ok (.aload_n 0, 1) := dz_at (i := 2) dy_p06_13 rfl
theorem dX1_isPairSound_76 : decode cX1_isPairSound 76 = .ok (.lload_n 1, 1) := dz_at (i := 3) dy_p06_13 rfl
theorem dX1_isPairSound_77 : decode cX1_isPairSound 77 = .ok (.lload_n 3, 1) := dz_at (i := 4) dy_p06_13 rfl
theorem dX1_isPairSound_78 : decode cX1_isPairSound 78 = .ok (.invokevirtual 100, 3) := dz_at (i := 5) dy_p06_13 rfl
theorem dX1_isPairSound_81 : decode cX1_isPairSound 81 = .ok (.ifCond .eq 21, 3) := dz_at (i := 6) dy_p06_13 rfl
theorem dX1_isPairSound_84 : decode cX1_isPairSound 84 = .ok (.aload_n 0, 1) := dz_at (i := 7) dy_p06_13 rfl
theorem dX1_isPairSound_85 : decode cX1_isPairSound 85 = .ok (.lload_n 1, 1) := dz_at (i := 8) dy_p06_13 rfl
theorem dX1_isPairSound_86 : decode cX1_isPairSound 86 = .ok (.invokevirtual 55, 3) := dz_at (i := 9) dy_p06_13 rfl
theorem dX1_isPairSound_89 : decode cX1_isPairSound 89 = .ok (.ifCond .eq 11, 3) := dz_at (i := 10) dy_p06_13 rfl
theorem dX1_isPairSound_92 : decode cX1_isPairSound 92 = .ok (.aload_n 0, 1) := dz_at (i := 11) dy_p06_13 rfl
theorem dX1_isPairSound_93 : decode cX1_isPairSound 93 = .ok (.lload_n 3, 1) := dz_at (i := 12) dy_p06_13 rfl
theorem dX1_isPairSound_94 : decode cX1_isPairSound 94 = .ok (.invokevirtual 55, 3) := dz_at (i := 13) dy_p06_13 rfl
theorem dX1_isPairSound_97 : decode cX1_isPairSound 97 = .ok (.ifCond .ne 5, 3) := dz_at (i := 14) dy_p06_13 rfl
theorem dX1_isPairSound_100 : decode cX1_isPairSound 100 = .ok (.iconst 0, 1) := dz_at (i := 15) dy_p06_13 rfl
theorem dX1_isPairSound_101 : decode cX1_isPairSound 101 = .ok (.ireturn, 1) := dz_at (i := 16) dy_p06_13 rfl
theorem dX1_isPairSound_102 : decode cX1_isPairSound 102 = .ok (.aload_n 0, 1) := dz_at (i := 17) dy_p06_13 rfl
theorem dX1_isPairSound_103 : decode cX1_isPairSound 103 = .ok (.lload_n 1, 1) := dz_at (i := 18) dy_p06_13 rfl
theorem dX1_isPairSound_104 : decode cX1_isPairSound 104 = .ok (.lload_n 3, 1) := dz_at (i := 19) dy_p06_13 rfl
theorem dX1_isPairSound_105 : decode cX1_isPairSound 105 = .ok (.invokevirtual 104, 3) := dz_at (i := 20) dy_p06_13 rfl
theorem dX1_isPairSound_108 : decode cX1_isPairSound 108 = .ok (.lstore 7, 2) := dz_at (i := 21) dy_p06_13 rfl
theorem dX1_isPairSound_110 : decode cX1_isPairSound 110 = .ok (.aload_n 0, 1) := dz_at (i := 22) dy_p06_13 rfl
theorem dX1_isPairSound_111 : decode cX1_isPairSound 111 = .ok (.lload_n 1, 1) := dz_at (i := 23) dy_p06_13 rfl
theorem dX1_isPairSound_112 : decode cX1_isPairSound 112 = .ok (.lload_n 3, 1) := dz_at (i := 24) dy_p06_13 rfl
theorem dX1_isPairSound_113 : decode cX1_isPairSound 113 = .ok (.invokevirtual 108, 3) := dz_at (i := 25) dy_p06_13 rfl
theorem dX1_isPairSound_116 : decode cX1_isPairSound 116 = .ok (.lstore 9, 2) := dz_at (i := 26) dy_p06_13 rfl
theorem dX1_isPairSound_118 : decode cX1_isPairSound 118 = .ok (.lload 7, 2) := dz_at (i := 27) dy_p06_13 rfl
theorem dX1_isPairSound_120 : decode cX1_isPairSound 120 = .ok (.lload_n 1, 1) := dz_at (i := 28) dy_p06_13 rfl
theorem dX1_isPairSound_121 : decode cX1_isPairSound 121 = .ok (.lcmp, 1) := dz_at (i := 29) dy_p06_13 rfl
theorem dX1_isPairSound_122 : decode cX1_isPairSound 122 = .ok (.ifCond .ne 10, 3) := dz_at (i := 30) dy_p06_13 rfl
theorem dX1_isPairSound_125 : decode cX1_isPairSound 125 = .ok (.lload 9, 2) := dz_at (i := 31) dy_p06_13 rfl
theorem dX1_isPairSound_127 : decode cX1_isPairSound 127 = .ok (.lload_n 3, 1) := dz_at (i := 32) dy_p06_13 rfl
theorem dX1_isPairSound_128 : decode cX1_isPairSound 128 = .ok (.lcmp, 1) := dz_at (i := 33) dy_p06_13 rfl
theorem dX1_isPairSound_129 : decode cX1_isPairSound 129 = .ok (.ifCond .eq 17, 3) := dz_at (i := 34) dy_p06_13 rfl
theorem dX1_isPairSound_132 : decode cX1_isPairSound 132 = .ok (.lload 7, 2) := dz_at (i := 35) dy_p06_13 rfl
theorem dX1_isPairSound_134 : decode cX1_isPairSound 134 = .ok (.lload_n 3, 1) := dz_at (i := 36) dy_p06_13 rfl
theorem dX1_isPairSound_135 : decode cX1_isPairSound 135 = .ok (.lcmp, 1) := dz_at (i := 37) dy_p06_13 rfl
theorem dX1_isPairSound_136 : decode cX1_isPairSound 136 = .ok (.ifCond .ne 14, 3) := dz_at (i := 38) dy_p06_13 rfl
theorem dX1_isPairSound_139 : decode cX1_isPairSound 139 = .ok (.lload 9, 2) := dz_at (i := 39) dy_p06_13 rfl
noncomputable def dz_p06_14 : List (Nat × Instr × Nat) := [(141, (.lload_n 1, 1)), (142, (.lcmp, 1)), (143, (.ifCond .ne 7, 3)), (146, (.iconst 1, 1)), (147, (.goto 4, 3)), (150, (.iconst 0, 1)), (151, (.ireturn, 1))]
theorem dy_p06_14 : dz_ok cX1_isPairSound dz_p06_14 = true := by decide +kernel
theorem dX1_isPairSound_141 : decode cX1_isPairSound 141 = .ok (.lload_n 1, 1) := dz_at (i := 0) dy_p06_14 rfl
theorem dX1_isPairSound_142 : decode cX1_isPairSound 142 = .ok (.lcmp, 1) := dz_at (i := 1) dy_p06_14 rfl
theorem dX1_isPairSound_143 : decode cX1_isPairSound 143 = .ok (.ifCond .ne 7, 3) := dz_at (i := 2) dy_p06_14 rfl
theorem dX1_isPairSound_146 : decode cX1_isPairSound 146 = .ok (.iconst 1, 1) := dz_at (i := 3) dy_p06_14 rfl
theorem dX1_isPairSound_147 : decode cX1_isPairSound 147 = .ok (.goto 4, 3) := dz_at (i := 4) dy_p06_14 rfl
theorem dX1_isPairSound_150 : decode cX1_isPairSound 150 = .ok (.iconst 0, 1) := dz_at (i := 5) dy_p06_14 rfl
theorem dX1_isPairSound_151 : decode cX1_isPairSound 151 = .ok (.ireturn, 1) := dz_at (i := 6) dy_p06_14 rfl
noncomputable def o_X1_isPairSound (w : Bool) (p0 : Int64) (p1 : Int64) : Bool :=
  if (o_X1_order w p0 p1) = 0 then (if (o_X1_order w p0 p1) = (-(o_X1_order w p1 p0)) then (if p0 = p1 then (if (o_X1_hash p0) = (o_X1_hash p1) then (if (o_X1_greater w p0 p1) = p0 then (if (o_X1_lesser w p0 p1) = p1 then true
            else if (o_X1_greater w p0 p1) = p1 then (if (o_X1_lesser w p0 p1) = p0 then true
              else false)
            else false)
          else if (o_X1_greater w p0 p1) = p1 then (if (o_X1_lesser w p0 p1) = p0 then true
            else false)
          else false)
        else false)
      else false)
    else false)
  else if (o_X1_order w p0 p1) = (-(o_X1_order w p1 p0)) then (if p0 = p1 then false
    else if (o_X1_areLike w p0 p1) = true then (if (o_X1_isZero w p0) = true then (if (o_X1_isZero w p1) = true then (if (o_X1_greater w p0 p1) = p0 then (if (o_X1_lesser w p0 p1) = p1 then true
            else if (o_X1_greater w p0 p1) = p1 then (if (o_X1_lesser w p0 p1) = p0 then true
              else false)
            else false)
          else if (o_X1_greater w p0 p1) = p1 then (if (o_X1_lesser w p0 p1) = p0 then true
            else false)
          else false)
        else false)
      else false)
    else if (o_X1_greater w p0 p1) = p0 then (if (o_X1_lesser w p0 p1) = p1 then true
      else if (o_X1_greater w p0 p1) = p1 then (if (o_X1_lesser w p0 p1) = p0 then true
        else false)
      else false)
    else if (o_X1_greater w p0 p1) = p1 then (if (o_X1_lesser w p0 p1) = p0 then true
      else false)
    else false)
  else false
set_option maxHeartbeats 4000000 in
set_option maxRecDepth 100000 in
theorem k_X1_isPairSound (l : Launch) (dC : Nat → ClassId) (dI : Nat → Nat → Nat) (h0 : Nat) (w : Bool) (sz : Nat) (p0 : Int64) (p1 : Int64) : Met l yX1_isPairSound wsX1_isPairSound ({ frames := 3, cells := 0, slots := 0, locals := 76 }) (va_Pc [.ref h0, .long p0, .long p1] (xB (dC, dI) xCl [(h0, eW w)] [] sz)) (va_Qi (fun (r : Int32) (_ : Unit) => r = b2i (o_X1_isPairSound w p0 p1)) (fun _ _ => True) (aN sz)) 0 0 (aN sz) := by
  refine Met.ofW (cc := cX1_isPairSound) (maxL := 11) (ret := (some .boolean)) (by decide +kernel) rfl ?_
  intro p e s m args below meth c s₁ B hml hv
  obtain ⟨rfl, hsz, hP, hK⟩ := hv
  have hx := B.exec
  have hb := B.bytes
  have hr := B.returns
  have hts := atoms_spec (ws := wsX1_isPairSound) B.pre
  have hown : s.vm.findClass RX1 = some m.cls := findClass_of_methodNamed B.named
  have hlocks := B.notSynchronized
  subst hsz
  have hA : ∀ q : Nat, s.heap.size ≤ q → aN s.heap.size q := fun _ h => h
  have hS : va_S (aN s.heap.size) s.heap s.heap [] := va_S.rf
  have hP : va_P (dC, dI) xCl [(h0, eW w)] s.heap := hP
  have hl := lv_entry ([.ref h0, .long p0, .long p1]) (n := 11) (Nat.le_of_ble_eq_true rfl)
  rw [lg_entry_eq]
  generalize (lg_sl ([.ref h0, .long p0, .long p1]) ++ List.replicate (11 - (lg_sl ([.ref h0, .long p0, .long p1])).length) Slot.unset).toArray = ls at hl ⊢
  have hl : lv_has ls 11 [(0, .ref h0), (1, .long p0), (3, .long p1)] := hl
  refine lv_aload_n hx hb dX1_isPairSound_0 rfl (lv_at hl 0 rfl) ?_
  refine lv_lload_n hx hb dX1_isPairSound_1 rfl (lv_at hl 1 rfl) ?_
  refine lv_lload_n hx hb dX1_isPairSound_2 rfl (lv_at hl 2 rfl) ?_
  have hPc := hP.sub (ws' := [(h0, eW w)]) [0] rfl
  have hKc := hK.sub (tys' := []) [] rfl
  refine va_calli (va_runV (As := [.long p0, .long p1]) (rest := []) ⟨hx, hb, hml, hown, hts⟩ (k_X1_order l dC dI h0 w s.heap.size p0 p1) (cwV 2 hts gX1_isPairSound_X1_order rfl rfl rfl (by decide +kernel) ⟨Nat.le_of_ble_eq_true rfl, Nat.le_of_ble_eq_true rfl⟩) (xB.preV hKc hPc (ci := 3) (q0 := 0) rfl rfl) rfl rfl hl.1 rfl (lv_room (Nat.le_of_ble_eq_true rfl)) dX1_isPairSound_3 ⟨Nat.le_of_ble_eq_true rfl, Nat.le_of_ble_eq_true rfl⟩) hS xA_old (fun q h => hA q (Nat.le_trans hS.1 h)) (fun r_1 u t H locs ht hvm hw hB hz hk hS => ?_)
  replace hw : r_1 = (o_X1_order w p0 p1) := hw
  subst r_1
  have hP := xP_keep hP hk
  refine lv_istore (lv' := [(5, .int (o_X1_order w p0 p1)), (0, .ref h0), (1, .long p0), (3, .long p1)]) hx hb dX1_isPairSound_6 hl (by decide +kernel) rfl (fun ls hl => ?_)
  refine lv_iload hx hb dX1_isPairSound_8 (lv_at hl 0 rfl) ?_
  refine lv_if_ne (tgt := 17) hx hb dX1_isPairSound_10 (by decide +kernel) (fun c_2 => ?_) (fun c_2 => ?_)
  · skip
    refine lv_iconst (v := 0) hx hb dX1_isPairSound_17 (by decide +kernel) ?_
    refine lv_istore (lv' := [(6, .int 0), (5, .int (o_X1_order w p0 p1)), (0, .ref h0), (1, .long p0), (3, .long p1)]) hx hb dX1_isPairSound_18 hl (by decide +kernel) rfl (fun ls hl => ?_)
    refine lv_iload hx hb dX1_isPairSound_20 (lv_at hl 1 rfl) ?_
    refine lv_aload_n hx hb dX1_isPairSound_22 rfl (lv_at hl 2 rfl) ?_
    refine lv_lload_n hx hb dX1_isPairSound_23 rfl (lv_at hl 4 rfl) ?_
    refine lv_lload_n hx hb dX1_isPairSound_24 rfl (lv_at hl 3 rfl) ?_
    have hPc := hP.sub (ws' := [(h0, eW w)]) [0] rfl
    have hKc := hK.sub (tys' := []) [] rfl
    refine va_calli (va_runV (As := [.long p1, .long p0]) (rest := [.int (o_X1_order w p0 p1)]) ⟨hx, hb, hml, hown, hts⟩ (k_X1_order l dC dI h0 w H.size p1 p0) (cwV 2 hts gX1_isPairSound_X1_order rfl rfl rfl (by decide +kernel) ⟨Nat.le_of_ble_eq_true rfl, Nat.le_of_ble_eq_true rfl⟩) (xB.preV hKc hPc (ci := 3) (q0 := 0) rfl rfl) rfl rfl hl.1 rfl (lv_room (Nat.le_of_ble_eq_true rfl)) dX1_isPairSound_25 ⟨Nat.le_of_ble_eq_true rfl, Nat.le_of_ble_eq_true rfl⟩) hS xA_old (fun q h => hA q (Nat.le_trans hS.1 h)) (fun r_3 u t H locs ht hvm hw hB hz hk hS => ?_)
    replace hw : r_3 = (o_X1_order w p1 p0) := hw
    subst r_3
    have hP := xP_keep hP hk
    refine lv_ineg hx hb dX1_isPairSound_28 ?_
    refine lv_icmp_ne (tgt := 48) hx hb dX1_isPairSound_29 (by decide +kernel) (fun c_4 => ?_) (fun c_4 => ?_)
    · skip
      refine lv_iconst (v := 0) hx hb dX1_isPairSound_48 (by decide +kernel) ?_
      have he : o_X1_isPairSound w p0 p1 = false := by (rw [o_X1_isPairSound, if_neg c_2, if_neg c_4]) <;> rfl
      refine W.widen (k := 0) (n := 0) (by omega) (by omega) ?_
      exact W.zret (v := 0) (ty := .boolean) hx hb hr rfl (fun t ht hW => ⟨⟨_, (), rfl, (by (rw [he]) <;> rfl), trivial⟩, hS.F ht⟩) hS.2.2 dX1_isPairSound_49
    · skip
      refine lv_iload hx hb dX1_isPairSound_32 (lv_at hl 0 rfl) ?_
      refine lv_lload_n hx hb dX1_isPairSound_34 rfl (lv_at hl 3 rfl) ?_
      refine lv_lload_n hx hb dX1_isPairSound_35 rfl (lv_at hl 4 rfl) ?_
      refine xc_ne (tgt := 44) hx hb dX1_isPairSound_36 dX1_isPairSound_37 (by decide +kernel) (fun c_5 => ?_) (fun c_5 => ?_)
      · skip
        refine lv_iconst (v := 0) hx hb dX1_isPairSound_44 (by decide +kernel) ?_
        refine lv_icmp_eq (tgt := 50) hx hb dX1_isPairSound_45 (by decide +kernel) (fun _ => ?_) (fun c9 => absurd c9 (by decide +kernel))
        refine lv_iload hx hb dX1_isPairSound_50 (lv_at hl 0 rfl) ?_
        refine lv_if_eq (tgt := 70) hx hb dX1_isPairSound_52 (by decide +kernel) (fun _ => ?_) (fun c9 => absurd c9 (by decide +kernel))
        refine lv_iload hx hb dX1_isPairSound_70 (lv_at hl 0 rfl) ?_
        refine lv_if_ne (tgt := 102) hx hb dX1_isPairSound_72 (by decide +kernel) (fun c9 => absurd c9 (by decide +kernel)) (fun _ => ?_)
        refine lv_aload_n hx hb dX1_isPairSound_75 rfl (lv_at hl 2 rfl) ?_
        refine lv_lload_n hx hb dX1_isPairSound_76 rfl (lv_at hl 3 rfl) ?_
        refine lv_lload_n hx hb dX1_isPairSound_77 rfl (lv_at hl 4 rfl) ?_
        have hPc := hP.sub (ws' := [(h0, eW w)]) [0] rfl
        have hKc := hK.sub (tys' := []) [] rfl
        refine va_calli (va_runV (As := [.long p0, .long p1]) (rest := []) ⟨hx, hb, hml, hown, hts⟩ (k_X1_areLike l dC dI h0 w H.size p0 p1) (cwV 2 hts gX1_isPairSound_X1_areLike rfl rfl rfl (by decide +kernel) ⟨Nat.le_of_ble_eq_true rfl, Nat.le_of_ble_eq_true rfl⟩) (xB.preV hKc hPc (ci := 3) (q0 := 0) rfl rfl) rfl rfl hl.1 rfl (lv_room (Nat.le_of_ble_eq_true rfl)) dX1_isPairSound_78 ⟨Nat.le_of_ble_eq_true rfl, Nat.le_of_ble_eq_true rfl⟩) hS xA_old (fun q h => hA q (Nat.le_trans hS.1 h)) (fun r_6 u t H locs ht hvm hw hB hz hk hS => ?_)
        replace hw : r_6 = b2i (o_X1_areLike w p0 p1) := hw
        subst r_6
        have hP := xP_keep hP hk
        refine xz_eq (tgt := 102) hx hb dX1_isPairSound_81 (by decide +kernel) (fun c_7 => ?_) (fun c_7 => ?_)
        · skip
          refine lv_aload_n hx hb dX1_isPairSound_102 rfl (lv_at hl 2 rfl) ?_
          refine lv_lload_n hx hb dX1_isPairSound_103 rfl (lv_at hl 3 rfl) ?_
          refine lv_lload_n hx hb dX1_isPairSound_104 rfl (lv_at hl 4 rfl) ?_
          have hPc := hP.sub (ws' := [(h0, eW w)]) [0] rfl
          have hKc := hK.sub (tys' := []) [] rfl
          refine va_calll (va_runV (As := [.long p0, .long p1]) (rest := []) ⟨hx, hb, hml, hown, hts⟩ (k_X1_greater l dC dI h0 w H.size p0 p1) (cwV 2 hts gX1_isPairSound_X1_greater rfl rfl rfl (by decide +kernel) ⟨Nat.le_of_ble_eq_true rfl, Nat.le_of_ble_eq_true rfl⟩) (xB.preV hKc hPc (ci := 3) (q0 := 0) rfl rfl) rfl rfl hl.1 rfl (lv_room (Nat.le_of_ble_eq_true rfl)) dX1_isPairSound_105 ⟨Nat.le_of_ble_eq_true rfl, Nat.le_of_ble_eq_true rfl⟩) hS xA_old (fun q h => hA q (Nat.le_trans hS.1 h)) (fun r_8 u t H locs ht hvm hw hB hz hk hS => ?_)
          replace hw : r_8 = (o_X1_greater w p0 p1) := hw
          subst r_8
          have hP := xP_keep hP hk
          refine lv_lstore (lv' := [(7, .long (o_X1_greater w p0 p1)), (6, .int 0), (5, .int (o_X1_order w p0 p1)), (0, .ref h0), (1, .long p0), (3, .long p1)]) hx hb dX1_isPairSound_108 hl (by decide +kernel) rfl (fun ls hl => ?_)
          refine lv_aload_n hx hb dX1_isPairSound_110 rfl (lv_at hl 3 rfl) ?_
          refine lv_lload_n hx hb dX1_isPairSound_111 rfl (lv_at hl 4 rfl) ?_
          refine lv_lload_n hx hb dX1_isPairSound_112 rfl (lv_at hl 5 rfl) ?_
          have hPc := hP.sub (ws' := [(h0, eW w)]) [0] rfl
          have hKc := hK.sub (tys' := []) [] rfl
          refine va_calll (va_runV (As := [.long p0, .long p1]) (rest := []) ⟨hx, hb, hml, hown, hts⟩ (k_X1_lesser l dC dI h0 w H.size p0 p1) (cwV 2 hts gX1_isPairSound_X1_lesser rfl rfl rfl (by decide +kernel) ⟨Nat.le_of_ble_eq_true rfl, Nat.le_of_ble_eq_true rfl⟩) (xB.preV hKc hPc (ci := 3) (q0 := 0) rfl rfl) rfl rfl hl.1 rfl (lv_room (Nat.le_of_ble_eq_true rfl)) dX1_isPairSound_113 ⟨Nat.le_of_ble_eq_true rfl, Nat.le_of_ble_eq_true rfl⟩) hS xA_old (fun q h => hA q (Nat.le_trans hS.1 h)) (fun r_9 u t H locs ht hvm hw hB hz hk hS => ?_)
          replace hw : r_9 = (o_X1_lesser w p0 p1) := hw
          subst r_9
          have hP := xP_keep hP hk
          refine lv_lstore (lv' := [(9, .long (o_X1_lesser w p0 p1)), (7, .long (o_X1_greater w p0 p1)), (6, .int 0), (5, .int (o_X1_order w p0 p1)), (0, .ref h0), (1, .long p0), (3, .long p1)]) hx hb dX1_isPairSound_116 hl (by decide +kernel) rfl (fun ls hl => ?_)
          refine lv_lload hx hb dX1_isPairSound_118 (lv_at hl 1 rfl) ?_
          refine lv_lload_n hx hb dX1_isPairSound_120 rfl (lv_at hl 5 rfl) ?_
          refine xc_ne (tgt := 132) hx hb dX1_isPairSound_121 dX1_isPairSound_122 (by decide +kernel) (fun c_10 => ?_) (fun c_10 => ?_)
          · skip
            refine lv_lload hx hb dX1_isPairSound_132 (lv_at hl 1 rfl) ?_
            refine lv_lload_n hx hb dX1_isPairSound_134 rfl (lv_at hl 6 rfl) ?_
            refine xc_ne (tgt := 150) hx hb dX1_isPairSound_135 dX1_isPairSound_136 (by decide +kernel) (fun c_11 => ?_) (fun c_11 => ?_)
            · skip
              refine lv_iconst (v := 0) hx hb dX1_isPairSound_150 (by decide +kernel) ?_
              have he : o_X1_isPairSound w p0 p1 = false := by (rw [o_X1_isPairSound, if_neg c_2, if_pos c_4, if_neg c_5, if_neg c_7, if_neg c_10, if_neg c_11]) <;> rfl
              refine W.widen (k := 0) (n := 0) (by omega) (by omega) ?_
              exact W.zret (v := 0) (ty := .boolean) hx hb hr rfl (fun t ht hW => ⟨⟨_, (), rfl, (by (rw [he]) <;> rfl), trivial⟩, hS.F ht⟩) hS.2.2 dX1_isPairSound_151
            · skip
              refine lv_lload hx hb dX1_isPairSound_139 (lv_at hl 0 rfl) ?_
              refine lv_lload_n hx hb dX1_isPairSound_141 rfl (lv_at hl 5 rfl) ?_
              refine xc_ne (tgt := 150) hx hb dX1_isPairSound_142 dX1_isPairSound_143 (by decide +kernel) (fun c_12 => ?_) (fun c_12 => ?_)
              · skip
                refine lv_iconst (v := 0) hx hb dX1_isPairSound_150 (by decide +kernel) ?_
                have he : o_X1_isPairSound w p0 p1 = false := by (rw [o_X1_isPairSound, if_neg c_2, if_pos c_4, if_neg c_5, if_neg c_7, if_neg c_10, if_pos c_11, if_neg c_12]) <;> rfl
                refine W.widen (k := 0) (n := 0) (by omega) (by omega) ?_
                exact W.zret (v := 0) (ty := .boolean) hx hb hr rfl (fun t ht hW => ⟨⟨_, (), rfl, (by (rw [he]) <;> rfl), trivial⟩, hS.F ht⟩) hS.2.2 dX1_isPairSound_151
              · skip
                refine lv_iconst (v := 1) hx hb dX1_isPairSound_146 (by decide +kernel) ?_
                refine lv_goto (tgt := 151) hx hb dX1_isPairSound_147 (by decide +kernel) ?_
                have he : o_X1_isPairSound w p0 p1 = true := by (rw [o_X1_isPairSound, if_neg c_2, if_pos c_4, if_neg c_5, if_neg c_7, if_neg c_10, if_pos c_11, if_pos c_12]) <;> rfl
                refine W.widen (k := 0) (n := 0) (by omega) (by omega) ?_
                exact W.zret (v := 1) (ty := .boolean) hx hb hr rfl (fun t ht hW => ⟨⟨_, (), rfl, (by (rw [he]) <;> rfl), trivial⟩, hS.F ht⟩) hS.2.2 dX1_isPairSound_151
          · skip
            refine lv_lload hx hb dX1_isPairSound_125 (lv_at hl 0 rfl) ?_
            refine lv_lload_n hx hb dX1_isPairSound_127 rfl (lv_at hl 6 rfl) ?_
            refine xc_eq (tgt := 146) hx hb dX1_isPairSound_128 dX1_isPairSound_129 (by decide +kernel) (fun c_13 => ?_) (fun c_13 => ?_)
            · skip
              refine lv_iconst (v := 1) hx hb dX1_isPairSound_146 (by decide +kernel) ?_
              refine lv_goto (tgt := 151) hx hb dX1_isPairSound_147 (by decide +kernel) ?_
              have he : o_X1_isPairSound w p0 p1 = true := by (rw [o_X1_isPairSound, if_neg c_2, if_pos c_4, if_neg c_5, if_neg c_7, if_pos c_10, if_pos c_13]) <;> rfl
              refine W.widen (k := 0) (n := 0) (by omega) (by omega) ?_
              exact W.zret (v := 1) (ty := .boolean) hx hb hr rfl (fun t ht hW => ⟨⟨_, (), rfl, (by (rw [he]) <;> rfl), trivial⟩, hS.F ht⟩) hS.2.2 dX1_isPairSound_151
            · skip
              refine lv_lload hx hb dX1_isPairSound_132 (lv_at hl 1 rfl) ?_
              refine lv_lload_n hx hb dX1_isPairSound_134 rfl (lv_at hl 6 rfl) ?_
              refine xc_ne (tgt := 150) hx hb dX1_isPairSound_135 dX1_isPairSound_136 (by decide +kernel) (fun c_14 => ?_) (fun c_14 => ?_)
              · skip
                refine lv_iconst (v := 0) hx hb dX1_isPairSound_150 (by decide +kernel) ?_
                have he : o_X1_isPairSound w p0 p1 = false := by (rw [o_X1_isPairSound, if_neg c_2, if_pos c_4, if_neg c_5, if_neg c_7, if_pos c_10, if_neg c_13, if_neg c_14]) <;> rfl
                refine W.widen (k := 0) (n := 0) (by omega) (by omega) ?_
                exact W.zret (v := 0) (ty := .boolean) hx hb hr rfl (fun t ht hW => ⟨⟨_, (), rfl, (by (rw [he]) <;> rfl), trivial⟩, hS.F ht⟩) hS.2.2 dX1_isPairSound_151
              · skip
                refine lv_lload hx hb dX1_isPairSound_139 (lv_at hl 0 rfl) ?_
                refine lv_lload_n hx hb dX1_isPairSound_141 rfl (lv_at hl 5 rfl) ?_
                refine xc_ne (tgt := 150) hx hb dX1_isPairSound_142 dX1_isPairSound_143 (by decide +kernel) (fun c_15 => ?_) (fun c_15 => ?_)
                · skip
                  refine lv_iconst (v := 0) hx hb dX1_isPairSound_150 (by decide +kernel) ?_
                  have he : o_X1_isPairSound w p0 p1 = false := by (rw [o_X1_isPairSound, if_neg c_2, if_pos c_4, if_neg c_5, if_neg c_7, if_pos c_10, if_neg c_13, if_pos c_14, if_neg c_15]) <;> rfl
                  refine W.widen (k := 0) (n := 0) (by omega) (by omega) ?_
                  exact W.zret (v := 0) (ty := .boolean) hx hb hr rfl (fun t ht hW => ⟨⟨_, (), rfl, (by (rw [he]) <;> rfl), trivial⟩, hS.F ht⟩) hS.2.2 dX1_isPairSound_151
                · skip
                  refine lv_iconst (v := 1) hx hb dX1_isPairSound_146 (by decide +kernel) ?_
                  refine lv_goto (tgt := 151) hx hb dX1_isPairSound_147 (by decide +kernel) ?_
                  have he : o_X1_isPairSound w p0 p1 = true := by (rw [o_X1_isPairSound, if_neg c_2, if_pos c_4, if_neg c_5, if_neg c_7, if_pos c_10, if_neg c_13, if_pos c_14, if_pos c_15]) <;> rfl
                  refine W.widen (k := 0) (n := 0) (by omega) (by omega) ?_
                  exact W.zret (v := 1) (ty := .boolean) hx hb hr rfl (fun t ht hW => ⟨⟨_, (), rfl, (by (rw [he]) <;> rfl), trivial⟩, hS.F ht⟩) hS.2.2 dX1_isPairSound_151
        · skip
          refine lv_aload_n hx hb dX1_isPairSound_84 rfl (lv_at hl 2 rfl) ?_
          refine lv_lload_n hx hb dX1_isPairSound_85 rfl (lv_at hl 3 rfl) ?_
          have hPc := hP.sub (ws' := [(h0, eW w)]) [0] rfl
          have hKc := hK.sub (tys' := []) [] rfl
          refine va_calli (va_runV (As := [.long p0]) (rest := []) ⟨hx, hb, hml, hown, hts⟩ (k_X1_isZero l dC dI h0 w H.size p0) (cwV 1 hts gX1_isPairSound_X1_isZero rfl rfl rfl (by decide +kernel) ⟨Nat.le_of_ble_eq_true rfl, Nat.le_of_ble_eq_true rfl⟩) (xB.preV hKc hPc (ci := 3) (q0 := 0) rfl rfl) rfl rfl hl.1 rfl (lv_room (Nat.le_of_ble_eq_true rfl)) dX1_isPairSound_86 ⟨Nat.le_of_ble_eq_true rfl, Nat.le_of_ble_eq_true rfl⟩) hS xA_old (fun q h => hA q (Nat.le_trans hS.1 h)) (fun r_16 u t H locs ht hvm hw hB hz hk hS => ?_)
          replace hw : r_16 = b2i (o_X1_isZero w p0) := hw
          subst r_16
          have hP := xP_keep hP hk
          refine xz_eq (tgt := 100) hx hb dX1_isPairSound_89 (by decide +kernel) (fun c_17 => ?_) (fun c_17 => ?_)
          · skip
            refine lv_iconst (v := 0) hx hb dX1_isPairSound_100 (by decide +kernel) ?_
            have he : o_X1_isPairSound w p0 p1 = false := by (rw [o_X1_isPairSound, if_neg c_2, if_pos c_4, if_neg c_5, if_pos c_7, if_neg c_17]) <;> rfl
            refine W.widen (k := 0) (n := 0) (by omega) (by omega) ?_
            exact W.zret (v := 0) (ty := .boolean) hx hb hr rfl (fun t ht hW => ⟨⟨_, (), rfl, (by (rw [he]) <;> rfl), trivial⟩, hS.F ht⟩) hS.2.2 dX1_isPairSound_101
          · skip
            refine lv_aload_n hx hb dX1_isPairSound_92 rfl (lv_at hl 2 rfl) ?_
            refine lv_lload_n hx hb dX1_isPairSound_93 rfl (lv_at hl 4 rfl) ?_
            have hPc := hP.sub (ws' := [(h0, eW w)]) [0] rfl
            have hKc := hK.sub (tys' := []) [] rfl
            refine va_calli (va_runV (As := [.long p1]) (rest := []) ⟨hx, hb, hml, hown, hts⟩ (k_X1_isZero l dC dI h0 w H.size p1) (cwV 1 hts gX1_isPairSound_X1_isZero rfl rfl rfl (by decide +kernel) ⟨Nat.le_of_ble_eq_true rfl, Nat.le_of_ble_eq_true rfl⟩) (xB.preV hKc hPc (ci := 3) (q0 := 0) rfl rfl) rfl rfl hl.1 rfl (lv_room (Nat.le_of_ble_eq_true rfl)) dX1_isPairSound_94 ⟨Nat.le_of_ble_eq_true rfl, Nat.le_of_ble_eq_true rfl⟩) hS xA_old (fun q h => hA q (Nat.le_trans hS.1 h)) (fun r_18 u t H locs ht hvm hw hB hz hk hS => ?_)
            replace hw : r_18 = b2i (o_X1_isZero w p1) := hw
            subst r_18
            have hP := xP_keep hP hk
            refine xz_ne (tgt := 102) hx hb dX1_isPairSound_97 (by decide +kernel) (fun c_19 => ?_) (fun c_19 => ?_)
            · skip
              refine lv_aload_n hx hb dX1_isPairSound_102 rfl (lv_at hl 2 rfl) ?_
              refine lv_lload_n hx hb dX1_isPairSound_103 rfl (lv_at hl 3 rfl) ?_
              refine lv_lload_n hx hb dX1_isPairSound_104 rfl (lv_at hl 4 rfl) ?_
              have hPc := hP.sub (ws' := [(h0, eW w)]) [0] rfl
              have hKc := hK.sub (tys' := []) [] rfl
              refine va_calll (va_runV (As := [.long p0, .long p1]) (rest := []) ⟨hx, hb, hml, hown, hts⟩ (k_X1_greater l dC dI h0 w H.size p0 p1) (cwV 2 hts gX1_isPairSound_X1_greater rfl rfl rfl (by decide +kernel) ⟨Nat.le_of_ble_eq_true rfl, Nat.le_of_ble_eq_true rfl⟩) (xB.preV hKc hPc (ci := 3) (q0 := 0) rfl rfl) rfl rfl hl.1 rfl (lv_room (Nat.le_of_ble_eq_true rfl)) dX1_isPairSound_105 ⟨Nat.le_of_ble_eq_true rfl, Nat.le_of_ble_eq_true rfl⟩) hS xA_old (fun q h => hA q (Nat.le_trans hS.1 h)) (fun r_20 u t H locs ht hvm hw hB hz hk hS => ?_)
              replace hw : r_20 = (o_X1_greater w p0 p1) := hw
              subst r_20
              have hP := xP_keep hP hk
              refine lv_lstore (lv' := [(7, .long (o_X1_greater w p0 p1)), (6, .int 0), (5, .int (o_X1_order w p0 p1)), (0, .ref h0), (1, .long p0), (3, .long p1)]) hx hb dX1_isPairSound_108 hl (by decide +kernel) rfl (fun ls hl => ?_)
              refine lv_aload_n hx hb dX1_isPairSound_110 rfl (lv_at hl 3 rfl) ?_
              refine lv_lload_n hx hb dX1_isPairSound_111 rfl (lv_at hl 4 rfl) ?_
              refine lv_lload_n hx hb dX1_isPairSound_112 rfl (lv_at hl 5 rfl) ?_
              have hPc := hP.sub (ws' := [(h0, eW w)]) [0] rfl
              have hKc := hK.sub (tys' := []) [] rfl
              refine va_calll (va_runV (As := [.long p0, .long p1]) (rest := []) ⟨hx, hb, hml, hown, hts⟩ (k_X1_lesser l dC dI h0 w H.size p0 p1) (cwV 2 hts gX1_isPairSound_X1_lesser rfl rfl rfl (by decide +kernel) ⟨Nat.le_of_ble_eq_true rfl, Nat.le_of_ble_eq_true rfl⟩) (xB.preV hKc hPc (ci := 3) (q0 := 0) rfl rfl) rfl rfl hl.1 rfl (lv_room (Nat.le_of_ble_eq_true rfl)) dX1_isPairSound_113 ⟨Nat.le_of_ble_eq_true rfl, Nat.le_of_ble_eq_true rfl⟩) hS xA_old (fun q h => hA q (Nat.le_trans hS.1 h)) (fun r_21 u t H locs ht hvm hw hB hz hk hS => ?_)
              replace hw : r_21 = (o_X1_lesser w p0 p1) := hw
              subst r_21
              have hP := xP_keep hP hk
              refine lv_lstore (lv' := [(9, .long (o_X1_lesser w p0 p1)), (7, .long (o_X1_greater w p0 p1)), (6, .int 0), (5, .int (o_X1_order w p0 p1)), (0, .ref h0), (1, .long p0), (3, .long p1)]) hx hb dX1_isPairSound_116 hl (by decide +kernel) rfl (fun ls hl => ?_)
              refine lv_lload hx hb dX1_isPairSound_118 (lv_at hl 1 rfl) ?_
              refine lv_lload_n hx hb dX1_isPairSound_120 rfl (lv_at hl 5 rfl) ?_
              refine xc_ne (tgt := 132) hx hb dX1_isPairSound_121 dX1_isPairSound_122 (by decide +kernel) (fun c_22 => ?_) (fun c_22 => ?_)
              · skip
                refine lv_lload hx hb dX1_isPairSound_132 (lv_at hl 1 rfl) ?_
                refine lv_lload_n hx hb dX1_isPairSound_134 rfl (lv_at hl 6 rfl) ?_
                refine xc_ne (tgt := 150) hx hb dX1_isPairSound_135 dX1_isPairSound_136 (by decide +kernel) (fun c_23 => ?_) (fun c_23 => ?_)
                · skip
                  refine lv_iconst (v := 0) hx hb dX1_isPairSound_150 (by decide +kernel) ?_
                  have he : o_X1_isPairSound w p0 p1 = false := by (rw [o_X1_isPairSound, if_neg c_2, if_pos c_4, if_neg c_5, if_pos c_7, if_pos c_17, if_pos c_19, if_neg c_22, if_neg c_23]) <;> rfl
                  refine W.widen (k := 0) (n := 0) (by omega) (by omega) ?_
                  exact W.zret (v := 0) (ty := .boolean) hx hb hr rfl (fun t ht hW => ⟨⟨_, (), rfl, (by (rw [he]) <;> rfl), trivial⟩, hS.F ht⟩) hS.2.2 dX1_isPairSound_151
                · skip
                  refine lv_lload hx hb dX1_isPairSound_139 (lv_at hl 0 rfl) ?_
                  refine lv_lload_n hx hb dX1_isPairSound_141 rfl (lv_at hl 5 rfl) ?_
                  refine xc_ne (tgt := 150) hx hb dX1_isPairSound_142 dX1_isPairSound_143 (by decide +kernel) (fun c_24 => ?_) (fun c_24 => ?_)
                  · skip
                    refine lv_iconst (v := 0) hx hb dX1_isPairSound_150 (by decide +kernel) ?_
                    have he : o_X1_isPairSound w p0 p1 = false := by (rw [o_X1_isPairSound, if_neg c_2, if_pos c_4, if_neg c_5, if_pos c_7, if_pos c_17, if_pos c_19, if_neg c_22, if_pos c_23, if_neg c_24]) <;> rfl
                    refine W.widen (k := 0) (n := 0) (by omega) (by omega) ?_
                    exact W.zret (v := 0) (ty := .boolean) hx hb hr rfl (fun t ht hW => ⟨⟨_, (), rfl, (by (rw [he]) <;> rfl), trivial⟩, hS.F ht⟩) hS.2.2 dX1_isPairSound_151
                  · skip
                    refine lv_iconst (v := 1) hx hb dX1_isPairSound_146 (by decide +kernel) ?_
                    refine lv_goto (tgt := 151) hx hb dX1_isPairSound_147 (by decide +kernel) ?_
                    have he : o_X1_isPairSound w p0 p1 = true := by (rw [o_X1_isPairSound, if_neg c_2, if_pos c_4, if_neg c_5, if_pos c_7, if_pos c_17, if_pos c_19, if_neg c_22, if_pos c_23, if_pos c_24]) <;> rfl
                    refine W.widen (k := 0) (n := 0) (by omega) (by omega) ?_
                    exact W.zret (v := 1) (ty := .boolean) hx hb hr rfl (fun t ht hW => ⟨⟨_, (), rfl, (by (rw [he]) <;> rfl), trivial⟩, hS.F ht⟩) hS.2.2 dX1_isPairSound_151
              · skip
                refine lv_lload hx hb dX1_isPairSound_125 (lv_at hl 0 rfl) ?_
                refine lv_lload_n hx hb dX1_isPairSound_127 rfl (lv_at hl 6 rfl) ?_
                refine xc_eq (tgt := 146) hx hb dX1_isPairSound_128 dX1_isPairSound_129 (by decide +kernel) (fun c_25 => ?_) (fun c_25 => ?_)
                · skip
                  refine lv_iconst (v := 1) hx hb dX1_isPairSound_146 (by decide +kernel) ?_
                  refine lv_goto (tgt := 151) hx hb dX1_isPairSound_147 (by decide +kernel) ?_
                  have he : o_X1_isPairSound w p0 p1 = true := by (rw [o_X1_isPairSound, if_neg c_2, if_pos c_4, if_neg c_5, if_pos c_7, if_pos c_17, if_pos c_19, if_pos c_22, if_pos c_25]) <;> rfl
                  refine W.widen (k := 0) (n := 0) (by omega) (by omega) ?_
                  exact W.zret (v := 1) (ty := .boolean) hx hb hr rfl (fun t ht hW => ⟨⟨_, (), rfl, (by (rw [he]) <;> rfl), trivial⟩, hS.F ht⟩) hS.2.2 dX1_isPairSound_151
                · skip
                  refine lv_lload hx hb dX1_isPairSound_132 (lv_at hl 1 rfl) ?_
                  refine lv_lload_n hx hb dX1_isPairSound_134 rfl (lv_at hl 6 rfl) ?_
                  refine xc_ne (tgt := 150) hx hb dX1_isPairSound_135 dX1_isPairSound_136 (by decide +kernel) (fun c_26 => ?_) (fun c_26 => ?_)
                  · skip
                    refine lv_iconst (v := 0) hx hb dX1_isPairSound_150 (by decide +kernel) ?_
                    have he : o_X1_isPairSound w p0 p1 = false := by (rw [o_X1_isPairSound, if_neg c_2, if_pos c_4, if_neg c_5, if_pos c_7, if_pos c_17, if_pos c_19, if_pos c_22, if_neg c_25, if_neg c_26]) <;> rfl
                    refine W.widen (k := 0) (n := 0) (by omega) (by omega) ?_
                    exact W.zret (v := 0) (ty := .boolean) hx hb hr rfl (fun t ht hW => ⟨⟨_, (), rfl, (by (rw [he]) <;> rfl), trivial⟩, hS.F ht⟩) hS.2.2 dX1_isPairSound_151
                  · skip
                    refine lv_lload hx hb dX1_isPairSound_139 (lv_at hl 0 rfl) ?_
                    refine lv_lload_n hx hb dX1_isPairSound_141 rfl (lv_at hl 5 rfl) ?_
                    refine xc_ne (tgt := 150) hx hb dX1_isPairSound_142 dX1_isPairSound_143 (by decide +kernel) (fun c_27 => ?_) (fun c_27 => ?_)
                    · skip
                      refine lv_iconst (v := 0) hx hb dX1_isPairSound_150 (by decide +kernel) ?_
                      have he : o_X1_isPairSound w p0 p1 = false := by (rw [o_X1_isPairSound, if_neg c_2, if_pos c_4, if_neg c_5, if_pos c_7, if_pos c_17, if_pos c_19, if_pos c_22, if_neg c_25, if_pos c_26, if_neg c_27]) <;> rfl
                      refine W.widen (k := 0) (n := 0) (by omega) (by omega) ?_
                      exact W.zret (v := 0) (ty := .boolean) hx hb hr rfl (fun t ht hW => ⟨⟨_, (), rfl, (by (rw [he]) <;> rfl), trivial⟩, hS.F ht⟩) hS.2.2 dX1_isPairSound_151
                    · skip
                      refine lv_iconst (v := 1) hx hb dX1_isPairSound_146 (by decide +kernel) ?_
                      refine lv_goto (tgt := 151) hx hb dX1_isPairSound_147 (by decide +kernel) ?_
                      have he : o_X1_isPairSound w p0 p1 = true := by (rw [o_X1_isPairSound, if_neg c_2, if_pos c_4, if_neg c_5, if_pos c_7, if_pos c_17, if_pos c_19, if_pos c_22, if_neg c_25, if_pos c_26, if_pos c_27]) <;> rfl
                      refine W.widen (k := 0) (n := 0) (by omega) (by omega) ?_
                      exact W.zret (v := 1) (ty := .boolean) hx hb hr rfl (fun t ht hW => ⟨⟨_, (), rfl, (by (rw [he]) <;> rfl), trivial⟩, hS.F ht⟩) hS.2.2 dX1_isPairSound_151
            · skip
              refine lv_iconst (v := 0) hx hb dX1_isPairSound_100 (by decide +kernel) ?_
              have he : o_X1_isPairSound w p0 p1 = false := by (rw [o_X1_isPairSound, if_neg c_2, if_pos c_4, if_neg c_5, if_pos c_7, if_pos c_17, if_neg c_19]) <;> rfl
              refine W.widen (k := 0) (n := 0) (by omega) (by omega) ?_
              exact W.zret (v := 0) (ty := .boolean) hx hb hr rfl (fun t ht hW => ⟨⟨_, (), rfl, (by (rw [he]) <;> rfl), trivial⟩, hS.F ht⟩) hS.2.2 dX1_isPairSound_101
      · skip
        refine lv_iconst (v := 1) hx hb dX1_isPairSound_40 (by decide +kernel) ?_
        refine lv_goto (tgt := 45) hx hb dX1_isPairSound_41 (by decide +kernel) ?_
        refine lv_icmp_eq (tgt := 50) hx hb dX1_isPairSound_45 (by decide +kernel) (fun c9 => absurd c9 (by decide +kernel)) (fun _ => ?_)
        refine lv_iconst (v := 0) hx hb dX1_isPairSound_48 (by decide +kernel) ?_
        have he : o_X1_isPairSound w p0 p1 = false := by (rw [o_X1_isPairSound, if_neg c_2, if_pos c_4, if_pos c_5]) <;> rfl
        refine W.widen (k := 0) (n := 0) (by omega) (by omega) ?_
        exact W.zret (v := 0) (ty := .boolean) hx hb hr rfl (fun t ht hW => ⟨⟨_, (), rfl, (by (rw [he]) <;> rfl), trivial⟩, hS.F ht⟩) hS.2.2 dX1_isPairSound_49
  · skip
    refine lv_iconst (v := 1) hx hb dX1_isPairSound_13 (by decide +kernel) ?_
    refine lv_goto (tgt := 18) hx hb dX1_isPairSound_14 (by decide +kernel) ?_
    refine lv_istore (lv' := [(6, .int 1), (5, .int (o_X1_order w p0 p1)), (0, .ref h0), (1, .long p0), (3, .long p1)]) hx hb dX1_isPairSound_18 hl (by decide +kernel) rfl (fun ls hl => ?_)
    refine lv_iload hx hb dX1_isPairSound_20 (lv_at hl 1 rfl) ?_
    refine lv_aload_n hx hb dX1_isPairSound_22 rfl (lv_at hl 2 rfl) ?_
    refine lv_lload_n hx hb dX1_isPairSound_23 rfl (lv_at hl 4 rfl) ?_
    refine lv_lload_n hx hb dX1_isPairSound_24 rfl (lv_at hl 3 rfl) ?_
    have hPc := hP.sub (ws' := [(h0, eW w)]) [0] rfl
    have hKc := hK.sub (tys' := []) [] rfl
    refine va_calli (va_runV (As := [.long p1, .long p0]) (rest := [.int (o_X1_order w p0 p1)]) ⟨hx, hb, hml, hown, hts⟩ (k_X1_order l dC dI h0 w H.size p1 p0) (cwV 2 hts gX1_isPairSound_X1_order rfl rfl rfl (by decide +kernel) ⟨Nat.le_of_ble_eq_true rfl, Nat.le_of_ble_eq_true rfl⟩) (xB.preV hKc hPc (ci := 3) (q0 := 0) rfl rfl) rfl rfl hl.1 rfl (lv_room (Nat.le_of_ble_eq_true rfl)) dX1_isPairSound_25 ⟨Nat.le_of_ble_eq_true rfl, Nat.le_of_ble_eq_true rfl⟩) hS xA_old (fun q h => hA q (Nat.le_trans hS.1 h)) (fun r_28 u t H locs ht hvm hw hB hz hk hS => ?_)
    replace hw : r_28 = (o_X1_order w p1 p0) := hw
    subst r_28
    have hP := xP_keep hP hk
    refine lv_ineg hx hb dX1_isPairSound_28 ?_
    refine lv_icmp_ne (tgt := 48) hx hb dX1_isPairSound_29 (by decide +kernel) (fun c_29 => ?_) (fun c_29 => ?_)
    · skip
      refine lv_iconst (v := 0) hx hb dX1_isPairSound_48 (by decide +kernel) ?_
      have he : o_X1_isPairSound w p0 p1 = false := by (rw [o_X1_isPairSound, if_pos c_2, if_neg c_29]) <;> rfl
      refine W.widen (k := 0) (n := 0) (by omega) (by omega) ?_
      exact W.zret (v := 0) (ty := .boolean) hx hb hr rfl (fun t ht hW => ⟨⟨_, (), rfl, (by (rw [he]) <;> rfl), trivial⟩, hS.F ht⟩) hS.2.2 dX1_isPairSound_49
    · skip
      refine lv_iload hx hb dX1_isPairSound_32 (lv_at hl 0 rfl) ?_
      refine lv_lload_n hx hb dX1_isPairSound_34 rfl (lv_at hl 3 rfl) ?_
      refine lv_lload_n hx hb dX1_isPairSound_35 rfl (lv_at hl 4 rfl) ?_
      refine xc_ne (tgt := 44) hx hb dX1_isPairSound_36 dX1_isPairSound_37 (by decide +kernel) (fun c_30 => ?_) (fun c_30 => ?_)
      · skip
        refine lv_iconst (v := 0) hx hb dX1_isPairSound_44 (by decide +kernel) ?_
        refine lv_icmp_eq (tgt := 50) hx hb dX1_isPairSound_45 (by decide +kernel) (fun c9 => absurd c9 (by decide +kernel)) (fun _ => ?_)
        refine lv_iconst (v := 0) hx hb dX1_isPairSound_48 (by decide +kernel) ?_
        have he : o_X1_isPairSound w p0 p1 = false := by (rw [o_X1_isPairSound, if_pos c_2, if_pos c_29, if_neg c_30]) <;> rfl
        refine W.widen (k := 0) (n := 0) (by omega) (by omega) ?_
        exact W.zret (v := 0) (ty := .boolean) hx hb hr rfl (fun t ht hW => ⟨⟨_, (), rfl, (by (rw [he]) <;> rfl), trivial⟩, hS.F ht⟩) hS.2.2 dX1_isPairSound_49
      · skip
        refine lv_iconst (v := 1) hx hb dX1_isPairSound_40 (by decide +kernel) ?_
        refine lv_goto (tgt := 45) hx hb dX1_isPairSound_41 (by decide +kernel) ?_
        refine lv_icmp_eq (tgt := 50) hx hb dX1_isPairSound_45 (by decide +kernel) (fun _ => ?_) (fun c9 => absurd c9 (by decide +kernel))
        refine lv_iload hx hb dX1_isPairSound_50 (lv_at hl 0 rfl) ?_
        refine lv_if_eq (tgt := 70) hx hb dX1_isPairSound_52 (by decide +kernel) (fun c9 => absurd c9 (by decide +kernel)) (fun _ => ?_)
        refine lv_aload_n hx hb dX1_isPairSound_55 rfl (lv_at hl 2 rfl) ?_
        refine lv_lload_n hx hb dX1_isPairSound_56 rfl (lv_at hl 3 rfl) ?_
        have hPc := hP.sub (ws' := [(h0, eW w)]) [0] rfl
        have hKc := hK.sub (tys' := []) [] rfl
        refine va_calli (va_runV (As := [.long p0]) (rest := []) ⟨hx, hb, hml, hown, hts⟩ (k_X1_hash l dC dI h0 w H.size p0) (cwV 1 hts gX1_isPairSound_X1_hash rfl rfl rfl (by decide +kernel) ⟨Nat.le_of_ble_eq_true rfl, Nat.le_of_ble_eq_true rfl⟩) (xB.preV hKc hPc (ci := 3) (q0 := 0) rfl rfl) rfl rfl hl.1 rfl (lv_room (Nat.le_of_ble_eq_true rfl)) dX1_isPairSound_57 ⟨Nat.le_of_ble_eq_true rfl, Nat.le_of_ble_eq_true rfl⟩) hS xA_old (fun q h => hA q (Nat.le_trans hS.1 h)) (fun r_31 u t H locs ht hvm hw hB hz hk hS => ?_)
        replace hw : r_31 = (o_X1_hash p0) := hw
        subst r_31
        have hP := xP_keep hP hk
        refine lv_aload_n hx hb dX1_isPairSound_60 rfl (lv_at hl 2 rfl) ?_
        refine lv_lload_n hx hb dX1_isPairSound_61 rfl (lv_at hl 4 rfl) ?_
        have hPc := hP.sub (ws' := [(h0, eW w)]) [0] rfl
        have hKc := hK.sub (tys' := []) [] rfl
        refine va_calli (va_runV (As := [.long p1]) (rest := [.int (o_X1_hash p0)]) ⟨hx, hb, hml, hown, hts⟩ (k_X1_hash l dC dI h0 w H.size p1) (cwV 1 hts gX1_isPairSound_X1_hash rfl rfl rfl (by decide +kernel) ⟨Nat.le_of_ble_eq_true rfl, Nat.le_of_ble_eq_true rfl⟩) (xB.preV hKc hPc (ci := 3) (q0 := 0) rfl rfl) rfl rfl hl.1 rfl (lv_room (Nat.le_of_ble_eq_true rfl)) dX1_isPairSound_62 ⟨Nat.le_of_ble_eq_true rfl, Nat.le_of_ble_eq_true rfl⟩) hS xA_old (fun q h => hA q (Nat.le_trans hS.1 h)) (fun r_32 u t H locs ht hvm hw hB hz hk hS => ?_)
        replace hw : r_32 = (o_X1_hash p1) := hw
        subst r_32
        have hP := xP_keep hP hk
        refine lv_icmp_eq (tgt := 70) hx hb dX1_isPairSound_65 (by decide +kernel) (fun c_33 => ?_) (fun c_33 => ?_)
        · skip
          refine lv_iload hx hb dX1_isPairSound_70 (lv_at hl 0 rfl) ?_
          refine lv_if_ne (tgt := 102) hx hb dX1_isPairSound_72 (by decide +kernel) (fun _ => ?_) (fun c9 => absurd c9 (by decide +kernel))
          refine lv_aload_n hx hb dX1_isPairSound_102 rfl (lv_at hl 2 rfl) ?_
          refine lv_lload_n hx hb dX1_isPairSound_103 rfl (lv_at hl 3 rfl) ?_
          refine lv_lload_n hx hb dX1_isPairSound_104 rfl (lv_at hl 4 rfl) ?_
          have hPc := hP.sub (ws' := [(h0, eW w)]) [0] rfl
          have hKc := hK.sub (tys' := []) [] rfl
          refine va_calll (va_runV (As := [.long p0, .long p1]) (rest := []) ⟨hx, hb, hml, hown, hts⟩ (k_X1_greater l dC dI h0 w H.size p0 p1) (cwV 2 hts gX1_isPairSound_X1_greater rfl rfl rfl (by decide +kernel) ⟨Nat.le_of_ble_eq_true rfl, Nat.le_of_ble_eq_true rfl⟩) (xB.preV hKc hPc (ci := 3) (q0 := 0) rfl rfl) rfl rfl hl.1 rfl (lv_room (Nat.le_of_ble_eq_true rfl)) dX1_isPairSound_105 ⟨Nat.le_of_ble_eq_true rfl, Nat.le_of_ble_eq_true rfl⟩) hS xA_old (fun q h => hA q (Nat.le_trans hS.1 h)) (fun r_34 u t H locs ht hvm hw hB hz hk hS => ?_)
          replace hw : r_34 = (o_X1_greater w p0 p1) := hw
          subst r_34
          have hP := xP_keep hP hk
          refine lv_lstore (lv' := [(7, .long (o_X1_greater w p0 p1)), (6, .int 1), (5, .int (o_X1_order w p0 p1)), (0, .ref h0), (1, .long p0), (3, .long p1)]) hx hb dX1_isPairSound_108 hl (by decide +kernel) rfl (fun ls hl => ?_)
          refine lv_aload_n hx hb dX1_isPairSound_110 rfl (lv_at hl 3 rfl) ?_
          refine lv_lload_n hx hb dX1_isPairSound_111 rfl (lv_at hl 4 rfl) ?_
          refine lv_lload_n hx hb dX1_isPairSound_112 rfl (lv_at hl 5 rfl) ?_
          have hPc := hP.sub (ws' := [(h0, eW w)]) [0] rfl
          have hKc := hK.sub (tys' := []) [] rfl
          refine va_calll (va_runV (As := [.long p0, .long p1]) (rest := []) ⟨hx, hb, hml, hown, hts⟩ (k_X1_lesser l dC dI h0 w H.size p0 p1) (cwV 2 hts gX1_isPairSound_X1_lesser rfl rfl rfl (by decide +kernel) ⟨Nat.le_of_ble_eq_true rfl, Nat.le_of_ble_eq_true rfl⟩) (xB.preV hKc hPc (ci := 3) (q0 := 0) rfl rfl) rfl rfl hl.1 rfl (lv_room (Nat.le_of_ble_eq_true rfl)) dX1_isPairSound_113 ⟨Nat.le_of_ble_eq_true rfl, Nat.le_of_ble_eq_true rfl⟩) hS xA_old (fun q h => hA q (Nat.le_trans hS.1 h)) (fun r_35 u t H locs ht hvm hw hB hz hk hS => ?_)
          replace hw : r_35 = (o_X1_lesser w p0 p1) := hw
          subst r_35
          have hP := xP_keep hP hk
          refine lv_lstore (lv' := [(9, .long (o_X1_lesser w p0 p1)), (7, .long (o_X1_greater w p0 p1)), (6, .int 1), (5, .int (o_X1_order w p0 p1)), (0, .ref h0), (1, .long p0), (3, .long p1)]) hx hb dX1_isPairSound_116 hl (by decide +kernel) rfl (fun ls hl => ?_)
          refine lv_lload hx hb dX1_isPairSound_118 (lv_at hl 1 rfl) ?_
          refine lv_lload_n hx hb dX1_isPairSound_120 rfl (lv_at hl 5 rfl) ?_
          refine xc_ne (tgt := 132) hx hb dX1_isPairSound_121 dX1_isPairSound_122 (by decide +kernel) (fun c_36 => ?_) (fun c_36 => ?_)
          · skip
            refine lv_lload hx hb dX1_isPairSound_132 (lv_at hl 1 rfl) ?_
            refine lv_lload_n hx hb dX1_isPairSound_134 rfl (lv_at hl 6 rfl) ?_
            refine xc_ne (tgt := 150) hx hb dX1_isPairSound_135 dX1_isPairSound_136 (by decide +kernel) (fun c_37 => ?_) (fun c_37 => ?_)
            · skip
              refine lv_iconst (v := 0) hx hb dX1_isPairSound_150 (by decide +kernel) ?_
              have he : o_X1_isPairSound w p0 p1 = false := by (rw [o_X1_isPairSound, if_pos c_2, if_pos c_29, if_pos c_30, if_pos c_33, if_neg c_36, if_neg c_37]) <;> rfl
              refine W.widen (k := 0) (n := 0) (by omega) (by omega) ?_
              exact W.zret (v := 0) (ty := .boolean) hx hb hr rfl (fun t ht hW => ⟨⟨_, (), rfl, (by (rw [he]) <;> rfl), trivial⟩, hS.F ht⟩) hS.2.2 dX1_isPairSound_151
            · skip
              refine lv_lload hx hb dX1_isPairSound_139 (lv_at hl 0 rfl) ?_
              refine lv_lload_n hx hb dX1_isPairSound_141 rfl (lv_at hl 5 rfl) ?_
              refine xc_ne (tgt := 150) hx hb dX1_isPairSound_142 dX1_isPairSound_143 (by decide +kernel) (fun c_38 => ?_) (fun c_38 => ?_)
              · skip
                refine lv_iconst (v := 0) hx hb dX1_isPairSound_150 (by decide +kernel) ?_
                have he : o_X1_isPairSound w p0 p1 = false := by (rw [o_X1_isPairSound, if_pos c_2, if_pos c_29, if_pos c_30, if_pos c_33, if_neg c_36, if_pos c_37, if_neg c_38]) <;> rfl
                refine W.widen (k := 0) (n := 0) (by omega) (by omega) ?_
                exact W.zret (v := 0) (ty := .boolean) hx hb hr rfl (fun t ht hW => ⟨⟨_, (), rfl, (by (rw [he]) <;> rfl), trivial⟩, hS.F ht⟩) hS.2.2 dX1_isPairSound_151
              · skip
                refine lv_iconst (v := 1) hx hb dX1_isPairSound_146 (by decide +kernel) ?_
                refine lv_goto (tgt := 151) hx hb dX1_isPairSound_147 (by decide +kernel) ?_
                have he : o_X1_isPairSound w p0 p1 = true := by (rw [o_X1_isPairSound, if_pos c_2, if_pos c_29, if_pos c_30, if_pos c_33, if_neg c_36, if_pos c_37, if_pos c_38]) <;> rfl
                refine W.widen (k := 0) (n := 0) (by omega) (by omega) ?_
                exact W.zret (v := 1) (ty := .boolean) hx hb hr rfl (fun t ht hW => ⟨⟨_, (), rfl, (by (rw [he]) <;> rfl), trivial⟩, hS.F ht⟩) hS.2.2 dX1_isPairSound_151
          · skip
            refine lv_lload hx hb dX1_isPairSound_125 (lv_at hl 0 rfl) ?_
            refine lv_lload_n hx hb dX1_isPairSound_127 rfl (lv_at hl 6 rfl) ?_
            refine xc_eq (tgt := 146) hx hb dX1_isPairSound_128 dX1_isPairSound_129 (by decide +kernel) (fun c_39 => ?_) (fun c_39 => ?_)
            · skip
              refine lv_iconst (v := 1) hx hb dX1_isPairSound_146 (by decide +kernel) ?_
              refine lv_goto (tgt := 151) hx hb dX1_isPairSound_147 (by decide +kernel) ?_
              have he : o_X1_isPairSound w p0 p1 = true := by (rw [o_X1_isPairSound, if_pos c_2, if_pos c_29, if_pos c_30, if_pos c_33, if_pos c_36, if_pos c_39]) <;> rfl
              refine W.widen (k := 0) (n := 0) (by omega) (by omega) ?_
              exact W.zret (v := 1) (ty := .boolean) hx hb hr rfl (fun t ht hW => ⟨⟨_, (), rfl, (by (rw [he]) <;> rfl), trivial⟩, hS.F ht⟩) hS.2.2 dX1_isPairSound_151
            · skip
              refine lv_lload hx hb dX1_isPairSound_132 (lv_at hl 1 rfl) ?_
              refine lv_lload_n hx hb dX1_isPairSound_134 rfl (lv_at hl 6 rfl) ?_
              refine xc_ne (tgt := 150) hx hb dX1_isPairSound_135 dX1_isPairSound_136 (by decide +kernel) (fun c_40 => ?_) (fun c_40 => ?_)
              · skip
                refine lv_iconst (v := 0) hx hb dX1_isPairSound_150 (by decide +kernel) ?_
                have he : o_X1_isPairSound w p0 p1 = false := by (rw [o_X1_isPairSound, if_pos c_2, if_pos c_29, if_pos c_30, if_pos c_33, if_pos c_36, if_neg c_39, if_neg c_40]) <;> rfl
                refine W.widen (k := 0) (n := 0) (by omega) (by omega) ?_
                exact W.zret (v := 0) (ty := .boolean) hx hb hr rfl (fun t ht hW => ⟨⟨_, (), rfl, (by (rw [he]) <;> rfl), trivial⟩, hS.F ht⟩) hS.2.2 dX1_isPairSound_151
              · skip
                refine lv_lload hx hb dX1_isPairSound_139 (lv_at hl 0 rfl) ?_
                refine lv_lload_n hx hb dX1_isPairSound_141 rfl (lv_at hl 5 rfl) ?_
                refine xc_ne (tgt := 150) hx hb dX1_isPairSound_142 dX1_isPairSound_143 (by decide +kernel) (fun c_41 => ?_) (fun c_41 => ?_)
                · skip
                  refine lv_iconst (v := 0) hx hb dX1_isPairSound_150 (by decide +kernel) ?_
                  have he : o_X1_isPairSound w p0 p1 = false := by (rw [o_X1_isPairSound, if_pos c_2, if_pos c_29, if_pos c_30, if_pos c_33, if_pos c_36, if_neg c_39, if_pos c_40, if_neg c_41]) <;> rfl
                  refine W.widen (k := 0) (n := 0) (by omega) (by omega) ?_
                  exact W.zret (v := 0) (ty := .boolean) hx hb hr rfl (fun t ht hW => ⟨⟨_, (), rfl, (by (rw [he]) <;> rfl), trivial⟩, hS.F ht⟩) hS.2.2 dX1_isPairSound_151
                · skip
                  refine lv_iconst (v := 1) hx hb dX1_isPairSound_146 (by decide +kernel) ?_
                  refine lv_goto (tgt := 151) hx hb dX1_isPairSound_147 (by decide +kernel) ?_
                  have he : o_X1_isPairSound w p0 p1 = true := by (rw [o_X1_isPairSound, if_pos c_2, if_pos c_29, if_pos c_30, if_pos c_33, if_pos c_36, if_neg c_39, if_pos c_40, if_pos c_41]) <;> rfl
                  refine W.widen (k := 0) (n := 0) (by omega) (by omega) ?_
                  exact W.zret (v := 1) (ty := .boolean) hx hb hr rfl (fun t ht hW => ⟨⟨_, (), rfl, (by (rw [he]) <;> rfl), trivial⟩, hS.F ht⟩) hS.2.2 dX1_isPairSound_151
        · skip
          refine lv_iconst (v := 0) hx hb dX1_isPairSound_68 (by decide +kernel) ?_
          have he : o_X1_isPairSound w p0 p1 = false := by (rw [o_X1_isPairSound, if_pos c_2, if_pos c_29, if_pos c_30, if_neg c_33]) <;> rfl
          refine W.widen (k := 0) (n := 0) (by omega) (by omega) ?_
          exact W.zret (v := 0) (ty := .boolean) hx hb hr rfl (fun t ht hW => ⟨⟨_, (), rfl, (by (rw [he]) <;> rfl), trivial⟩, hS.F ht⟩) hS.2.2 dX1_isPairSound_69
