theorem cl_X0_find_1 : ∀ w ∈ [.fieldLink RX0 15 "Edgefloats$Row" "cells" "[J", .static yX2_checkCell, .initialized RX2, .code yX2_checkCell cX2_checkCell 1 none, .classLink RX2 148 "java/lang/IndexOutOfBoundsException", .initialized "java/lang/IndexOutOfBoundsException"], w ∈ wsX0_find := fun _ h => (List.mem_cons_of_mem _ (List.mem_append_left _ (List.mem_append_left _ h)))
theorem cl_X0_find_2 : ∀ w ∈ wsX00, w ∈ wsX0_find := fun _ h => (List.mem_cons_of_mem _ (List.mem_append_left _ (List.mem_append_right _ h)))
theorem cl_X0_find_3 : ∀ w ∈ (vx_atS RX2 152 "java/lang/IndexOutOfBoundsException" ["java/lang/RuntimeException", "java/lang/Exception"]).filter goodWord, w ∈ wsX0_find := fun _ h => (List.mem_cons_of_mem _ (List.mem_append_right _ h))
set_option maxRecDepth 20000 in
theorem ggX0_find_X2_checkCell : GoodIn wsX0_find wsX2_checkCell := goodIn_sub (List.forall_mem_cons.mpr ⟨(cl_X0_find_1 _ (List.mem_of_getElem? (i := 3) rfl)), fun w h => (List.mem_append.mp h).elim ((List.forall_mem_cons.mpr ⟨(cl_X0_find_1 _ (List.mem_of_getElem? (i := 4) rfl)), List.forall_mem_cons.mpr ⟨(cl_X0_find_1 _ (List.mem_of_getElem? (i := 5) rfl)), fun _ h => absurd h List.not_mem_nil⟩⟩) w) ((cl_X0_find_3) w)⟩) (by decide +kernel)
set_option maxRecDepth 20000 in
theorem gX0_find_X2_checkCell_n22 : GoodIn wsX0_find (wsX2_checkCell) := ggX0_find_X2_checkCell
noncomputable def dz_p12_1 : List (Nat × Instr × Nat) := [(0, (.iload_n 1, 1)), (1, (.invokestatic 22, 3)), (4, (.iload_n 1, 1)), (5, (.istore_n 3, 1)), (6, (.iconst 0, 1)), (7, (.istore 4, 2)), (9, (.iload 4, 2)), (11, (.bipush 8, 2)), (13, (.if_icmp .ge 65, 3)), (16, (.iload_n 2, 1)), (17, (.ifCond .eq 17, 3)), (20, (.iload 4, 2)), (22, (.iload_n 3, 1)), (23, (.if_icmp .le 7, 3)), (26, (.iconst 1, 1)), (27, (.goto 18, 3)), (30, (.iconst 0, 1)), (31, (.goto 14, 3)), (34, (.iload 4, 2)), (36, (.iload_n 3, 1)), (37, (.if_icmp .ge 7, 3)), (40, (.iconst 1, 1)), (41, (.goto 4, 3)), (44, (.iconst 0, 1)), (45, (.istore 5, 2)), (47, (.iload 5, 2)), (49, (.ifCond .eq 23, 3)), (52, (.aload_n 0, 1)), (53, (.getfield 15, 3)), (56, (.iload 4, 2)), (58, (.laload, 1)), (59, (.aload_n 0, 1)), (60, (.getfield 15, 3)), (63, (.iload_n 1, 1)), (64, (.laload, 1)), (65, (.lcmp, 1)), (66, (.ifCond .ne 6, 3)), (69, (.iload 4, 2)), (71, (.istore_n 3, 1)), (72, (.iinc 4 1, 3))]
theorem dy_p12_1 : dz_ok cX0_find dz_p12_1 = true := by decide +kernel
theorem dX0_find_0 : decode cX0_find 0 = .ok (.iload_n 1, 1) := dz_at (i := 0) dy_p12_1 rfl
theorem dX0_find_1 : decode cX0_find 1 = .ok (.invokestatic 22, 3) := dz_at (i := 1) dy_p12_1 rfl
theorem dX0_find_4 : decode cX0_find 4 = .ok (.iload_n 1, 1) := dz_at (i := 2) dy_p12_1 rfl
theorem dX0_find_5 : decode cX0_find 5 = .ok (.istore_n 3, 1) := dz_at (i := 3) dy_p12_1 rfl
theorem dX0_find_6 : decode cX0_find 6 = .ok (.iconst 0, 1) := dz_at (i := 4) dy_p12_1 rfl
theorem dX0_find_7 : decode cX0_find 7 = .ok (.istore 4, 2) := dz_at (i := 5) dy_p12_1 rfl
theorem dX0_find_9 : decode cX0_find 9 = .ok (.iload 4, 2) := dz_at (i := 6) dy_p12_1 rfl
theorem dX0_find_11 : decode cX0_find 11 = .ok (.bipush 8, 2) := dz_at (i := 7) dy_p12_1 rfl
theorem dX0_find_13 : decode cX0_find 13 = .ok (.if_icmp .ge 65, 3) := dz_at (i := 8) dy_p12_1 rfl
theorem dX0_find_16 : decode cX0_find 16 = .ok (.iload_n 2, 1) := dz_at (i := 9) dy_p12_1 rfl
theorem dX0_find_17 : decode cX0_find 17 = .ok (.ifCond .eq 17, 3) := dz_at (i := 10) dy_p12_1 rfl
theorem dX0_find_20 : decode cX0_find 20 = .ok (.iload 4, 2) := dz_at (i := 11) dy_p12_1 rfl
theorem dX0_find_22 : decode cX0_find 22 = .ok (.iload_n 3, 1) := dz_at (i := 12) dy_p12_1 rfl
theorem dX0_find_23 : decode cX0_find 23 = .ok (.if_icmp .le 7, 3) := dz_at (i := 13) dy_p12_1 rfl
theorem dX0_find_26 : decode cX0_find 26 = .ok (.iconst 1, 1) := dz_at (i := 14) dy_p12_1 rfl
theorem dX0_find_27 : decode cX0_find 27 = .ok (.goto 18, 3) := dz_at (i := 15) dy_p12_1 rfl
theorem dX0_find_30 : decode cX0_find 30 = .ok (.iconst 0, 1) := dz_at (i := 16) dy_p12_1 rfl
theorem dX0_find_31 : decode cX0_find 31 = .ok (.goto 14, 3) := dz_at (i := 17) dy_p12_1 rfl
theorem dX0_find_34 : decode cX0_find 34 = .ok (.iload 4, 2) := dz_at (i := 18) dy_p12_1 rfl
theorem dX0_find_36 : decode cX0_find 36 = .ok (.iload_n 3, 1) := dz_at (i := 19) dy_p12_1 rfl
theorem dX0_find_37 : decode cX0_find 37 = .ok (.if_icmp .ge 7, 3) := dz_at (i := 20) dy_p12_1 rfl
theorem dX0_find_40 : decode cX0_find 40 = .ok (.iconst 1, 1) := dz_at (i := 21) dy_p12_1 rfl
theorem dX0_find_41 : decode cX0_find 41 = .ok (.goto 4, 3) := dz_at (i := 22) dy_p12_1 rfl
theorem dX0_find_44 : decode cX0_find 44 = .ok (.iconst 0, 1) := dz_at (i := 23) dy_p12_1 rfl
theorem dX0_find_45 : decode cX0_find 45 = .ok (.istore 5, 2) := dz_at (i := 24) dy_p12_1 rfl
theorem dX0_find_47 : decode cX0_find 47 = .ok (.iload 5, 2) := dz_at (i := 25) dy_p12_1 rfl
theorem dX0_find_49 : decode cX0_find 49 = .ok (.ifCond .eq 23, 3) := dz_at (i := 26) dy_p12_1 rfl
theorem dX0_find_52 : decode cX0_find 52 = .ok (.aload_n 0, 1) := dz_at (i := 27) dy_p12_1 rfl
theorem dX0_find_53 : decode cX0_find 53 = .ok (.getfield 15, 3) := dz_at (i := 28) dy_p12_1 rfl
theorem dX0_find_56 : decode cX0_find 56 = .ok (.iload 4, 2) := dz_at (i := 29) dy_p12_1 rfl
theorem dX0_find_58 : decode cX0_find 58 = .ok (.laload, 1) := dz_at (i := 30) dy_p12_1 rfl
theorem dX0_find_59 : decode cX0_find 59 = .ok (.aload_n 0, 1) := dz_at (i := 31) dy_p12_1 rfl
theorem dX0_find_60 : decode cX0_find 60 = .ok (.getfield 15, 3) := dz_at (i := 32) dy_p12_1 rfl
theorem dX0_find_63 : decode cX0_find 63 = .ok (.iload_n 1, 1) := dz_at (i := 33) dy_p12_1 rfl
theorem dX0_find_64 : decode cX0_find 64 = .ok (.laload, 1) := dz_at (i := 34) dy_p12_1 rfl
theorem dX0_find_65 : decode cX0_find 65 = .ok (.lcmp, 1) := dz_at (i := 35) dy_p12_1 rfl
theorem dX0_find_66 : decode cX0_find 66 = .ok (.ifCond .ne 6, 3) := dz_at (i := 36) dy_p12_1 rfl
theorem dX0_find_69 : decode cX0_find 69 = .ok (.iload 4, 2) := dz_at (i := 37) dy_p12_1 rfl
theorem dX0_find_71 : decode cX0_find 71 = .ok (.istore_n 3, 1) := dz_at (i := 38) dy_p12_1 rfl
theorem dX0_find_72 : decode cX0_find 72 = .ok (.iinc 4 1, 3) := dz_at (i := 39) dy_p12_1 rfl
noncomputable def dz_p12_2 : List (Nat × Instr × Nat) := [(75, (.goto (-66), 3)), (78, (.iload_n 3, 1)), (79, (.ireturn, 1))]
theorem dy_p12_2 : dz_ok cX0_find dz_p12_2 = true := by decide +kernel
theorem dX0_find_75 : decode cX0_find 75 = .ok (.goto (-66), 3) := dz_at (i := 0) dy_p12_2 rfl
theorem dX0_find_78 : decode cX0_find 78 = .ok (.iload_n 3, 1) := dz_at (i := 1) dy_p12_2 rfl
theorem dX0_find_79 : decode cX0_find 79 = .ok (.ireturn, 1) := dz_at (i := 2) dy_p12_2 rfl
noncomputable def L_xfind (f : Nat → Int64) (p0 : Int32) (p1 : Bool) : Nat → Nat → Int32 → Int32
  | 0, _, v => v
  | nxfind + 1, ixfind, v => if p1 = true then (if (nI ixfind) ≤ v then L_xfind f p0 p1 nxfind (ixfind + 1) v
      else if (f ixfind) = (f p0.toNatClampNeg) then L_xfind f p0 p1 nxfind (ixfind + 1) (nI ixfind)
      else L_xfind f p0 p1 nxfind (ixfind + 1) v)
    else if v ≤ (nI ixfind) then L_xfind f p0 p1 nxfind (ixfind + 1) v
    else if (f ixfind) = (f p0.toNatClampNeg) then L_xfind f p0 p1 nxfind (ixfind + 1) (nI ixfind)
    else L_xfind f p0 p1 nxfind (ixfind + 1) v
noncomputable def o_X0_find (f : Nat → Int64) (p0 : Int32) (p1 : Bool) : Int32 × Int32 :=
  if (o_X2_checkCell p0) = 0 then (0, (L_xfind f p0 p1 8 0 p0))
  else ((o_X2_checkCell p0), 0)
set_option maxHeartbeats 4000000 in
set_option maxRecDepth 100000 in
theorem k_X0_find (l : Launch) (hfl : l.flags = flags0) (dC : Nat → ClassId) (dI : Nat → Nat → Nat) (cy : ClassId) (h0 : Nat) (aw : Nat) (ac : Nat) (ab : Nat) (w : Bool) (a : Int32) (rv : Int32) (f : Nat → Int64) (g : Nat → Int64) (sz : Nat) (N : Nat) (p0 : Int32) (p1 : Bool) : vx_Met l yX0_find wsX0_find ({ frames := 7, cells := 1, slots := 6, locals := 120 }) (va_Pc [.ref h0, .int p0, .int (b2i p1)] (xM (dC, dI) xCl [(h0, eR aw ac ab a rv), (aw, eW w), (ac, eA cy f), (ab, eA cy g)] [(cy, .long)] sz N)) (va_Qi (fun (r : Int32) (_ : Unit) => (o_X0_find f p0 p1).1 = 0 ∧ r = (o_X0_find f p0 p1).2) (fun _ _ => True) (aN sz)) (vx_X (fun _ : Unit => ¬ (o_X0_find f p0 p1).1 = 0) (fun E _ _ => E = xE (o_X0_find f p0 p1).1) (aN sz)) 1 6 (aN sz) := by
  refine vx_ofW (cc := cX0_find) (maxL := 6) (ret := (some .int)) (by decide +kernel) rfl ?_
  intro p e s m args below meth c s₁ B hml hno hv
  obtain ⟨rfl, hsz, hP, hK, hD0, hN, hG⟩ := hv
  have hx := B.exec
  have hb := B.bytes
  have hr := B.returns
  have hts := atoms_spec (ws := wsX0_find) B.pre
  have hown : s.vm.findClass RX0 = some m.cls := findClass_of_methodNamed B.named
  have hlocks := B.notSynchronized
  subst hsz
  have hA : ∀ q : Nat, s.heap.size ≤ q → aN s.heap.size q := fun _ h => h
  have hD := hD0
  have hAN : ∀ q, aN s.heap.size q → N ≤ q := fun q h => Nat.le_trans hN h
  have hS : va_S (aN s.heap.size) s.heap s.heap [] := va_S.rf
  have hP : va_P (dC, dI) xCl [(h0, eR aw ac ab a rv), (aw, eW w), (ac, eA cy f), (ab, eA cy g)] s.heap := hP
  have hl := lv_entry ([.ref h0, .int p0, .int (b2i p1)]) (n := 6) (Nat.le_of_ble_eq_true rfl)
  rw [lg_entry_eq]
  generalize (lg_sl ([.ref h0, .int p0, .int (b2i p1)]) ++ List.replicate (6 - (lg_sl ([.ref h0, .int p0, .int (b2i p1)])).length) Slot.unset).toArray = ls at hl ⊢
  have hl : lv_has ls 6 [(0, .ref h0), (1, .int p0), (2, .int (b2i p1))] := hl
  refine lv_iload_n hx hb dX0_find_0 rfl (lv_at hl 1 rfl) ?_
  have hPc := hP.sub (ws' := []) [] rfl
  have hDc := hD.sub (ws' := []) [] (by decide +kernel) rfl
  have hKc := hK.sub (tys' := []) [] rfl
  refine vx_callv (vx_runSN (As := [.int p0]) (rest := []) ⟨hx, hb, hml, hown, hts⟩ (k_X2_checkCell l hfl dC dI s.heap.size N p0) ⟨va_cnB 1 hts gX0_find_X2_checkCell_n22 rfl rfl rfl (hG.1 (.methodLinkNest RX0 22 yX2_checkCell RX2) (List.mem_of_getElem? (i := 0) rfl)) (hts (.initialized RX2) (by decide +kernel)) (by decide +kernel) ⟨Nat.le_of_ble_eq_true rfl, Nat.le_of_ble_eq_true rfl⟩, hts (.static yX2_checkCell) (by decide +kernel), trivial⟩ (xM.preS hKc hPc hDc (fun _ h => h) (Nat.le_trans hN hS.1) (hG.kept hS hAN)) rfl rfl hl.1 rfl (lv_room (Nat.le_of_ble_eq_true rfl)) dX0_find_1 ⟨Nat.le_of_ble_eq_true rfl, Nat.le_of_ble_eq_true rfl⟩) hS xA_old (fun q h => hA q (Nat.le_trans hS.1 h)) xA_old (fun E ce q9 u9 t H locs ht hvm hpx hbx hz hk hS hce hcv hcl => ?_) (fun u t H locs ht hvm hw hB hz hk hS => ?_)
  · have c_2 : ¬ (o_X2_checkCell p0) = 0 := hpx
    have hbe := hbx
    have hP := xP_keep hP hk
    have he : o_X0_find f p0 p1 = ((o_X2_checkCell p0), 0) := by (rw [o_X0_find, if_neg c_2]) <;> rfl
    exact vx_out (fun x hx => (hno x hx).elim) hlocks hce hcv hcl (fun t ht hvm => ⟨(), by rw [he]; exact c_2, by rw [he]; exact hbe, hS.F ht⟩) hS.2.2 (by omega) (by omega)
  · skip
    have c_3 := hw
    have c_3 : (o_X2_checkCell p0) = 0 := c_3
    have hP := xP_keep hP hk
    refine lv_iload_n hx hb dX0_find_4 rfl (lv_at hl 1 rfl) ?_
    refine lv_istore_n (lv' := [(3, .int p0), (0, .ref h0), (1, .int p0), (2, .int (b2i p1))]) hx hb dX0_find_5 rfl hl (by decide +kernel) rfl (fun ls hl => ?_)
    refine lv_iconst (v := 0) hx hb dX0_find_6 (by decide +kernel) ?_
    refine lv_istore (lv' := [(4, .int 0), (3, .int p0), (0, .ref h0), (1, .int p0), (2, .int (b2i p1))]) hx hb dX0_find_7 hl (by decide +kernel) rfl (fun ls hl => ?_)
    have loop_xfind : ∀ (nxfind ixfind : Nat) (v : Int32) (H : Heap) (locs : List Loc) (ls : Array Slot), ixfind + nxfind = 8 → 0 ≤ ixfind → (L_xfind f p0 p1 8 0 p0) = L_xfind f p0 p1 nxfind ixfind v → va_P (dC, dI) xCl [(h0, eR aw ac ab a rv), (aw, eW w), (ac, eA cy f), (ab, eA cy g)] H → va_S (aN s.heap.size) s.heap H locs → lv_has ls 6 [(4, .int (nI ixfind)), (3, .int v), (0, .ref h0), (1, .int p0), (2, .int (b2i p1))] → (∀ (H : Heap) (locs : List Loc) (ls : Array Slot), va_P (dC, dI) xCl [(h0, eR aw ac ab a rv), (aw, eW w), (ac, eA cy f), (ab, eA cy g)] H → va_S (aN s.heap.size) s.heap H locs → lv_has ls 6 [(3, .int (L_xfind f p0 p1 8 0 p0)), (0, .ref h0), (1, .int p0), (2, .int (b2i p1))] → W p l e (headSpec wsX0_find ({ frames := 7, cells := 1, slots := 6, locals := 120 } : Room)).room s m ([.ref h0, .int p0, .int (b2i p1)]).toArray below meth c H locs 1 6 (vx_MQ below (va_Qi (fun (r : Int32) (_ : Unit) => (o_X0_find f p0 p1).1 = 0 ∧ r = (o_X0_find f p0 p1).2) (fun _ _ => True) (aN s.heap.size)) (vx_X (fun _ : Unit => ¬ (o_X0_find f p0 p1).1 = 0) (fun E _ _ => E = xE (o_X0_find f p0 p1).1) (aN s.heap.size)) ([.ref h0, .int p0, .int (b2i p1)]).toArray s 1 6 (aN s.heap.size)) (F0 m 78 ls [])) → W p l e (headSpec wsX0_find ({ frames := 7, cells := 1, slots := 6, locals := 120 } : Room)).room s m ([.ref h0, .int p0, .int (b2i p1)]).toArray below meth c H locs 1 6 (vx_MQ below (va_Qi (fun (r : Int32) (_ : Unit) => (o_X0_find f p0 p1).1 = 0 ∧ r = (o_X0_find f p0 p1).2) (fun _ _ => True) (aN s.heap.size)) (vx_X (fun _ : Unit => ¬ (o_X0_find f p0 p1).1 = 0) (fun E _ _ => E = xE (o_X0_find f p0 p1).1) (aN s.heap.size)) ([.ref h0, .int p0, .int (b2i p1)]).toArray s 1 6 (aN s.heap.size)) (F0 m 9 ls []) := by
      intro nxfind
      induction nxfind with
      | zero =>
        intro ixfind v H locs ls hin_xfind his_xfind hsp_xfind hP hS hl K_xfind
        have hv : (L_xfind f p0 p1 8 0 p0) = v := hsp_xfind
        subst hv
        have hi8 : ixfind = 8 := by omega
        refine lv_iload hx hb dX0_find_9 (lv_at hl 0 rfl) ?_
        refine lv_bipush (v := 8) hx hb dX0_find_11 (by decide +kernel) ?_
        refine lv_icmp_ge (tgt := 78) hx hb dX0_find_13 (by decide +kernel) (fun c9 => ?_) (fun c9 => absurd (by rw [hi8]; decide) c9)
        exact K_xfind _ _ _ hP hS (lv_sub hl [1, 2, 3, 4] rfl)
      | succ nxfind ih_xfind =>
        intro ixfind v H locs ls hin_xfind his_xfind hsp_xfind hP hS hl K_xfind
        refine lv_iload hx hb dX0_find_9 (lv_at hl 0 rfl) ?_
        refine lv_bipush (v := 8) hx hb dX0_find_11 (by decide +kernel) ?_
        refine lv_icmp_ge (tgt := 78) hx hb dX0_find_13 (by decide +kernel) (fun c9 => absurd c9 (show ¬ (8 : Int32) ≤ nI ixfind from nI_ge (a := ixfind) (b := 8) (by omega) (by decide +kernel))) (fun c9 => ?_)
        refine lv_iload_n hx hb dX0_find_16 rfl (lv_at hl 4 rfl) ?_
        refine xz_eq (tgt := 34) hx hb dX0_find_17 (by decide +kernel) (fun c_4 => ?_) (fun c_4 => ?_)
        · skip
          refine lv_iload hx hb dX0_find_34 (lv_at hl 0 rfl) ?_
          refine lv_iload_n hx hb dX0_find_36 rfl (lv_at hl 1 rfl) ?_
          refine lv_icmp_ge (tgt := 44) hx hb dX0_find_37 (by decide +kernel) (fun c_5 => ?_) (fun c_5 => ?_)
          · skip
            refine lv_iconst (v := 0) hx hb dX0_find_44 (by decide +kernel) ?_
            refine lv_istore (lv' := [(5, .int 0), (4, .int (nI ixfind)), (3, .int v), (0, .ref h0), (1, .int p0), (2, .int (b2i p1))]) hx hb dX0_find_45 hl (by decide +kernel) rfl (fun ls hl => ?_)
            refine lv_iload hx hb dX0_find_47 (lv_at hl 0 rfl) ?_
            refine lv_if_eq (tgt := 72) hx hb dX0_find_49 (by decide +kernel) (fun _ => ?_) (fun c9 => absurd c9 (by decide +kernel))
            refine lv_iinc (v := (nI (ixfind + 1))) (lv' := [(4, .int (nI (ixfind + 1))), (5, .int 0), (3, .int v), (0, .ref h0), (1, .int p0), (2, .int (b2i p1))]) hx hb dX0_find_72 hl (k := 1) rfl (nI_1 ixfind) (by decide +kernel) rfl (fun ls hl => ?_)
            refine lv_goto (tgt := 9) hx hb dX0_find_75 (by decide +kernel) ?_
            refine W.widen (k := 1) (n := 6) (Nat.le_refl _) (Nat.le_refl _) ?_
            exact ih_xfind (ixfind + 1) v _ _ _ (by omega) (by omega) (hsp_xfind.trans (by (rw [L_xfind, if_neg c_4, if_pos c_5]) <;> rfl)) hP hS (lv_sub hl [0, 2, 3, 4, 5] rfl) K_xfind
          · skip
            refine lv_iconst (v := 1) hx hb dX0_find_40 (by decide +kernel) ?_
            refine lv_goto (tgt := 45) hx hb dX0_find_41 (by decide +kernel) ?_
            refine lv_istore (lv' := [(5, .int 1), (4, .int (nI ixfind)), (3, .int v), (0, .ref h0), (1, .int p0), (2, .int (b2i p1))]) hx hb dX0_find_45 hl (by decide +kernel) rfl (fun ls hl => ?_)
            refine lv_iload hx hb dX0_find_47 (lv_at hl 0 rfl) ?_
            refine lv_if_eq (tgt := 72) hx hb dX0_find_49 (by decide +kernel) (fun c9 => absurd c9 (by decide +kernel)) (fun _ => ?_)
            refine lv_aload_n hx hb dX0_find_52 rfl (lv_at hl 3 rfl) ?_
            refine va_get (D := (dC, dI)) (ci := 2) (v := .ref ac) (C := RX0) (T := TX0) (N := 5) hx hb hts (by decide +kernel) hown hK hP 0 rfl rfl 1 (by decide +kernel) (hts (.fieldLink RX0 15 "Edgefloats$Row" "cells" "[J") (by decide +kernel)) (fun _ h9 => h9) rfl dX0_find_53 ?_
            refine lv_iload hx hb dX0_find_56 (lv_at hl 1 rfl) ?_
            refine xa_lald hx hb hK hP 2 0 (f := f) rfl rfl (k := ixfind) (vp_in_nI (n := ixfind) (N := 8) (by omega) (by decide +kernel)) (nI_clamp (n := ixfind) (by omega)) dX0_find_58 ?_
            refine lv_aload_n hx hb dX0_find_59 rfl (lv_at hl 3 rfl) ?_
            refine va_get (D := (dC, dI)) (ci := 2) (v := .ref ac) (C := RX0) (T := TX0) (N := 5) hx hb hts (by decide +kernel) hown hK hP 0 rfl rfl 1 (by decide +kernel) (hts (.fieldLink RX0 15 "Edgefloats$Row" "cells" "[J") (by decide +kernel)) (fun _ h9 => h9) rfl dX0_find_60 ?_
            refine lv_iload_n hx hb dX0_find_63 rfl (lv_at hl 4 rfl) ?_
            refine xa_lald hx hb hK hP 2 0 (f := f) rfl rfl (k := p0.toNatClampNeg) (xm_cc c_3) rfl dX0_find_64 ?_
            refine xc_ne (tgt := 72) hx hb dX0_find_65 dX0_find_66 (by decide +kernel) (fun c_6 => ?_) (fun c_6 => ?_)
            · skip
              refine lv_iinc (v := (nI (ixfind + 1))) (lv' := [(4, .int (nI (ixfind + 1))), (5, .int 1), (3, .int v), (0, .ref h0), (1, .int p0), (2, .int (b2i p1))]) hx hb dX0_find_72 hl (k := 1) rfl (nI_1 ixfind) (by decide +kernel) rfl (fun ls hl => ?_)
              refine lv_goto (tgt := 9) hx hb dX0_find_75 (by decide +kernel) ?_
              refine W.widen (k := 1) (n := 6) (Nat.le_refl _) (Nat.le_refl _) ?_
              exact ih_xfind (ixfind + 1) v _ _ _ (by omega) (by omega) (hsp_xfind.trans (by (rw [L_xfind, if_neg c_4, if_neg c_5, if_neg c_6]) <;> rfl)) hP hS (lv_sub hl [0, 2, 3, 4, 5] rfl) K_xfind
            · skip
              refine lv_iload hx hb dX0_find_69 (lv_at hl 1 rfl) ?_
              refine lv_istore_n (lv' := [(3, .int (nI ixfind)), (5, .int 1), (4, .int (nI ixfind)), (0, .ref h0), (1, .int p0), (2, .int (b2i p1))]) hx hb dX0_find_71 rfl hl (by decide +kernel) rfl (fun ls hl => ?_)
              refine lv_iinc (v := (nI (ixfind + 1))) (lv' := [(4, .int (nI (ixfind + 1))), (3, .int (nI ixfind)), (5, .int 1), (0, .ref h0), (1, .int p0), (2, .int (b2i p1))]) hx hb dX0_find_72 hl (k := 2) rfl (nI_1 ixfind) (by decide +kernel) rfl (fun ls hl => ?_)
              refine lv_goto (tgt := 9) hx hb dX0_find_75 (by decide +kernel) ?_
              refine W.widen (k := 1) (n := 6) (Nat.le_refl _) (Nat.le_refl _) ?_
              exact ih_xfind (ixfind + 1) (nI ixfind) _ _ _ (by omega) (by omega) (hsp_xfind.trans (by (rw [L_xfind, if_neg c_4, if_neg c_5, if_pos c_6]) <;> rfl)) hP hS (lv_sub hl [0, 1, 3, 4, 5] rfl) K_xfind
        · skip
          refine lv_iload hx hb dX0_find_20 (lv_at hl 0 rfl) ?_
          refine lv_iload_n hx hb dX0_find_22 rfl (lv_at hl 1 rfl) ?_
          refine lv_icmp_le (tgt := 30) hx hb dX0_find_23 (by decide +kernel) (fun c_7 => ?_) (fun c_7 => ?_)
          · skip
            refine lv_iconst (v := 0) hx hb dX0_find_30 (by decide +kernel) ?_
            refine lv_goto (tgt := 45) hx hb dX0_find_31 (by decide +kernel) ?_
            refine lv_istore (lv' := [(5, .int 0), (4, .int (nI ixfind)), (3, .int v), (0, .ref h0), (1, .int p0), (2, .int (b2i p1))]) hx hb dX0_find_45 hl (by decide +kernel) rfl (fun ls hl => ?_)
            refine lv_iload hx hb dX0_find_47 (lv_at hl 0 rfl) ?_
            refine lv_if_eq (tgt := 72) hx hb dX0_find_49 (by decide +kernel) (fun _ => ?_) (fun c9 => absurd c9 (by decide +kernel))
            refine lv_iinc (v := (nI (ixfind + 1))) (lv' := [(4, .int (nI (ixfind + 1))), (5, .int 0), (3, .int v), (0, .ref h0), (1, .int p0), (2, .int (b2i p1))]) hx hb dX0_find_72 hl (k := 1) rfl (nI_1 ixfind) (by decide +kernel) rfl (fun ls hl => ?_)
            refine lv_goto (tgt := 9) hx hb dX0_find_75 (by decide +kernel) ?_
            refine W.widen (k := 1) (n := 6) (Nat.le_refl _) (Nat.le_refl _) ?_
            exact ih_xfind (ixfind + 1) v _ _ _ (by omega) (by omega) (hsp_xfind.trans (by (rw [L_xfind, if_pos c_4, if_pos c_7]) <;> rfl)) hP hS (lv_sub hl [0, 2, 3, 4, 5] rfl) K_xfind
          · skip
            refine lv_iconst (v := 1) hx hb dX0_find_26 (by decide +kernel) ?_
            refine lv_goto (tgt := 45) hx hb dX0_find_27 (by decide +kernel) ?_
            refine lv_istore (lv' := [(5, .int 1), (4, .int (nI ixfind)), (3, .int v), (0, .ref h0), (1, .int p0), (2, .int (b2i p1))]) hx hb dX0_find_45 hl (by decide +kernel) rfl (fun ls hl => ?_)
            refine lv_iload hx hb dX0_find_47 (lv_at hl 0 rfl) ?_
            refine lv_if_eq (tgt := 72) hx hb dX0_find_49 (by decide +kernel) (fun c9 => absurd c9 (by decide +kernel)) (fun _ => ?_)
            refine lv_aload_n hx hb dX0_find_52 rfl (lv_at hl 3 rfl) ?_
            refine va_get (D := (dC, dI)) (ci := 2) (v := .ref ac) (C := RX0) (T := TX0) (N := 5) hx hb hts (by decide +kernel) hown hK hP 0 rfl rfl 1 (by decide +kernel) (hts (.fieldLink RX0 15 "Edgefloats$Row" "cells" "[J") (by decide +kernel)) (fun _ h9 => h9) rfl dX0_find_53 ?_
            refine lv_iload hx hb dX0_find_56 (lv_at hl 1 rfl) ?_
            refine xa_lald hx hb hK hP 2 0 (f := f) rfl rfl (k := ixfind) (vp_in_nI (n := ixfind) (N := 8) (by omega) (by decide +kernel)) (nI_clamp (n := ixfind) (by omega)) dX0_find_58 ?_
            refine lv_aload_n hx hb dX0_find_59 rfl (lv_at hl 3 rfl) ?_
            refine va_get (D := (dC, dI)) (ci := 2) (v := .ref ac) (C := RX0) (T := TX0) (N := 5) hx hb hts (by decide +kernel) hown hK hP 0 rfl rfl 1 (by decide +kernel) (hts (.fieldLink RX0 15 "Edgefloats$Row" "cells" "[J") (by decide +kernel)) (fun _ h9 => h9) rfl dX0_find_60 ?_
            refine lv_iload_n hx hb dX0_find_63 rfl (lv_at hl 4 rfl) ?_
            refine xa_lald hx hb hK hP 2 0 (f := f) rfl rfl (k := p0.toNatClampNeg) (xm_cc c_3) rfl dX0_find_64 ?_
            refine xc_ne (tgt := 72) hx hb dX0_find_65 dX0_find_66 (by decide +kernel) (fun c_8 => ?_) (fun c_8 => ?_)
            · skip
              refine lv_iinc (v := (nI (ixfind + 1))) (lv' := [(4, .int (nI (ixfind + 1))), (5, .int 1), (3, .int v), (0, .ref h0), (1, .int p0), (2, .int (b2i p1))]) hx hb dX0_find_72 hl (k := 1) rfl (nI_1 ixfind) (by decide +kernel) rfl (fun ls hl => ?_)
              refine lv_goto (tgt := 9) hx hb dX0_find_75 (by decide +kernel) ?_
              refine W.widen (k := 1) (n := 6) (Nat.le_refl _) (Nat.le_refl _) ?_
              exact ih_xfind (ixfind + 1) v _ _ _ (by omega) (by omega) (hsp_xfind.trans (by (rw [L_xfind, if_pos c_4, if_neg c_7, if_neg c_8]) <;> rfl)) hP hS (lv_sub hl [0, 2, 3, 4, 5] rfl) K_xfind
            · skip
              refine lv_iload hx hb dX0_find_69 (lv_at hl 1 rfl) ?_
              refine lv_istore_n (lv' := [(3, .int (nI ixfind)), (5, .int 1), (4, .int (nI ixfind)), (0, .ref h0), (1, .int p0), (2, .int (b2i p1))]) hx hb dX0_find_71 rfl hl (by decide +kernel) rfl (fun ls hl => ?_)
              refine lv_iinc (v := (nI (ixfind + 1))) (lv' := [(4, .int (nI (ixfind + 1))), (3, .int (nI ixfind)), (5, .int 1), (0, .ref h0), (1, .int p0), (2, .int (b2i p1))]) hx hb dX0_find_72 hl (k := 2) rfl (nI_1 ixfind) (by decide +kernel) rfl (fun ls hl => ?_)
              refine lv_goto (tgt := 9) hx hb dX0_find_75 (by decide +kernel) ?_
              refine W.widen (k := 1) (n := 6) (Nat.le_refl _) (Nat.le_refl _) ?_
              exact ih_xfind (ixfind + 1) (nI ixfind) _ _ _ (by omega) (by omega) (hsp_xfind.trans (by (rw [L_xfind, if_pos c_4, if_neg c_7, if_pos c_8]) <;> rfl)) hP hS (lv_sub hl [0, 1, 3, 4, 5] rfl) K_xfind
    refine loop_xfind 8 0 p0 _ _ _ (by omega) (by omega) rfl hP hS (lv_sub hl [0, 1, 2, 3, 4] rfl) (fun H locs ls hP hS hl => ?_)
    refine lv_iload_n hx hb dX0_find_78 rfl (lv_at hl 0 rfl) ?_
    have he : o_X0_find f p0 p1 = (0, (L_xfind f p0 p1 8 0 p0)) := by (rw [o_X0_find, if_pos c_3]) <;> rfl
    refine W.widen (k := 1) (n := 6) (by omega) (by omega) ?_
    refine vx_ret ?_
    exact W.iret (v := (L_xfind f p0 p1 8 0 p0)) hx hb hr (fun t ht hW => ⟨⟨_, (), rfl, ⟨(by (rw [he]) <;> rfl), (by (rw [he]) <;> rfl)⟩, trivial⟩, hS.F ht⟩) hS.2.2 dX0_find_79
theorem cl_X0_has_1 : ∀ w ∈ [.fieldLink RX0 9 "Edgefloats$Row" "width" "LEdgefloats$Width;", .fieldLink RX0 15 "Edgefloats$Row" "cells" "[J", .static yX2_checkChoice, .initialized RX2, .code yX2_checkChoice cX2_checkChoice 2 none, .classLink RX2 155 "java/lang/IllegalArgumentException", .initialized "java/lang/IllegalArgumentException", .methodLink RX0 59 yX1_known, .instanceMethod yX1_known, .selects RX1 yX1_known yX1_known, .initialized RX1, .code yX1_known cX1_known 4 (some .long), .fieldLink RX1 18 "Edgefloats$Width" "exponentOnes" "I", .fieldLink RX1 9 "Edgefloats$Width" "fractionDigits" "I", .fieldLink RX1 25 "Edgefloats$Width" "signOne" "J"], w ∈ wsX0_has := fun _ h => (List.mem_cons_of_mem _ (List.mem_append_left _ (List.mem_append_left _ (List.mem_append_left _ h))))
theorem cl_X0_has_2 : ∀ w ∈ wsX00, w ∈ wsX0_has := fun _ h => (List.mem_cons_of_mem _ (List.mem_append_left _ (List.mem_append_left _ (List.mem_append_right _ h))))
theorem cl_X0_has_3 : ∀ w ∈ wsX10, w ∈ wsX0_has := fun _ h => (List.mem_cons_of_mem _ (List.mem_append_left _ (List.mem_append_right _ h)))
theorem cl_X0_has_4 : ∀ w ∈ (vx_atS RX2 159 "java/lang/IllegalArgumentException" ["java/lang/RuntimeException", "java/lang/Exception"]).filter goodWord, w ∈ wsX0_has := fun _ h => (List.mem_cons_of_mem _ (List.mem_append_right _ h))
set_option maxRecDepth 20000 in
theorem ggX0_has_X2_checkChoice : GoodIn wsX0_has wsX2_checkChoice := goodIn_sub (List.forall_mem_cons.mpr ⟨(cl_X0_has_1 _ (List.mem_of_getElem? (i := 4) rfl)), fun w h => (List.mem_append.mp h).elim ((List.forall_mem_cons.mpr ⟨(cl_X0_has_1 _ (List.mem_of_getElem? (i := 5) rfl)), List.forall_mem_cons.mpr ⟨(cl_X0_has_1 _ (List.mem_of_getElem? (i := 6) rfl)), fun _ h => absurd h List.not_mem_nil⟩⟩) w) ((cl_X0_has_4) w)⟩) (by decide +kernel)
set_option maxRecDepth 20000 in
theorem gX0_has_X2_checkChoice_n55 : GoodIn wsX0_has (wsX2_checkChoice) := ggX0_has_X2_checkChoice
set_option maxRecDepth 20000 in
theorem ggX0_has_X1_known : GoodIn wsX0_has wsX1_known := goodIn_sub (List.forall_mem_cons.mpr ⟨(cl_X0_has_1 _ (List.mem_of_getElem? (i := 11) rfl)), fun w h => (List.mem_append.mp h).elim ((List.forall_mem_cons.mpr ⟨(cl_X0_has_1 _ (List.mem_of_getElem? (i := 12) rfl)), List.forall_mem_cons.mpr ⟨(cl_X0_has_1 _ (List.mem_of_getElem? (i := 13) rfl)), List.forall_mem_cons.mpr ⟨(cl_X0_has_1 _ (List.mem_of_getElem? (i := 14) rfl)), fun _ h => absurd h List.not_mem_nil⟩⟩⟩) w) ((cl_X0_has_3) w)⟩) (by decide +kernel)
set_option maxRecDepth 20000 in
theorem gX0_has_X1_known : GoodIn wsX0_has (wsV RX0 59 RX1 yX1_known wsX1_known) := goodIn_app (goodIn_sub (List.forall_mem_cons.mpr ⟨(cl_X0_has_1 _ (List.mem_of_getElem? (i := 7) rfl)), List.forall_mem_cons.mpr ⟨(cl_X0_has_1 _ (List.mem_of_getElem? (i := 8) rfl)), List.forall_mem_cons.mpr ⟨(cl_X0_has_1 _ (List.mem_of_getElem? (i := 9) rfl)), List.forall_mem_cons.mpr ⟨(cl_X0_has_1 _ (List.mem_of_getElem? (i := 10) rfl)), fun _ h => absurd h List.not_mem_nil⟩⟩⟩⟩) (by decide +kernel)) ggX0_has_X1_known
noncomputable def dz_p12_3 : List (Nat × Instr × Nat) := [(0, (.iload_n 1, 1)), (1, (.bipush 6, 2)), (3, (.invokestatic 55, 3)), (6, (.aload_n 0, 1)), (7, (.getfield 9, 3)), (10, (.iload_n 1, 1)), (11, (.invokevirtual 59, 3)), (14, (.lstore_n 2, 1)), (15, (.iconst 0, 1)), (16, (.istore 4, 2)), (18, (.iload 4, 2)), (20, (.bipush 8, 2)), (22, (.if_icmp .ge 23, 3)), (25, (.aload_n 0, 1)), (26, (.getfield 15, 3)), (29, (.iload 4, 2)), (31, (.laload, 1)), (32, (.lload_n 2, 1)), (33, (.lcmp, 1)), (34, (.ifCond .ne 5, 3)), (37, (.iconst 1, 1)), (38, (.ireturn, 1)), (39, (.iinc 4 1, 3)), (42, (.goto (-24), 3)), (45, (.iconst 0, 1)), (46, (.ireturn, 1))]
theorem dy_p12_3 : dz_ok cX0_has dz_p12_3 = true := by decide +kernel
theorem dX0_has_0 : decode cX0_has 0 = .ok (.iload_n 1, 1) := dz_at (i := 0) dy_p12_3 rfl
theorem dX0_has_1 : decode cX0_has 1 = .ok (.bipush 6, 2) := dz_at (i := 1) dy_p12_3 rfl
theorem dX0_has_3 : decode cX0_has 3 = .ok (.invokestatic 55, 3) := dz_at (i := 2) dy_p12_3 rfl
theorem dX0_has_6 : decode cX0_has 6 = .ok (.aload_n 0, 1) := dz_at (i := 3) dy_p12_3 rfl
theorem dX0_has_7 : decode cX0_has 7 = .ok (.getfield 9, 3) := dz_at (i := 4) dy_p12_3 rfl
theorem dX0_has_10 : decode cX0_has 10 = .ok (.iload_n 1, 1) := dz_at (i := 5) dy_p12_3 rfl
theorem dX0_has_11 : decode cX0_has 11 = .ok (.invokevirtual 59, 3) := dz_at (i := 6) dy_p12_3 rfl
theorem dX0_has_14 : decode cX0_has 14 = .ok (.lstore_n 2, 1) := dz_at (i := 7) dy_p12_3 rfl
theorem dX0_has_15 : decode cX0_has 15 = .ok (.iconst 0, 1) := dz_at (i := 8) dy_p12_3 rfl
theorem dX0_has_16 : decode cX0_has 16 = .ok (.istore 4, 2) := dz_at (i := 9) dy_p12_3 rfl
theorem dX0_has_18 : decode cX0_has 18 = .ok (.iload 4, 2) := dz_at (i := 10) dy_p12_3 rfl
theorem dX0_has_20 : decode cX0_has 20 = .ok (.bipush 8, 2) := dz_at (i := 11) dy_p12_3 rfl
theorem dX0_has_22 : decode cX0_has 22 = .ok (.if_icmp .ge 23, 3) := dz_at (i := 12) dy_p12_3 rfl
theorem dX0_has_25 : decode cX0_has 25 = .ok (.aload_n 0, 1) := dz_at (i := 13) dy_p12_3 rfl
theorem dX0_has_26 : decode cX0_has 26 = .ok (.getfield 15, 3) := dz_at (i := 14) dy_p12_3 rfl
theorem dX0_has_29 : decode cX0_has 29 = .ok (.iload 4, 2) := dz_at (i := 15) dy_p12_3 rfl
theorem dX0_has_31 : decode cX0_has 31 = .ok (.laload, 1) := dz_at (i := 16) dy_p12_3 rfl
theorem dX0_has_32 : decode cX0_has 32 = .ok (.lload_n 2, 1) := dz_at (i := 17) dy_p12_3 rfl
theorem dX0_has_33 : decode cX0_has 33 = .ok (.lcmp, 1) := dz_at (i := 18) dy_p12_3 rfl
theorem dX0_has_34 : decode cX0_has 34 = .ok (.ifCond .ne 5, 3) := dz_at (i := 19) dy_p12_3 rfl
theorem dX0_has_37 : decode cX0_has 37 = .ok (.iconst 1, 1) := dz_at (i := 20) dy_p12_3 rfl
theorem dX0_has_38 : decode cX0_has 38 = .ok (.ireturn, 1) := dz_at (i := 21) dy_p12_3 rfl
theorem dX0_has_39 : decode cX0_has 39 = .ok (.iinc 4 1, 3) := dz_at (i := 22) dy_p12_3 rfl
theorem dX0_has_42 : decode cX0_has 42 = .ok (.goto (-24), 3) := dz_at (i := 23) dy_p12_3 rfl
theorem dX0_has_45 : decode cX0_has 45 = .ok (.iconst 0, 1) := dz_at (i := 24) dy_p12_3 rfl
theorem dX0_has_46 : decode cX0_has 46 = .ok (.ireturn, 1) := dz_at (i := 25) dy_p12_3 rfl
noncomputable def L_xhas (w : Bool) (f : Nat → Int64) (p0 : Int32) : Nat → Nat → Int32 × Bool
  | 0, ixhas => (0, false)
  | nxhas + 1, ixhas => if (f ixhas) = (o_X1_known w p0) then (0, true)
    else L_xhas w f p0 nxhas (ixhas + 1) 
noncomputable def o_X0_has (w : Bool) (f : Nat → Int64) (p0 : Int32) : Int32 × Bool :=
  if (o_X2_checkChoice p0 6) = 0 then L_xhas w f p0 8 0 
  else ((o_X2_checkChoice p0 6), false)
set_option maxHeartbeats 4000000 in
set_option maxRecDepth 100000 in
theorem k_X0_has (l : Launch) (hfl : l.flags = flags0) (dC : Nat → ClassId) (dI : Nat → Nat → Nat) (cy : ClassId) (h0 : Nat) (aw : Nat) (ac : Nat) (ab : Nat) (w : Bool) (a : Int32) (rv : Int32) (f : Nat → Int64) (g : Nat → Int64) (sz : Nat) (N : Nat) (p0 : Int32) : vx_Met l yX0_has wsX0_has ({ frames := 7, cells := 1, slots := 6, locals := 121 }) (va_Pc [.ref h0, .int p0] (xM (dC, dI) xCl [(h0, eR aw ac ab a rv), (aw, eW w), (ac, eA cy f), (ab, eA cy g)] [(cy, .long)] sz N)) (va_Qi (fun (r : Int32) (_ : Unit) => (o_X0_has w f p0).1 = 0 ∧ r = b2i ((o_X0_has w f p0).2)) (fun _ _ => True) (aN sz)) (vx_X (fun _ : Unit => ¬ (o_X0_has w f p0).1 = 0) (fun E _ _ => E = xE (o_X0_has w f p0).1) (aN sz)) 1 6 (aN sz) := by
  refine vx_ofW (cc := cX0_has) (maxL := 5) (ret := (some .boolean)) (by decide +kernel) rfl ?_
  intro p e s m args below meth c s₁ B hml hno hv
  obtain ⟨rfl, hsz, hP, hK, hD0, hN, hG⟩ := hv
  have hx := B.exec
  have hb := B.bytes
  have hr := B.returns
  have hts := atoms_spec (ws := wsX0_has) B.pre
  have hown : s.vm.findClass RX0 = some m.cls := findClass_of_methodNamed B.named
  have hlocks := B.notSynchronized
  subst hsz
  have hA : ∀ q : Nat, s.heap.size ≤ q → aN s.heap.size q := fun _ h => h
  have hD := hD0
  have hAN : ∀ q, aN s.heap.size q → N ≤ q := fun q h => Nat.le_trans hN h
  have hS : va_S (aN s.heap.size) s.heap s.heap [] := va_S.rf
  have hP : va_P (dC, dI) xCl [(h0, eR aw ac ab a rv), (aw, eW w), (ac, eA cy f), (ab, eA cy g)] s.heap := hP
  have hl := lv_entry ([.ref h0, .int p0]) (n := 5) (Nat.le_of_ble_eq_true rfl)
  rw [lg_entry_eq]
  generalize (lg_sl ([.ref h0, .int p0]) ++ List.replicate (5 - (lg_sl ([.ref h0, .int p0])).length) Slot.unset).toArray = ls at hl ⊢
  have hl : lv_has ls 5 [(0, .ref h0), (1, .int p0)] := hl
  refine lv_iload_n hx hb dX0_has_0 rfl (lv_at hl 1 rfl) ?_
  refine lv_bipush (v := 6) hx hb dX0_has_1 (by decide +kernel) ?_
  have hPc := hP.sub (ws' := []) [] rfl
  have hDc := hD.sub (ws' := []) [] (by decide +kernel) rfl
  have hKc := hK.sub (tys' := []) [] rfl
  refine vx_callv (vx_runSN (As := [.int p0, .int 6]) (rest := []) ⟨hx, hb, hml, hown, hts⟩ (k_X2_checkChoice l hfl dC dI s.heap.size N p0 6) ⟨va_cnB 2 hts gX0_has_X2_checkChoice_n55 rfl rfl rfl (hG.1 (.methodLinkNest RX0 55 yX2_checkChoice RX2) (List.mem_of_getElem? (i := 1) rfl)) (hts (.initialized RX2) (by decide +kernel)) (by decide +kernel) ⟨Nat.le_of_ble_eq_true rfl, Nat.le_of_ble_eq_true rfl⟩, hts (.static yX2_checkChoice) (by decide +kernel), trivial⟩ (xM.preS hKc hPc hDc (fun _ h => h) (Nat.le_trans hN hS.1) (hG.kept hS hAN)) rfl rfl hl.1 rfl (lv_room (Nat.le_of_ble_eq_true rfl)) dX0_has_3 ⟨Nat.le_of_ble_eq_true rfl, Nat.le_of_ble_eq_true rfl⟩) hS xA_old (fun q h => hA q (Nat.le_trans hS.1 h)) xA_old (fun E ce q9 u9 t H locs ht hvm hpx hbx hz hk hS hce hcv hcl => ?_) (fun u t H locs ht hvm hw hB hz hk hS => ?_)
  · have c_2 : ¬ (o_X2_checkChoice p0 6) = 0 := hpx
    have hbe := hbx
    have hP := xP_keep hP hk
    have he : o_X0_has w f p0 = ((o_X2_checkChoice p0 6), false) := by (rw [o_X0_has, if_neg c_2]) <;> rfl
    exact vx_out (fun x hx => (hno x hx).elim) hlocks hce hcv hcl (fun t ht hvm => ⟨(), by rw [he]; exact c_2, by rw [he]; exact hbe, hS.F ht⟩) hS.2.2 (by omega) (by omega)
  · skip
    have c_3 := hw
    have c_3 : (o_X2_checkChoice p0 6) = 0 := c_3
    have hP := xP_keep hP hk
    refine lv_aload_n hx hb dX0_has_6 rfl (lv_at hl 0 rfl) ?_
    refine va_get (D := (dC, dI)) (ci := 2) (v := .ref aw) (C := RX0) (T := TX0) (N := 5) hx hb hts (by decide +kernel) hown hK hP 0 rfl rfl 0 (by decide +kernel) (hts (.fieldLink RX0 9 "Edgefloats$Row" "width" "LEdgefloats$Width;") (by decide +kernel)) (fun _ h9 => h9) rfl dX0_has_7 ?_
    refine lv_iload_n hx hb dX0_has_10 rfl (lv_at hl 1 rfl) ?_
    have hPc := hP.sub (ws' := [(aw, eW w)]) [1] rfl
    have hKc := hK.sub (tys' := []) [] rfl
    refine va_calll (va_runV (As := [.int p0]) (rest := []) ⟨hx, hb, hml, hown, hts⟩ (k_X1_known l dC dI aw w H.size p0) (cwV 1 hts gX0_has_X1_known rfl rfl rfl (by decide +kernel) ⟨Nat.le_of_ble_eq_true rfl, Nat.le_of_ble_eq_true rfl⟩) (xB.preV hKc hPc (ci := 3) (q0 := 0) rfl rfl) rfl rfl hl.1 rfl (lv_room (Nat.le_of_ble_eq_true rfl)) dX0_has_11 ⟨Nat.le_of_ble_eq_true rfl, Nat.le_of_ble_eq_true rfl⟩) hS xA_old (fun q h => hA q (Nat.le_trans hS.1 h)) (fun r_4 u t H locs ht hvm hw hB hz hk hS => ?_)
    replace hw : r_4 = (o_X1_known w p0) := hw
    subst r_4
    have hP := xP_keep hP hk
    refine lv_lstore_n (lv' := [(2, .long (o_X1_known w p0)), (0, .ref h0), (1, .int p0)]) hx hb dX0_has_14 rfl hl (by decide +kernel) rfl (fun ls hl => ?_)
    refine lv_iconst (v := 0) hx hb dX0_has_15 (by decide +kernel) ?_
    refine lv_istore (lv' := [(4, .int 0), (2, .long (o_X1_known w p0)), (0, .ref h0), (1, .int p0)]) hx hb dX0_has_16 hl (by decide +kernel) rfl (fun ls hl => ?_)
    have loop_xhas : ∀ (nxhas ixhas : Nat)  (H : Heap) (locs : List Loc) (ls : Array Slot), ixhas + nxhas = 8 → 0 ≤ ixhas → o_X0_has w f p0 = L_xhas w f p0 nxhas ixhas  → va_P (dC, dI) xCl [(h0, eR aw ac ab a rv), (aw, eW w), (ac, eA cy f), (ab, eA cy g)] H → va_S (aN s.heap.size) s.heap H locs → lv_has ls 5 [(4, .int (nI ixhas)), (2, .long (o_X1_known w p0)), (0, .ref h0), (1, .int p0)] → W p l e (headSpec wsX0_has ({ frames := 7, cells := 1, slots := 6, locals := 121 } : Room)).room s m ([.ref h0, .int p0]).toArray below meth c H locs 1 6 (vx_MQ below (va_Qi (fun (r : Int32) (_ : Unit) => (o_X0_has w f p0).1 = 0 ∧ r = b2i ((o_X0_has w f p0).2)) (fun _ _ => True) (aN s.heap.size)) (vx_X (fun _ : Unit => ¬ (o_X0_has w f p0).1 = 0) (fun E _ _ => E = xE (o_X0_has w f p0).1) (aN s.heap.size)) ([.ref h0, .int p0]).toArray s 1 6 (aN s.heap.size)) (F0 m 18 ls []) := by
      intro nxhas
      induction nxhas with
      | zero =>
        intro ixhas  H locs ls hin_xhas his_xhas hsp_xhas hP hS hl
        have hi8 : ixhas = 8 := by omega
        refine lv_iload hx hb dX0_has_18 (lv_at hl 0 rfl) ?_
        refine lv_bipush (v := 8) hx hb dX0_has_20 (by decide +kernel) ?_
        refine lv_icmp_ge (tgt := 45) hx hb dX0_has_22 (by decide +kernel) (fun c9 => ?_) (fun c9 => absurd (by rw [hi8]; decide) c9)
        refine lv_iconst (v := 0) hx hb dX0_has_45 (by decide +kernel) ?_
        have he : o_X0_has w f p0 = (0, false) := hsp_xhas.trans (by (rw [L_xhas]) <;> rfl)
        refine W.widen (k := 1) (n := 6) (by omega) (by omega) ?_
        refine vx_ret ?_
        exact W.zret (v := 0) (ty := .boolean) hx hb hr rfl (fun t ht hW => ⟨⟨_, (), rfl, ⟨(by (rw [he]) <;> rfl), (by (rw [he]) <;> rfl)⟩, trivial⟩, hS.F ht⟩) hS.2.2 dX0_has_46
      | succ nxhas ih_xhas =>
        intro ixhas  H locs ls hin_xhas his_xhas hsp_xhas hP hS hl
        refine lv_iload hx hb dX0_has_18 (lv_at hl 0 rfl) ?_
        refine lv_bipush (v := 8) hx hb dX0_has_20 (by decide +kernel) ?_
        refine lv_icmp_ge (tgt := 45) hx hb dX0_has_22 (by decide +kernel) (fun c9 => absurd c9 (show ¬ (8 : Int32) ≤ nI ixhas from nI_ge (a := ixhas) (b := 8) (by omega) (by decide +kernel))) (fun c9 => ?_)
        refine lv_aload_n hx hb dX0_has_25 rfl (lv_at hl 2 rfl) ?_
        refine va_get (D := (dC, dI)) (ci := 2) (v := .ref ac) (C := RX0) (T := TX0) (N := 5) hx hb hts (by decide +kernel) hown hK hP 0 rfl rfl 1 (by decide +kernel) (hts (.fieldLink RX0 15 "Edgefloats$Row" "cells" "[J") (by decide +kernel)) (fun _ h9 => h9) rfl dX0_has_26 ?_
        refine lv_iload hx hb dX0_has_29 (lv_at hl 0 rfl) ?_
        refine xa_lald hx hb hK hP 2 0 (f := f) rfl rfl (k := ixhas) (vp_in_nI (n := ixhas) (N := 8) (by omega) (by decide +kernel)) (nI_clamp (n := ixhas) (by omega)) dX0_has_31 ?_
        refine lv_lload_n hx hb dX0_has_32 rfl (lv_at hl 1 rfl) ?_
        refine xc_ne (tgt := 39) hx hb dX0_has_33 dX0_has_34 (by decide +kernel) (fun c_5 => ?_) (fun c_5 => ?_)
        · skip
          refine lv_iinc (v := (nI (ixhas + 1))) (lv' := [(4, .int (nI (ixhas + 1))), (2, .long (o_X1_known w p0)), (0, .ref h0), (1, .int p0)]) hx hb dX0_has_39 hl (k := 0) rfl (nI_1 ixhas) (by decide +kernel) rfl (fun ls hl => ?_)
          refine lv_goto (tgt := 18) hx hb dX0_has_42 (by decide +kernel) ?_
          refine W.widen (k := 1) (n := 6) (Nat.le_refl _) (Nat.le_refl _) ?_
          exact ih_xhas (ixhas + 1)  _ _ _ (by omega) (by omega) (hsp_xhas.trans (by (rw [L_xhas, if_neg c_5]) <;> rfl)) hP hS (lv_sub hl [0, 1, 2, 3] rfl)
        · skip
          refine lv_iconst (v := 1) hx hb dX0_has_37 (by decide +kernel) ?_
          have he : o_X0_has w f p0 = (0, true) := hsp_xhas.trans (by (rw [L_xhas, if_pos c_5]) <;> rfl)
          refine W.widen (k := 1) (n := 6) (by omega) (by omega) ?_
          refine vx_ret ?_
          exact W.zret (v := 1) (ty := .boolean) hx hb hr rfl (fun t ht hW => ⟨⟨_, (), rfl, ⟨(by (rw [he]) <;> rfl), (by (rw [he]) <;> rfl)⟩, trivial⟩, hS.F ht⟩) hS.2.2 dX0_has_38
    exact loop_xhas 8 0  _ _ _ (by omega) (by omega) (by (rw [o_X0_has, if_pos c_3]) <;> rfl) hP hS (lv_sub hl [0, 1, 2, 3] rfl)
theorem cl_X0_putEnd_1 : ∀ w ∈ wsX0_putEnd_r1, w ∈ wsX0_putEnd := fun _ h => (List.mem_cons_of_mem _ (List.mem_append_left _ (List.mem_append_left _ (List.mem_append_left _ (List.mem_append_left _ h)))))
theorem cl_X0_putEnd_2 : ∀ w ∈ wsX0_putEnd_r2, w ∈ wsX0_putEnd := fun _ h => (List.mem_cons_of_mem _ (List.mem_append_left _ (List.mem_append_left _ (List.mem_append_left _ (List.mem_append_right _ h)))))
theorem cl_X0_putEnd_3 : ∀ w ∈ wsX00, w ∈ wsX0_putEnd := fun _ h => (List.mem_cons_of_mem _ (List.mem_append_left _ (List.mem_append_left _ (List.mem_append_right _ h))))
theorem cl_X0_putEnd_4 : ∀ w ∈ wsX10, w ∈ wsX0_putEnd := fun _ h => (List.mem_cons_of_mem _ (List.mem_append_left _ (List.mem_append_right _ h)))
theorem cl_X0_putEnd_5 : ∀ w ∈ (vx_atS RX2 152 "java/lang/IndexOutOfBoundsException" ["java/lang/RuntimeException", "java/lang/Exception"]).filter goodWord, w ∈ wsX0_putEnd := fun _ h => (List.mem_cons_of_mem _ (List.mem_append_right _ h))
set_option maxRecDepth 20000 in
theorem ggX0_putEnd_X2_checkCell : GoodIn wsX0_putEnd wsX2_checkCell := goodIn_sub (List.forall_mem_cons.mpr ⟨(cl_X0_putEnd_1 _ (List.mem_of_getElem? (i := 4) rfl)), fun w h => (List.mem_append.mp h).elim ((List.forall_mem_cons.mpr ⟨(cl_X0_putEnd_1 _ (List.mem_of_getElem? (i := 5) rfl)), List.forall_mem_cons.mpr ⟨(cl_X0_putEnd_1 _ (List.mem_of_getElem? (i := 6) rfl)), fun _ h => absurd h List.not_mem_nil⟩⟩) w) ((cl_X0_putEnd_5) w)⟩) (by decide +kernel)
set_option maxRecDepth 20000 in
theorem gX0_putEnd_X2_checkCell_n22 : GoodIn wsX0_putEnd (wsX2_checkCell) := ggX0_putEnd_X2_checkCell
set_option maxRecDepth 20000 in
theorem ggX0_putEnd_X1_greater : GoodIn wsX0_putEnd wsX1_greater := goodIn_sub (List.forall_mem_cons.mpr ⟨(cl_X0_putEnd_1 _ (List.mem_of_getElem? (i := 11) rfl)), fun w h => (List.mem_append.mp h).elim ((List.forall_mem_cons.mpr ⟨(cl_X0_putEnd_1 _ (List.mem_of_getElem? (i := 12) rfl)), List.forall_mem_cons.mpr ⟨(cl_X0_putEnd_1 _ (List.mem_of_getElem? (i := 13) rfl)), List.forall_mem_cons.mpr ⟨(cl_X0_putEnd_1 _ (List.mem_of_getElem? (i := 14) rfl)), List.forall_mem_cons.mpr ⟨(cl_X0_putEnd_1 _ (List.mem_of_getElem? (i := 10) rfl)), List.forall_mem_cons.mpr ⟨(cl_X0_putEnd_1 _ (List.mem_of_getElem? (i := 15) rfl)), List.forall_mem_cons.mpr ⟨(cl_X0_putEnd_1 _ (List.mem_of_getElem? (i := 16) rfl)), List.forall_mem_cons.mpr ⟨(cl_X0_putEnd_1 _ (List.mem_of_getElem? (i := 17) rfl)), List.forall_mem_cons.mpr ⟨(cl_X0_putEnd_1 _ (List.mem_of_getElem? (i := 18) rfl)), List.forall_mem_cons.mpr ⟨(cl_X0_putEnd_1 _ (List.mem_of_getElem? (i := 19) rfl)), List.forall_mem_cons.mpr ⟨(cl_X0_putEnd_1 _ (List.mem_of_getElem? (i := 20) rfl)), List.forall_mem_cons.mpr ⟨(cl_X0_putEnd_1 _ (List.mem_of_getElem? (i := 21) rfl)), fun _ h => absurd h List.not_mem_nil⟩⟩⟩⟩⟩⟩⟩⟩⟩⟩⟩) w) ((cl_X0_putEnd_4) w)⟩) (by decide +kernel)
set_option maxRecDepth 20000 in
theorem gX0_putEnd_X1_greater : GoodIn wsX0_putEnd (wsV RX0 66 RX1 yX1_greater wsX1_greater) := goodIn_app (goodIn_sub (List.forall_mem_cons.mpr ⟨(cl_X0_putEnd_1 _ (List.mem_of_getElem? (i := 7) rfl)), List.forall_mem_cons.mpr ⟨(cl_X0_putEnd_1 _ (List.mem_of_getElem? (i := 8) rfl)), List.forall_mem_cons.mpr ⟨(cl_X0_putEnd_1 _ (List.mem_of_getElem? (i := 9) rfl)), List.forall_mem_cons.mpr ⟨(cl_X0_putEnd_1 _ (List.mem_of_getElem? (i := 10) rfl)), fun _ h => absurd h List.not_mem_nil⟩⟩⟩⟩) (by decide +kernel)) ggX0_putEnd_X1_greater
set_option maxRecDepth 20000 in
theorem ggX0_putEnd_X1_lesser : GoodIn wsX0_putEnd wsX1_lesser := goodIn_sub (List.forall_mem_cons.mpr ⟨(cl_X0_putEnd_2 _ (List.mem_of_getElem? (i := 1) rfl)), fun w h => (List.mem_append.mp h).elim ((List.forall_mem_cons.mpr ⟨(cl_X0_putEnd_1 _ (List.mem_of_getElem? (i := 12) rfl)), List.forall_mem_cons.mpr ⟨(cl_X0_putEnd_1 _ (List.mem_of_getElem? (i := 13) rfl)), List.forall_mem_cons.mpr ⟨(cl_X0_putEnd_1 _ (List.mem_of_getElem? (i := 14) rfl)), List.forall_mem_cons.mpr ⟨(cl_X0_putEnd_1 _ (List.mem_of_getElem? (i := 10) rfl)), List.forall_mem_cons.mpr ⟨(cl_X0_putEnd_1 _ (List.mem_of_getElem? (i := 15) rfl)), List.forall_mem_cons.mpr ⟨(cl_X0_putEnd_1 _ (List.mem_of_getElem? (i := 16) rfl)), List.forall_mem_cons.mpr ⟨(cl_X0_putEnd_1 _ (List.mem_of_getElem? (i := 17) rfl)), List.forall_mem_cons.mpr ⟨(cl_X0_putEnd_1 _ (List.mem_of_getElem? (i := 18) rfl)), List.forall_mem_cons.mpr ⟨(cl_X0_putEnd_1 _ (List.mem_of_getElem? (i := 19) rfl)), List.forall_mem_cons.mpr ⟨(cl_X0_putEnd_1 _ (List.mem_of_getElem? (i := 20) rfl)), List.forall_mem_cons.mpr ⟨(cl_X0_putEnd_1 _ (List.mem_of_getElem? (i := 21) rfl)), fun _ h => absurd h List.not_mem_nil⟩⟩⟩⟩⟩⟩⟩⟩⟩⟩⟩) w) ((cl_X0_putEnd_4) w)⟩) (by decide +kernel)
set_option maxRecDepth 20000 in
theorem gX0_putEnd_X1_lesser : GoodIn wsX0_putEnd (wsV RX0 70 RX1 yX1_lesser wsX1_lesser) := goodIn_app (goodIn_sub (List.forall_mem_cons.mpr ⟨(cl_X0_putEnd_1 _ (List.mem_of_getElem? (i := 22) rfl)), List.forall_mem_cons.mpr ⟨(cl_X0_putEnd_1 _ (List.mem_of_getElem? (i := 23) rfl)), List.forall_mem_cons.mpr ⟨(cl_X0_putEnd_2 _ (List.mem_of_getElem? (i := 0) rfl)), List.forall_mem_cons.mpr ⟨(cl_X0_putEnd_1 _ (List.mem_of_getElem? (i := 10) rfl)), fun _ h => absurd h List.not_mem_nil⟩⟩⟩⟩) (by decide +kernel)) ggX0_putEnd_X1_lesser
set_option maxRecDepth 20000 in
theorem ggX0_putEnd_X0_place : GoodIn wsX0_putEnd wsX0_place := goodIn_sub (List.forall_mem_cons.mpr ⟨(cl_X0_putEnd_2 _ (List.mem_of_getElem? (i := 6) rfl)), fun w h => (List.mem_append.mp h).elim ((List.forall_mem_cons.mpr ⟨(cl_X0_putEnd_2 _ (List.mem_of_getElem? (i := 7) rfl)), List.forall_mem_cons.mpr ⟨(cl_X0_putEnd_1 _ (List.mem_of_getElem? (i := 0) rfl)), fun _ h => absurd h List.not_mem_nil⟩⟩) w) ((cl_X0_putEnd_3) w)⟩) (by decide +kernel)
set_option maxRecDepth 20000 in
theorem gX0_putEnd_X0_place : GoodIn wsX0_putEnd (wsV RX0 36 RX0 yX0_place wsX0_place) := goodIn_app (goodIn_sub (List.forall_mem_cons.mpr ⟨(cl_X0_putEnd_2 _ (List.mem_of_getElem? (i := 2) rfl)), List.forall_mem_cons.mpr ⟨(cl_X0_putEnd_2 _ (List.mem_of_getElem? (i := 3) rfl)), List.forall_mem_cons.mpr ⟨(cl_X0_putEnd_2 _ (List.mem_of_getElem? (i := 4) rfl)), List.forall_mem_cons.mpr ⟨(cl_X0_putEnd_2 _ (List.mem_of_getElem? (i := 5) rfl)), fun _ h => absurd h List.not_mem_nil⟩⟩⟩⟩) (by decide +kernel)) ggX0_putEnd_X0_place
noncomputable def dz_p12_4 : List (Nat × Instr × Nat) := [(0, (.iload_n 2, 1)), (1, (.invokestatic 22, 3)), (4, (.aload_n 0, 1)), (5, (.getfield 15, 3)), (8, (.iconst 0, 1)), (9, (.laload, 1)), (10, (.lstore_n 3, 1)), (11, (.iconst 1, 1)), (12, (.istore 5, 2)), (14, (.iload 5, 2)), (16, (.bipush 8, 2)), (18, (.if_icmp .ge 47, 3)), (21, (.iload_n 1, 1)), (22, (.ifCond .eq 21, 3)), (25, (.aload_n 0, 1)), (26, (.getfield 9, 3)), (29, (.lload_n 3, 1)), (30, (.aload_n 0, 1)), (31, (.getfield 15, 3)), (34, (.iload 5, 2)), (36, (.laload, 1)), (37, (.invokevirtual 66, 3)), (40, (.goto 18, 3)), (43, (.aload_n 0, 1)), (44, (.getfield 9, 3)), (47, (.lload_n 3, 1)), (48, (.aload_n 0, 1)), (49, (.getfield 15, 3)), (52, (.iload 5, 2)), (54, (.laload, 1)), (55, (.invokevirtual 70, 3)), (58, (.lstore_n 3, 1)), (59, (.iinc 5 1, 3)), (62, (.goto (-48), 3)), (65, (.aload_n 0, 1)), (66, (.iload_n 2, 1)), (67, (.lload_n 3, 1)), (68, (.invokevirtual 36, 3)), (71, (.ireturn, 1))]
theorem dy_p12_4 : dz_ok cX0_putEnd dz_p12_4 = true := by decide +kernel
theorem dX0_putEnd_0 : decode cX0_putEnd 0 = .ok (.iload_n 2, 1) := dz_at (i := 0) dy_p12_4 rfl
theorem dX0_putEnd_1 : decode cX0_putEnd 1 = .ok (.invokestatic 22, 3) := dz_at (i := 1) dy_p12_4 rfl
theorem dX0_putEnd_4 : decode cX0_putEnd 4 = .ok (.aload_n 0, 1) := dz_at (i := 2) dy_p12_4 rfl
theorem dX0_putEnd_5 : decode cX0_putEnd 5 = .ok (.getfield 15, 3) := dz_at (i := 3) dy_p12_4 rfl
theorem dX0_putEnd_8 : decode cX0_putEnd 8 = .ok (.iconst 0, 1) := dz_at (i := 4) dy_p12_4 rfl
theorem dX0_putEnd_9 : decode cX0_putEnd 9 = .ok (.laload, 1) := dz_at (i := 5) dy_p12_4 rfl
theorem dX0_putEnd_10 : decode cX0_putEnd 10 = .ok (.lstore_n 3, 1) := dz_at (i := 6) dy_p12_4 rfl
theorem dX0_putEnd_11 : decode cX0_putEnd 11 = .ok (.iconst 1, 1) := dz_at (i := 7) dy_p12_4 rfl
theorem dX0_putEnd_12 : decode cX0_putEnd 12 = .ok (.istore 5, 2) := dz_at (i := 8) dy_p12_4 rfl
theorem dX0_putEnd_14 : decode cX0_putEnd 14 = .ok (.iload 5, 2) := dz_at (i := 9) dy_p12_4 rfl
theorem dX0_putEnd_16 : decode cX0_putEnd 16 = .ok (.bipush 8, 2) := dz_at (i := 10) dy_p12_4 rfl
theorem dX0_putEnd_18 : decode cX0_putEnd 18 = .ok (.if_icmp .ge 47, 3) := dz_at (i := 11) dy_p12_4 rfl
theorem dX0_putEnd_21 : decode cX0_putEnd 21 = .ok (.iload_n 1, 1) := dz_at (i := 12) dy_p12_4 rfl
theorem dX0_putEnd_22 : decode cX0_putEnd 22 = .ok (.ifCond .eq 21, 3) := dz_at (i := 13) dy_p12_4 rfl
theorem dX0_putEnd_25 : decode cX0_putEnd 25 = .ok (.aload_n 0, 1) := dz_at (i := 14) dy_p12_4 rfl
theorem dX0_putEnd_26 : decode cX0_putEnd 26 = .ok (.getfield 9, 3) := dz_at (i := 15) dy_p12_4 rfl
theorem dX0_putEnd_29 : decode cX0_putEnd 29 = .ok (.lload_n 3, 1) := dz_at (i := 16) dy_p12_4 rfl
theorem dX0_putEnd_30 : decode cX0_putEnd 30 = .ok (.aload_n 0, 1) := dz_at (i := 17) dy_p12_4 rfl
theorem dX0_putEnd_31 : decode cX0_putEnd 31 = .ok (.getfield 15, 3) := dz_at (i := 18) dy_p12_4 rfl
theorem dX0_putEnd_34 : decode cX0_putEnd 34 = .ok (.iload 5, 2) := dz_at (i := 19) dy_p12_4 rfl
theorem dX0_putEnd_36 : decode cX0_putEnd 36 = .ok (.laload, 1) := dz_at (i := 20) dy_p12_4 rfl
theorem dX0_putEnd_37 : decode cX0_putEnd 37 = .ok (.invokevirtual 66, 3) := dz_at (i := 21) dy_p12_4 rfl
theorem dX0_putEnd_40 : decode cX0_putEnd 40 = .ok (.goto 18, 3) := dz_at (i := 22) dy_p12_4 rfl
theorem dX0_putEnd_43 : decode cX0_putEnd 43 = .ok (.aload_n 0, 1) := dz_at (i := 23) dy_p12_4 rfl
theorem dX0_putEnd_44 : decode cX0_putEnd 44 = .ok (.getfield 9, 3) := dz_at (i := 24) dy_p12_4 rfl
theorem dX0_putEnd_47 : decode cX0_putEnd 47 = .ok (.lload_n 3, 1) := dz_at (i := 25) dy_p12_4 rfl
theorem dX0_putEnd_48 : decode cX0_putEnd 48 = .ok (.aload_n 0, 1) := dz_at (i := 26) dy_p12_4 rfl
theorem dX0_putEnd_49 : decode cX0_putEnd 49 = .ok (.getfield 15, 3) := dz_at (i := 27) dy_p12_4 rfl
theorem dX0_putEnd_52 : decode cX0_putEnd 52 = .ok (.iload 5, 2) := dz_at (i := 28) dy_p12_4 rfl
theorem dX0_putEnd_54 : decode cX0_putEnd 54 = .ok (.laload, 1) := dz_at (i := 29) dy_p12_4 rfl
theorem dX0_putEnd_55 : decode cX0_putEnd 55 = .ok (.invokevirtual 70, 3) := dz_at (i := 30) dy_p12_4 rfl
theorem dX0_putEnd_58 : decode cX0_putEnd 58 = .ok (.lstore_n 3, 1) := dz_at (i := 31) dy_p12_4 rfl
theorem dX0_putEnd_59 : decode cX0_putEnd 59 = .ok (.iinc 5 1, 3) := dz_at (i := 32) dy_p12_4 rfl
theorem dX0_putEnd_62 : decode cX0_putEnd 62 = .ok (.goto (-48), 3) := dz_at (i := 33) dy_p12_4 rfl
theorem dX0_putEnd_65 : decode cX0_putEnd 65 = .ok (.aload_n 0, 1) := dz_at (i := 34) dy_p12_4 rfl
theorem dX0_putEnd_66 : decode cX0_putEnd 66 = .ok (.iload_n 2, 1) := dz_at (i := 35) dy_p12_4 rfl
theorem dX0_putEnd_67 : decode cX0_putEnd 67 = .ok (.lload_n 3, 1) := dz_at (i := 36) dy_p12_4 rfl
theorem dX0_putEnd_68 : decode cX0_putEnd 68 = .ok (.invokevirtual 36, 3) := dz_at (i := 37) dy_p12_4 rfl
theorem dX0_putEnd_71 : decode cX0_putEnd 71 = .ok (.ireturn, 1) := dz_at (i := 38) dy_p12_4 rfl
noncomputable def L_xend (w : Bool) (f : Nat → Int64) (p0 : Bool) : Nat → Nat → Int64 → Int64
  | 0, _, v => v
  | nxend + 1, ixend, v => if p0 = true then L_xend w f p0 nxend (ixend + 1) (o_X1_greater w v (f ixend))
    else L_xend w f p0 nxend (ixend + 1) (o_X1_lesser w v (f ixend))
noncomputable def o_X0_putEnd (w : Bool) (a : Int32) (f : Nat → Int64) (p0 : Bool) (p1 : Int32) : Int32 × Int32 × Int32 × (Nat → Int64) :=
  if (o_X2_checkCell p1) = 0 then (0, (o_X0_place a f p1 (L_xend w f p0 7 1 (f 0))).1, (o_X0_place a f p1 (L_xend w f p0 7 1 (f 0))).2.1, (o_X0_place a f p1 (L_xend w f p0 7 1 (f 0))).2.2)
  else ((o_X2_checkCell p1), 0, a, f)
set_option maxHeartbeats 4000000 in
set_option maxRecDepth 100000 in
theorem k_X0_putEnd (l : Launch) (hfl : l.flags = flags0) (dC : Nat → ClassId) (dI : Nat → Nat → Nat) (cy : ClassId) (h0 : Nat) (aw : Nat) (ac : Nat) (ab : Nat) (w : Bool) (a : Int32) (rv : Int32) (f : Nat → Int64) (g : Nat → Int64) (sz : Nat) (N : Nat) (p0 : Bool) (p1 : Int32) : vx_Met l yX0_putEnd wsX0_putEnd ({ frames := 7, cells := 1, slots := 6, locals := 120 }) (va_Pc [.ref h0, .int (b2i p0), .int p1] (xM (dC, dI) xCl [(h0, eR aw ac ab a rv), (aw, eW w), (ac, eA cy f), (ab, eA cy g)] [(cy, .long)] sz N)) (va_Qi (fun (r : Int32) (_ : Unit) => (o_X0_putEnd w a f p0 p1).1 = 0 ∧ r = (o_X0_putEnd w a f p0 p1).2.1) (fun _ t => xW (dC, dI) xCl [(h0, eR aw ac ab (o_X0_putEnd w a f p0 p1).2.2.1 rv), (aw, eW w), (ac, eA cy (o_X0_putEnd w a f p0 p1).2.2.2), (ab, eA cy g)] (va_A [(h0, eR aw ac ab a rv), (aw, eW w), (ac, eA cy f), (ab, eA cy g)] sz) t) (va_A [(h0, eR aw ac ab a rv), (aw, eW w), (ac, eA cy f), (ab, eA cy g)] sz)) (vx_X (fun _ : Unit => ¬ (o_X0_putEnd w a f p0 p1).1 = 0) (fun E _ t => E = xE (o_X0_putEnd w a f p0 p1).1 ∧ xW (dC, dI) xCl [(h0, eR aw ac ab a rv), (aw, eW w), (ac, eA cy f), (ab, eA cy g)] (va_A [(h0, eR aw ac ab a rv), (aw, eW w), (ac, eA cy f), (ab, eA cy g)] sz) t) (va_A [(h0, eR aw ac ab a rv), (aw, eW w), (ac, eA cy f), (ab, eA cy g)] sz)) 1 6 (va_A [(h0, eR aw ac ab a rv), (aw, eW w), (ac, eA cy f), (ab, eA cy g)] sz) := by
  refine vx_ofW (cc := cX0_putEnd) (maxL := 6) (ret := (some .int)) (by decide +kernel) rfl ?_
  intro p e s m args below meth c s₁ B hml hno hv
  obtain ⟨rfl, hsz, hP, hK, hD0, hN, hG⟩ := hv
  have hx := B.exec
  have hb := B.bytes
  have hr := B.returns
  have hts := atoms_spec (ws := wsX0_putEnd) B.pre
  have hown : s.vm.findClass RX0 = some m.cls := findClass_of_methodNamed B.named
  have hlocks := B.notSynchronized
  subst hsz
  have hAN : ∀ q, va_A [(h0, eR aw ac ab a rv), (aw, eW w), (ac, eA cy f), (ab, eA cy g)] s.heap.size q → N ≤ q := xA_N hD0 hN
  have hD := hD0.self (sz := s.heap.size)
  generalize hAe : va_A [(h0, eR aw ac ab a rv), (aw, eW w), (ac, eA cy f), (ab, eA cy g)] s.heap.size = A at hD hAN ⊢
  have hA : ∀ q : Nat, s.heap.size ≤ q → A q := fun q h => by rw [← hAe]; exact Or.inr h
  have hS : va_S A s.heap s.heap [] := va_S.rf
  have hP : va_P (dC, dI) xCl [(h0, eR aw ac ab a rv), (aw, eW w), (ac, eA cy f), (ab, eA cy g)] s.heap := hP
  have hl := lv_entry ([.ref h0, .int (b2i p0), .int p1]) (n := 6) (Nat.le_of_ble_eq_true rfl)
  rw [lg_entry_eq]
  generalize (lg_sl ([.ref h0, .int (b2i p0), .int p1]) ++ List.replicate (6 - (lg_sl ([.ref h0, .int (b2i p0), .int p1])).length) Slot.unset).toArray = ls at hl ⊢
  have hl : lv_has ls 6 [(0, .ref h0), (1, .int (b2i p0)), (2, .int p1)] := hl
  refine lv_iload_n hx hb dX0_putEnd_0 rfl (lv_at hl 2 rfl) ?_
  have hPc := hP.sub (ws' := []) [] rfl
  have hDc := hD.sub (ws' := []) [] (by decide +kernel) rfl
  have hKc := hK.sub (tys' := []) [] rfl
  refine vx_callv (vx_runSN (As := [.int p1]) (rest := []) ⟨hx, hb, hml, hown, hts⟩ (k_X2_checkCell l hfl dC dI s.heap.size N p1) ⟨va_cnB 1 hts gX0_putEnd_X2_checkCell_n22 rfl rfl rfl (hG.1 (.methodLinkNest RX0 22 yX2_checkCell RX2) (List.mem_of_getElem? (i := 0) rfl)) (hts (.initialized RX2) (by decide +kernel)) (by decide +kernel) ⟨Nat.le_of_ble_eq_true rfl, Nat.le_of_ble_eq_true rfl⟩, hts (.static yX2_checkCell) (by decide +kernel), trivial⟩ (xM.preS hKc hPc hDc hAN (Nat.le_trans hN hS.1) (hG.kept hS hAN)) rfl rfl hl.1 rfl (lv_room (Nat.le_of_ble_eq_true rfl)) dX0_putEnd_1 ⟨Nat.le_of_ble_eq_true rfl, Nat.le_of_ble_eq_true rfl⟩) hS xA_old (fun q h => hA q (Nat.le_trans hS.1 h)) xA_old (fun E ce q9 u9 t H locs ht hvm hpx hbx hz hk hS hce hcv hcl => ?_) (fun u t H locs ht hvm hw hB hz hk hS => ?_)
  · have c_2 : ¬ (o_X2_checkCell p1) = 0 := hpx
    have hbe := hbx
    have hP := xP_keep hP hk
    have he : o_X0_putEnd w a f p0 p1 = ((o_X2_checkCell p1), 0, a, f) := by (rw [o_X0_putEnd, if_neg c_2]) <;> rfl
    exact vx_out (fun x hx => (hno x hx).elim) hlocks hce hcv hcl (fun t ht hvm => ⟨(), by rw [he]; exact c_2, ⟨by rw [he]; exact hbe, by rw [ht]; exact hP, hD⟩, hS.F ht⟩) hS.2.2 (by omega) (by omega)
  · skip
    have c_3 := hw
    have c_3 : (o_X2_checkCell p1) = 0 := c_3
    have hP := xP_keep hP hk
    refine lv_aload_n hx hb dX0_putEnd_4 rfl (lv_at hl 0 rfl) ?_
    refine va_get (D := (dC, dI)) (ci := 2) (v := .ref ac) (C := RX0) (T := TX0) (N := 5) hx hb hts (by decide +kernel) hown hK hP 0 rfl rfl 1 (by decide +kernel) (hts (.fieldLink RX0 15 "Edgefloats$Row" "cells" "[J") (by decide +kernel)) (fun _ h9 => h9) rfl dX0_putEnd_5 ?_
    refine lv_iconst (v := 0) hx hb dX0_putEnd_8 (by decide +kernel) ?_
    refine xa_lald hx hb hK hP 2 0 (f := f) rfl rfl (k := 0) (vp_in_iff.mpr ⟨by decide, by decide⟩) (by decide +kernel) dX0_putEnd_9 ?_
    refine lv_lstore_n (lv' := [(3, .long (f 0)), (0, .ref h0), (1, .int (b2i p0)), (2, .int p1)]) hx hb dX0_putEnd_10 rfl hl (by decide +kernel) rfl (fun ls hl => ?_)
    refine lv_iconst (v := 1) hx hb dX0_putEnd_11 (by decide +kernel) ?_
    refine lv_istore (lv' := [(5, .int 1), (3, .long (f 0)), (0, .ref h0), (1, .int (b2i p0)), (2, .int p1)]) hx hb dX0_putEnd_12 hl (by decide +kernel) rfl (fun ls hl => ?_)
    have loop_xend : ∀ (nxend ixend : Nat) (v : Int64) (H : Heap) (locs : List Loc) (ls : Array Slot), ixend + nxend = 8 → 1 ≤ ixend → (L_xend w f p0 7 1 (f 0)) = L_xend w f p0 nxend ixend v → va_P (dC, dI) xCl [(h0, eR aw ac ab a rv), (aw, eW w), (ac, eA cy f), (ab, eA cy g)] H → va_D A [(h0, eR aw ac ab a rv), (aw, eW w), (ac, eA cy f), (ab, eA cy g)] → va_S A s.heap H locs → lv_has ls 6 [(5, .int (nI ixend)), (3, .long v), (0, .ref h0), (1, .int (b2i p0)), (2, .int p1)] → (∀ (H : Heap) (locs : List Loc) (ls : Array Slot), va_P (dC, dI) xCl [(h0, eR aw ac ab a rv), (aw, eW w), (ac, eA cy f), (ab, eA cy g)] H → va_D A [(h0, eR aw ac ab a rv), (aw, eW w), (ac, eA cy f), (ab, eA cy g)] → va_S A s.heap H locs → lv_has ls 6 [(3, .long (L_xend w f p0 7 1 (f 0))), (0, .ref h0), (1, .int (b2i p0)), (2, .int p1)] → W p l e (headSpec wsX0_putEnd ({ frames := 7, cells := 1, slots := 6, locals := 120 } : Room)).room s m ([.ref h0, .int (b2i p0), .int p1]).toArray below meth c H locs 1 6 (vx_MQ below (va_Qi (fun (r : Int32) (_ : Unit) => (o_X0_putEnd w a f p0 p1).1 = 0 ∧ r = (o_X0_putEnd w a f p0 p1).2.1) (fun _ t => xW (dC, dI) xCl [(h0, eR aw ac ab (o_X0_putEnd w a f p0 p1).2.2.1 rv), (aw, eW w), (ac, eA cy (o_X0_putEnd w a f p0 p1).2.2.2), (ab, eA cy g)] A t) A) (vx_X (fun _ : Unit => ¬ (o_X0_putEnd w a f p0 p1).1 = 0) (fun E _ t => E = xE (o_X0_putEnd w a f p0 p1).1 ∧ xW (dC, dI) xCl [(h0, eR aw ac ab a rv), (aw, eW w), (ac, eA cy f), (ab, eA cy g)] A t) A) ([.ref h0, .int (b2i p0), .int p1]).toArray s 1 6 A) (F0 m 65 ls [])) → W p l e (headSpec wsX0_putEnd ({ frames := 7, cells := 1, slots := 6, locals := 120 } : Room)).room s m ([.ref h0, .int (b2i p0), .int p1]).toArray below meth c H locs 1 6 (vx_MQ below (va_Qi (fun (r : Int32) (_ : Unit) => (o_X0_putEnd w a f p0 p1).1 = 0 ∧ r = (o_X0_putEnd w a f p0 p1).2.1) (fun _ t => xW (dC, dI) xCl [(h0, eR aw ac ab (o_X0_putEnd w a f p0 p1).2.2.1 rv), (aw, eW w), (ac, eA cy (o_X0_putEnd w a f p0 p1).2.2.2), (ab, eA cy g)] A t) A) (vx_X (fun _ : Unit => ¬ (o_X0_putEnd w a f p0 p1).1 = 0) (fun E _ t => E = xE (o_X0_putEnd w a f p0 p1).1 ∧ xW (dC, dI) xCl [(h0, eR aw ac ab a rv), (aw, eW w), (ac, eA cy f), (ab, eA cy g)] A t) A) ([.ref h0, .int (b2i p0), .int p1]).toArray s 1 6 A) (F0 m 14 ls []) := by
      intro nxend
      induction nxend with
      | zero =>
        intro ixend v H locs ls hin_xend his_xend hsp_xend hP hD hS hl K_xend
        have hv : (L_xend w f p0 7 1 (f 0)) = v := hsp_xend
        subst hv
        have hi8 : ixend = 8 := by omega
        refine lv_iload hx hb dX0_putEnd_14 (lv_at hl 0 rfl) ?_
        refine lv_bipush (v := 8) hx hb dX0_putEnd_16 (by decide +kernel) ?_
        refine lv_icmp_ge (tgt := 65) hx hb dX0_putEnd_18 (by decide +kernel) (fun c9 => ?_) (fun c9 => absurd (by rw [hi8]; decide) c9)
        exact K_xend _ _ _ hP hD hS (lv_sub hl [1, 2, 3, 4] rfl)
      | succ nxend ih_xend =>
        intro ixend v H locs ls hin_xend his_xend hsp_xend hP hD hS hl K_xend
        refine lv_iload hx hb dX0_putEnd_14 (lv_at hl 0 rfl) ?_
        refine lv_bipush (v := 8) hx hb dX0_putEnd_16 (by decide +kernel) ?_
        refine lv_icmp_ge (tgt := 65) hx hb dX0_putEnd_18 (by decide +kernel) (fun c9 => absurd c9 (show ¬ (8 : Int32) ≤ nI ixend from nI_ge (a := ixend) (b := 8) (by omega) (by decide +kernel))) (fun c9 => ?_)
        refine lv_iload_n hx hb dX0_putEnd_21 rfl (lv_at hl 3 rfl) ?_
        refine xz_eq (tgt := 43) hx hb dX0_putEnd_22 (by decide +kernel) (fun c_4 => ?_) (fun c_4 => ?_)
        · skip
          refine lv_aload_n hx hb dX0_putEnd_43 rfl (lv_at hl 2 rfl) ?_
          refine va_get (D := (dC, dI)) (ci := 2) (v := .ref aw) (C := RX0) (T := TX0) (N := 5) hx hb hts (by decide +kernel) hown hK hP 0 rfl rfl 0 (by decide +kernel) (hts (.fieldLink RX0 9 "Edgefloats$Row" "width" "LEdgefloats$Width;") (by decide +kernel)) (fun _ h9 => h9) rfl dX0_putEnd_44 ?_
          refine lv_lload_n hx hb dX0_putEnd_47 rfl (lv_at hl 1 rfl) ?_
          refine lv_aload_n hx hb dX0_putEnd_48 rfl (lv_at hl 2 rfl) ?_
          refine va_get (D := (dC, dI)) (ci := 2) (v := .ref ac) (C := RX0) (T := TX0) (N := 5) hx hb hts (by decide +kernel) hown hK hP 0 rfl rfl 1 (by decide +kernel) (hts (.fieldLink RX0 15 "Edgefloats$Row" "cells" "[J") (by decide +kernel)) (fun _ h9 => h9) rfl dX0_putEnd_49 ?_
          refine lv_iload hx hb dX0_putEnd_52 (lv_at hl 0 rfl) ?_
          refine xa_lald hx hb hK hP 2 0 (f := f) rfl rfl (k := ixend) (vp_in_nI (n := ixend) (N := 8) (by omega) (by decide +kernel)) (nI_clamp (n := ixend) (by omega)) dX0_putEnd_54 ?_
          have hPc := hP.sub (ws' := [(aw, eW w)]) [1] rfl
          have hKc := hK.sub (tys' := []) [] rfl
          refine va_calll (va_runV (As := [.long v, .long (f ixend)]) (rest := []) ⟨hx, hb, hml, hown, hts⟩ (k_X1_lesser l dC dI aw w H.size v (f ixend)) (cwV 2 hts gX0_putEnd_X1_lesser rfl rfl rfl (by decide +kernel) ⟨Nat.le_of_ble_eq_true rfl, Nat.le_of_ble_eq_true rfl⟩) (xB.preV hKc hPc (ci := 3) (q0 := 0) rfl rfl) rfl rfl hl.1 rfl (lv_room (Nat.le_of_ble_eq_true rfl)) dX0_putEnd_55 ⟨Nat.le_of_ble_eq_true rfl, Nat.le_of_ble_eq_true rfl⟩) hS xA_old (fun q h => hA q (Nat.le_trans hS.1 h)) (fun r_5 u t H locs ht hvm hw hB hz hk hS => ?_)
          replace hw : r_5 = (o_X1_lesser w v (f ixend)) := hw
          subst r_5
          have hP := xP_keep hP hk
          refine lv_lstore_n (lv' := [(3, .long (o_X1_lesser w v (f ixend))), (5, .int (nI ixend)), (0, .ref h0), (1, .int (b2i p0)), (2, .int p1)]) hx hb dX0_putEnd_58 rfl hl (by decide +kernel) rfl (fun ls hl => ?_)
          refine lv_iinc (v := (nI (ixend + 1))) (lv' := [(5, .int (nI (ixend + 1))), (3, .long (o_X1_lesser w v (f ixend))), (0, .ref h0), (1, .int (b2i p0)), (2, .int p1)]) hx hb dX0_putEnd_59 hl (k := 1) rfl (nI_1 ixend) (by decide +kernel) rfl (fun ls hl => ?_)
          refine lv_goto (tgt := 14) hx hb dX0_putEnd_62 (by decide +kernel) ?_
          refine W.widen (k := 1) (n := 6) (Nat.le_refl _) (Nat.le_refl _) ?_
          exact ih_xend (ixend + 1) (o_X1_lesser w v (f ixend)) _ _ _ (by omega) (by omega) (hsp_xend.trans (by (rw [L_xend, if_neg c_4]) <;> rfl)) hP hD hS (lv_sub hl [0, 1, 2, 3, 4] rfl) K_xend
        · skip
          refine lv_aload_n hx hb dX0_putEnd_25 rfl (lv_at hl 2 rfl) ?_
          refine va_get (D := (dC, dI)) (ci := 2) (v := .ref aw) (C := RX0) (T := TX0) (N := 5) hx hb hts (by decide +kernel) hown hK hP 0 rfl rfl 0 (by decide +kernel) (hts (.fieldLink RX0 9 "Edgefloats$Row" "width" "LEdgefloats$Width;") (by decide +kernel)) (fun _ h9 => h9) rfl dX0_putEnd_26 ?_
          refine lv_lload_n hx hb dX0_putEnd_29 rfl (lv_at hl 1 rfl) ?_
          refine lv_aload_n hx hb dX0_putEnd_30 rfl (lv_at hl 2 rfl) ?_
          refine va_get (D := (dC, dI)) (ci := 2) (v := .ref ac) (C := RX0) (T := TX0) (N := 5) hx hb hts (by decide +kernel) hown hK hP 0 rfl rfl 1 (by decide +kernel) (hts (.fieldLink RX0 15 "Edgefloats$Row" "cells" "[J") (by decide +kernel)) (fun _ h9 => h9) rfl dX0_putEnd_31 ?_
          refine lv_iload hx hb dX0_putEnd_34 (lv_at hl 0 rfl) ?_
          refine xa_lald hx hb hK hP 2 0 (f := f) rfl rfl (k := ixend) (vp_in_nI (n := ixend) (N := 8) (by omega) (by decide +kernel)) (nI_clamp (n := ixend) (by omega)) dX0_putEnd_36 ?_
          have hPc := hP.sub (ws' := [(aw, eW w)]) [1] rfl
          have hKc := hK.sub (tys' := []) [] rfl
          refine va_calll (va_runV (As := [.long v, .long (f ixend)]) (rest := []) ⟨hx, hb, hml, hown, hts⟩ (k_X1_greater l dC dI aw w H.size v (f ixend)) (cwV 2 hts gX0_putEnd_X1_greater rfl rfl rfl (by decide +kernel) ⟨Nat.le_of_ble_eq_true rfl, Nat.le_of_ble_eq_true rfl⟩) (xB.preV hKc hPc (ci := 3) (q0 := 0) rfl rfl) rfl rfl hl.1 rfl (lv_room (Nat.le_of_ble_eq_true rfl)) dX0_putEnd_37 ⟨Nat.le_of_ble_eq_true rfl, Nat.le_of_ble_eq_true rfl⟩) hS xA_old (fun q h => hA q (Nat.le_trans hS.1 h)) (fun r_6 u t H locs ht hvm hw hB hz hk hS => ?_)
          replace hw : r_6 = (o_X1_greater w v (f ixend)) := hw
          subst r_6
          have hP := xP_keep hP hk
          refine lv_goto (tgt := 58) hx hb dX0_putEnd_40 (by decide +kernel) ?_
          refine lv_lstore_n (lv' := [(3, .long (o_X1_greater w v (f ixend))), (5, .int (nI ixend)), (0, .ref h0), (1, .int (b2i p0)), (2, .int p1)]) hx hb dX0_putEnd_58 rfl hl (by decide +kernel) rfl (fun ls hl => ?_)
          refine lv_iinc (v := (nI (ixend + 1))) (lv' := [(5, .int (nI (ixend + 1))), (3, .long (o_X1_greater w v (f ixend))), (0, .ref h0), (1, .int (b2i p0)), (2, .int p1)]) hx hb dX0_putEnd_59 hl (k := 1) rfl (nI_1 ixend) (by decide +kernel) rfl (fun ls hl => ?_)
          refine lv_goto (tgt := 14) hx hb dX0_putEnd_62 (by decide +kernel) ?_
          refine W.widen (k := 1) (n := 6) (Nat.le_refl _) (Nat.le_refl _) ?_
          exact ih_xend (ixend + 1) (o_X1_greater w v (f ixend)) _ _ _ (by omega) (by omega) (hsp_xend.trans (by (rw [L_xend, if_pos c_4]) <;> rfl)) hP hD hS (lv_sub hl [0, 1, 2, 3, 4] rfl) K_xend
    refine loop_xend 7 1 (f 0) _ _ _ (by omega) (by omega) rfl hP hD hS (lv_sub hl [0, 1, 2, 3, 4] rfl) (fun H locs ls hP hD hS hl => ?_)
    refine lv_aload_n hx hb dX0_putEnd_65 rfl (lv_at hl 1 rfl) ?_
    refine lv_iload_n hx hb dX0_putEnd_66 rfl (lv_at hl 3 rfl) ?_
    refine lv_lload_n hx hb dX0_putEnd_67 rfl (lv_at hl 0 rfl) ?_
    have hPc := hP.sub (ws' := [(h0, eR aw ac ab a rv), (aw, eW w), (ac, eA cy f), (ab, eA cy g)]) [0, 1, 2, 3] rfl
    have hDc := hD.sub (ws' := [(h0, eR aw ac ab a rv), (aw, eW w), (ac, eA cy f), (ab, eA cy g)]) [0, 1, 2, 3] (by decide +kernel) rfl
    have hKc := hK.sub (tys' := [(cy, .long)]) [0] rfl
    have hFc := va_free (wc := [(h0, eR aw ac ab a rv), (aw, eW w), (ac, eA cy f), (ab, eA cy g)]) hD hS hA [0, 1, 2, 3] rfl
    refine va_calli (va_runV (As := [.int p1, .long (L_xend w f p0 7 1 (f 0))]) (rest := []) ⟨hx, hb, hml, hown, hts⟩ (k_X0_place l dC dI cy h0 aw ac ab w a rv f g H.size N p1 (L_xend w f p0 7 1 (f 0)) (xm_cc c_3)) (cwV 2 hts gX0_putEnd_X0_place rfl rfl rfl (by decide +kernel) ⟨Nat.le_of_ble_eq_true rfl, Nat.le_of_ble_eq_true rfl⟩) (xM.preV hKc hPc hDc hAN (Nat.le_trans hN hS.1) (hG.kept hS hAN) (ci := 2) (q0 := 0) rfl rfl) rfl rfl hl.1 rfl (lv_room (Nat.le_of_ble_eq_true rfl)) dX0_putEnd_68 ⟨Nat.le_of_ble_eq_true rfl, Nat.le_of_ble_eq_true rfl⟩) hS (fun q _ h => hFc q h) hFc (fun r_7 u t H locs ht hvm hw hB hz hk hS => ?_)
    replace hw : r_7 = (o_X0_place a f p1 (L_xend w f p0 7 1 (f 0))).1 := hw
    subst r_7
    obtain ⟨hP1, hD1⟩ := hB
    rw [ht] at hP1
    obtain ⟨hP, hD⟩ := va_join (wr := []) (w1 := [(h0, eR aw ac ab (o_X0_place a f p1 (L_xend w f p0 7 1 (f 0))).2.1 rv), (aw, eW w), (ac, eA cy (o_X0_place a f p1 (L_xend w f p0 7 1 (f 0))).2.2), (ab, eA cy g)]) hP hD [0, 1, 2, 3] [] rfl rfl (by decide +kernel) (by decide +kernel) hk hFc hP1 hD1
    have hP := hP.sub (ws' := [(h0, eR aw ac ab (o_X0_place a f p1 (L_xend w f p0 7 1 (f 0))).2.1 rv), (aw, eW w), (ac, eA cy (o_X0_place a f p1 (L_xend w f p0 7 1 (f 0))).2.2), (ab, eA cy g)]) [0, 1, 2, 3] rfl
    have hD := hD.sub (ws' := [(h0, eR aw ac ab (o_X0_place a f p1 (L_xend w f p0 7 1 (f 0))).2.1 rv), (aw, eW w), (ac, eA cy (o_X0_place a f p1 (L_xend w f p0 7 1 (f 0))).2.2), (ab, eA cy g)]) [0, 1, 2, 3] (by decide +kernel) rfl
    have he : o_X0_putEnd w a f p0 p1 = (0, (o_X0_place a f p1 (L_xend w f p0 7 1 (f 0))).1, (o_X0_place a f p1 (L_xend w f p0 7 1 (f 0))).2.1, (o_X0_place a f p1 (L_xend w f p0 7 1 (f 0))).2.2) := by (rw [o_X0_putEnd, if_pos c_3]) <;> rfl
    refine W.widen (k := 1) (n := 6) (by omega) (by omega) ?_
    refine vx_ret ?_
    exact W.iret (v := ((o_X0_place a f p1 (L_xend w f p0 7 1 (f 0))).1)) hx hb hr (fun t ht hW => ⟨⟨_, (), rfl, ⟨(by (rw [he]) <;> rfl), (by (rw [he]) <;> rfl)⟩, (by rw [he]; exact ⟨by rw [ht]; exact hP, hD⟩)⟩, hS.F ht⟩) hS.2.2 dX0_putEnd_71
theorem cl_X0_insert_1 : ∀ w ∈ [.fieldLink RX0 15 "Edgefloats$Row" "cells" "[J", .fieldLink RX0 9 "Edgefloats$Row" "width" "LEdgefloats$Width;", .methodLink RX0 92 yX1_order, .instanceMethod yX1_order, .selects RX1 yX1_order yX1_order, .initialized RX1, .code yX1_order cX1_order 9 (some .int), .methodLink RX1 42 yX1_standing, .instanceMethod yX1_standing, .selects RX1 yX1_standing yX1_standing, .code yX1_standing cX1_standing 5 (some .long), .fieldLink RX1 28 "Edgefloats$Width" "sizeOnes" "J", .fieldLink RX1 25 "Edgefloats$Width" "signOne" "J"], w ∈ wsX0_insert := fun _ h => (List.mem_cons_of_mem _ (List.mem_append_left _ (List.mem_append_left _ h)))
theorem cl_X0_insert_2 : ∀ w ∈ wsX00, w ∈ wsX0_insert := fun _ h => (List.mem_cons_of_mem _ (List.mem_append_left _ (List.mem_append_right _ h)))
theorem cl_X0_insert_3 : ∀ w ∈ wsX10, w ∈ wsX0_insert := fun _ h => (List.mem_cons_of_mem _ (List.mem_append_right _ h))
set_option maxRecDepth 20000 in
theorem ggX0_insert_X1_order : GoodIn wsX0_insert wsX1_order := goodIn_sub (List.forall_mem_cons.mpr ⟨(cl_X0_insert_1 _ (List.mem_of_getElem? (i := 6) rfl)), fun w h => (List.mem_append.mp h).elim ((List.forall_mem_cons.mpr ⟨(cl_X0_insert_1 _ (List.mem_of_getElem? (i := 7) rfl)), List.forall_mem_cons.mpr ⟨(cl_X0_insert_1 _ (List.mem_of_getElem? (i := 8) rfl)), List.forall_mem_cons.mpr ⟨(cl_X0_insert_1 _ (List.mem_of_getElem? (i := 9) rfl)), List.forall_mem_cons.mpr ⟨(cl_X0_insert_1 _ (List.mem_of_getElem? (i := 5) rfl)), List.forall_mem_cons.mpr ⟨(cl_X0_insert_1 _ (List.mem_of_getElem? (i := 10) rfl)), List.forall_mem_cons.mpr ⟨(cl_X0_insert_1 _ (List.mem_of_getElem? (i := 11) rfl)), List.forall_mem_cons.mpr ⟨(cl_X0_insert_1 _ (List.mem_of_getElem? (i := 12) rfl)), fun _ h => absurd h List.not_mem_nil⟩⟩⟩⟩⟩⟩⟩) w) ((cl_X0_insert_3) w)⟩) (by decide +kernel)
set_option maxRecDepth 20000 in
theorem gX0_insert_X1_order : GoodIn wsX0_insert (wsV RX0 92 RX1 yX1_order wsX1_order) := goodIn_app (goodIn_sub (List.forall_mem_cons.mpr ⟨(cl_X0_insert_1 _ (List.mem_of_getElem? (i := 2) rfl)), List.forall_mem_cons.mpr ⟨(cl_X0_insert_1 _ (List.mem_of_getElem? (i := 3) rfl)), List.forall_mem_cons.mpr ⟨(cl_X0_insert_1 _ (List.mem_of_getElem? (i := 4) rfl)), List.forall_mem_cons.mpr ⟨(cl_X0_insert_1 _ (List.mem_of_getElem? (i := 5) rfl)), fun _ h => absurd h List.not_mem_nil⟩⟩⟩⟩) (by decide +kernel)) ggX0_insert_X1_order
noncomputable def dz_p12_5 : List (Nat × Instr × Nat) := [(0, (.aload_n 0, 1)), (1, (.getfield 15, 3)), (4, (.iload_n 1, 1)), (5, (.laload, 1)), (6, (.lstore_n 2, 1)), (7, (.iload_n 1, 1)), (8, (.istore 4, 2)), (10, (.iload 4, 2)), (12, (.ifCond .le 45, 3)), (15, (.aload_n 0, 1)), (16, (.getfield 9, 3)), (19, (.aload_n 0, 1)), (20, (.getfield 15, 3)), (23, (.iload 4, 2)), (25, (.iconst 1, 1)), (26, (.isub, 1)), (27, (.laload, 1)), (28, (.lload_n 2, 1)), (29, (.invokevirtual 92, 3)), (32, (.ifCond .le 25, 3)), (35, (.aload_n 0, 1)), (36, (.getfield 15, 3)), (39, (.iload 4, 2)), (41, (.aload_n 0, 1)), (42, (.getfield 15, 3)), (45, (.iload 4, 2)), (47, (.iconst 1, 1)), (48, (.isub, 1)), (49, (.laload, 1)), (50, (.lastore, 1)), (51, (.iinc 4 (-1), 3)), (54, (.goto (-44), 3)), (57, (.aload_n 0, 1)), (58, (.getfield 15, 3)), (61, (.iload 4, 2)), (63, (.lload_n 2, 1)), (64, (.lastore, 1)), (65, (.return_, 1))]
theorem dy_p12_5 : dz_ok cX0_insert dz_p12_5 = true := by decide +kernel
theorem dX0_insert_0 : decode cX0_insert 0 = .ok (.aload_n 0, 1) := dz_at (i := 0) dy_p12_5 rfl
theorem dX0_insert_1 : decode cX0_insert 1 = .ok (.getfield 15, 3) := dz_at (i := 1) dy_p12_5 rfl
theorem dX0_insert_4 : decode cX0_insert 4 = .ok (.iload_n 1, 1) := dz_at (i := 2) dy_p12_5 rfl
theorem dX0_insert_5 : decode cX0_insert 5 = .ok (.laload, 1) := dz_at (i := 3) dy_p12_5 rfl
theorem dX0_insert_6 : decode cX0_insert 6 = .ok (.lstore_n 2, 1) := dz_at (i := 4) dy_p12_5 rfl
theorem dX0_insert_7 : decode cX0_insert 7 = .ok (.iload_n 1, 1) := dz_at (i := 5) dy_p12_5 rfl
theorem dX0_insert_8 : decode cX0_insert 8 = .ok (.istore 4, 2) := dz_at (i := 6) dy_p12_5 rfl
theorem dX0_insert_10 : decode cX0_insert 10 = .ok (.iload 4, 2) := dz_at (i := 7) dy_p12_5 rfl
theorem dX0_insert_12 : decode cX0_insert 12 = .ok (.ifCond .le 45, 3) := dz_at (i := 8) dy_p12_5 rfl
theorem dX0_insert_15 : decode cX0_insert 15 = .ok (.aload_n 0, 1) := dz_at (i := 9) dy_p12_5 rfl
theorem dX0_insert_16 : decode cX0_insert 16 = .ok (.getfield 9, 3) := dz_at (i := 10) dy_p12_5 rfl
theorem dX0_insert_19 : decode cX0_insert 19 = .ok (.aload_n 0, 1) := dz_at (i := 11) dy_p12_5 rfl
theorem dX0_insert_20 : decode cX0_insert 20 = .ok (.getfield 15, 3) := dz_at (i := 12) dy_p12_5 rfl
theorem dX0_insert_23 : decode cX0_insert 23 = .ok (.iload 4, 2) := dz_at (i := 13) dy_p12_5 rfl
theorem dX0_insert_25 : decode cX0_insert 25 = .ok (.iconst 1, 1) := dz_at (i := 14) dy_p12_5 rfl
theorem dX0_insert_26 : decode cX0_insert 26 = .ok (.isub, 1) := dz_at (i := 15) dy_p12_5 rfl
theorem dX0_insert_27 : decode cX0_insert 27 = .ok (.laload, 1) := dz_at (i := 16) dy_p12_5 rfl
theorem dX0_insert_28 : decode cX0_insert 28 = .ok (.lload_n 2, 1) := dz_at (i := 17) dy_p12_5 rfl
theorem dX0_insert_29 : decode cX0_insert 29 = .ok (.invokevirtual 92, 3) := dz_at (i := 18) dy_p12_5 rfl
theorem dX0_insert_32 : decode cX0_insert 32 = .ok (.ifCond .le 25, 3) := dz_at (i := 19) dy_p12_5 rfl
theorem dX0_insert_35 : decode cX0_insert 35 = .ok (.aload_n 0, 1) := dz_at (i := 20) dy_p12_5 rfl
theorem dX0_insert_36 : decode cX0_insert 36 = .ok (.getfield 15, 3) := dz_at (i := 21) dy_p12_5 rfl
theorem dX0_insert_39 : decode cX0_insert 39 = .ok (.iload 4, 2) := dz_at (i := 22) dy_p12_5 rfl
theorem dX0_insert_41 : decode cX0_insert 41 = .ok (.aload_n 0, 1) := dz_at (i := 23) dy_p12_5 rfl
theorem dX0_insert_42 : decode cX0_insert 42 = .ok (.getfield 15, 3) := dz_at (i := 24) dy_p12_5 rfl
theorem dX0_insert_45 : decode cX0_insert 45 = .ok (.iload 4, 2) := dz_at (i := 25) dy_p12_5 rfl
theorem dX0_insert_47 : decode cX0_insert 47 = .ok (.iconst 1, 1) := dz_at (i := 26) dy_p12_5 rfl
theorem dX0_insert_48 : decode cX0_insert 48 = .ok (.isub, 1) := dz_at (i := 27) dy_p12_5 rfl
theorem dX0_insert_49 : decode cX0_insert 49 = .ok (.laload, 1) := dz_at (i := 28) dy_p12_5 rfl
theorem dX0_insert_50 : decode cX0_insert 50 = .ok (.lastore, 1) := dz_at (i := 29) dy_p12_5 rfl
theorem dX0_insert_51 : decode cX0_insert 51 = .ok (.iinc 4 (-1), 3) := dz_at (i := 30) dy_p12_5 rfl
theorem dX0_insert_54 : decode cX0_insert 54 = .ok (.goto (-44), 3) := dz_at (i := 31) dy_p12_5 rfl
theorem dX0_insert_57 : decode cX0_insert 57 = .ok (.aload_n 0, 1) := dz_at (i := 32) dy_p12_5 rfl
theorem dX0_insert_58 : decode cX0_insert 58 = .ok (.getfield 15, 3) := dz_at (i := 33) dy_p12_5 rfl
theorem dX0_insert_61 : decode cX0_insert 61 = .ok (.iload 4, 2) := dz_at (i := 34) dy_p12_5 rfl
theorem dX0_insert_63 : decode cX0_insert 63 = .ok (.lload_n 2, 1) := dz_at (i := 35) dy_p12_5 rfl
theorem dX0_insert_64 : decode cX0_insert 64 = .ok (.lastore, 1) := dz_at (i := 36) dy_p12_5 rfl
theorem dX0_insert_65 : decode cX0_insert 65 = .ok (.return_, 1) := dz_at (i := 37) dy_p12_5 rfl
noncomputable def L_ins (w : Bool) (f : Nat → Int64) (p0 : Int32) : Nat → Int32 → (Nat → Int64) → (Nat → Int64)
  | 0, v, f9 => (vp_updL f9 v.toNatClampNeg (f p0.toNatClampNeg))
  | nins + 1, v, f9 => if v ≤ 0 then (vp_updL f9 v.toNatClampNeg (f p0.toNatClampNeg))
    else if (o_X1_order w (f9 ((v - 1).toNatClampNeg)) (f p0.toNatClampNeg)) ≤ 0 then (vp_updL f9 v.toNatClampNeg (f p0.toNatClampNeg))
    else L_ins w f p0 nins (v + (-1)) (vp_updL f9 v.toNatClampNeg (f9 ((v - 1).toNatClampNeg)))
noncomputable def o_X0_insert (w : Bool) (f : Nat → Int64) (p0 : Int32) : (Nat → Int64) :=
  L_ins w f p0 p0.toNatClampNeg p0 f
set_option maxHeartbeats 4000000 in
set_option maxRecDepth 100000 in
theorem k_X0_insert (l : Launch) (dC : Nat → ClassId) (dI : Nat → Nat → Nat) (cy : ClassId) (h0 : Nat) (aw : Nat) (ac : Nat) (ab : Nat) (w : Bool) (a : Int32) (rv : Int32) (f : Nat → Int64) (g : Nat → Int64) (sz : Nat) (N : Nat) (p0 : Int32) (hin_p0 : vp_in p0 8) : Met l yX0_insert wsX0_insert ({ frames := 2, cells := 0, slots := 0, locals := 52 }) (va_Pc [.ref h0, .int p0] (xM (dC, dI) xCl [(h0, eR aw ac ab a rv), (aw, eW w), (ac, eA cy f), (ab, eA cy g)] [(cy, .long)] sz N)) (va_Qv (fun (_ : Unit) => True) (fun _ t => xW (dC, dI) xCl [(h0, eR aw ac ab a rv), (aw, eW w), (ac, eA cy (o_X0_insert w f p0)), (ab, eA cy g)] (va_A [(h0, eR aw ac ab a rv), (aw, eW w), (ac, eA cy f), (ab, eA cy g)] sz) t) (va_A [(h0, eR aw ac ab a rv), (aw, eW w), (ac, eA cy f), (ab, eA cy g)] sz)) 0 0 (va_A [(h0, eR aw ac ab a rv), (aw, eW w), (ac, eA cy f), (ab, eA cy g)] sz) := by
  refine Met.ofW (cc := cX0_insert) (maxL := 5) (ret := none) (by decide +kernel) rfl ?_
  intro p e s m args below meth c s₁ B hml hv
  obtain ⟨rfl, hsz, hP, hK, hD0, hN, hG⟩ := hv
  have hx := B.exec
  have hb := B.bytes
  have hr := B.returns
  have hts := atoms_spec (ws := wsX0_insert) B.pre
  have hown : s.vm.findClass RX0 = some m.cls := findClass_of_methodNamed B.named
  have hlocks := B.notSynchronized
  subst hsz
  have hAN : ∀ q, va_A [(h0, eR aw ac ab a rv), (aw, eW w), (ac, eA cy f), (ab, eA cy g)] s.heap.size q → N ≤ q := xA_N hD0 hN
  have hD := hD0.self (sz := s.heap.size)
  generalize hAe : va_A [(h0, eR aw ac ab a rv), (aw, eW w), (ac, eA cy f), (ab, eA cy g)] s.heap.size = A at hD hAN ⊢
  have hA : ∀ q : Nat, s.heap.size ≤ q → A q := fun q h => by rw [← hAe]; exact Or.inr h
  have hS : va_S A s.heap s.heap [] := va_S.rf
  have hP : va_P (dC, dI) xCl [(h0, eR aw ac ab a rv), (aw, eW w), (ac, eA cy f), (ab, eA cy g)] s.heap := hP
  have hl := lv_entry ([.ref h0, .int p0]) (n := 5) (Nat.le_of_ble_eq_true rfl)
  rw [lg_entry_eq]
  generalize (lg_sl ([.ref h0, .int p0]) ++ List.replicate (5 - (lg_sl ([.ref h0, .int p0])).length) Slot.unset).toArray = ls at hl ⊢
  have hl : lv_has ls 5 [(0, .ref h0), (1, .int p0)] := hl
  refine lv_aload_n hx hb dX0_insert_0 rfl (lv_at hl 0 rfl) ?_
  refine va_get (D := (dC, dI)) (ci := 2) (v := .ref ac) (C := RX0) (T := TX0) (N := 5) hx hb hts (by decide +kernel) hown hK hP 0 rfl rfl 1 (by decide +kernel) (hts (.fieldLink RX0 15 "Edgefloats$Row" "cells" "[J") (by decide +kernel)) (fun _ h9 => h9) rfl dX0_insert_1 ?_
  refine lv_iload_n hx hb dX0_insert_4 rfl (lv_at hl 1 rfl) ?_
  refine xa_lald hx hb hK hP 2 0 (f := f) rfl rfl (k := p0.toNatClampNeg) hin_p0 rfl dX0_insert_5 ?_
  refine lv_lstore_n (lv' := [(2, .long (f p0.toNatClampNeg)), (0, .ref h0), (1, .int p0)]) hx hb dX0_insert_6 rfl hl (by decide +kernel) rfl (fun ls hl => ?_)
  refine lv_iload_n hx hb dX0_insert_7 rfl (lv_at hl 2 rfl) ?_
  refine lv_istore (lv' := [(4, .int p0), (2, .long (f p0.toNatClampNeg)), (0, .ref h0), (1, .int p0)]) hx hb dX0_insert_8 hl (by decide +kernel) rfl (fun ls hl => ?_)
  have loop_ins : ∀ (nins : Nat) (v : Int32) (f9 : Nat → Int64) (H : Heap) (locs : List Loc) (ls : Array Slot), (v = nI nins ∧ nins < 8) → o_X0_insert w f p0 = L_ins w f p0 nins v f9 → va_P (dC, dI) xCl [(h0, eR aw ac ab a rv), (aw, eW w), (ac, eA cy f9), (ab, eA cy g)] H → va_D A [(h0, eR aw ac ab a rv), (aw, eW w), (ac, eA cy f9), (ab, eA cy g)] → va_S A s.heap H locs → lv_has ls 5 [(4, .int v), (2, .long (f p0.toNatClampNeg)), (0, .ref h0), (1, .int p0)] → W p l e (headSpec wsX0_insert ({ frames := 2, cells := 0, slots := 0, locals := 52 } : Room)).room s m ([.ref h0, .int p0]).toArray below meth c H locs 0 0 (MQ below (va_Qv (fun (_ : Unit) => True) (fun _ t => xW (dC, dI) xCl [(h0, eR aw ac ab a rv), (aw, eW w), (ac, eA cy (o_X0_insert w f p0)), (ab, eA cy g)] A t) A) ([.ref h0, .int p0]).toArray s 0 0 A) (F0 m 10 ls []) := by
    intro nins
    induction nins with
    | zero =>
      intro v f9 H locs ls hT_ins hsp_ins hP hD hS hl
      refine lv_iload hx hb dX0_insert_10 (lv_at hl 0 rfl) ?_
      refine lv_if_le (tgt := 57) hx hb dX0_insert_12 (by decide +kernel) (fun c9 => ?_) (fun c9 => absurd (by rw [hT_ins.1]; decide) c9)
      refine lv_aload_n hx hb dX0_insert_57 rfl (lv_at hl 2 rfl) ?_
      refine va_get (D := (dC, dI)) (ci := 2) (v := .ref ac) (C := RX0) (T := TX0) (N := 5) hx hb hts (by decide +kernel) hown hK hP 0 rfl rfl 1 (by decide +kernel) (hts (.fieldLink RX0 15 "Edgefloats$Row" "cells" "[J") (by decide +kernel)) (fun _ h9 => h9) rfl dX0_insert_58 ?_
      refine lv_iload hx hb dX0_insert_61 (lv_at hl 0 rfl) ?_
      refine lv_lload_n hx hb dX0_insert_63 rfl (lv_at hl 1 rfl) ?_
      refine xa_last hx hb hK hP hD hS 2 0 (f := f9) rfl rfl (k := v.toNatClampNeg) (xm_in0 hT_ins) rfl dX0_insert_64 (fun H locs hP hD hS => ?_)
      have hP : va_P (dC, dI) xCl [(h0, eR aw ac ab a rv), (aw, eW w), (ac, eA cy (vp_updL f9 v.toNatClampNeg (f p0.toNatClampNeg))), (ab, eA cy g)] H := hP
      have hD : va_D A [(h0, eR aw ac ab a rv), (aw, eW w), (ac, eA cy (vp_updL f9 v.toNatClampNeg (f p0.toNatClampNeg))), (ab, eA cy g)] := hD
      have he : o_X0_insert w f p0 = (vp_updL f9 v.toNatClampNeg (f p0.toNatClampNeg)) := hsp_ins.trans (by (rw [L_ins]) <;> rfl)
      refine W.widen (k := 0) (n := 0) (by omega) (by omega) ?_
      exact W.vret hx hb hr (fun t ht hW => ⟨⟨(), rfl, trivial, (by rw [he]; exact ⟨by rw [ht]; exact hP, hD⟩)⟩, hS.F ht⟩) hS.2.2 dX0_insert_65
    | succ nins ih_ins =>
      intro v f9 H locs ls hT_ins hsp_ins hP hD hS hl
      refine lv_iload hx hb dX0_insert_10 (lv_at hl 0 rfl) ?_
      refine lv_if_le (tgt := 57) hx hb dX0_insert_12 (by decide +kernel) (fun c_1 => ?_) (fun c_1 => ?_)
      · skip
        refine lv_aload_n hx hb dX0_insert_57 rfl (lv_at hl 2 rfl) ?_
        refine va_get (D := (dC, dI)) (ci := 2) (v := .ref ac) (C := RX0) (T := TX0) (N := 5) hx hb hts (by decide +kernel) hown hK hP 0 rfl rfl 1 (by decide +kernel) (hts (.fieldLink RX0 15 "Edgefloats$Row" "cells" "[J") (by decide +kernel)) (fun _ h9 => h9) rfl dX0_insert_58 ?_
        refine lv_iload hx hb dX0_insert_61 (lv_at hl 0 rfl) ?_
        refine lv_lload_n hx hb dX0_insert_63 rfl (lv_at hl 1 rfl) ?_
        refine xa_last hx hb hK hP hD hS 2 0 (f := f9) rfl rfl (k := v.toNatClampNeg) (xm_in0 hT_ins) rfl dX0_insert_64 (fun H locs hP hD hS => ?_)
        have hP : va_P (dC, dI) xCl [(h0, eR aw ac ab a rv), (aw, eW w), (ac, eA cy (vp_updL f9 v.toNatClampNeg (f p0.toNatClampNeg))), (ab, eA cy g)] H := hP
        have hD : va_D A [(h0, eR aw ac ab a rv), (aw, eW w), (ac, eA cy (vp_updL f9 v.toNatClampNeg (f p0.toNatClampNeg))), (ab, eA cy g)] := hD
        have he : o_X0_insert w f p0 = (vp_updL f9 v.toNatClampNeg (f p0.toNatClampNeg)) := hsp_ins.trans (by (rw [L_ins, if_pos c_1]) <;> rfl)
        refine W.widen (k := 0) (n := 0) (by omega) (by omega) ?_
        exact W.vret hx hb hr (fun t ht hW => ⟨⟨(), rfl, trivial, (by rw [he]; exact ⟨by rw [ht]; exact hP, hD⟩)⟩, hS.F ht⟩) hS.2.2 dX0_insert_65
      · skip
        refine lv_aload_n hx hb dX0_insert_15 rfl (lv_at hl 2 rfl) ?_
        refine va_get (D := (dC, dI)) (ci := 2) (v := .ref aw) (C := RX0) (T := TX0) (N := 5) hx hb hts (by decide +kernel) hown hK hP 0 rfl rfl 0 (by decide +kernel) (hts (.fieldLink RX0 9 "Edgefloats$Row" "width" "LEdgefloats$Width;") (by decide +kernel)) (fun _ h9 => h9) rfl dX0_insert_16 ?_
        refine lv_aload_n hx hb dX0_insert_19 rfl (lv_at hl 2 rfl) ?_
        refine va_get (D := (dC, dI)) (ci := 2) (v := .ref ac) (C := RX0) (T := TX0) (N := 5) hx hb hts (by decide +kernel) hown hK hP 0 rfl rfl 1 (by decide +kernel) (hts (.fieldLink RX0 15 "Edgefloats$Row" "cells" "[J") (by decide +kernel)) (fun _ h9 => h9) rfl dX0_insert_20 ?_
        refine lv_iload hx hb dX0_insert_23 (lv_at hl 0 rfl) ?_
        refine lv_iconst (v := 1) hx hb dX0_insert_25 (by decide +kernel) ?_
        refine lv_isub hx hb dX0_insert_26 ?_
        refine xa_lald hx hb hK hP 2 0 (f := f9) rfl rfl (k := (v - 1).toNatClampNeg) (xm_in1 hT_ins) rfl dX0_insert_27 ?_
        refine lv_lload_n hx hb dX0_insert_28 rfl (lv_at hl 1 rfl) ?_
        have hPc := hP.sub (ws' := [(aw, eW w)]) [1] rfl
        have hKc := hK.sub (tys' := []) [] rfl
        refine va_calli (va_runV (As := [.long (f9 ((v - 1).toNatClampNeg)), .long (f p0.toNatClampNeg)]) (rest := []) ⟨hx, hb, hml, hown, hts⟩ (k_X1_order l dC dI aw w H.size (f9 ((v - 1).toNatClampNeg)) (f p0.toNatClampNeg)) (cwV 2 hts gX0_insert_X1_order rfl rfl rfl (by decide +kernel) ⟨Nat.le_of_ble_eq_true rfl, Nat.le_of_ble_eq_true rfl⟩) (xB.preV hKc hPc (ci := 3) (q0 := 0) rfl rfl) rfl rfl hl.1 rfl (lv_room (Nat.le_of_ble_eq_true rfl)) dX0_insert_29 ⟨Nat.le_of_ble_eq_true rfl, Nat.le_of_ble_eq_true rfl⟩) hS xA_old (fun q h => hA q (Nat.le_trans hS.1 h)) (fun r_2 u t H locs ht hvm hw hB hz hk hS => ?_)
        replace hw : r_2 = (o_X1_order w (f9 ((v - 1).toNatClampNeg)) (f p0.toNatClampNeg)) := hw
        subst r_2
        have hP := xP_keep hP hk
        refine lv_if_le (tgt := 57) hx hb dX0_insert_32 (by decide +kernel) (fun c_3 => ?_) (fun c_3 => ?_)
        · skip
          refine lv_aload_n hx hb dX0_insert_57 rfl (lv_at hl 2 rfl) ?_
          refine va_get (D := (dC, dI)) (ci := 2) (v := .ref ac) (C := RX0) (T := TX0) (N := 5) hx hb hts (by decide +kernel) hown hK hP 0 rfl rfl 1 (by decide +kernel) (hts (.fieldLink RX0 15 "Edgefloats$Row" "cells" "[J") (by decide +kernel)) (fun _ h9 => h9) rfl dX0_insert_58 ?_
          refine lv_iload hx hb dX0_insert_61 (lv_at hl 0 rfl) ?_
          refine lv_lload_n hx hb dX0_insert_63 rfl (lv_at hl 1 rfl) ?_
          refine xa_last hx hb hK hP hD hS 2 0 (f := f9) rfl rfl (k := v.toNatClampNeg) (xm_in0 hT_ins) rfl dX0_insert_64 (fun H locs hP hD hS => ?_)
          have hP : va_P (dC, dI) xCl [(h0, eR aw ac ab a rv), (aw, eW w), (ac, eA cy (vp_updL f9 v.toNatClampNeg (f p0.toNatClampNeg))), (ab, eA cy g)] H := hP
          have hD : va_D A [(h0, eR aw ac ab a rv), (aw, eW w), (ac, eA cy (vp_updL f9 v.toNatClampNeg (f p0.toNatClampNeg))), (ab, eA cy g)] := hD
          have he : o_X0_insert w f p0 = (vp_updL f9 v.toNatClampNeg (f p0.toNatClampNeg)) := hsp_ins.trans (by (rw [L_ins, if_neg c_1, if_pos c_3]) <;> rfl)
          refine W.widen (k := 0) (n := 0) (by omega) (by omega) ?_
          exact W.vret hx hb hr (fun t ht hW => ⟨⟨(), rfl, trivial, (by rw [he]; exact ⟨by rw [ht]; exact hP, hD⟩)⟩, hS.F ht⟩) hS.2.2 dX0_insert_65
        · skip
          refine lv_aload_n hx hb dX0_insert_35 rfl (lv_at hl 2 rfl) ?_
          refine va_get (D := (dC, dI)) (ci := 2) (v := .ref ac) (C := RX0) (T := TX0) (N := 5) hx hb hts (by decide +kernel) hown hK hP 0 rfl rfl 1 (by decide +kernel) (hts (.fieldLink RX0 15 "Edgefloats$Row" "cells" "[J") (by decide +kernel)) (fun _ h9 => h9) rfl dX0_insert_36 ?_
          refine lv_iload hx hb dX0_insert_39 (lv_at hl 0 rfl) ?_
          refine lv_aload_n hx hb dX0_insert_41 rfl (lv_at hl 2 rfl) ?_
          refine va_get (D := (dC, dI)) (ci := 2) (v := .ref ac) (C := RX0) (T := TX0) (N := 5) hx hb hts (by decide +kernel) hown hK hP 0 rfl rfl 1 (by decide +kernel) (hts (.fieldLink RX0 15 "Edgefloats$Row" "cells" "[J") (by decide +kernel)) (fun _ h9 => h9) rfl dX0_insert_42 ?_
          refine lv_iload hx hb dX0_insert_45 (lv_at hl 0 rfl) ?_
          refine lv_iconst (v := 1) hx hb dX0_insert_47 (by decide +kernel) ?_
          refine lv_isub hx hb dX0_insert_48 ?_
          refine xa_lald hx hb hK hP 2 0 (f := f9) rfl rfl (k := (v - 1).toNatClampNeg) (xm_in1 hT_ins) rfl dX0_insert_49 ?_
          refine xa_last hx hb hK hP hD hS 2 0 (f := f9) rfl rfl (k := v.toNatClampNeg) (xm_in0 hT_ins) rfl dX0_insert_50 (fun H locs hP hD hS => ?_)
          have hP : va_P (dC, dI) xCl [(h0, eR aw ac ab a rv), (aw, eW w), (ac, eA cy (vp_updL f9 v.toNatClampNeg (f9 ((v - 1).toNatClampNeg)))), (ab, eA cy g)] H := hP
          have hD : va_D A [(h0, eR aw ac ab a rv), (aw, eW w), (ac, eA cy (vp_updL f9 v.toNatClampNeg (f9 ((v - 1).toNatClampNeg)))), (ab, eA cy g)] := hD
          refine lv_iinc (v := (v + (-1))) (lv' := [(4, .int (v + (-1))), (2, .long (f p0.toNatClampNeg)), (0, .ref h0), (1, .int p0)]) hx hb dX0_insert_51 hl (k := 0) rfl (rfl) (by decide +kernel) rfl (fun ls hl => ?_)
          refine lv_goto (tgt := 10) hx hb dX0_insert_54 (by decide +kernel) ?_
          refine W.widen (k := 0) (n := 0) (Nat.le_refl _) (Nat.le_refl _) ?_
          exact ih_ins (v + (-1)) (vp_updL f9 v.toNatClampNeg (f9 ((v - 1).toNatClampNeg))) _ _ _ ⟨by rw [hT_ins.1]; exact pk_m1 _, by have := hT_ins.2; omega⟩ (hsp_ins.trans (by (rw [L_ins, if_neg c_1, if_neg c_3]) <;> rfl)) hP hD hS (lv_sub hl [0, 1, 2, 3] rfl)
  exact loop_ins p0.toNatClampNeg p0 f _ _ _ (xm_nI hin_p0) (by (rw [o_X0_insert]) <;> rfl) hP hD hS (lv_sub hl [0, 1, 2, 3] rfl)
theorem cl_X0_sort_1 : ∀ w ∈ wsX0_sort_r1, w ∈ wsX0_sort := fun _ h => (List.mem_cons_of_mem _ (List.mem_append_left _ (List.mem_append_left _ (List.mem_append_left _ (List.mem_append_left _ h)))))
theorem cl_X0_sort_2 : ∀ w ∈ wsX0_sort_r2, w ∈ wsX0_sort := fun _ h => (List.mem_cons_of_mem _ (List.mem_append_left _ (List.mem_append_left _ (List.mem_append_left _ (List.mem_append_right _ h)))))
theorem cl_X0_sort_3 : ∀ w ∈ wsX00, w ∈ wsX0_sort := fun _ h => (List.mem_cons_of_mem _ (List.mem_append_left _ (List.mem_append_left _ (List.mem_append_right _ h))))
theorem cl_X0_sort_4 : ∀ w ∈ wsX10, w ∈ wsX0_sort := fun _ h => (List.mem_cons_of_mem _ (List.mem_append_left _ (List.mem_append_right _ h)))
theorem cl_X0_sort_5 : ∀ w ∈ (vx_atS RX2 159 "java/lang/IllegalArgumentException" ["java/lang/RuntimeException", "java/lang/Exception"]).filter goodWord, w ∈ wsX0_sort := fun _ h => (List.mem_cons_of_mem _ (List.mem_append_right _ h))
set_option maxRecDepth 20000 in
theorem ggX0_sort_X2_checkChoice : GoodIn wsX0_sort wsX2_checkChoice := goodIn_sub (List.forall_mem_cons.mpr ⟨(cl_X0_sort_1 _ (List.mem_of_getElem? (i := 9) rfl)), fun w h => (List.mem_append.mp h).elim ((List.forall_mem_cons.mpr ⟨(cl_X0_sort_1 _ (List.mem_of_getElem? (i := 10) rfl)), List.forall_mem_cons.mpr ⟨(cl_X0_sort_1 _ (List.mem_of_getElem? (i := 11) rfl)), fun _ h => absurd h List.not_mem_nil⟩⟩) w) ((cl_X0_sort_5) w)⟩) (by decide +kernel)
set_option maxRecDepth 20000 in
theorem gX0_sort_X2_checkChoice_n55 : GoodIn wsX0_sort (wsX2_checkChoice) := ggX0_sort_X2_checkChoice
set_option maxRecDepth 20000 in
theorem ggX0_sort_X0_insert : GoodIn wsX0_sort wsX0_insert := goodIn_sub (List.forall_mem_cons.mpr ⟨(cl_X0_sort_1 _ (List.mem_of_getElem? (i := 16) rfl)), fun w h => (List.mem_append.mp h).elim ((fun w h => (List.mem_append.mp h).elim ((List.forall_mem_cons.mpr ⟨(cl_X0_sort_1 _ (List.mem_of_getElem? (i := 1) rfl)), List.forall_mem_cons.mpr ⟨(cl_X0_sort_1 _ (List.mem_of_getElem? (i := 17) rfl)), List.forall_mem_cons.mpr ⟨(cl_X0_sort_1 _ (List.mem_of_getElem? (i := 18) rfl)), List.forall_mem_cons.mpr ⟨(cl_X0_sort_1 _ (List.mem_of_getElem? (i := 19) rfl)), List.forall_mem_cons.mpr ⟨(cl_X0_sort_1 _ (List.mem_of_getElem? (i := 20) rfl)), List.forall_mem_cons.mpr ⟨(cl_X0_sort_1 _ (List.mem_of_getElem? (i := 21) rfl)), List.forall_mem_cons.mpr ⟨(cl_X0_sort_1 _ (List.mem_of_getElem? (i := 22) rfl)), List.forall_mem_cons.mpr ⟨(cl_X0_sort_1 _ (List.mem_of_getElem? (i := 23) rfl)), List.forall_mem_cons.mpr ⟨(cl_X0_sort_2 _ (List.mem_of_getElem? (i := 0) rfl)), List.forall_mem_cons.mpr ⟨(cl_X0_sort_2 _ (List.mem_of_getElem? (i := 1) rfl)), List.forall_mem_cons.mpr ⟨(cl_X0_sort_2 _ (List.mem_of_getElem? (i := 2) rfl)), List.forall_mem_cons.mpr ⟨(cl_X0_sort_2 _ (List.mem_of_getElem? (i := 3) rfl)), List.forall_mem_cons.mpr ⟨(cl_X0_sort_2 _ (List.mem_of_getElem? (i := 4) rfl)), fun _ h => absurd h List.not_mem_nil⟩⟩⟩⟩⟩⟩⟩⟩⟩⟩⟩⟩⟩) w) ((cl_X0_sort_3) w)) w) ((cl_X0_sort_4) w)⟩) (by decide +kernel)
set_option maxRecDepth 20000 in
theorem gX0_sort_X0_insert : GoodIn wsX0_sort (wsV RX0 89 RX0 yX0_insert wsX0_insert) := goodIn_app (goodIn_sub (List.forall_mem_cons.mpr ⟨(cl_X0_sort_1 _ (List.mem_of_getElem? (i := 12) rfl)), List.forall_mem_cons.mpr ⟨(cl_X0_sort_1 _ (List.mem_of_getElem? (i := 13) rfl)), List.forall_mem_cons.mpr ⟨(cl_X0_sort_1 _ (List.mem_of_getElem? (i := 14) rfl)), List.forall_mem_cons.mpr ⟨(cl_X0_sort_1 _ (List.mem_of_getElem? (i := 15) rfl)), fun _ h => absurd h List.not_mem_nil⟩⟩⟩⟩) (by decide +kernel)) ggX0_sort_X0_insert
noncomputable def dz_p12_6 : List (Nat × Instr × Nat) := [(0, (.iload_n 1, 1)), (1, (.iconst 1, 1)), (2, (.invokestatic 55, 3)), (5, (.aload_n 0, 1)), (6, (.dup, 1)), (7, (.getfield 80, 3)), (10, (.iconst 1, 1)), (11, (.iadd, 1)), (12, (.putfield 80, 3)), (15, (.aload_n 0, 1)), (16, (.getfield 15, 3)), (19, (.iconst 0, 1)), (20, (.aload_n 0, 1)), (21, (.getfield 19, 3)), (24, (.iconst 0, 1)), (25, (.bipush 8, 2)), (27, (.invokestatic 83, 3)), (30, (.iconst 1, 1)), (31, (.istore_n 2, 1)), (32, (.iload_n 2, 1)), (33, (.bipush 8, 2)), (35, (.if_icmp .ge 14, 3)), (38, (.aload_n 0, 1)), (39, (.iload_n 2, 1)), (40, (.invokevirtual 89, 3)), (43, (.iinc 2 1, 3)), (46, (.goto (-14), 3)), (49, (.iconst 0, 1)), (50, (.istore_n 2, 1)), (51, (.iconst 0, 1)), (52, (.istore_n 3, 1)), (53, (.iload_n 3, 1)), (54, (.bipush 8, 2)), (56, (.if_icmp .ge 28, 3)), (59, (.aload_n 0, 1)), (60, (.getfield 15, 3)), (63, (.iload_n 3, 1)), (64, (.laload, 1)), (65, (.aload_n 0, 1)), (66, (.getfield 19, 3))]
theorem dy_p12_6 : dz_ok cX0_sort dz_p12_6 = true := by decide +kernel
theorem dX0_sort_0 : decode cX0_sort 0 = .ok (.iload_n 1, 1) := dz_at (i := 0) dy_p12_6 rfl
theorem dX0_sort_1 : decode cX0_sort 1 = .ok (.iconst 1, 1) := dz_at (i := 1) dy_p12_6 rfl
theorem dX0_sort_2 : decode cX0_sort 2 = .ok (.invokestatic 55, 3) := dz_at (i := 2) dy_p12_6 rfl
theorem dX0_sort_5 : decode cX0_sort 5 = .ok (.aload_n 0, 1) := dz_at (i := 3) dy_p12_6 rfl
theorem dX0_sort_6 : decode cX0_sort 6 = .ok (.dup, 1) := dz_at (i := 4) dy_p12_6 rfl
theorem dX0_sort_7 : decode cX0_sort 7 = .ok (.getfield 80, 3) := dz_at (i := 5) dy_p12_6 rfl
theorem dX0_sort_10 : decode cX0_sort 10 = .ok (.iconst 1, 1) := dz_at (i := 6) dy_p12_6 rfl
theorem dX0_sort_11 : decode cX0_sort 11 = .ok (.iadd, 1) := dz_at (i := 7) dy_p12_6 rfl
theorem dX0_sort_12 : decode cX0_sort 12 = .ok (.putfield 80, 3) := dz_at (i := 8) dy_p12_6 rfl
theorem dX0_sort_15 : decode cX0_sort 15 = .ok (.aload_n 0, 1) := dz_at (i := 9) dy_p12_6 rfl
theorem dX0_sort_16 : decode cX0_sort 16 = .ok (.getfield 15, 3) := dz_at (i := 10) dy_p12_6 rfl
theorem dX0_sort_19 : decode cX0_sort 19 = .ok (.iconst 0, 1) := dz_at (i := 11) dy_p12_6 rfl
theorem dX0_sort_20 : decode cX0_sort 20 = .ok (.aload_n 0, 1) := dz_at (i := 12) dy_p12_6 rfl
theorem dX0_sort_21 : decode cX0_sort 21 = .ok (.getfield 19, 3) := dz_at (i := 13) dy_p12_6 rfl
theorem dX0_sort_24 : decode cX0_sort 24 = .ok (.iconst 0, 1) := dz_at (i := 14) dy_p12_6 rfl
theorem dX0_sort_25 : decode cX0_sort 25 = .ok (.bipush 8, 2) := dz_at (i := 15) dy_p12_6 rfl
theorem dX0_sort_27 : decode cX0_sort 27 = .ok (.invokestatic 83, 3) := dz_at (i := 16) dy_p12_6 rfl
theorem dX0_sort_30 : decode cX0_sort 30 = .ok (.iconst 1, 1) := dz_at (i := 17) dy_p12_6 rfl
theorem dX0_sort_31 : decode cX0_sort 31 = .ok (.istore_n 2, 1) := dz_at (i := 18) dy_p12_6 rfl
theorem dX0_sort_32 : decode cX0_sort 32 = .ok (.iload_n 2, 1) := dz_at (i := 19) dy_p12_6 rfl
theorem dX0_sort_33 : decode cX0_sort 33 = .ok (.bipush 8, 2) := dz_at (i := 20) dy_p12_6 rfl
theorem dX0_sort_35 : decode cX0_sort 35 = .ok (.if_icmp .ge 14, 3) := dz_at (i := 21) dy_p12_6 rfl
theorem dX0_sort_38 : decode cX0_sort 38 = .ok (.aload_n 0, 1) := dz_at (i := 22) dy_p12_6 rfl
theorem dX0_sort_39 : decode cX0_sort 39 = .ok (.iload_n 2, 1) := dz_at (i := 23) dy_p12_6 rfl
theorem dX0_sort_40 : decode cX0_sort 40 = .ok (.invokevirtual 89, 3) := dz_at (i := 24) dy_p12_6 rfl
theorem dX0_sort_43 : decode cX0_sort 43 = .ok (.iinc 2 1, 3) := dz_at (i := 25) dy_p12_6 rfl
theorem dX0_sort_46 : decode cX0_sort 46 = .ok (.goto (-14), 3) := dz_at (i := 26) dy_p12_6 rfl
theorem dX0_sort_49 : decode cX0_sort 49 = .ok (.iconst 0, 1) := dz_at (i := 27) dy_p12_6 rfl
theorem dX0_sort_50 : decode cX0_sort 50 = .ok (.istore_n 2, 1) := dz_at (i := 28) dy_p12_6 rfl
theorem dX0_sort_51 : decode cX0_sort 51 = .ok (.iconst 0, 1) := dz_at (i := 29) dy_p12_6 rfl
theorem dX0_sort_52 : decode cX0_sort 52 = .ok (.istore_n 3, 1) := dz_at (i := 30) dy_p12_6 rfl
theorem dX0_sort_53 : decode cX0_sort 53 = .ok (.iload_n 3, 1) := dz_at (i := 31) dy_p12_6 rfl
theorem dX0_sort_54 : decode cX0_sort 54 = .ok (.bipush 8, 2) := dz_at (i := 32) dy_p12_6 rfl
theorem dX0_sort_56 : decode cX0_sort 56 = .ok (.if_icmp .ge 28, 3) := dz_at (i := 33) dy_p12_6 rfl
theorem dX0_sort_59 : decode cX0_sort 59 = .ok (.aload_n 0, 1) := dz_at (i := 34) dy_p12_6 rfl
theorem dX0_sort_60 : decode cX0_sort 60 = .ok (.getfield 15, 3) := dz_at (i := 35) dy_p12_6 rfl
theorem dX0_sort_63 : decode cX0_sort 63 = .ok (.iload_n 3, 1) := dz_at (i := 36) dy_p12_6 rfl
theorem dX0_sort_64 : decode cX0_sort 64 = .ok (.laload, 1) := dz_at (i := 37) dy_p12_6 rfl
theorem dX0_sort_65 : decode cX0_sort 65 = .ok (.aload_n 0, 1) := dz_at (i := 38) dy_p12_6 rfl
theorem dX0_sort_66 : decode cX0_sort 66 = .ok (.getfield 19, 3) := dz_at (i := 39) dy_p12_6 rfl
noncomputable def dz_p12_7 : List (Nat × Instr × Nat) := [(69, (.iload_n 3, 1)), (70, (.laload, 1)), (71, (.lcmp, 1)), (72, (.ifCond .eq 6, 3)), (75, (.iinc 2 1, 3)), (78, (.iinc 3 1, 3)), (81, (.goto (-28), 3)), (84, (.iload_n 2, 1)), (85, (.ireturn, 1))]
theorem dy_p12_7 : dz_ok cX0_sort dz_p12_7 = true := by decide +kernel
theorem dX0_sort_69 : decode cX0_sort 69 = .ok (.iload_n 3, 1) := dz_at (i := 0) dy_p12_7 rfl
theorem dX0_sort_70 : decode cX0_sort 70 = .ok (.laload, 1) := dz_at (i := 1) dy_p12_7 rfl
theorem dX0_sort_71 : decode cX0_sort 71 = .ok (.lcmp, 1) := dz_at (i := 2) dy_p12_7 rfl
theorem dX0_sort_72 : decode cX0_sort 72 = .ok (.ifCond .eq 6, 3) := dz_at (i := 3) dy_p12_7 rfl
theorem dX0_sort_75 : decode cX0_sort 75 = .ok (.iinc 2 1, 3) := dz_at (i := 4) dy_p12_7 rfl
theorem dX0_sort_78 : decode cX0_sort 78 = .ok (.iinc 3 1, 3) := dz_at (i := 5) dy_p12_7 rfl
theorem dX0_sort_81 : decode cX0_sort 81 = .ok (.goto (-28), 3) := dz_at (i := 6) dy_p12_7 rfl
theorem dX0_sort_84 : decode cX0_sort 84 = .ok (.iload_n 2, 1) := dz_at (i := 7) dy_p12_7 rfl
theorem dX0_sort_85 : decode cX0_sort 85 = .ok (.ireturn, 1) := dz_at (i := 8) dy_p12_7 rfl
noncomputable def L_xsa (w : Bool) : Nat → Nat → (Nat → Int64) → (Nat → Int64)
  | 0, _, f8 => f8
  | nxsa + 1, ixsa, f8 => L_xsa w nxsa (ixsa + 1) (o_X0_insert w f8 (nI ixsa))
noncomputable def L_xsb (w : Bool) (f : Nat → Int64) (g : Nat → Int64) : Nat → Nat → Int32 → Int32
  | 0, _, v => v
  | nxsb + 1, ixsb, v => if ((L_xsa w 7 1 f) ixsb) = ((va_cpy f g 0 0 8) ixsb) then L_xsb w f g nxsb (ixsb + 1) v
    else L_xsb w f g nxsb (ixsb + 1) (v + 1)
noncomputable def o_X0_sort (w : Bool) (a : Int32) (f : Nat → Int64) (g : Nat → Int64) (p0 : Int32) : Int32 × Int32 × Int32 × (Nat → Int64) × (Nat → Int64) :=
  if (o_X2_checkChoice p0 1) = 0 then (0, (L_xsb w f g 8 0 0), (a + 1), (L_xsa w 7 1 f), (va_cpy f g 0 0 8))
  else ((o_X2_checkChoice p0 1), 0, a, f, g)
set_option maxHeartbeats 4000000 in
set_option maxRecDepth 100000 in
theorem k_X0_sort (l : Launch) (hfl : l.flags = flags0) (dC : Nat → ClassId) (dI : Nat → Nat → Nat) (cy : ClassId) (h0 : Nat) (aw : Nat) (ac : Nat) (ab : Nat) (w : Bool) (a : Int32) (rv : Int32) (f : Nat → Int64) (g : Nat → Int64) (sz : Nat) (N : Nat) (p0 : Int32) : vx_Met l yX0_sort wsX0_sort ({ frames := 7, cells := 1, slots := 6, locals := 121 }) (va_Pc [.ref h0, .int p0] (xM (dC, dI) xCl [(h0, eR aw ac ab a rv), (aw, eW w), (ac, eA cy f), (ab, eA cy g)] [(cy, .long)] sz N)) (va_Qi (fun (r : Int32) (_ : Unit) => (o_X0_sort w a f g p0).1 = 0 ∧ r = (o_X0_sort w a f g p0).2.1) (fun _ t => xW (dC, dI) xCl [(h0, eR aw ac ab (o_X0_sort w a f g p0).2.2.1 rv), (aw, eW w), (ac, eA cy (o_X0_sort w a f g p0).2.2.2.1), (ab, eA cy (o_X0_sort w a f g p0).2.2.2.2)] (va_A [(h0, eR aw ac ab a rv), (aw, eW w), (ac, eA cy f), (ab, eA cy g)] sz) t) (va_A [(h0, eR aw ac ab a rv), (aw, eW w), (ac, eA cy f), (ab, eA cy g)] sz)) (vx_X (fun _ : Unit => ¬ (o_X0_sort w a f g p0).1 = 0) (fun E _ t => E = xE (o_X0_sort w a f g p0).1 ∧ xW (dC, dI) xCl [(h0, eR aw ac ab a rv), (aw, eW w), (ac, eA cy f), (ab, eA cy g)] (va_A [(h0, eR aw ac ab a rv), (aw, eW w), (ac, eA cy f), (ab, eA cy g)] sz) t) (va_A [(h0, eR aw ac ab a rv), (aw, eW w), (ac, eA cy f), (ab, eA cy g)] sz)) 1 6 (va_A [(h0, eR aw ac ab a rv), (aw, eW w), (ac, eA cy f), (ab, eA cy g)] sz) := by
  refine vx_ofW (cc := cX0_sort) (maxL := 4) (ret := (some .int)) (by decide +kernel) rfl ?_
  intro p e s m args below meth c s₁ B hml hno hv
  obtain ⟨rfl, hsz, hP, hK, hD0, hN, hG⟩ := hv
  have hx := B.exec
  have hb := B.bytes
  have hr := B.returns
  have hts := atoms_spec (ws := wsX0_sort) B.pre
  have hown : s.vm.findClass RX0 = some m.cls := findClass_of_methodNamed B.named
  have hlocks := B.notSynchronized
  subst hsz
  have hAN : ∀ q, va_A [(h0, eR aw ac ab a rv), (aw, eW w), (ac, eA cy f), (ab, eA cy g)] s.heap.size q → N ≤ q := xA_N hD0 hN
  have hD := hD0.self (sz := s.heap.size)
  generalize hAe : va_A [(h0, eR aw ac ab a rv), (aw, eW w), (ac, eA cy f), (ab, eA cy g)] s.heap.size = A at hD hAN ⊢
  have hA : ∀ q : Nat, s.heap.size ≤ q → A q := fun q h => by rw [← hAe]; exact Or.inr h
  have hS : va_S A s.heap s.heap [] := va_S.rf
  have hP : va_P (dC, dI) xCl [(h0, eR aw ac ab a rv), (aw, eW w), (ac, eA cy f), (ab, eA cy g)] s.heap := hP
  have hl := lv_entry ([.ref h0, .int p0]) (n := 4) (Nat.le_of_ble_eq_true rfl)
  rw [lg_entry_eq]
  generalize (lg_sl ([.ref h0, .int p0]) ++ List.replicate (4 - (lg_sl ([.ref h0, .int p0])).length) Slot.unset).toArray = ls at hl ⊢
  have hl : lv_has ls 4 [(0, .ref h0), (1, .int p0)] := hl
  refine lv_iload_n hx hb dX0_sort_0 rfl (lv_at hl 1 rfl) ?_
  refine lv_iconst (v := 1) hx hb dX0_sort_1 (by decide +kernel) ?_
  have hPc := hP.sub (ws' := []) [] rfl
  have hDc := hD.sub (ws' := []) [] (by decide +kernel) rfl
  have hKc := hK.sub (tys' := []) [] rfl
  refine vx_callv (vx_runSN (As := [.int p0, .int 1]) (rest := []) ⟨hx, hb, hml, hown, hts⟩ (k_X2_checkChoice l hfl dC dI s.heap.size N p0 1) ⟨va_cnB 2 hts gX0_sort_X2_checkChoice_n55 rfl rfl rfl (hG.1 (.methodLinkNest RX0 55 yX2_checkChoice RX2) (List.mem_of_getElem? (i := 1) rfl)) (hts (.initialized RX2) (by decide +kernel)) (by decide +kernel) ⟨Nat.le_of_ble_eq_true rfl, Nat.le_of_ble_eq_true rfl⟩, hts (.static yX2_checkChoice) (by decide +kernel), trivial⟩ (xM.preS hKc hPc hDc hAN (Nat.le_trans hN hS.1) (hG.kept hS hAN)) rfl rfl hl.1 rfl (lv_room (Nat.le_of_ble_eq_true rfl)) dX0_sort_2 ⟨Nat.le_of_ble_eq_true rfl, Nat.le_of_ble_eq_true rfl⟩) hS xA_old (fun q h => hA q (Nat.le_trans hS.1 h)) xA_old (fun E ce q9 u9 t H locs ht hvm hpx hbx hz hk hS hce hcv hcl => ?_) (fun u t H locs ht hvm hw hB hz hk hS => ?_)
  · have c_2 : ¬ (o_X2_checkChoice p0 1) = 0 := hpx
    have hbe := hbx
    have hP := xP_keep hP hk
    have he : o_X0_sort w a f g p0 = ((o_X2_checkChoice p0 1), 0, a, f, g) := by (rw [o_X0_sort, if_neg c_2]) <;> rfl
    exact vx_out (fun x hx => (hno x hx).elim) hlocks hce hcv hcl (fun t ht hvm => ⟨(), by rw [he]; exact c_2, ⟨by rw [he]; exact hbe, by rw [ht]; exact hP, hD⟩, hS.F ht⟩) hS.2.2 (by omega) (by omega)
  · skip
    have c_3 := hw
    have c_3 : (o_X2_checkChoice p0 1) = 0 := c_3
    have hP := xP_keep hP hk
    refine lv_aload_n hx hb dX0_sort_5 rfl (lv_at hl 0 rfl) ?_
    refine lv_dup hx hb dX0_sort_6 rfl ?_
    refine va_get (D := (dC, dI)) (ci := 2) (v := .int a) (C := RX0) (T := TX0) (N := 5) hx hb hts (by decide +kernel) hown hK hP 0 rfl rfl 3 (by decide +kernel) (hts (.fieldLink RX0 80 "Edgefloats$Row" "acts" "I") (by decide +kernel)) (fun _ h9 => h9) rfl dX0_sort_7 ?_
    refine lv_iconst (v := 1) hx hb dX0_sort_10 (by decide +kernel) ?_
    refine lv_iadd hx hb dX0_sort_11 ?_
    refine va_put (D := (dC, dI)) (ci := 2) (v := .int (a + 1)) (ty := .int) (C := RX0) (T := TX0) (N := 5) hx hb hts (by decide +kernel) tyX0 tyX0_ok nmX0 hown hK hP hD hS 0 rfl rfl 3 (by decide +kernel) (hts (.fieldLink RX0 80 "Edgefloats$Row" "acts" "I") (by decide +kernel)) (fun _ h9 => h9) rfl (by decide +kernel) rfl rfl (Nat.le_of_ble_eq_true rfl) dX0_sort_12 (fun H locs hP hD hS => ?_)
    have hP : va_P (dC, dI) xCl [(h0, eR aw ac ab (a + 1) rv), (aw, eW w), (ac, eA cy f), (ab, eA cy g)] H := hP
    have hD : va_D A [(h0, eR aw ac ab (a + 1) rv), (aw, eW w), (ac, eA cy f), (ab, eA cy g)] := hD
    refine lv_aload_n hx hb dX0_sort_15 rfl (lv_at hl 0 rfl) ?_
    refine va_get (D := (dC, dI)) (ci := 2) (v := .ref ac) (C := RX0) (T := TX0) (N := 5) hx hb hts (by decide +kernel) hown hK hP 0 rfl rfl 1 (by decide +kernel) (hts (.fieldLink RX0 15 "Edgefloats$Row" "cells" "[J") (by decide +kernel)) (fun _ h9 => h9) rfl dX0_sort_16 ?_
    refine lv_iconst (v := 0) hx hb dX0_sort_19 (by decide +kernel) ?_
    refine lv_aload_n hx hb dX0_sort_20 rfl (lv_at hl 0 rfl) ?_
    refine va_get (D := (dC, dI)) (ci := 2) (v := .ref ab) (C := RX0) (T := TX0) (N := 5) hx hb hts (by decide +kernel) hown hK hP 0 rfl rfl 2 (by decide +kernel) (hts (.fieldLink RX0 19 "Edgefloats$Row" "before" "[J") (by decide +kernel)) (fun _ h9 => h9) rfl dX0_sort_21 ?_
    refine lv_iconst (v := 0) hx hb dX0_sort_24 (by decide +kernel) ?_
    refine lv_bipush (v := 8) hx hb dX0_sort_25 (by decide +kernel) ?_
    refine va_copyl hx hb (hml.trans hl.1.symm) hown (hts (.methodLink RX0 83 arraycopyName) (by decide +kernel)) (hts (.native arraycopyName) (by decide +kernel)) (hts (.static arraycopyName) (by decide +kernel)) (hts (.initialized "java/lang/System") (by decide +kernel)) hK hP hD hS 2 3 0 0 (f := f) (g := g) rfl rfl rfl rfl rfl (by decide +kernel) (by decide +kernel) (by decide +kernel) (by decide +kernel) (by decide +kernel) (fun i _ => rfl) (Nat.le_of_ble_eq_true rfl) (by decide +kernel) dX0_sort_27 (fun H locs hP hD hS => ?_)
    have hP : va_P (dC, dI) xCl [(h0, eR aw ac ab (a + 1) rv), (aw, eW w), (ac, eA cy f), (ab, eA cy (va_cpy f g 0 0 8))] H := hP
    have hD : va_D A [(h0, eR aw ac ab (a + 1) rv), (aw, eW w), (ac, eA cy f), (ab, eA cy (va_cpy f g 0 0 8))] := hD
    refine lv_iconst (v := 1) hx hb dX0_sort_30 (by decide +kernel) ?_
    refine lv_istore_n (lv' := [(2, .int 1), (0, .ref h0), (1, .int p0)]) hx hb dX0_sort_31 rfl hl (by decide +kernel) rfl (fun ls hl => ?_)
    have loop_xsa : ∀ (nxsa ixsa : Nat) (f8 : Nat → Int64) (H : Heap) (locs : List Loc) (ls : Array Slot), ixsa + nxsa = 8 → 1 ≤ ixsa → (L_xsa w 7 1 f) = L_xsa w nxsa ixsa f8 → va_P (dC, dI) xCl [(h0, eR aw ac ab (a + 1) rv), (aw, eW w), (ac, eA cy f8), (ab, eA cy (va_cpy f g 0 0 8))] H → va_D A [(h0, eR aw ac ab (a + 1) rv), (aw, eW w), (ac, eA cy f8), (ab, eA cy (va_cpy f g 0 0 8))] → va_S A s.heap H locs → lv_has ls 4 [(2, .int (nI ixsa)), (0, .ref h0), (1, .int p0)] → (∀ (H : Heap) (locs : List Loc) (ls : Array Slot), va_P (dC, dI) xCl [(h0, eR aw ac ab (a + 1) rv), (aw, eW w), (ac, eA cy (L_xsa w 7 1 f)), (ab, eA cy (va_cpy f g 0 0 8))] H → va_D A [(h0, eR aw ac ab (a + 1) rv), (aw, eW w), (ac, eA cy (L_xsa w 7 1 f)), (ab, eA cy (va_cpy f g 0 0 8))] → va_S A s.heap H locs → lv_has ls 4 [(0, .ref h0), (1, .int p0)] → W p l e (headSpec wsX0_sort ({ frames := 7, cells := 1, slots := 6, locals := 121 } : Room)).room s m ([.ref h0, .int p0]).toArray below meth c H locs 1 6 (vx_MQ below (va_Qi (fun (r : Int32) (_ : Unit) => (o_X0_sort w a f g p0).1 = 0 ∧ r = (o_X0_sort w a f g p0).2.1) (fun _ t => xW (dC, dI) xCl [(h0, eR aw ac ab (o_X0_sort w a f g p0).2.2.1 rv), (aw, eW w), (ac, eA cy (o_X0_sort w a f g p0).2.2.2.1), (ab, eA cy (o_X0_sort w a f g p0).2.2.2.2)] A t) A) (vx_X (fun _ : Unit => ¬ (o_X0_sort w a f g p0).1 = 0) (fun E _ t => E = xE (o_X0_sort w a f g p0).1 ∧ xW (dC, dI) xCl [(h0, eR aw ac ab a rv), (aw, eW w), (ac, eA cy f), (ab, eA cy g)] A t) A) ([.ref h0, .int p0]).toArray s 1 6 A) (F0 m 49 ls [])) → W p l e (headSpec wsX0_sort ({ frames := 7, cells := 1, slots := 6, locals := 121 } : Room)).room s m ([.ref h0, .int p0]).toArray below meth c H locs 1 6 (vx_MQ below (va_Qi (fun (r : Int32) (_ : Unit) => (o_X0_sort w a f g p0).1 = 0 ∧ r = (o_X0_sort w a f g p0).2.1) (fun _ t => xW (dC, dI) xCl [(h0, eR aw ac ab (o_X0_sort w a f g p0).2.2.1 rv), (aw, eW w), (ac, eA cy (o_X0_sort w a f g p0).2.2.2.1), (ab, eA cy (o_X0_sort w a f g p0).2.2.2.2)] A t) A) (vx_X (fun _ : Unit => ¬ (o_X0_sort w a f g p0).1 = 0) (fun E _ t => E = xE (o_X0_sort w a f g p0).1 ∧ xW (dC, dI) xCl [(h0, eR aw ac ab a rv), (aw, eW w), (ac, eA cy f), (ab, eA cy g)] A t) A) ([.ref h0, .int p0]).toArray s 1 6 A) (F0 m 32 ls []) := by
      intro nxsa
      induction nxsa with
      | zero =>
        intro ixsa f8 H locs ls hin_xsa his_xsa hsp_xsa hP hD hS hl K_xsa
        have hv : (L_xsa w 7 1 f) = f8 := hsp_xsa
        subst hv
        have hi8 : ixsa = 8 := by omega
        refine lv_iload_n hx hb dX0_sort_32 rfl (lv_at hl 0 rfl) ?_
        refine lv_bipush (v := 8) hx hb dX0_sort_33 (by decide +kernel) ?_
        refine lv_icmp_ge (tgt := 49) hx hb dX0_sort_35 (by decide +kernel) (fun c9 => ?_) (fun c9 => absurd (by rw [hi8]; decide) c9)
        exact K_xsa _ _ _ hP hD hS (lv_sub hl [1, 2] rfl)
      | succ nxsa ih_xsa =>
        intro ixsa f8 H locs ls hin_xsa his_xsa hsp_xsa hP hD hS hl K_xsa
        refine lv_iload_n hx hb dX0_sort_32 rfl (lv_at hl 0 rfl) ?_
        refine lv_bipush (v := 8) hx hb dX0_sort_33 (by decide +kernel) ?_
        refine lv_icmp_ge (tgt := 49) hx hb dX0_sort_35 (by decide +kernel) (fun c9 => absurd c9 (show ¬ (8 : Int32) ≤ nI ixsa from nI_ge (a := ixsa) (b := 8) (by omega) (by decide +kernel))) (fun c9 => ?_)
        refine lv_aload_n hx hb dX0_sort_38 rfl (lv_at hl 1 rfl) ?_
        refine lv_iload_n hx hb dX0_sort_39 rfl (lv_at hl 0 rfl) ?_
        have hPc := hP.sub (ws' := [(h0, eR aw ac ab (a + 1) rv), (aw, eW w), (ac, eA cy f8), (ab, eA cy (va_cpy f g 0 0 8))]) [0, 1, 2, 3] rfl
        have hDc := hD.sub (ws' := [(h0, eR aw ac ab (a + 1) rv), (aw, eW w), (ac, eA cy f8), (ab, eA cy (va_cpy f g 0 0 8))]) [0, 1, 2, 3] (by decide +kernel) rfl
        have hKc := hK.sub (tys' := [(cy, .long)]) [0] rfl
        have hFc := va_free (wc := [(h0, eR aw ac ab (a + 1) rv), (aw, eW w), (ac, eA cy f8), (ab, eA cy (va_cpy f g 0 0 8))]) hD hS hA [0, 1, 2, 3] rfl
        refine va_callv (va_runV (As := [.int (nI ixsa)]) (rest := []) ⟨hx, hb, hml, hown, hts⟩ (k_X0_insert l dC dI cy h0 aw ac ab w (a + 1) rv f8 (va_cpy f g 0 0 8) H.size N (nI ixsa) (vp_in_nI (n := ixsa) (N := 8) (by omega) (by decide +kernel))) (cwV 1 hts gX0_sort_X0_insert rfl rfl rfl (by decide +kernel) ⟨Nat.le_of_ble_eq_true rfl, Nat.le_of_ble_eq_true rfl⟩) (xM.preV hKc hPc hDc hAN (Nat.le_trans hN hS.1) (hG.kept hS hAN) (ci := 2) (q0 := 0) rfl rfl) rfl rfl hl.1 rfl (lv_room (Nat.le_of_ble_eq_true rfl)) dX0_sort_40 ⟨Nat.le_of_ble_eq_true rfl, Nat.le_of_ble_eq_true rfl⟩) hS (fun q _ h => hFc q h) hFc (fun u t H locs ht hvm hw hB hz hk hS => ?_)
        obtain ⟨hP1, hD1⟩ := hB
        rw [ht] at hP1
        obtain ⟨hP, hD⟩ := va_join (wr := []) (w1 := [(h0, eR aw ac ab (a + 1) rv), (aw, eW w), (ac, eA cy (o_X0_insert w f8 (nI ixsa))), (ab, eA cy (va_cpy f g 0 0 8))]) hP hD [0, 1, 2, 3] [] rfl rfl (by decide +kernel) (by decide +kernel) hk hFc hP1 hD1
        have hP := hP.sub (ws' := [(h0, eR aw ac ab (a + 1) rv), (aw, eW w), (ac, eA cy (o_X0_insert w f8 (nI ixsa))), (ab, eA cy (va_cpy f g 0 0 8))]) [0, 1, 2, 3] rfl
        have hD := hD.sub (ws' := [(h0, eR aw ac ab (a + 1) rv), (aw, eW w), (ac, eA cy (o_X0_insert w f8 (nI ixsa))), (ab, eA cy (va_cpy f g 0 0 8))]) [0, 1, 2, 3] (by decide +kernel) rfl
        refine lv_iinc (v := (nI (ixsa + 1))) (lv' := [(2, .int (nI (ixsa + 1))), (0, .ref h0), (1, .int p0)]) hx hb dX0_sort_43 hl (k := 0) rfl (nI_1 ixsa) (by decide +kernel) rfl (fun ls hl => ?_)
        refine lv_goto (tgt := 32) hx hb dX0_sort_46 (by decide +kernel) ?_
        refine W.widen (k := 1) (n := 6) (Nat.le_refl _) (Nat.le_refl _) ?_
        exact ih_xsa (ixsa + 1) (o_X0_insert w f8 (nI ixsa)) _ _ _ (by omega) (by omega) (hsp_xsa.trans (by (rw [L_xsa]) <;> rfl)) hP hD hS (lv_sub hl [0, 1, 2] rfl) K_xsa
    refine loop_xsa 7 1 f _ _ _ (by omega) (by omega) rfl hP hD hS (lv_sub hl [0, 1, 2] rfl) (fun H locs ls hP hD hS hl => ?_)
    refine lv_iconst (v := 0) hx hb dX0_sort_49 (by decide +kernel) ?_
    refine lv_istore_n (lv' := [(2, .int 0), (0, .ref h0), (1, .int p0)]) hx hb dX0_sort_50 rfl hl (by decide +kernel) rfl (fun ls hl => ?_)
    refine lv_iconst (v := 0) hx hb dX0_sort_51 (by decide +kernel) ?_
    refine lv_istore_n (lv' := [(3, .int 0), (2, .int 0), (0, .ref h0), (1, .int p0)]) hx hb dX0_sort_52 rfl hl (by decide +kernel) rfl (fun ls hl => ?_)
    have loop_xsb : ∀ (nxsb ixsb : Nat) (v : Int32) (H : Heap) (locs : List Loc) (ls : Array Slot), ixsb + nxsb = 8 → 0 ≤ ixsb → (L_xsb w f g 8 0 0) = L_xsb w f g nxsb ixsb v → va_P (dC, dI) xCl [(h0, eR aw ac ab (a + 1) rv), (aw, eW w), (ac, eA cy (L_xsa w 7 1 f)), (ab, eA cy (va_cpy f g 0 0 8))] H → va_D A [(h0, eR aw ac ab (a + 1) rv), (aw, eW w), (ac, eA cy (L_xsa w 7 1 f)), (ab, eA cy (va_cpy f g 0 0 8))] → va_S A s.heap H locs → lv_has ls 4 [(3, .int (nI ixsb)), (2, .int v), (0, .ref h0), (1, .int p0)] → (∀ (H : Heap) (locs : List Loc) (ls : Array Slot), va_P (dC, dI) xCl [(h0, eR aw ac ab (a + 1) rv), (aw, eW w), (ac, eA cy (L_xsa w 7 1 f)), (ab, eA cy (va_cpy f g 0 0 8))] H → va_D A [(h0, eR aw ac ab (a + 1) rv), (aw, eW w), (ac, eA cy (L_xsa w 7 1 f)), (ab, eA cy (va_cpy f g 0 0 8))] → va_S A s.heap H locs → lv_has ls 4 [(2, .int (L_xsb w f g 8 0 0)), (0, .ref h0), (1, .int p0)] → W p l e (headSpec wsX0_sort ({ frames := 7, cells := 1, slots := 6, locals := 121 } : Room)).room s m ([.ref h0, .int p0]).toArray below meth c H locs 1 6 (vx_MQ below (va_Qi (fun (r : Int32) (_ : Unit) => (o_X0_sort w a f g p0).1 = 0 ∧ r = (o_X0_sort w a f g p0).2.1) (fun _ t => xW (dC, dI) xCl [(h0, eR aw ac ab (o_X0_sort w a f g p0).2.2.1 rv), (aw, eW w), (ac, eA cy (o_X0_sort w a f g p0).2.2.2.1), (ab, eA cy (o_X0_sort w a f g p0).2.2.2.2)] A t) A) (vx_X (fun _ : Unit => ¬ (o_X0_sort w a f g p0).1 = 0) (fun E _ t => E = xE (o_X0_sort w a f g p0).1 ∧ xW (dC, dI) xCl [(h0, eR aw ac ab a rv), (aw, eW w), (ac, eA cy f), (ab, eA cy g)] A t) A) ([.ref h0, .int p0]).toArray s 1 6 A) (F0 m 84 ls [])) → W p l e (headSpec wsX0_sort ({ frames := 7, cells := 1, slots := 6, locals := 121 } : Room)).room s m ([.ref h0, .int p0]).toArray below meth c H locs 1 6 (vx_MQ below (va_Qi (fun (r : Int32) (_ : Unit) => (o_X0_sort w a f g p0).1 = 0 ∧ r = (o_X0_sort w a f g p0).2.1) (fun _ t => xW (dC, dI) xCl [(h0, eR aw ac ab (o_X0_sort w a f g p0).2.2.1 rv), (aw, eW w), (ac, eA cy (o_X0_sort w a f g p0).2.2.2.1), (ab, eA cy (o_X0_sort w a f g p0).2.2.2.2)] A t) A) (vx_X (fun _ : Unit => ¬ (o_X0_sort w a f g p0).1 = 0) (fun E _ t => E = xE (o_X0_sort w a f g p0).1 ∧ xW (dC, dI) xCl [(h0, eR aw ac ab a rv), (aw, eW w), (ac, eA cy f), (ab, eA cy g)] A t) A) ([.ref h0, .int p0]).toArray s 1 6 A) (F0 m 53 ls []) := by
      intro nxsb
      induction nxsb with
      | zero =>
        intro ixsb v H locs ls hin_xsb his_xsb hsp_xsb hP hD hS hl K_xsb
        have hv : (L_xsb w f g 8 0 0) = v := hsp_xsb
        subst hv
        have hi8 : ixsb = 8 := by omega
        refine lv_iload_n hx hb dX0_sort_53 rfl (lv_at hl 0 rfl) ?_
        refine lv_bipush (v := 8) hx hb dX0_sort_54 (by decide +kernel) ?_
        refine lv_icmp_ge (tgt := 84) hx hb dX0_sort_56 (by decide +kernel) (fun c9 => ?_) (fun c9 => absurd (by rw [hi8]; decide) c9)
        exact K_xsb _ _ _ hP hD hS (lv_sub hl [1, 2, 3] rfl)
      | succ nxsb ih_xsb =>
        intro ixsb v H locs ls hin_xsb his_xsb hsp_xsb hP hD hS hl K_xsb
        refine lv_iload_n hx hb dX0_sort_53 rfl (lv_at hl 0 rfl) ?_
        refine lv_bipush (v := 8) hx hb dX0_sort_54 (by decide +kernel) ?_
        refine lv_icmp_ge (tgt := 84) hx hb dX0_sort_56 (by decide +kernel) (fun c9 => absurd c9 (show ¬ (8 : Int32) ≤ nI ixsb from nI_ge (a := ixsb) (b := 8) (by omega) (by decide +kernel))) (fun c9 => ?_)
        refine lv_aload_n hx hb dX0_sort_59 rfl (lv_at hl 2 rfl) ?_
        refine va_get (D := (dC, dI)) (ci := 2) (v := .ref ac) (C := RX0) (T := TX0) (N := 5) hx hb hts (by decide +kernel) hown hK hP 0 rfl rfl 1 (by decide +kernel) (hts (.fieldLink RX0 15 "Edgefloats$Row" "cells" "[J") (by decide +kernel)) (fun _ h9 => h9) rfl dX0_sort_60 ?_
        refine lv_iload_n hx hb dX0_sort_63 rfl (lv_at hl 0 rfl) ?_
        refine xa_lald hx hb hK hP 2 0 (f := (L_xsa w 7 1 f)) rfl rfl (k := ixsb) (vp_in_nI (n := ixsb) (N := 8) (by omega) (by decide +kernel)) (nI_clamp (n := ixsb) (by omega)) dX0_sort_64 ?_
        refine lv_aload_n hx hb dX0_sort_65 rfl (lv_at hl 2 rfl) ?_
        refine va_get (D := (dC, dI)) (ci := 2) (v := .ref ab) (C := RX0) (T := TX0) (N := 5) hx hb hts (by decide +kernel) hown hK hP 0 rfl rfl 2 (by decide +kernel) (hts (.fieldLink RX0 19 "Edgefloats$Row" "before" "[J") (by decide +kernel)) (fun _ h9 => h9) rfl dX0_sort_66 ?_
        refine lv_iload_n hx hb dX0_sort_69 rfl (lv_at hl 0 rfl) ?_
        refine xa_lald hx hb hK hP 3 0 (f := (va_cpy f g 0 0 8)) rfl rfl (k := ixsb) (vp_in_nI (n := ixsb) (N := 8) (by omega) (by decide +kernel)) (nI_clamp (n := ixsb) (by omega)) dX0_sort_70 ?_
        refine xc_eq (tgt := 78) hx hb dX0_sort_71 dX0_sort_72 (by decide +kernel) (fun c_5 => ?_) (fun c_5 => ?_)
        · skip
          refine lv_iinc (v := (nI (ixsb + 1))) (lv' := [(3, .int (nI (ixsb + 1))), (2, .int v), (0, .ref h0), (1, .int p0)]) hx hb dX0_sort_78 hl (k := 0) rfl (nI_1 ixsb) (by decide +kernel) rfl (fun ls hl => ?_)
          refine lv_goto (tgt := 53) hx hb dX0_sort_81 (by decide +kernel) ?_
          refine W.widen (k := 1) (n := 6) (Nat.le_refl _) (Nat.le_refl _) ?_
          exact ih_xsb (ixsb + 1) v _ _ _ (by omega) (by omega) (hsp_xsb.trans (by (rw [L_xsb, if_pos c_5]) <;> rfl)) hP hD hS (lv_sub hl [0, 1, 2, 3] rfl) K_xsb
        · skip
          refine lv_iinc (v := (v + 1)) (lv' := [(2, .int (v + 1)), (3, .int (nI ixsb)), (0, .ref h0), (1, .int p0)]) hx hb dX0_sort_75 hl (k := 1) rfl (rfl) (by decide +kernel) rfl (fun ls hl => ?_)
          refine lv_iinc (v := (nI (ixsb + 1))) (lv' := [(3, .int (nI (ixsb + 1))), (2, .int (v + 1)), (0, .ref h0), (1, .int p0)]) hx hb dX0_sort_78 hl (k := 1) rfl (nI_1 ixsb) (by decide +kernel) rfl (fun ls hl => ?_)
          refine lv_goto (tgt := 53) hx hb dX0_sort_81 (by decide +kernel) ?_
          refine W.widen (k := 1) (n := 6) (Nat.le_refl _) (Nat.le_refl _) ?_
          exact ih_xsb (ixsb + 1) (v + 1) _ _ _ (by omega) (by omega) (hsp_xsb.trans (by (rw [L_xsb, if_neg c_5]) <;> rfl)) hP hD hS (lv_sub hl [0, 1, 2, 3] rfl) K_xsb
    refine loop_xsb 8 0 0 _ _ _ (by omega) (by omega) rfl hP hD hS (lv_sub hl [0, 1, 2, 3] rfl) (fun H locs ls hP hD hS hl => ?_)
    refine lv_iload_n hx hb dX0_sort_84 rfl (lv_at hl 0 rfl) ?_
    have he : o_X0_sort w a f g p0 = (0, (L_xsb w f g 8 0 0), (a + 1), (L_xsa w 7 1 f), (va_cpy f g 0 0 8)) := by (rw [o_X0_sort, if_pos c_3]) <;> rfl
    refine W.widen (k := 1) (n := 6) (by omega) (by omega) ?_
    refine vx_ret ?_
    exact W.iret (v := (L_xsb w f g 8 0 0)) hx hb hr (fun t ht hW => ⟨⟨_, (), rfl, ⟨(by (rw [he]) <;> rfl), (by (rw [he]) <;> rfl)⟩, (by rw [he]; exact ⟨by rw [ht]; dsimp only; exact hP, by dsimp only; exact hD⟩)⟩, hS.F ht⟩) hS.2.2 dX0_sort_85
